/-! ===== a text never comes to the end of the room ===== -/
/-- the tables of the reading, as far as depths go -/
def GT (g : zJ) : Prop := (0 ≤ g 164 44 ∧ 0 ≤ g 165 126 ∧ 0 ≤ g 165 135 ∧ 0 ≤ g 165 152) ∧ ∀ t, 0 ≤ t → t < g 165 126 → g 166 (800 + t) < g 164 44 ∧ g 168 (800 + t) = dpS (fun u => g 168 (800 + u)) (par g (g 166 (800 + t))) (g 167 (3 * (800 + t) + 0)) (g 167 (3 * (800 + t) + 1)) (g 167 (3 * (800 + t) + 2)) ∧ ((0 < par g (g 166 (800 + t)) → 0 ≤ g 167 (3 * (800 + t) + 0) ∧ g 167 (3 * (800 + t) + 0) < g 165 126) ∧ (1 < par g (g 166 (800 + t)) → 0 ≤ g 167 (3 * (800 + t) + 1) ∧ g 167 (3 * (800 + t) + 1) < g 165 126) ∧ (2 < par g (g 166 (800 + t)) → 0 ≤ g 167 (3 * (800 + t) + 2) ∧ g 167 (3 * (800 + t) + 2) < g 165 126))
/-- the table has grown -/
def GW (g' g : zJ) : Prop := g' 164 = g 164 ∧ g' 170 = g 170 ∧ g 165 126 ≤ g' 165 126 ∧ (∀ t, 0 ≤ t → t < g 165 126 → g' 168 (800 + t) = g 168 (800 + t)) ∧ g' 165 135 = g 165 135 ∧ g' 165 152 = g 165 152
theorem GW.rf {g : zJ} : GW g g := ⟨rfl, rfl, Int.le_refl _, fun _ _ _ => rfl, rfl, rfl⟩
theorem GW.tr {g3 g2 g1 : zJ} (h : GW g2 g1) (k : GW g3 g2) : GW g3 g1 := ⟨k.1.trans h.1, k.2.1.trans h.2.1, Int.le_trans h.2.2.1 k.2.2.1, fun t a b => (k.2.2.2.1 t a (Int.lt_of_lt_of_le b h.2.2.1)).trans (h.2.2.2.1 t a b), k.2.2.2.2.1.trans h.2.2.2.2.1, k.2.2.2.2.2.trans h.2.2.2.2.2⟩
theorem dpS_cj {f f' : Int → Int} {A x y w x' y' w' : Int} (h1 : 0 < A → f x = f' x') (h2 : 1 < A → f y = f' y') (h3 : 2 < A → f w = f' w') : dpS f A x y w = dpS f' A x' y' w' := by
  unfold dpS
  (repeat' split) <;> first | rfl | omega | skip
  · rw [h1 (by omega)]
  · rw [h1 (by omega), h2 (by omega)]
  · rw [h1 (by omega), h2 (by omega), h3 (by omega)]
theorem dpS_lj {f : Int → Int} {A x y w e : Int} (h0 : 1 ≤ e) (h1 : 0 < A → f x + 1 ≤ e) (h2 : 1 < A → f y + 1 ≤ e) (h3 : 2 < A → f w + 1 ≤ e) : dpS f A x y w ≤ e := by
  unfold dpS zmax
  (repeat' split) <;> omega
theorem GT.of {g' g : zJ} (h : GT g) (e4 : g' 164 44 = g 164 44) (e5 : g' 165 126 = g 165 126) (r1 : 0 ≤ g' 165 135) (r2 : 0 ≤ g' 165 152) (e6 : g' 166 = g 166) (e7 : g' 167 = g 167) (e8 : g' 168 = g 168) (e9 : g' 170 = g 170) : GT g' := by
  obtain ⟨⟨h1, h2, h3, h4⟩, h5⟩ := h
  unfold par at h5
  refine ⟨⟨by omega, by omega, r1, r2⟩, ?_⟩
  unfold par
  rw [e4, e5, e6, e7, e8, e9]
  exact h5
theorem GT.pd {g : zJ} {t h x y w : Int} (T : GT g) (ht : 0 ≤ t ∧ t < g 165 126) (e : nmT g 800 (par g h) h x y w t) : g 168 (800 + t) = pdp g h x y w := by
  obtain ⟨e0, e1, e2, e3⟩ := e
  have a := (T.2 t ht.1 ht.2).2.1
  rw [a, e0]
  unfold pdp
  exact dpS_cj (fun q => by rw [e1 q]) (fun q => by rw [e2 q]) (fun q => by rw [e3 q])
theorem chT_c {g : zJ} {m h a b c d : Int} : (∀ k, chT g 800 126 m h a b c d 166 k = if k = 800 + m then h else g 166 k) ∧ (∀ k, chT g 800 126 m h a b c d 167 k = if k = 3 * (800 + m) + 2 then c else if k = 3 * (800 + m) + 1 then b else if k = 3 * (800 + m) then a else g 167 k) ∧ (∀ k, chT g 800 126 m h a b c d 168 k = if k = 800 + m then d else g 168 k) ∧ (∀ k, chT g 800 126 m h a b c d 165 k = if k = 126 then m + 1 else g 165 k) ∧ chT g 800 126 m h a b c d 164 = g 164 ∧ chT g 800 126 m h a b c d 170 = g 170 ∧ chT g 800 126 m h a b c d 0 = g 0 := ⟨fun _ => rfl, fun _ => rfl, fun _ => rfl, fun _ => rfl, rfl, rfl, rfl⟩
theorem pMd_ok {g : zJ} {h x y w : Int} (T : GT g) (hh : h < g 164 44) (hr : (0 < par g h → 0 ≤ x ∧ x < g 165 126) ∧ (1 < par g h → 0 ≤ y ∧ y < g 165 126) ∧ (2 < par g h → 0 ≤ w ∧ w < g 165 126)) (hd : pdp g h x y w ≤ 6) (hm : g 165 126 < 400) : (pMd g h x y w).1 0 = g 0 ∧ GT (pMd g h x y w).1 ∧ GW (pMd g h x y w).1 g ∧ (pMd g h x y w).1 165 126 ≤ g 165 126 + 1 ∧ (0 ≤ (pMd g h x y w).2 ∧ (pMd g h x y w).2 < (pMd g h x y w).1 165 126) ∧ (pMd g h x y w).1 168 (800 + (pMd g h x y w).2) = pdp g h x y w := by
  have m0 := T.1.2.1
  have r1 : 0 ≤ pfi g h x y w ∧ pfi g h x y w ≤ g 165 126 := fnB_rg m0
  have r2 := (fnB_at (p := fun q => dcB (¬ nmT g 800 (par g h) h x y w q)) m0).2
  unfold pMd
  by_cases c : pfi g h x y w < g 165 126
  · rw [if_pos c]
    refine ⟨rfl, T, GW.rf, by show g 165 126 ≤ _; omega, ⟨r1.1, c⟩, T.pd ⟨r1.1, c⟩ ?_⟩
    rcases r2 with q | q
    · exact absurd q (by show ¬ pfi g h x y w = _; omega)
    · by_cases k : nmT g 800 (par g h) h x y w (pfi g h x y w)
      · exact k
      · have : dcB (¬ nmT g 800 (par g h) h x y w (pfi g h x y w)) = true := dcB_t k
        rw [show dcB (¬ nmT g 800 (par g h) h x y w (pfi g h x y w)) = false from q] at this
        cases this
  · rw [if_neg c, if_pos ⟨hd, hm⟩]
    obtain ⟨c6, c7, c8, c5, c4, c0, cz⟩ := chT_c (g := g) (m := g 165 126) (h := h) (a := if 0 < par g h then x else -1) (b := if 1 < par g h then y else -1) (c := if 2 < par g h then w else -1) (d := pdp g h x y w)
    generalize chT g 800 126 (g 165 126) h (if 0 < par g h then x else -1) (if 1 < par g h then y else -1) (if 2 < par g h then w else -1) (pdp g h x y w) = g' at *
    have cp : ∀ q, par g' q = par g q := fun q => by unfold par; rw [c0]
    have e5 : g' 165 126 = g 165 126 + 1 := by rw [c5, if_pos rfl]
    dsimp only
    refine ⟨cz, ⟨⟨by rw [c4]; exact T.1.1, by omega, by rw [c5, if_neg (by decide)]; exact T.1.2.2.1, by rw [c5, if_neg (by decide)]; exact T.1.2.2.2⟩, fun t a b => ?_⟩, ⟨c4, c0, by omega, fun t a b => by rw [c8, if_neg (by omega)], by rw [c5, if_neg (by decide)], by rw [c5, if_neg (by decide)]⟩, by omega, ⟨m0, by omega⟩, by rw [c8, if_pos rfl]⟩
    rw [cp, c6, c8, c4, e5]
    by_cases k : t = g 165 126
    · rw [if_pos (by omega), if_pos (by omega)]
      have f1 : g' 167 (3 * (800 + t) + 0) = if 0 < par g h then x else -1 := by rw [c7, if_neg (by omega), if_neg (by omega), if_pos (by omega)]
      have f2 : g' 167 (3 * (800 + t) + 1) = if 1 < par g h then y else -1 := by rw [c7, if_neg (by omega), if_pos (by omega)]
      have f3 : g' 167 (3 * (800 + t) + 2) = if 2 < par g h then w else -1 := by rw [c7, if_pos (by omega)]
      rw [f1, f2, f3]
      refine ⟨hh, ?_, fun q => ?_, fun q => ?_, fun q => ?_⟩
      · unfold pdp
        exact dpS_cj (fun q => by rw [if_pos q, c8, if_neg (by have := hr.1 q; omega)]) (fun q => by rw [if_pos q, c8, if_neg (by have := hr.2.1 q; omega)]) (fun q => by rw [if_pos q, c8, if_neg (by have := hr.2.2 q; omega)])
      · rw [if_pos q]; have := hr.1 q; omega
      · rw [if_pos q]; have := hr.2.1 q; omega
      · rw [if_pos q]; have := hr.2.2 q; omega
    · have f1 : g' 167 (3 * (800 + t) + 0) = g 167 (3 * (800 + t) + 0) := by rw [c7, if_neg (by omega), if_neg (by omega), if_neg (by omega)]
      have f2 : g' 167 (3 * (800 + t) + 1) = g 167 (3 * (800 + t) + 1) := by rw [c7, if_neg (by omega), if_neg (by omega), if_neg (by omega)]
      have f3 : g' 167 (3 * (800 + t) + 2) = g 167 (3 * (800 + t) + 2) := by rw [c7, if_neg (by omega), if_neg (by omega), if_neg (by omega)]
      rw [if_neg (by omega), if_neg (by omega), f1, f2, f3]
      obtain ⟨u1, u2, u3, u4, u5⟩ := T.2 t a (by omega)
      refine ⟨u1, ?_, fun q => ?_, fun q => ?_, fun q => ?_⟩
      · rw [u2]
        exact dpS_cj (fun q => by rw [c8, if_neg (by have := u3 q; omega)]) (fun q => by rw [c8, if_neg (by have := u4 q; omega)]) (fun q => by rw [c8, if_neg (by have := u5 q; omega)])
      · have := u3 q; omega
      · have := u4 q; omega
      · have := u5 q; omega
/-- from g the reading has come to g'; c: how much the place is ahead of the terms more than before -/
def SG (g' g : zJ) (c : Int) : Prop := SI g' ∧ ¬ g' 0 4 = 99 ∧ (g' 0 4 = 0 → g 0 4 = 0 ∧ GT g' ∧ GW g' g ∧ g 0 1 + 2 * g' 165 126 + c ≤ g' 0 1 + 2 * g 165 126 ∧ g 0 1 ≤ g' 0 1)
def GB (g : zJ) : Prop := SI g ∧ ¬ g 0 4 = 99 ∧ (g 0 4 = 0 → GT g ∧ 2 * g 165 126 ≤ g 0 1)
theorem SG.rf {g : zJ} (h : GB g) : SG g g 0 := ⟨h.1, h.2.1, fun q => ⟨q, (h.2.2 q).1, GW.rf, by omega, Int.le_refl _⟩⟩
theorem SG.tr {g3 g2 g1 : zJ} {c c' : Int} (h : SG g2 g1 c) (k : SG g3 g2 c') : SG g3 g1 (c + c') := ⟨k.1, k.2.1, fun q => by
  obtain ⟨a1, a2, a3, a4, a5⟩ := k.2.2 q
  obtain ⟨b1, b2, b3, b4, b5⟩ := h.2.2 a1
  exact ⟨b1, a2, b3.tr a3, by omega, by omega⟩⟩
theorem SG.le {g' g : zJ} {c c' : Int} (h : SG g' g c) (k : c' ≤ c) : SG g' g c' := ⟨h.1, h.2.1, fun q => by
  obtain ⟨a1, a2, a3, a4, a5⟩ := h.2.2 q
  exact ⟨a1, a2, a3, by omega, a5⟩⟩
theorem SG.b {g' g : zJ} {c : Int} (h : SG g' g c) (k : GB g) (hc : 0 ≤ c) : GB g' := ⟨h.1, h.2.1, fun q => by
  obtain ⟨a1, a2, a3, a4, a5⟩ := h.2.2 q
  have := (k.2.2 a1).2
  exact ⟨a2, by omega⟩⟩
theorem pN_r {g : zJ} (S : SI g) : g 0 2 ≤ pN g 0 1 := (tk_rg (f := g 1) ⟨by have := S.2.1; omega, S.2.1.2.2⟩).1.1
theorem pN_g {g : zJ} (h : GB g) (hk : ¬ g 0 3 = 0) : SG (pN g) g 1 := by
  have S := h.1
  have r := pN_r S
  have e4 : pN g 0 4 = g 0 4 := rfl
  refine ⟨S.n, by rw [e4]; exact h.2.1, fun q => ?_⟩
  rw [e4] at q
  have T := (h.2.2 q).1
  have k : g 0 1 < g 0 2 := by have := S.2.2; omega
  have e5 : pN g 165 126 = g 165 126 := rfl
  exact ⟨q, T.of rfl rfl T.1.2.2.1 T.1.2.2.2 rfl rfl rfl rfl, ⟨rfl, rfl, Int.le_refl _, fun _ _ _ => rfl, rfl, rfl⟩, by omega, by omega⟩
theorem pF_g {g : zJ} {c d : Int} (h : GB g) (hc : ¬ c = 0) (hc' : ¬ c = 99) : SG (pF g c) g d := ⟨h.1.f, hc', fun q => absurd q hc⟩
theorem f_g {g : zJ} {d : Int} (h : GB g) (hb : ¬ g 0 4 = 0) : SG g g d := ⟨h.1, h.2.1, fun q => absurd q hb⟩
theorem pP_g {g : zJ} {c : Int} (h : GB g) (hc : ¬ c = 0) : SG (pP g c) g 1 := by
  unfold pP
  split
  · split
    · exact pN_g h (by omega)
    · exact pF_g h (by decide) (by decide)
  · next q => exact f_g h q
theorem pU_g {g : zJ} {a b : Int} (h : GB g) : SG (pU g a b).1 g 1 ∧ ((pU g a b).1 0 4 = 0 → a ≤ (pU g a b).2) := by
  unfold pU
  split
  · split
    · split
      · next q => exact ⟨pN_g h (by omega), fun _ => q.2.1⟩
      · exact ⟨pF_g h (by decide) (by decide), fun q => absurd q (by show ¬ (2 : Int) = 0; decide)⟩
    · exact ⟨pF_g h (by decide) (by decide), fun q => absurd q (by show ¬ (1 : Int) = 0; decide)⟩
  · next q => exact ⟨f_g h q, fun k => absurd k q⟩
/-- a term has been read at the level d -/
def TM (p : zJ × Int) (g : zJ) (d c : Int) : Prop := SG p.1 g c ∧ (p.1 0 4 = 0 → (0 ≤ p.2 ∧ p.2 < p.1 165 126) ∧ p.1 168 (800 + p.2) ≤ 7 - d)
theorem TM.f {g : zJ} {z d c : Int} (h : GB g) (hb : ¬ g 0 4 = 0) : TM (g, z) g d c := ⟨f_g h hb, fun q => absurd q hb⟩
theorem TM.pf {g : zJ} {z d c v : Int} (h : GB g) (hc : ¬ v = 0) (hc' : ¬ v = 99) : TM (pF g v, z) g d c := ⟨pF_g h hc hc', fun q => absurd q hc⟩
theorem pMd_g {g : zJ} {h x y w d : Int} (B : GB g) (h0 : g 0 4 = 0) (hd : 1 ≤ d ∧ d ≤ 6) (hh : h < g 164 44) (h1 : 0 < par g h → (0 ≤ x ∧ x < g 165 126) ∧ g 168 (800 + x) ≤ 6 - d) (h2 : 1 < par g h → (0 ≤ y ∧ y < g 165 126) ∧ g 168 (800 + y) ≤ 6 - d) (h3 : 2 < par g h → (0 ≤ w ∧ w < g 165 126) ∧ g 168 (800 + w) ≤ 6 - d) : TM (pMd g h x y w) g d (-2) := by
  obtain ⟨T, c⟩ := B.2.2 h0
  have S := B.1
  have S1 := S.1
  have S2 := S.2.1
  have dl : pdp g h x y w ≤ 7 - d := dpS_lj (by omega) (fun q => by have := (h1 q).2; omega) (fun q => by have := (h2 q).2; omega) (fun q => by have := (h3 q).2; omega)
  obtain ⟨k0, kT, kW, k1, k2, k3⟩ := pMd_ok T hh ⟨fun q => (h1 q).1, fun q => (h2 q).1, fun q => (h3 q).1⟩ (by omega) (by omega)
  refine ⟨⟨S.m, by rw [k0]; exact B.2.1, fun q => ⟨h0, kT, kW, by rw [k0]; omega, by rw [k0]; exact Int.le_refl _⟩⟩, fun q => ⟨k2, by omega⟩⟩
theorem pV_g {g : zJ} {d : Int} (B : GB g) (h0 : g 0 4 = 0) (hk : ¬ g 0 3 = 0) (hd : 1 ≤ d ∧ d ≤ 6) : TM (pV g) g d (-1) := by
  have s1 := pN_g B hk
  have b1 := s1.b B (by decide)
  obtain ⟨s2, v2⟩ := pU_g (a := 0) (b := 7) b1
  have b2 := s2.b b1 (by decide)
  unfold pV
  split
  · next q =>
    have v := v2 q
    have hp : par (pU (pN g) 0 7).1 (-1 - (pU (pN g) 0 7).2) = 0 := by unfold par arh; rw [if_pos (by omega)]
    have t := (b2.2.2 q).1.1.1
    have s3 := pMd_g (h := -1 - (pU (pN g) 0 7).2) (x := 0) (y := 0) (w := 0) b2 q hd (by omega) (fun k => by omega) (fun k => by omega) (fun k => by omega)
    exact ⟨((s1.tr s2).tr s3.1).le (by decide), s3.2⟩
  · next q => exact ⟨(s1.tr s2).le (by decide), fun k => absurd k q⟩
/-- what is asked of the reading of the parts -/
def HT (T : zJ → Int → zJ × Int) (d : Int) : Prop := ∀ g, GB g → TM (T g (d + 1)) g (d + 1) (-1)
theorem HT.a {T : zJ → Int → zJ × Int} {d k : Int} {g : zJ} (h : HT T d) (B : GB g) (hk : ¬ k = 0) : TM (T (pP g k) (d + 1)) g (d + 1) 0 := by
  have s1 := pP_g B hk
  have s2 := h _ (s1.b B (by decide))
  exact ⟨(s1.tr s2.1).le (by decide), s2.2⟩
theorem pA1_g {T : zJ → Int → zJ × Int} {g : zJ} {A d : Int} (h : HT T d) (B : GB g) : SG (pA1 T g A d).1 g 0 ∧ (0 < A → TM (pA1 T g A d) g (d + 1) 0) := by
  unfold pA1
  split
  · have a := h.a (k := 40) B (by decide); exact ⟨a.1, fun _ => a⟩
  · next q => exact ⟨SG.rf B, fun k => absurd k q⟩
theorem pA2_g {T : zJ → Int → zJ × Int} {g : zJ} {A d : Int} (h : HT T d) (B : GB (pA1 T g A d).1) : SG (pA2 T g A d).1 (pA1 T g A d).1 0 ∧ (1 < A → TM (pA2 T g A d) (pA1 T g A d).1 (d + 1) 0) := by
  unfold pA2
  split
  · have a := h.a (k := 44) B (by decide); exact ⟨a.1, fun _ => a⟩
  · next q => exact ⟨SG.rf B, fun k => absurd k q⟩
theorem pA3_g {T : zJ → Int → zJ × Int} {g : zJ} {A d : Int} (h : HT T d) (B : GB (pA2 T g A d).1) : SG (pA3 T g A d).1 (pA2 T g A d).1 0 ∧ (2 < A → TM (pA3 T g A d) (pA2 T g A d).1 (d + 1) 0) := by
  unfold pA3
  split
  · have a := h.a (k := 44) B (by decide); exact ⟨a.1, fun _ => a⟩
  · next q => exact ⟨SG.rf B, fun k => absurd k q⟩
theorem pA4_g {T : zJ → Int → zJ × Int} {g : zJ} {A d : Int} (B : GB (pA3 T g A d).1) : SG (pA4 T g A d) (pA3 T g A d).1 0 := by
  unfold pA4
  split
  · exact (pP_g B (by decide)).le (by decide)
  · exact SG.rf B
theorem TM.k {p : zJ × Int} {g g' : zJ} {d c c' : Int} (h : TM p g (d + 1) c) (s : SG g' p.1 c') (h0 : g' 0 4 = 0) : (0 ≤ p.2 ∧ p.2 < g' 165 126) ∧ g' 168 (800 + p.2) ≤ 6 - d := by
  obtain ⟨q1, _, w, _, _⟩ := s.2.2 h0
  obtain ⟨a, b⟩ := h.2 q1
  have w1 := w.2.2.1
  rw [w.2.2.2.1 p.2 a.1 a.2]
  omega
theorem pC_g {T : zJ → Int → zJ × Int} {g : zJ} {s d : Int} (h : HT T d) (B : GB g) (hs : 0 ≤ s ∧ s < g 164 44) (hd : 1 ≤ d ∧ d ≤ 6) : TM (pC T g s d) g d (-2) := by
  unfold pC
  generalize hA : g 170 (10 + s) = A
  have p1 := pA1_g (A := A) h B
  have b1 := p1.1.b B (by decide)
  have p2 := pA2_g (A := A) h b1
  have b2 := p2.1.b b1 (by decide)
  have p3 := pA3_g (A := A) h b2
  have b3 := p3.1.b b2 (by decide)
  have p4 := pA4_g (T := T) (g := g) (A := A) (d := d) b3
  have b4 := p4.b b3 (by decide)
  have s3 := p3.1.tr p4
  have s2 := p2.1.tr s3
  have s1 := p1.1.tr s2
  split
  · next q =>
    obtain ⟨z0, _, w, _, _⟩ := s1.2.2 q
    have hp : par (pA4 T g A d) s = A := by unfold par arh; rw [if_neg (by omega), w.2.1]; exact hA
    have t := pMd_g (h := s) (x := (pA1 T g A d).2) (y := (pA2 T g A d).2) (w := (pA3 T g A d).2) b4 q hd (by rw [w.1]; exact hs.2) (fun k => (p1.2 (by omega)).k s2 q) (fun k => (p2.2 (by omega)).k s3 q) (fun k => (p3.2 (by omega)).k p4 q)
    exact ⟨(s1.tr t.1).le (by decide), t.2⟩
  · next q => exact ⟨s1.le (by decide), fun k => absurd k q⟩
theorem pT_g : ∀ (k : Nat) (d : Int), 9 ≤ k + d → 1 ≤ d → d ≤ 7 → ∀ (g : zJ), GB g → TM (pT k g d) g d (-1)
  | 0, d, h1, h2, h3, g, B => by omega
  | k + 1, d, h1, h2, h3, g, B => by
    rw [pT_s]
    split
    · next h0 =>
      split
      · next hk =>
        split
        · exact pV_g B h0 (by omega) (by omega)
        · exact TM.pf B (by decide) (by decide)
      · split
        · next hk =>
          split
          · next hd =>
            split
            · next hs =>
              have s1 := pN_g B (by omega)
              have b1 := s1.b B (by decide)
              have r := (B.2.2 h0).1.1.1
              have hp : 0 ≤ psy g (g 1 (g 0 1)) := (fnB_rg r).1
              have t := pC_g (T := pT k) (s := psy g (g 1 (g 0 1))) (fun g B => pT_g k (d + 1) (by omega) (by omega) (by omega) g B) b1 ⟨hp, hs⟩ ⟨h2, hd.1⟩
              exact ⟨(s1.tr t.1).le (by decide), t.2⟩
            · exact TM.pf B (by decide) (by decide)
          · exact TM.pf B (by decide) (by decide)
        · exact TM.pf B (by decide) (by decide)
    · next h0 => exact TM.f B h0
theorem pNm_g {g : zJ} (B : GB g) : SG (pNm g).1 g 1 := by
  unfold pNm
  (repeat' split) <;> first | exact pF_g B (by decide) (by decide) | exact pN_g B (by omega)
theorem pTo_g {g : zJ} (B : GB g) : SG (pTo g) g 1 := by
  unfold pTo
  split
  · by_cases c : pIs g [116, 111]
    · rw [cif_pos c]; exact pN_g B (by have := c.1; omega)
    · rw [cif_neg c]; exact pF_g B (by decide) (by decide)
  · next q => exact f_g B q
/-- a clause: what it leaves is as good, and it goes on -/
def CB (g' g : zJ) : Prop := GB g' ∧ (g' 0 4 = 0 → g 0 1 ≤ g' 0 1)
theorem SG.cb {g' g : zJ} {c : Int} (h : SG g' g c) (k : GB g) (hc : 0 ≤ c) : CB g' g := ⟨h.b k hc, fun q => (h.2.2 q).2.2.2.2⟩
theorem CB.of {g'' g' g : zJ} (h : CB g' g) (e0 : g'' 0 = g' 0) (e5 : g'' 165 126 = g' 165 126) (hT : g' 0 4 = 0 → GT g' → GT g'') : CB g'' g := by
  refine ⟨⟨h.1.1.c5 e0, by rw [e0]; exact h.1.2.1, ?_⟩, by rw [e0]; exact h.2⟩
  rw [e0, e5]
  exact fun q => ⟨hT q (h.1.2.2 q).1, (h.1.2.2 q).2⟩
theorem GT.sm {g : zJ} {c n w : Int} (T : GT g) : GT (pSm g c n w) := by
  obtain ⟨⟨h1, h2, h3, h4⟩, h5⟩ := T
  have e4 : pSm g c n w 164 44 = g 164 44 + 1 := rfl
  have e0 : ∀ h, h < g 164 44 → par (pSm g c n w) h = par g h := fun h q => by
    unfold par arh
    split
    · rfl
    · show (if 10 + h = 10 + g 164 44 then n else g 170 (10 + h)) = _
      rw [if_neg (by omega)]
  refine ⟨⟨by omega, h2, h3, h4⟩, fun t a b => ?_⟩
  obtain ⟨u1, u2, u3⟩ := h5 t a b
  refine ⟨by show g 166 (800 + t) < _; omega, ?_⟩
  show g 168 (800 + t) = dpS (fun u => g 168 (800 + u)) (par (pSm g c n w) (g 166 (800 + t))) (g 167 (3 * (800 + t) + 0)) (g 167 (3 * (800 + t) + 1)) (g 167 (3 * (800 + t) + 2)) ∧ ((0 < par (pSm g c n w) (g 166 (800 + t)) → 0 ≤ g 167 (3 * (800 + t) + 0) ∧ g 167 (3 * (800 + t) + 0) < g 165 126) ∧ (1 < par (pSm g c n w) (g 166 (800 + t)) → 0 ≤ g 167 (3 * (800 + t) + 1) ∧ g 167 (3 * (800 + t) + 1) < g 165 126) ∧ (2 < par (pSm g c n w) (g 166 (800 + t)) → 0 ≤ g 167 (3 * (800 + t) + 2) ∧ g 167 (3 * (800 + t) + 2) < g 165 126))
  rw [e0 _ u1]
  exact ⟨u2, u3⟩
theorem CB.cif {p : Prop} {a b g : zJ} (ha : CB a g) (hb : CB b g) : CB (cif p a b) g := by
  by_cases h : p
  · rw [cif_pos h]; exact ha
  · rw [cif_neg h]; exact hb
theorem CB.f {g : zJ} {c : Int} (B : GB g) (hc : ¬ c = 0) (hc' : ¬ c = 99) : CB (pF g c) g := (pF_g (d := 0) B hc hc').cb B (by decide)
theorem CB.tf {g' g : zJ} {c : Int} (B : CB g' g) (hc : ¬ c = 0) (hc' : ¬ c = 99) : CB (pF g' c) g := ⟨(CB.f B.1 hc hc').1, fun q => absurd q hc⟩
theorem pR1_g {g : zJ} (B : GB g) (hk : ¬ g 0 3 = 0) : SG (pR1 g).1 g 0 := by
  have s1 := pN_g B hk
  exact (s1.tr (pT_g 8 1 (by decide) (by decide) (by decide) _ (s1.b B (by decide))).1).le (by decide)
theorem pR2_g {g : zJ} (B : GB g) (hk : ¬ g 0 3 = 0) : SG (pR2 g).1 g 0 := by
  have s1 := pR1_g B hk
  have b1 := s1.b B (by decide)
  have s2 := pTo_g b1
  have b2 := s2.b b1 (by decide)
  exact ((s1.tr s2).tr (pT_g 8 1 (by decide) (by decide) (by decide) _ b2).1).le (by decide)
theorem pSy_g {g : zJ} (B : GB g) (hk : ¬ g 0 3 = 0) : CB (pSy g) g := by
  have s1 := pN_g B hk
  have b1 := s1.b B (by decide)
  have s2 : SG (pS1 g).1 (pN g) 1 := pNm_g b1
  have b2 := s2.b b1 (by decide)
  have s3 : SG (pS2 g).1 (pS1 g).1 1 := (pU_g b2).1
  have b3 := s3.b b2 (by decide)
  have s4 : SG (pS3 g).1 (pS2 g).1 1 := (pU_g b3).1
  have s := ((s1.tr s2).tr s3).tr s4
  have c := s.cb B (by decide)
  unfold pSy
  split
  · split
    · exact c.of rfl rfl (fun _ T => T.sm)
    · exact c
  · exact CB.f B (by decide) (by decide)
theorem pRu_g {g : zJ} (B : GB g) (hk : ¬ g 0 3 = 0) : CB (pRu g) g := by
  have sg := pR2_g B hk
  have c := sg.cb B (by decide)
  unfold pRu
  split
  · next h8 =>
    split
    · next q =>
      split
      · have T := (c.1.2.2 q).1
        have t1 := T.1.2.2.1
        have t2 := T.1.2.2.2
        have t3 := (sg.2.2 q).2.2.1.2.2.2.2.1
        have e : ∀ k, zrl (pR2 g).1 126 (pR1 g).2 (pR2 g).2 165 k = if k = 135 then (pR2 g).1 165 135 + 1 else if k = 136 + 2 * (pR2 g).1 165 135 + 1 then (pR2 g).2 else if k = 136 + 2 * (pR2 g).1 165 135 then (pR1 g).2 else (pR2 g).1 165 k := fun _ => rfl
        have e1 : zrl (pR2 g).1 126 (pR1 g).2 (pR2 g).2 165 126 = (pR2 g).1 165 126 := by rw [e, if_neg (by omega), if_neg (by omega), if_neg (by omega)]
        exact CB.cif (c.of rfl e1 (fun _ T => T.of rfl e1 (by rw [e, if_pos rfl]; omega) (by rw [e, if_neg (by omega), if_neg (by omega), if_neg (by omega)]; exact t2) rfl rfl rfl rfl)) (c.tf (by decide) (by decide))
      · exact c.tf (by decide) (by decide)
    · exact c
  · exact CB.f B (by decide) (by decide)
theorem pEn_g {g : zJ} (B : GB g) (hk : ¬ g 0 3 = 0) : CB (pEn g) g := by
  have sg := pR1_g B hk
  have c := sg.cb B (by decide)
  unfold pEn
  split
  · next h8 =>
    split
    · next q =>
      split
      · split
        · exact c.tf (by decide) (by decide)
        · have T := (c.1.2.2 q).1
          have t1 := T.1.2.2.1
          have t2 := T.1.2.2.2
          have e : ∀ k, zen (pR1 g).1 126 (pR1 g).2 165 k = if k = 152 then (pR1 g).1 165 152 + 1 else if k = 153 + (pR1 g).1 165 152 then (pR1 g).2 else (pR1 g).1 165 k := fun _ => rfl
          have e1 : zen (pR1 g).1 126 (pR1 g).2 165 126 = (pR1 g).1 165 126 := by rw [e, if_neg (by omega), if_neg (by omega)]
          exact c.of rfl e1 (fun _ T => T.of rfl e1 (by rw [e, if_neg (by omega), if_neg (by omega)]; exact t1) (by rw [e, if_pos rfl]; omega) rfl rfl rfl rfl)
      · exact c.tf (by decide) (by decide)
    · exact c
  · exact CB.f B (by decide) (by decide)
theorem pRo_g {g : zJ} (B : GB g) (hk : ¬ g 0 3 = 0) : CB (pRo g) g := by
  have s1 := pN_g B hk
  have s2 : SG (pO1 g).1 (pN g) 1 := (pU_g (s1.b B (by decide))).1
  have c := (s1.tr s2).cb B (by decide)
  unfold pRo
  split
  · split
    · exact c.of rfl rfl (fun _ T => T.of rfl rfl T.1.2.2.1 T.1.2.2.2 rfl rfl rfl rfl)
    · exact c
  · exact CB.f B (by decide) (by decide)
theorem pCl_g {g : zJ} (B : GB g) (hk : ¬ g 0 3 = 0) : CB (pCl g) g := CB.cif (pSy_g B hk) (CB.cif ((pR1_g B hk).cb B (by decide)) (CB.cif (pRu_g B hk) (CB.cif (pEn_g B hk) (CB.cif (pRo_g B hk) (CB.f B (by decide) (by decide))))))
theorem pStep_g {g : zJ} (B : GB g) (hk : ¬ g 0 3 = 0) : GB (pP (pCl g) 59) ∧ (pP (pCl g) 59 0 4 = 0 → g 0 1 + 1 ≤ pP (pCl g) 59 0 1) := by
  have c := pCl_g B hk
  have s := pP_g (c := 59) c.1 (by decide)
  refine ⟨s.b c.1 (by decide), fun q => ?_⟩
  obtain ⟨a1, a2, a3, a4, a5⟩ := s.2.2 q
  have w := a3.2.2.1
  have := c.2 a1
  omega
theorem pAl_g : ∀ (k : Nat) (g : zJ), GB g → GB (pAl k g)
  | 0, _, B => B
  | k + 1, g, B => by
    show GB (if g 0 4 = 0 ∧ ¬ g 0 3 = 0 then pAl k (pP (pCl g) 59) else g)
    split
    · next q => exact pAl_g k _ (pStep_g B q.2).1
    · exact B
