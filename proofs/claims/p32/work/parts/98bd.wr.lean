/-! ===== what is read: the rules make nothing heavier ===== -/
theorem sS_ex {g' g ar' ar : Int → Int} {ag' ag : Int → Int → Int} {m : Int} (hw : ∀ t, 0 ≤ t → t < m → g' t = g t) (ha : ∀ t, 0 ≤ t → t < m → ar' t = ar t) (hg : ∀ t i, 0 ≤ t → t < m → 0 ≤ i → i < ar t → ag' t i = ag t i) (T : ∀ t i, 0 ≤ t → t < m → 0 ≤ i → i < ar t → 0 ≤ ag t i ∧ ag t i < m) : ∀ (k : Nat) (t : Int), 0 ≤ t → t < m → sS g' ar' ag' k t = sS g ar ag k t
  | 0, _, _, _ => rfl
  | k + 1, t, h1, h2 => by
    show g' t + sps (sS g' ar' ag' k) ag' t (ar' t).toNat = g t + sps (sS g ar ag k) ag t (ar t).toNat
    rw [ha t h1 h2, hw t h1 h2]
    have st : ∀ n : Nat, (n : Int) ≤ ar t → sps (sS g' ar' ag' k) ag' t n = sps (sS g ar ag k) ag t n := fun n => by
      induction n with
      | zero => intro _; rfl
      | succ n ih =>
        intro hn
        obtain ⟨i0, i1⟩ := T t n h1 h2 (by omega) (by omega)
        show sps (sS g' ar' ag' k) ag' t n + sS g' ar' ag' k (ag' t n) = sps (sS g ar ag k) ag t n + sS g ar ag k (ag t n)
        rw [ih (by omega), hg t n h1 h2 (by omega) (by omega), sS_ex hw ha hg T k (ag t n) i0 i1]
    by_cases p : 0 ≤ ar t
    · rw [st _ (by omega)]
    · rw [show (ar t).toNat = 0 from by omega]
      rfl
/-- the one side never weighs more, in a table being read -/
def WLR (g : zJ) (r l : Int) : Prop := (∀ v, 0 ≤ v → v < 8 → mcn g 800 10 v r ≤ mcn g 800 10 v l) ∧ mwt g 800 10 r ≤ mwt g 800 10 l
theorem WLR.to {g' g : zJ} {r l : Int} (h : WLR g r l) (er : mwt g' 800 10 r = mwt g 800 10 r ∧ ∀ v, mcn g' 800 10 v r = mcn g 800 10 v r) (el : mwt g' 800 10 l = mwt g 800 10 l ∧ ∀ v, mcn g' 800 10 v l = mcn g 800 10 v l) : WLR g' r l := ⟨fun v a b => by rw [er.2 v, el.2 v]; exact h.1 v a b, by rw [er.1, el.1]; exact h.2⟩
/-- the reading's table has grown, the rules told stay -/
def PZ (g' g : zJ) : Prop := (g 165 126 ≤ g' 165 126 ∧ ∀ t, 0 ≤ t → t < g 165 126 → g' 166 (800 + t) = g 166 (800 + t) ∧ ∀ i, 0 ≤ i → i < 3 → g' 167 (3 * (800 + t) + i) = g 167 (3 * (800 + t) + i)) ∧ (g' 170 = g 170 ∧ g' 171 = g 171 ∧ g' 164 44 = g 164 44) ∧ (∀ q, 135 ≤ q → q ≤ 151 → g' 165 q = g 165 q) ∧ (g' 0 4 = 0 → g 0 4 = 0)
theorem PZ.rf {g : zJ} : PZ g g := ⟨⟨Int.le_refl _, fun _ _ _ => ⟨rfl, fun _ _ _ => rfl⟩⟩, ⟨rfl, rfl, rfl⟩, fun _ _ _ => rfl, id⟩
theorem PZ.tr {g3 g2 g1 : zJ} (h : PZ g2 g1) (k : PZ g3 g2) : PZ g3 g1 := by
  obtain ⟨⟨a1, a2⟩, ⟨a3, a9, a4⟩, a5, a6⟩ := h
  obtain ⟨⟨b1, b2⟩, ⟨b3, b9, b4⟩, b5, b6⟩ := k
  exact ⟨⟨by omega, fun t x y => ⟨(b2 t x (by omega)).1.trans (a2 t x y).1, fun i u v => ((b2 t x (by omega)).2 i u v).trans ((a2 t x y).2 i u v)⟩⟩, ⟨b3.trans a3, b9.trans a9, b4.trans a4⟩, fun q x y => (b5 q x y).trans (a5 q x y), fun q => a6 (b6 q)⟩
theorem pN_zz {g : zJ} : PZ (pN g) g := PZ.rf
theorem pF_zz {g : zJ} {c : Int} (h : ¬ c = 0) : PZ (pF g c) g := ⟨PZ.rf.1, PZ.rf.2.1, PZ.rf.2.2.1, fun q => absurd q h⟩
theorem pP_zz {g : zJ} {c : Int} : PZ (pP g c) g := by
  unfold pP
  split
  · split
    · exact pN_zz
    · exact pF_zz (by decide)
  · exact PZ.rf
theorem pU_zz {g : zJ} {a b : Int} : PZ (pU g a b).1 g ∧ (a ≤ b → (pU g a b).2 ≤ b) := by
  unfold pU
  split
  · split
    · split
      · next q => exact ⟨pN_zz, fun _ => q.2.2⟩
      · exact ⟨pF_zz (by decide), fun q => q⟩
    · exact ⟨pF_zz (by decide), fun q => q⟩
  · exact ⟨PZ.rf, fun q => q⟩
theorem pMd_zz {g : zJ} {h x y w : Int} : PZ (pMd g h x y w).1 g := by
  unfold pMd
  split
  · exact PZ.rf
  · split
    · show PZ (chT g 800 126 (g 165 126) h (if 0 < par g h then x else -1) (if 1 < par g h then y else -1) (if 2 < par g h then w else -1) (pdp g h x y w)) g
      obtain ⟨c6, c7, c8, c5, c4, c0, cz⟩ := chT_c (g := g) (m := g 165 126) (h := h) (a := if 0 < par g h then x else -1) (b := if 1 < par g h then y else -1) (c := if 2 < par g h then w else -1) (d := pdp g h x y w)
      refine ⟨⟨?_, fun t a b => ⟨?_, fun i u v => ?_⟩⟩, ⟨c0, chT4 171 (by decide), by rw [c4]⟩, fun q a b => ?_, fun q => ?_⟩
      · rw [c5, if_pos rfl]; omega
      · rw [c6, if_neg (by omega)]
      · rw [c7, if_neg (by omega), if_neg (by omega), if_neg (by omega)]
      · rw [c5, if_neg (by omega)]
      · rw [cz] at q; exact q
    · exact ⟨PZ.rf.1, PZ.rf.2.1, PZ.rf.2.2.1, fun q => absurd (show (99 : Int) = 0 from q) (by decide)⟩
theorem pV_zz {g : zJ} : PZ (pV g).1 g := by
  unfold pV
  split
  · exact (pN_zz.tr pU_zz.1).tr pMd_zz
  · exact pN_zz.tr pU_zz.1
def HZ (T : zJ → Int → zJ × Int) : Prop := ∀ g d, PZ (T g d).1 g
theorem pA1_zz {T : zJ → Int → zJ × Int} {g : zJ} {A d : Int} (h : HZ T) : PZ (pA1 T g A d).1 g := by
  unfold pA1
  split
  · exact pP_zz.tr (h _ _)
  · exact PZ.rf
theorem pA2_zz {T : zJ → Int → zJ × Int} {g : zJ} {A d : Int} (h : HZ T) : PZ (pA2 T g A d).1 g := by
  unfold pA2
  split
  · exact ((pA1_zz h).tr pP_zz).tr (h _ _)
  · exact pA1_zz h
theorem pA3_zz {T : zJ → Int → zJ × Int} {g : zJ} {A d : Int} (h : HZ T) : PZ (pA3 T g A d).1 g := by
  unfold pA3
  split
  · exact ((pA2_zz h).tr pP_zz).tr (h _ _)
  · exact pA2_zz h
theorem pA4_zz {T : zJ → Int → zJ × Int} {g : zJ} {A d : Int} (h : HZ T) : PZ (pA4 T g A d) g := by
  unfold pA4
  split
  · exact (pA3_zz h).tr pP_zz
  · exact pA3_zz h
theorem pC_zz {T : zJ → Int → zJ × Int} {g : zJ} {s d : Int} (h : HZ T) : PZ (pC T g s d).1 g := by
  unfold pC
  split
  · exact (pA4_zz h).tr pMd_zz
  · exact pA4_zz h
theorem pT_zz : ∀ (k : Nat), HZ (pT k)
  | 0, g, _ => PZ.rf
  | k + 1, g, d => by
    rw [pT_s]
    split
    · split
      · split
        · exact pV_zz
        · exact pF_zz (by decide)
      · split
        · split
          · split
            · exact pN_zz.tr (pC_zz (pT_zz k))
            · exact pF_zz (by decide)
          · exact pF_zz (by decide)
        · exact pF_zz (by decide)
    · exact PZ.rf
theorem pNm_zz {g : zJ} : PZ (pNm g).1 g := by
  unfold pNm
  (repeat' split) <;> first | exact pF_zz (by decide) | exact pN_zz
theorem pTo_zz {g : zJ} : PZ (pTo g) g := by
  unfold pTo
  split
  · by_cases c : pIs g [116, 111]
    · rw [cif_pos c]; exact pN_zz
    · rw [cif_neg c]; exact pF_zz (by decide)
  · exact PZ.rf
theorem pR1_zz {g : zJ} : PZ (pR1 g).1 g := pN_zz.tr (pT_zz 8 _ 1)
theorem pR2_zz {g : zJ} : PZ (pR2 g).1 g := (pR1_zz.tr pTo_zz).tr (pT_zz 8 _ 1)
/-- the rules that were read are rules -/
def PQr (g : zJ) (i : Int) : Prop := ((0 ≤ g 165 (136 + 2 * i) ∧ g 165 (136 + 2 * i) < g 165 126) ∧ (0 ≤ g 165 (137 + 2 * i) ∧ g 165 (137 + 2 * i) < g 165 126)) ∧ WLR g (g 165 (137 + 2 * i)) (g 165 (136 + 2 * i))
def PQ9 (g : zJ) : Prop := (∀ k, 0 ≤ k → k < g 164 44 → g 170 (10 + k) ≤ 3) ∧ g 165 135 ≤ 8 ∧ (g 0 4 = 0 → ∀ i, 0 ≤ i → i < g 165 135 → PQr g i)
/-- what the table's arguments are -/
theorem GT.tc {g : zJ} (T : GT g) (ar : ∀ k, 0 ≤ k → k < g 164 44 → g 170 (10 + k) ≤ 3) : ∀ t i, 0 ≤ t → t < g 165 126 → 0 ≤ i → i < mar g 800 10 t → i < 3 ∧ 0 ≤ mag g 800 t i ∧ mag g 800 t i < g 165 126 := fun t i a b c d => by
  obtain ⟨u1, u2, u3, u4, u5⟩ := T.2 t a b
  have e : mar g 800 10 t = par g (g 166 (800 + t)) := rfl
  have h3 : mar g 800 10 t ≤ 3 := by
    rw [e]
    unfold par arh
    split
    · decide
    · exact ar _ (by omega) u1
  rw [← e] at u3 u4 u5
  refine ⟨by omega, ?_⟩
  show 0 ≤ g 167 (3 * (800 + t) + i) ∧ g 167 (3 * (800 + t) + i) < g 165 126
  rcases (show i = 0 ∨ i = 1 ∨ i = 2 by omega) with q | q | q
  · subst q; exact u3 (by omega)
  · subst q; exact u4 (by omega)
  · subst q; exact u5 (by omega)
theorem PZ.wt {g' g : zJ} (z : PZ g' g) (T : GT g) (ar : ∀ k, 0 ≤ k → k < g 164 44 → g 170 (10 + k) ≤ 3) {t : Int} (ht : 0 ≤ t ∧ t < g 165 126) : mwt g' 800 10 t = mwt g 800 10 t ∧ ∀ v, mcn g' 800 10 v t = mcn g 800 10 v t := by
  obtain ⟨⟨a1, a2⟩, ⟨a3, a9, a4⟩, a5, a6⟩ := z
  have tc := T.tc ar
  have ha : ∀ t, 0 ≤ t → t < g 165 126 → mar g' 800 10 t = mar g 800 10 t := fun t x y => by
    unfold mar
    rw [a3, (a2 t x y).1]
  have hg : ∀ t i, 0 ≤ t → t < g 165 126 → 0 ≤ i → i < mar g 800 10 t → mag g' 800 t i = mag g 800 t i := fun t i x y p q => (a2 t x y).2 i p (tc t i x y p q).1
  have tt : ∀ t i, 0 ≤ t → t < g 165 126 → 0 ≤ i → i < mar g 800 10 t → 0 ≤ mag g 800 t i ∧ mag g 800 t i < g 165 126 := fun t i x y p q => (tc t i x y p q).2
  exact ⟨sS_ex (fun t x y => by unfold mgw; rw [a9, (a2 t x y).1]) ha hg tt 6 t ht.1 ht.2, fun v => sS_ex (fun t x y => by unfold mgc; rw [(a2 t x y).1]) ha hg tt 6 t ht.1 ht.2⟩
theorem PQ9.z {g' g : zJ} (h : PQ9 g) (B : GB g) (z : PZ g' g) : PQ9 g' := by
  obtain ⟨h1, h2, h3⟩ := h
  have z' := z
  obtain ⟨⟨a1, a2⟩, ⟨a3, a9, a4⟩, a5, a6⟩ := z'
  have e5 := a5 135 (by decide) (by decide)
  refine ⟨by rw [a3, a4]; exact h1, by omega, fun q i x y => ?_⟩
  have q0 := a6 q
  obtain ⟨⟨b1, b2⟩, b3⟩ := h3 q0 i x (by omega)
  have T := (B.2.2 q0).1
  unfold PQr
  rw [a5 (136 + 2 * i) (by omega) (by omega), a5 (137 + 2 * i) (by omega) (by omega)]
  exact ⟨⟨by omega, by omega⟩, b3.to (z.wt T h1 b2) (z.wt T h1 b1)⟩
theorem PQ9.f {g : zJ} {c : Int} (h : PQ9 g) (hc : ¬ c = 0) : PQ9 (pF g c) := ⟨h.1, h.2.1, fun q => absurd (show c = 0 from q) hc⟩
theorem PQ9.cif {p : Prop} {a b : zJ} (ha : p → PQ9 a) (hb : PQ9 b) : PQ9 (cif p a b) := by
  by_cases h : p
  · rw [cif_pos h]; exact ha h
  · rw [cif_neg h]; exact hb
theorem pSy_q {g : zJ} (h : PQ9 g) (B : GB g) (hk : ¬ g 0 3 = 0) : PQ9 (pSy g) := by
  have z1 : PZ (pS1 g).1 g := pN_zz.tr pNm_zz
  have z2 : PZ (pS2 g).1 g := z1.tr pU_zz.1
  have z3 : PZ (pS3 g).1 g := z2.tr pU_zz.1
  have n3 : (pS2 g).2 ≤ 3 := (pU_zz (g := (pS1 g).1) (a := 0) (b := 3)).2 (by decide)
  have s1 := pN_g B hk
  have b1 := s1.b B (by decide)
  have s2 : SG (pS1 g).1 (pN g) 1 := pNm_g b1
  have b2 := s2.b b1 (by decide)
  have s3 : SG (pS2 g).1 (pS1 g).1 1 := (pU_g b2).1
  have b3 := s3.b b2 (by decide)
  have s4 : SG (pS3 g).1 (pS2 g).1 1 := (pU_g b3).1
  have b4 := s4.b b3 (by decide)
  have q3 := h.z B z3
  unfold pSy
  split
  · split
    · next h0 =>
      generalize (pS3 g).1 = G at *
      generalize (pS2 g).2 = nn at *
      generalize (pS1 g).2 = c9 at *
      generalize (pS3 g).2 = w9 at *
      have T := (b4.2.2 h0).1
      obtain ⟨p1, p2, p3⟩ := q3
      refine ⟨fun k a b => ?_, p2, fun _ i x y => ?_⟩
      · have b' : k < G 164 44 + 1 := b
        show (if 10 + k = 10 + G 164 44 then nn else G 170 (10 + k)) ≤ 3
        split
        · exact n3
        · exact p1 k a (by omega)
      · obtain ⟨⟨b1, b2⟩, b3⟩ := p3 h0 i x y
        have tc := T.tc p1
        have hd : ∀ t, 0 ≤ t → t < G 165 126 → G 166 (800 + t) < G 164 44 := fun t x y => (T.2 t x y).1
        have ha : ∀ t, 0 ≤ t → t < G 165 126 → mar (pSm G c9 nn w9) 800 10 t = mar G 800 10 t := fun t x y => by
          have u1 := hd t x y
          show arh (fun k => if 10 + k = 10 + G 164 44 then nn else G 170 (10 + k)) (G 166 (800 + t)) = arh (fun k => G 170 (10 + k)) (G 166 (800 + t))
          unfold arh
          split
          · rfl
          · exact if_neg (by omega)
        have hg : ∀ t i, 0 ≤ t → t < G 165 126 → 0 ≤ i → i < mar G 800 10 t → mag (pSm G c9 nn w9) 800 t i = mag G 800 t i := fun t i _ _ _ _ => rfl
        have tt : ∀ t i, 0 ≤ t → t < G 165 126 → 0 ≤ i → i < mar G 800 10 t → 0 ≤ mag G 800 t i ∧ mag G 800 t i < G 165 126 := fun t i x y p q => (tc t i x y p q).2
        have e : ∀ t, 0 ≤ t → t < G 165 126 → mwt (pSm G c9 nn w9) 800 10 t = mwt G 800 10 t ∧ ∀ v, mcn (pSm G c9 nn w9) 800 10 v t = mcn G 800 10 v t := fun t x y => ⟨sS_ex (fun t x y => by
          have u1 := hd t x y
          show (if G 166 (800 + t) < 0 then 1 else if 10 + G 166 (800 + t) = 10 + G 164 44 then w9 else G 171 (10 + G 166 (800 + t))) = if G 166 (800 + t) < 0 then 1 else G 171 (10 + G 166 (800 + t))
          split
          · rfl
          · exact if_neg (by omega)) ha hg tt 6 t x y, fun v => sS_ex (fun t x y => rfl) ha hg tt 6 t x y⟩
        exact ⟨⟨b1, b2⟩, b3.to (e _ b2.1 b2.2) (e _ b1.1 b1.2)⟩
    · exact q3
  · exact h.f (by decide)
theorem pRu_q {g : zJ} (h : PQ9 g) (B : GB g) (hk : ¬ g 0 3 = 0) : PQ9 (pRu g) := by
  have z1 : PZ (pR1 g).1 g := pR1_zz
  have z2 : PZ (pR2 g).1 g := pR2_zz
  have q2 := h.z B z2
  have s1 := pN_g B hk
  have t1 := pT_g 8 1 (by decide) (by decide) (by decide) _ (s1.b B (by decide))
  have r1 := pR1_g B hk
  have b1 := r1.b B (by decide)
  have s2 := pTo_g b1
  have b2 := s2.b b1 (by decide)
  have t2 := pT_g 8 1 (by decide) (by decide) (by decide) _ b2
  have sg := pR2_g B hk
  have b3 := sg.b B (by decide)
  have z12 : PZ (pR2 g).1 (pR1 g).1 := pTo_zz.tr (pT_zz 8 _ 1)
  unfold pRu
  split
  · next h8 =>
    split
    · next h0 =>
      split
      · refine PQ9.cif (fun hr => ?_) (q2.f (by decide))
        have l1 : 0 ≤ (pR1 g).2 ∧ (pR1 g).2 < (pR1 g).1 165 126 := (t1.2 (z12.2.2.2 h0)).1
        have l2 : 0 ≤ (pR2 g).2 ∧ (pR2 g).2 < (pR2 g).1 165 126 := (t2.2 h0).1
        have l3 := z12.1.1
        have e8 := z2.2.2.1 135 (by decide) (by decide)
        generalize (pR2 g).1 = G at *
        generalize (pR2 g).2 = rr at *
        generalize (pR1 g).2 = ll at *
        have e : ∀ k, zrl G 126 ll rr 165 k = if k = 135 then G 165 135 + 1 else if k = 136 + 2 * G 165 135 + 1 then rr else if k = 136 + 2 * G 165 135 then ll else G 165 k := fun _ => rfl
        have e35 : zrl G 126 ll rr 165 135 = G 165 135 + 1 := by rw [e, if_pos rfl]
        have wr : ∀ r l, WLR G r l → WLR (zrl G 126 ll rr) r l := fun r l w => w.to ⟨rfl, fun _ => rfl⟩ ⟨rfl, fun _ => rfl⟩
        have ml : WLR G rr ll := by
          obtain ⟨_, k2, _⟩ := hr
          obtain ⟨_, h2, h3⟩ := k2
          refine ⟨h2, ?_⟩
          rcases h3 with q | q
          · exact Int.le_of_lt q
          · exact Int.le_of_eq q.1
        have t0 := (b3.2.2 h0).1.1.2.2.1
        have e26 : zrl G 126 ll rr 165 126 = G 165 126 := by rw [e, if_neg (by decide), if_neg (by omega), if_neg (by omega)]
        obtain ⟨p1, p2, p3⟩ := q2
        refine ⟨p1, by rw [e35]; omega, fun _ i x y => ?_⟩
        rw [e35] at y
        unfold PQr
        rw [e26]
        by_cases c : i = G 165 135
        · rw [e (136 + 2 * i), if_neg (by omega), if_neg (by omega), if_pos (by omega), e (137 + 2 * i), if_neg (by omega), if_pos (by omega)]
          exact ⟨⟨by omega, l2⟩, wr _ _ ml⟩
        · rw [e (136 + 2 * i), if_neg (by omega), if_neg (by omega), if_neg (by omega), e (137 + 2 * i), if_neg (by omega), if_neg (by omega), if_neg (by omega)]
          obtain ⟨b1, b2⟩ := p3 h0 i x (by omega)
          exact ⟨b1, wr _ _ b2⟩
      · exact q2.f (by decide)
    · exact q2
  · exact h.f (by decide)
theorem PQ9.c5 {g' g : zJ} (h : PQ9 g) (e0 : g' 0 = g 0) (e5 : ∀ q, 126 ≤ q → q ≤ 151 → g' 165 q = g 165 q) (e4 : g' 164 44 = g 164 44) (e6 : g' 166 = g 166) (e7 : g' 167 = g 167) (e9 : g' 170 = g 170) (e1 : g' 171 = g 171) : PQ9 g' := by
  obtain ⟨p1, p2, p3⟩ := h
  have a : mar g' 800 10 = mar g 800 10 := by funext t; unfold mar; rw [e6, e9]
  have b : mag g' 800 = mag g 800 := by funext t i; unfold mag; rw [e7]
  have ew : mgw g' 800 10 = mgw g 800 10 := by funext t; unfold mgw; rw [e6, e1]
  have ec : ∀ v, mgc g' 800 v = mgc g 800 v := fun v => by funext t; unfold mgc; rw [e6]
  have em : ∀ t, mwt g' 800 10 t = mwt g 800 10 t ∧ ∀ v, mcn g' 800 10 v t = mcn g 800 10 v t := fun t => ⟨by unfold mwt; rw [a, b, ew], fun v => by unfold mcn; rw [a, b, ec v]⟩
  refine ⟨by rw [e4, e9]; exact p1, by rw [e5 135 (by decide) (by decide)]; exact p2, fun q i x y => ?_⟩
  rw [e5 135 (by decide) (by decide)] at y
  rw [e0] at q
  unfold PQr
  rw [e5 126 (by decide) (by decide), e5 (136 + 2 * i) (by omega) (by omega), e5 (137 + 2 * i) (by omega) (by omega)]
  obtain ⟨b1, b2⟩ := p3 q i x y
  exact ⟨b1, b2.to (em _) (em _)⟩
theorem pEn_q {g : zJ} (h : PQ9 g) (B : GB g) (hk : ¬ g 0 3 = 0) : PQ9 (pEn g) := by
  have q1 := h.z B pR1_zz
  have b1 := (pR1_g B hk).b B (by decide)
  unfold pEn
  split
  · split
    · next h0 =>
      split
      · split
        · exact q1.f (by decide)
        · have t2 := (b1.2.2 h0).1.1.2.2.2
          exact q1.c5 rfl (fun q x y => by
            have e : zen (pR1 g).1 126 (pR1 g).2 165 q = if q = 152 then (pR1 g).1 165 152 + 1 else if q = 153 + (pR1 g).1 165 152 then (pR1 g).2 else (pR1 g).1 165 q := rfl
            rw [e, if_neg (by omega), if_neg (by omega)]) rfl rfl rfl rfl rfl
      · exact q1.f (by decide)
    · exact q1
  · exact h.f (by decide)
theorem pRo_q {g : zJ} (h : PQ9 g) (B : GB g) (hk : ¬ g 0 3 = 0) : PQ9 (pRo g) := by
  have q1 : PQ9 (pO1 g).1 := h.z B (pN_zz.tr pU_zz.1)
  unfold pRo
  split
  · split
    · exact q1.c5 rfl (fun q x y => by
        show (if q = 165 then (pO1 g).2 else (pO1 g).1 165 q) = (pO1 g).1 165 q
        rw [if_neg (by omega)]) rfl rfl rfl rfl rfl
    · exact q1
  · exact h.f (by decide)
theorem pCl_q {g : zJ} (h : PQ9 g) (B : GB g) (hk : ¬ g 0 3 = 0) : PQ9 (pCl g) := PQ9.cif (fun _ => pSy_q h B hk) (PQ9.cif (fun _ => h.z B pR1_zz) (PQ9.cif (fun _ => pRu_q h B hk) (PQ9.cif (fun _ => pEn_q h B hk) (PQ9.cif (fun _ => pRo_q h B hk) (h.f (by decide))))))
theorem pAl_q : ∀ (k : Nat) (g : zJ), GB g → PQ9 g → PQ9 (pAl k g)
  | 0, _, _, h => h
  | k + 1, g, B, h => by
    show PQ9 (if g 0 4 = 0 ∧ ¬ g 0 3 = 0 then pAl k (pP (pCl g) 59) else g)
    split
    · next q => exact pAl_q k _ (pStep_g B q.2).1 ((pCl_q h B q.2).z (pCl_g B q.2).1 pP_zz)
    · exact h
theorem pG_q {J : zJ} {x : Int} : PQ9 (pN (pG J x)) := ⟨fun k a b => absurd b (by show ¬ k < (0 : Int); omega), (by decide : (0 : Int) ≤ 8), fun _ i a b => absurd b (by show ¬ i < (0 : Int); omega)⟩
/-- what a reading tells -/
theorem wv_bs {r : zJ} (h : PQ9 r) (B : GB r) (h0 : r 0 4 = 0) (hs : 0 ≤ r 164 44 ∧ r 164 44 ≤ 10) (hm : 0 ≤ r 165 126 ∧ r 165 126 ≤ 400) : ∀ i, 0 ≤ i → i < BS r 165 9 → ((0 ≤ BS r 165 (10 + 2 * i) ∧ BS r 165 (10 + 2 * i) < r 165 126) ∧ (0 ≤ BS r 165 (10 + 2 * i + 1) ∧ BS r 165 (10 + 2 * i + 1) < r 165 126)) ∧ WLE (BS r) (BS r 165 (10 + 2 * i + 1)) (BS r 165 (10 + 2 * i)) := by
  obtain ⟨p1, p2, p3⟩ := h
  have T := (B.2.2 h0).1
  have tc := T.tc p1
  have hd : ∀ t, 0 ≤ t → t < r 165 126 → r 166 (800 + t) < r 164 44 := fun t a b => (T.2 t a b).1
  have h6 : ∀ t, 0 ≤ t → t < r 165 126 → BS r 166 (0 + t) = r 166 (800 + t) := fun t x y => by rw [Int.zero_add]; exact (BS_6 (by omega)).1
  have ha : ∀ t, 0 ≤ t → t < r 165 126 → mar (BS r) 0 0 t = mar r 800 10 t := fun t x y => by
    have u1 := hd t x y
    unfold mar
    rw [h6 t x y]
    unfold arh
    split
    · rfl
    · show BS r 170 (0 + r 166 (800 + t)) = r 170 (10 + r 166 (800 + t))
      rw [Int.zero_add]
      exact (BS_9 (by omega)).2.1
  have hg : ∀ t i, 0 ≤ t → t < r 165 126 → 0 ≤ i → i < mar r 800 10 t → mag (BS r) 0 t i = mag r 800 t i := fun t i x y p q => by
    have u := (tc t i x y p q).1
    show BS r 167 (3 * (0 + t) + i) = r 167 (3 * (800 + t) + i)
    rw [BS_7 (by omega), show 2400 + (3 * (0 + t) + i) = 3 * (800 + t) + i by omega]
  have tt : ∀ t i, 0 ≤ t → t < r 165 126 → 0 ≤ i → i < mar r 800 10 t → 0 ≤ mag r 800 t i ∧ mag r 800 t i < r 165 126 := fun t i x y p q => (tc t i x y p q).2
  have e : ∀ t, 0 ≤ t → t < r 165 126 → mwt (BS r) 0 0 t = mwt r 800 10 t ∧ ∀ v, mcn (BS r) 0 0 v t = mcn r 800 10 v t := fun t x y => ⟨sS_ex (fun t x y => by
    have u1 := hd t x y
    unfold mgw
    rw [h6 t x y]
    split
    · rfl
    · rw [Int.zero_add]
      exact (BS_9 (by omega)).2.2) ha hg tt 6 t x y, fun v => sS_ex (fun t x y => by unfold mgc; rw [h6 t x y]) ha hg tt 6 t x y⟩
  intro i a b
  rw [BS_5 (by decide)] at b
  have b' : i < r 165 135 := b
  obtain ⟨⟨b1, b2⟩, b3, b4⟩ := p3 h0 i a b'
  rw [BS_5 (by omega), BS_5 (by omega), show 126 + (10 + 2 * i) = 136 + 2 * i by omega, show 126 + (10 + 2 * i + 1) = 137 + 2 * i by omega]
  refine ⟨⟨b1, b2⟩, fun v x y => ?_, ?_⟩
  · rw [(e _ b2.1 b2.2).2 v, (e _ b1.1 b1.2).2 v]
    exact b3 v x y
  · rw [(e _ b2.1 b2.2).1, (e _ b1.1 b1.2).1]
    exact b4
