/-! ===== weights: what a table's growth leaves ===== -/
def PT (S : zJ) : Prop := ((0 ≤ S 165 0 ∧ 0 ≤ S 164 9) ∧ ∀ k, 0 ≤ k → k < S 164 9 → (0 ≤ S 170 (0 + k) ∧ S 170 (0 + k) ≤ 3) ∧ (1 ≤ S 171 (0 + k) ∧ S 171 (0 + k) ≤ 9)) ∧ (∀ t, 0 ≤ t → t < S 165 0 → -8 ≤ S 166 (0 + t) ∧ S 166 (0 + t) < S 164 9) ∧ TD (S 165 0) (mar S 0 0) (mag S 0) (fun t => S 168 (0 + t))
def EXW (S' S : zJ) : Prop := (S 165 0 ≤ S' 165 0 ∧ ∀ t, 0 ≤ t → t < S 165 0 → (S' 166 (0 + t) = S 166 (0 + t) ∧ S' 168 (0 + t) = S 168 (0 + t)) ∧ ∀ i, 0 ≤ i → i < 3 → S' 167 (3 * (0 + t) + i) = S 167 (3 * (0 + t) + i)) ∧ S' 170 = S 170 ∧ S' 171 = S 171 ∧ S' 164 9 = S 164 9
theorem EXW.rf {S : zJ} : EXW S S := ⟨⟨Int.le_refl _, fun _ _ _ => ⟨⟨rfl, rfl⟩, fun _ _ _ => rfl⟩⟩, rfl, rfl, rfl⟩
theorem EXW.tr {S2 S1 S : zJ} (g : EXW S2 S1) (h : EXW S1 S) : EXW S2 S := by
  obtain ⟨⟨a, c⟩, d1, d2, d3⟩ := h
  obtain ⟨⟨a', c'⟩, e1, e2, e3⟩ := g
  exact ⟨⟨by omega, fun t x y => ⟨⟨(c' t x (by omega)).1.1.trans (c t x y).1.1, (c' t x (by omega)).1.2.trans (c t x y).1.2⟩, fun i u v => ((c' t x (by omega)).2 i u v).trans ((c t x y).2 i u v)⟩⟩, e1.trans d1, e2.trans d2, e3.trans d3⟩
theorem EXW.fu {S : zJ} {v : Int} : EXW (zup S 164 21 v) S := ⟨⟨Int.le_refl _, fun _ _ _ => ⟨⟨rfl, rfl⟩, fun _ _ _ => rfl⟩⟩, rfl, rfl, zup_ne (by decide)⟩
theorem EXW.up {S : zJ} {k v : Int} (h : ¬ k = 0) : EXW (zup S 165 k v) S := ⟨⟨by rw [show zup S 165 k v 165 0 = S 165 0 from zup_ne (by omega)]; exact Int.le_refl _, fun _ _ _ => ⟨⟨rfl, rfl⟩, fun _ _ _ => rfl⟩⟩, rfl, rfl, rfl⟩
theorem EXW.sr {S : zJ} {f : Int → Int} (h0 : f 0 = S 165 0) : EXW (sr S f) S := ⟨⟨by show S 165 0 ≤ f 0; omega, fun _ _ _ => ⟨⟨rfl, rfl⟩, fun _ _ _ => rfl⟩⟩, rfl, rfl, rfl⟩
theorem EXW.ar {S' S : zJ} (x : EXW S' S) {t : Int} (ht : 0 ≤ t ∧ t < S 165 0) : mar S' 0 0 t = mar S 0 0 t := by
  unfold mar
  rw [x.2.1, (x.1.2 t ht.1 ht.2).1.1]
theorem EXW.gw {S' S : zJ} (x : EXW S' S) {t : Int} (ht : 0 ≤ t ∧ t < S 165 0) : mgw S' 0 0 t = mgw S 0 0 t := by
  unfold mgw
  rw [x.2.2.1, (x.1.2 t ht.1 ht.2).1.1]
theorem EXW.ag {S' S : zJ} (x : EXW S' S) (P : PT S) {t i : Int} (ht : 0 ≤ t ∧ t < S 165 0) (hi : 0 ≤ i ∧ i < mar S 0 0 t) : mag S' 0 t i = mag S 0 t i := (x.1.2 t ht.1 ht.2).2 i hi.1 (by have := (P.2.2 t ht.1 ht.2).1; omega)
/-- sums of three -/
def a3 (A p q r : Int) : Int := if A ≤ 0 then 0 else if A ≤ 1 then p else if A ≤ 2 then p + q else p + q + r
theorem a3_cg {A p q r p' q' r' : Int} (h0 : 0 < A → p = p') (h1 : 1 < A → q = q') (h2 : 2 < A → r = r') : a3 A p q r = a3 A p' q' r' := by
  unfold a3
  (repeat' split) <;> first | rfl | omega
theorem a3_le {A p q r p' q' r' : Int} (h0 : 0 < A → p ≤ p') (h1 : 1 < A → q ≤ q') (h2 : 2 < A → r ≤ r') : a3 A p q r ≤ a3 A p' q' r' := by
  unfold a3
  (repeat' split) <;> omega
theorem sps_a3 {f : Int → Int} {ag : Int → Int → Int} {t A : Int} (hA : 0 ≤ A ∧ A ≤ 3) : sps f ag t A.toNat = a3 A (f (ag t 0)) (f (ag t 1)) (f (ag t 2)) := by
  rcases (show A = 0 ∨ A = 1 ∨ A = 2 ∨ A = 3 by omega) with e | e | e | e <;> subst e
  · rfl
  · show (0 : Int) + f (ag t 0) = f (ag t 0)
    omega
  · show (0 : Int) + f (ag t 0) + f (ag t 1) = f (ag t 0) + f (ag t 1)
    omega
  · show (0 : Int) + f (ag t 0) + f (ag t 1) + f (ag t 2) = f (ag t 0) + f (ag t 1) + f (ag t 2)
    omega
theorem sV_a3 {m : Int} {g ar dp : Int → Int} {ag : Int → Int → Int} (h : TD m ar ag dp) {t : Int} (ht : 0 ≤ t ∧ t < m) : sV g ar ag t = g t + a3 (ar t) (sV g ar ag (ag t 0)) (sV g ar ag (ag t 1)) (sV g ar ag (ag t 2)) := by
  rw [sV_un h ht, sps_a3 (h t ht.1 ht.2).1]
/-- weights of a sound table -/
theorem mwt_un {S : zJ} (P : PT S) {t : Int} (ht : 0 ≤ t ∧ t < S 165 0) : mwt S 0 0 t = mgw S 0 0 t + a3 (mar S 0 0 t) (mwt S 0 0 (mag S 0 t 0)) (mwt S 0 0 (mag S 0 t 1)) (mwt S 0 0 (mag S 0 t 2)) := sV_a3 P.2.2 ht
theorem pt_gw {S : zJ} (P : PT S) : ∀ t, 0 ≤ t → t < S 165 0 → 1 ≤ mgw S 0 0 t ∧ mgw S 0 0 t ≤ 9 := fun t a b => by
  have h := P.2.1 t a b
  unfold mgw
  split
  · omega
  · exact (P.1.2 _ (by omega) h.2).2
theorem pt_wt {S : zJ} (P : PT S) {t : Int} (ht : 0 ≤ t ∧ t < S 165 0) : 1 ≤ mwt S 0 0 t ∧ mwt S 0 0 t ≤ 9 * 364 := by
  have b : ∀ t, 0 ≤ t ∧ t < S 165 0 → 0 ≤ mwt S 0 0 t ∧ mwt S 0 0 t ≤ 9 * 364 := fun t ht => sV_rg P.2.2 (fun t a b => by have := pt_gw P t a b; omega) ht
  refine ⟨?_, (b t ht).2⟩
  have td := P.2.2 t ht.1 ht.2
  have g := pt_gw P t ht.1 ht.2
  rw [mwt_un P ht]
  have z : 0 ≤ a3 (mar S 0 0 t) (mwt S 0 0 (mag S 0 t 0)) (mwt S 0 0 (mag S 0 t 1)) (mwt S 0 0 (mag S 0 t 2)) := by
    have e : a3 (mar S 0 0 t) 0 0 0 = 0 := by unfold a3; (repeat' split) <;> rfl
    have r : ∀ i, 0 ≤ i → i < mar S 0 0 t → 0 ≤ mwt S 0 0 (mag S 0 t i) := fun i x y => by
      have u := (td.2.2 i x y).1
      exact (b _ ⟨u.1, by omega⟩).1
    exact Int.le_trans (Int.le_of_eq e.symm) (a3_le (fun q => r 0 (by decide) q) (fun q => r 1 (by decide) q) (fun q => r 2 (by decide) q))
  omega
theorem EXW.wt {S' S : zJ} (x : EXW S' S) (P : PT S) {t : Int} (ht : 0 ≤ t ∧ t < S 165 0) : mwt S' 0 0 t = mwt S 0 0 t := sV_cg P.2.2 (fun t a b => x.gw ⟨a, b⟩) (fun t a b => x.ar ⟨a, b⟩) (fun t a b i u v => x.ag P ⟨a, b⟩ ⟨u, v⟩) 6 t ht
theorem EXW.cn {S' S : zJ} (x : EXW S' S) (P : PT S) {t v : Int} (ht : 0 ≤ t ∧ t < S 165 0) : mcn S' 0 0 v t = mcn S 0 0 v t := sV_cg P.2.2 (fun t a b => by unfold mgc; rw [(x.1.2 t a b).1.1]) (fun t a b => x.ar ⟨a, b⟩) (fun t a b i u v => x.ag P ⟨a, b⟩ ⟨u, v⟩) 6 t ht
/-! ===== making a term ===== -/
theorem dpS_b9 {f : Int → Int} {A x y w : Int} : 1 ≤ dpS f A x y w ∧ (0 < A → f x + 1 ≤ dpS f A x y w) ∧ (1 < A → f y + 1 ≤ dpS f A x y w) ∧ (2 < A → f w + 1 ≤ dpS f A x y w) := by
  unfold dpS zmax
  (repeat' split) <;> omega
theorem chT_c0 {S : zJ} {m h a b c d : Int} : (∀ k, chT S 0 0 m h a b c d 166 k = if k = 0 + m then h else S 166 k) ∧ (∀ k, chT S 0 0 m h a b c d 167 k = if k = 3 * (0 + m) + 2 then c else if k = 3 * (0 + m) + 1 then b else if k = 3 * (0 + m) then a else S 167 k) ∧ (∀ k, chT S 0 0 m h a b c d 168 k = if k = 0 + m then d else S 168 k) ∧ (chT S 0 0 m h a b c d 165 0 = m + 1) ∧ chT S 0 0 m h a b c d 164 = S 164 ∧ chT S 0 0 m h a b c d 170 = S 170 ∧ chT S 0 0 m h a b c d 171 = S 171 := ⟨fun _ => rfl, fun _ => rfl, fun _ => rfl, rfl, rfl, rfl, rfl⟩
/-- what comes of making a term -/
def TMW (S' S : zJ) (h x y w z : Int) : Prop := PT S' ∧ EXW S' S ∧ (0 ≤ z ∧ z < S' 165 0) ∧ S' 166 (0 + z) = h ∧ ((0 < oar S h → S' 167 (3 * (0 + z) + 0) = x) ∧ (1 < oar S h → S' 167 (3 * (0 + z) + 1) = y) ∧ (2 < oar S h → S' 167 (3 * (0 + z) + 2) = w))
theorem tm_w {S : zJ} {h x y w : Int} (P : PT S) (hh : -8 ≤ h ∧ h < S 164 9) (hr : (0 < oar S h → 0 ≤ x ∧ x < S 165 0) ∧ (1 < oar S h → 0 ≤ y ∧ y < S 165 0) ∧ (2 < oar S h → 0 ≤ w ∧ w < S 165 0)) (f : (tmO S h x y w).1 164 21 = 0) : TMW (tmO S h x y w).1 S h x y w (tmO S h x y w).2 := by
  have f0 : S 164 21 = 0 := by
    refine Decidable.byContradiction (fun q => ?_)
    rw [tmO_f q] at f
    exact q f
  have m0 := P.1.1.1
  have r1 : 0 ≤ ofi S h x y w ∧ ofi S h x y w ≤ S 165 0 := fnB_rg m0
  have r2 := (fnB_at (p := fun q => dcB (¬ nmT S 0 (oar S h) h x y w q)) m0).2
  revert f
  unfold tmO
  rw [if_pos f0]
  by_cases c : ofi S h x y w < S 165 0
  · rw [if_pos c]
    intro _
    have n : nmT S 0 (oar S h) h x y w (ofi S h x y w) := by
      rcases r2 with q | q
      · exact absurd q (by show ¬ ofi S h x y w = _; omega)
      · by_cases k : nmT S 0 (oar S h) h x y w (ofi S h x y w)
        · exact k
        · have : dcB (¬ nmT S 0 (oar S h) h x y w (ofi S h x y w)) = true := dcB_t k
          rw [show dcB (¬ nmT S 0 (oar S h) h x y w (ofi S h x y w)) = false from q] at this
          cases this
    exact ⟨P, EXW.rf, ⟨r1.1, c⟩, n.1, n.2⟩
  · rw [if_neg c]
    by_cases c2 : odp S h x y w ≤ 6 ∧ S 165 0 < 400
    · rw [if_pos c2]
      intro _
      obtain ⟨c6, c7, c8, c5, c4, c0, c1⟩ := chT_c0 (S := S) (m := S 165 0) (h := h) (a := if 0 < oar S h then x else -1) (b := if 1 < oar S h then y else -1) (c := if 2 < oar S h then w else -1) (d := odp S h x y w)
      generalize chT S 0 0 (S 165 0) h (if 0 < oar S h then x else -1) (if 1 < oar S h then y else -1) (if 2 < oar S h then w else -1) (odp S h x y w) = S' at *
      dsimp only
      have ex : EXW S' S := ⟨⟨by omega, fun t a b => ⟨⟨by rw [c6, if_neg (by omega)], by rw [c8, if_neg (by omega)]⟩, fun i u v => by rw [c7, if_neg (by omega), if_neg (by omega), if_neg (by omega)]⟩⟩, c0, c1, by rw [c4]⟩
      have t6 : S' 166 (0 + S 165 0) = h := by rw [c6, if_pos rfl]
      have t7 : S' 167 (3 * (0 + S 165 0) + 0) = if 0 < oar S h then x else -1 := by rw [c7, if_neg (by omega), if_neg (by omega), if_pos (by omega)]
      have t7' : S' 167 (3 * (0 + S 165 0) + 1) = if 1 < oar S h then y else -1 := by rw [c7, if_neg (by omega), if_pos (by omega)]
      have t7'' : S' 167 (3 * (0 + S 165 0) + 2) = if 2 < oar S h then w else -1 := by rw [c7, if_pos (by omega)]
      have ma : mar S' 0 0 (S 165 0) = oar S h := by
        unfold mar oar
        rw [t6, c0]
      have oa : 0 ≤ oar S h ∧ oar S h ≤ 3 := by
        unfold oar arh
        split
        · omega
        · exact (P.1.2 h (by omega) hh.2).1
      obtain ⟨d0, d1, d2, d3⟩ := dpS_b9 (f := fun t => S 168 (0 + t)) (A := oar S h) (x := x) (y := y) (w := w)
      have e6 : S' 165 0 = S 165 0 + 1 := c5
      refine ⟨⟨⟨⟨by omega, by rw [c4]; exact P.1.1.2⟩, fun k a b => ?_⟩, fun t a b => ?_, fun t a b => ?_⟩, ex, ⟨m0, by omega⟩, t6, fun q => by rw [t7, if_pos q], fun q => by rw [t7', if_pos q], fun q => by rw [t7'', if_pos q]⟩
      · rw [c4] at b
        rw [c0, c1]
        exact P.1.2 k a b
      · by_cases k : t = S 165 0
        · subst k
          rw [t6, c4]
          exact hh
        · rw [(ex.1.2 t a (by omega)).1.1, c4]
          exact P.2.1 t a (by omega)
      · by_cases k : t = S 165 0
        · subst k
          rw [ma]
          refine ⟨oa, ?_, fun i u v => ?_⟩
          · show 1 ≤ S' 168 (0 + S 165 0) ∧ S' 168 (0 + S 165 0) ≤ 6
            rw [c8, if_pos rfl]
            exact ⟨d0, c2.1⟩
          · have rg : 0 ≤ mag S' 0 (S 165 0) i ∧ mag S' 0 (S 165 0) i < S 165 0 ∧ S 168 (0 + mag S' 0 (S 165 0) i) + 1 ≤ odp S h x y w := by
              show 0 ≤ S' 167 (3 * (0 + S 165 0) + i) ∧ S' 167 (3 * (0 + S 165 0) + i) < S 165 0 ∧ S 168 (0 + S' 167 (3 * (0 + S 165 0) + i)) + 1 ≤ odp S h x y w
              rcases (show i = 0 ∨ i = 1 ∨ i = 2 by omega) with q | q | q <;> subst q
              · rw [t7, if_pos (by omega)]
                have := hr.1 (by omega)
                exact ⟨this.1, this.2, d1 (by omega)⟩
              · rw [t7', if_pos (by omega)]
                have := hr.2.1 (by omega)
                exact ⟨this.1, this.2, d2 (by omega)⟩
              · rw [t7'', if_pos (by omega)]
                have := hr.2.2 (by omega)
                exact ⟨this.1, this.2, d3 (by omega)⟩
            refine ⟨⟨rg.1, rg.2.1⟩, ?_⟩
            show S' 168 (0 + mag S' 0 (S 165 0) i) < S' 168 (0 + S 165 0)
            rw [c8, if_neg (by omega), c8, if_pos rfl]
            omega
        · have lt : 0 ≤ t ∧ t < S 165 0 := ⟨a, by omega⟩
          obtain ⟨p1, p2, p3⟩ := P.2.2 t lt.1 lt.2
          rw [ex.ar lt]
          refine ⟨p1, ?_, fun i u v => ?_⟩
          · show 1 ≤ S' 168 (0 + t) ∧ S' 168 (0 + t) ≤ 6
            rw [(ex.1.2 t lt.1 lt.2).1.2]
            exact p2
          · obtain ⟨q1, q2⟩ := p3 i u v
            rw [ex.ag P lt ⟨u, v⟩]
            refine ⟨q1, ?_⟩
            show S' 168 (0 + mag S 0 t i) < S' 168 (0 + t)
            rw [(ex.1.2 t lt.1 lt.2).1.2, (ex.1.2 _ q1.1 (by omega)).1.2]
            exact q2
    · rw [if_neg c2]
      intro f
      exact absurd (show (1 : Int) = 0 from f) (by decide)
/-- the weight of what was made -/
theorem TMW.wt {S' S : zJ} {h x y w z : Int} (t : TMW S' S h x y w z) (P : PT S) (hr : (0 < oar S h → 0 ≤ x ∧ x < S 165 0) ∧ (1 < oar S h → 0 ≤ y ∧ y < S 165 0) ∧ (2 < oar S h → 0 ≤ w ∧ w < S 165 0)) : mwt S' 0 0 z = (if h < 0 then 1 else S 171 (0 + h)) + a3 (oar S h) (mwt S 0 0 x) (mwt S 0 0 y) (mwt S 0 0 w) := by
  obtain ⟨P', ex, hz, t6, t7, t8, t9⟩ := t
  have ma : mar S' 0 0 z = oar S h := by
    unfold mar oar
    rw [t6, ex.2.1]
  rw [mwt_un P' hz, ma]
  have g : mgw S' 0 0 z = if h < 0 then 1 else S 171 (0 + h) := by
    unfold mgw
    rw [t6, ex.2.2.1]
  rw [g]
  congr 1
  exact a3_cg (fun q => by
    rw [← ex.wt P (hr.1 q)]
    exact congrArg (mwt S' 0 0) (t7 q)) (fun q => by
    rw [← ex.wt P (hr.2.1 q)]
    exact congrArg (mwt S' 0 0) (t8 q)) (fun q => by
    rw [← ex.wt P (hr.2.2 q)]
    exact congrArg (mwt S' 0 0) (t9 q))
/-! ===== weights with bindings put in ===== -/
def bvl (S : zJ) (β : Int → Int) (v : Int) : Int := if β v = -1 then 1 else mwt S 0 0 (β v)
def bgw (S : zJ) (β : Int → Int) (t : Int) : Int := if S 166 (0 + t) < 0 then bvl S β (-1 - S 166 (0 + t)) else mgw S 0 0 t
def bw (S : zJ) (β : Int → Int) (t : Int) : Int := sV (bgw S β) (mar S 0 0) (mag S 0) t
def BOK (S : zJ) (β : Int → Int) : Prop := ∀ v, 0 ≤ v → v < 8 → β v = -1 ∨ (0 ≤ β v ∧ β v < S 165 0)
theorem BOK.x {S' S : zJ} {β : Int → Int} (h : BOK S β) (x : EXW S' S) : BOK S' β := fun v a b => by
  have := h v a b
  have := x.1.1
  omega
theorem EXW.bv {S' S : zJ} (x : EXW S' S) (P : PT S) {β : Int → Int} (hb : BOK S β) {v : Int} (hv : 0 ≤ v ∧ v < 8) : bvl S' β v = bvl S β v := by
  unfold bvl
  split
  · rfl
  · rw [x.wt P ((hb v hv.1 hv.2).resolve_left (by assumption))]
theorem EXW.bw {S' S : zJ} (x : EXW S' S) (P : PT S) {β : Int → Int} (hb : BOK S β) {t : Int} (ht : 0 ≤ t ∧ t < S 165 0) : bw S' β t = bw S β t := sV_cg P.2.2 (fun t a b => by
  have h := P.2.1 t a b
  unfold bgw
  rw [(x.1.2 t a b).1.1]
  split
  · exact x.bv P hb ⟨by omega, by omega⟩
  · exact x.gw ⟨a, b⟩) (fun t a b => x.ar ⟨a, b⟩) (fun t a b i u v => x.ag P ⟨a, b⟩ ⟨u, v⟩) 6 t ht
theorem bw_un {S : zJ} (P : PT S) {β : Int → Int} {t : Int} (ht : 0 ≤ t ∧ t < S 165 0) : bw S β t = bgw S β t + a3 (mar S 0 0 t) (bw S β (mag S 0 t 0)) (bw S β (mag S 0 t 1)) (bw S β (mag S 0 t 2)) := sV_a3 P.2.2 ht
theorem mar_v {S : zJ} {t : Int} (h : S 166 (0 + t) < 0) : mar S 0 0 t = 0 := by
  unfold mar arh
  exact if_pos h
theorem bw_v {S : zJ} (P : PT S) {β : Int → Int} {t : Int} (ht : 0 ≤ t ∧ t < S 165 0) (h : S 166 (0 + t) < 0) : bw S β t = bvl S β (-1 - S 166 (0 + t)) := by
  rw [bw_un P ht, mar_v h]
  show bgw S β t + 0 = _
  rw [Int.add_zero]
  exact if_pos h
theorem mwt_v {S : zJ} (P : PT S) {t : Int} (ht : 0 ≤ t ∧ t < S 165 0) (h : S 166 (0 + t) < 0) : mwt S 0 0 t = 1 := by
  rw [mwt_un P ht, mar_v h]
  show mgw S 0 0 t + 0 = _
  rw [Int.add_zero]
  exact if_pos h
def APW (β : Int → Int) (T : zJ → Int → zJ × Int) : Prop := ∀ (S : zJ) (t : Int), PT S → BOK S β → (0 ≤ t ∧ t < S 165 0) → (T S t).1 164 21 = 0 → PT (T S t).1 ∧ EXW (T S t).1 S ∧ (0 ≤ (T S t).2 ∧ (T S t).2 < (T S t).1 165 0) ∧ mwt (T S t).1 0 0 (T S t).2 = bw S β t
theorem ap_sg {β : Int → Int} {T : zJ → Int → zJ × Int} (hT : APW β T) {S G : zJ} {t A i : Int} (P : PT S) (PG : PT G) (x : EXW G S) (hb : BOK S β) (ht : 0 ≤ t ∧ t < S 165 0) (hA : A = mar S 0 0 t) (hi : 0 ≤ i) (f : (apA T G t A i).1 164 21 = 0) : PT (apA T G t A i).1 ∧ EXW (apA T G t A i).1 S ∧ (i < A → (0 ≤ (apA T G t A i).2 ∧ (apA T G t A i).2 < (apA T G t A i).1 165 0) ∧ mwt (apA T G t A i).1 0 0 (apA T G t A i).2 = bw S β (mag S 0 t i)) := by
  unfold apA at f ⊢
  by_cases c : i < A
  · rw [if_pos c] at f ⊢
    have rg := ((P.2.2 t ht.1 ht.2).2.2 i hi (by omega)).1
    have e : G 167 (3 * (0 + t) + i) = mag S 0 t i := x.ag P ht ⟨hi, by omega⟩
    rw [e] at f ⊢
    have lt : 0 ≤ mag S 0 t i ∧ mag S 0 t i < S 165 0 := ⟨rg.1, by omega⟩
    obtain ⟨a1, a2, a3, a4⟩ := hT G (mag S 0 t i) PG (hb.x x) ⟨lt.1, by have := x.1.1; omega⟩ f
    exact ⟨a1, a2.tr x, fun _ => ⟨a3, by rw [a4, x.bw P hb lt]⟩⟩
  · rw [if_neg c] at f ⊢
    exact ⟨PG, x, fun q => absurd q c⟩
theorem ap_w {β : Int → Int} : ∀ k : Nat, APW β (apO β k)
  | 0, S, t, _, _, _, f => absurd (show (1 : Int) = 0 from f) (by decide)
  | k + 1, S, t, P, hb, ht, f => by
    have f0 : S 164 21 = 0 := by
      refine Decidable.byContradiction (fun q => ?_)
      rw [apO_s, if_neg q] at f
      exact q f
    revert f
    rw [apO_s, if_pos f0]
    by_cases c : S 166 (0 + t) < 0
    · rw [if_pos c]
      intro _
      have hd := P.2.1 t ht.1 ht.2
      refine ⟨P, EXW.rf, ?_, ?_⟩
      · dsimp only
        split
        · exact ht
        · exact (hb _ (by omega) (by omega)).resolve_left (by assumption)
      · dsimp only
        rw [bw_v P ht c]
        unfold bvl
        split
        · exact mwt_v P ht c
        · rfl
    · rw [if_neg c]
      intro f
      have ih := ap_w (β := β) k
      have hf : ∀ S t, ¬ S 164 21 = 0 → ¬ (apO β k S t).1 164 21 = 0 := fun S t h => apO_f h
      have hd := P.2.1 t ht.1 ht.2
      have f2 : (ap2 (apO β k) S t).1 164 21 = 0 := Decidable.byContradiction (fun q => by
        unfold apR at f
        rw [tmO_f q] at f
        exact q f)
      have f1 : (ap1 (apO β k) S t).1 164 21 = 0 := Decidable.byContradiction (fun q => apA_f hf q f2)
      have fz : (ap0 (apO β k) S t).1 164 21 = 0 := Decidable.byContradiction (fun q => apA_f hf q f1)
      have hA : oar S (S 166 (0 + t)) = mar S 0 0 t := rfl
      obtain ⟨P0, x0, v0⟩ : PT (ap0 (apO β k) S t).1 ∧ EXW (ap0 (apO β k) S t).1 S ∧ (0 < mar S 0 0 t → (0 ≤ (ap0 (apO β k) S t).2 ∧ (ap0 (apO β k) S t).2 < (ap0 (apO β k) S t).1 165 0) ∧ mwt (ap0 (apO β k) S t).1 0 0 (ap0 (apO β k) S t).2 = bw S β (mag S 0 t 0)) := ap_sg ih P P EXW.rf hb ht hA (Int.le_refl _) fz
      obtain ⟨P1, x1, v1⟩ : PT (ap1 (apO β k) S t).1 ∧ EXW (ap1 (apO β k) S t).1 S ∧ (1 < mar S 0 0 t → (0 ≤ (ap1 (apO β k) S t).2 ∧ (ap1 (apO β k) S t).2 < (ap1 (apO β k) S t).1 165 0) ∧ mwt (ap1 (apO β k) S t).1 0 0 (ap1 (apO β k) S t).2 = bw S β (mag S 0 t 1)) := ap_sg ih P P0 x0 hb ht hA (by decide) f1
      obtain ⟨P2, x2, v2⟩ : PT (ap2 (apO β k) S t).1 ∧ EXW (ap2 (apO β k) S t).1 S ∧ (2 < mar S 0 0 t → (0 ≤ (ap2 (apO β k) S t).2 ∧ (ap2 (apO β k) S t).2 < (ap2 (apO β k) S t).1 165 0) ∧ mwt (ap2 (apO β k) S t).1 0 0 (ap2 (apO β k) S t).2 = bw S β (mag S 0 t 2)) := ap_sg ih P P1 x1 hb ht hA (by decide) f2
      have x10 : EXW (ap1 (apO β k) S t).1 (ap0 (apO β k) S t).1 := (ap_sg ih P0 P0 EXW.rf (hb.x x0) ⟨ht.1, by have := x0.1.1; omega⟩ (hA.trans (x0.ar ht).symm) (by decide) f1).2.1
      have x21 : EXW (ap2 (apO β k) S t).1 (ap1 (apO β k) S t).1 := (ap_sg ih P1 P1 EXW.rf (hb.x x1) ⟨ht.1, by have := x1.1.1; omega⟩ (hA.trans (x1.ar ht).symm) (by decide) f2).2.1
      have oe : oar (ap2 (apO β k) S t).1 (S 166 (0 + t)) = mar S 0 0 t := by
        rw [← hA]
        unfold oar
        rw [x2.2.1]
      have x20 := x21.tr x10
      have hr : (0 < oar (ap2 (apO β k) S t).1 (S 166 (0 + t)) → 0 ≤ (ap0 (apO β k) S t).2 ∧ (ap0 (apO β k) S t).2 < (ap2 (apO β k) S t).1 165 0) ∧ (1 < oar (ap2 (apO β k) S t).1 (S 166 (0 + t)) → 0 ≤ (ap1 (apO β k) S t).2 ∧ (ap1 (apO β k) S t).2 < (ap2 (apO β k) S t).1 165 0) ∧ (2 < oar (ap2 (apO β k) S t).1 (S 166 (0 + t)) → 0 ≤ (ap2 (apO β k) S t).2 ∧ (ap2 (apO β k) S t).2 < (ap2 (apO β k) S t).1 165 0) := by
        rw [oe]
        refine ⟨fun q => ?_, fun q => ?_, fun q => (v2 q).1⟩
        · have u := (v0 q).1
          have := x20.1.1
          exact ⟨u.1, Int.lt_of_lt_of_le u.2 this⟩
        · have u := (v1 q).1
          have := x21.1.1
          exact ⟨u.1, Int.lt_of_lt_of_le u.2 this⟩
      have w := tm_w P2 ⟨hd.1, by rw [x2.2.2.2]; exact hd.2⟩ hr f
      refine ⟨w.1, w.2.1.tr x2, w.2.2.1, ?_⟩
      have e := w.wt P2 hr
      rw [oe, x2.2.2.1] at e
      refine e.trans ?_
      rw [bw_un P ht]
      have g : bgw S β t = if S 166 (0 + t) < 0 then 1 else S 171 (0 + S 166 (0 + t)) := by
        unfold bgw mgw
        rw [if_neg c, if_neg c]
      rw [g]
      congr 1
      exact a3_cg (fun q => by rw [x20.wt P0 (v0 q).1]; exact (v0 q).2) (fun q => by rw [x21.wt P1 (v1 q).1]; exact (v1 q).2) (fun q => (v2 q).2)
/-! ===== weights: what matches weighs as the pattern filled ===== -/
def MTK (S : zJ) (σ σ' : Int → Int) : Prop := BOK S σ' ∧ ∀ v, ¬ σ v = -1 → σ' v = σ v
theorem MTK.tr {S : zJ} {σ σ' σ'' : Int → Int} (a : MTK S σ σ') (b : MTK S σ' σ'') : MTK S σ σ'' := ⟨b.1, fun v h => by
  have e := a.2 v h
  exact (b.2 v (by rw [e]; exact h)).trans e⟩
/-- τ binds what σ binds -/
def TXE (τ σ : Int → Int) : Prop := ∀ v, 0 ≤ v → v < 8 → ¬ σ v = -1 → τ v = σ v
theorem TXE.m {S : zJ} {τ σ σ' : Int → Int} (h : TXE τ σ') (k : MTK S σ σ') : TXE τ σ := fun v a b c => by
  have e := k.2 v c
  exact (h v a b (by rw [e]; exact c)).trans e
theorem mtF_w {S : zJ} {f : (Int → Int) → Int → Bool × (Int → Int)} {p t : Int} : ∀ (n : Nat) (σ : Int → Int), (∀ (i : Nat) (σ : Int → Int), i < n → BOK S σ → (f σ i).1 = true → MTK S σ (f σ i).2 ∧ ∀ τ, TXE τ (f σ i).2 → bw S τ (mag S 0 p i) = mwt S 0 0 (mag S 0 t i)) → BOK S σ → (mtF f n σ).1 = true → MTK S σ (mtF f n σ).2 ∧ ∀ τ, TXE τ (mtF f n σ).2 → ∀ i : Nat, i < n → bw S τ (mag S 0 p i) = mwt S 0 0 (mag S 0 t i)
  | 0, σ, _, b, _ => ⟨⟨b, fun _ _ => rfl⟩, fun _ _ i h => absurd h (by omega)⟩
  | n + 1, σ, h, b, e => by
    rw [mtF_s] at e ⊢
    by_cases c : (mtF f n σ).1 = true
    · rw [if_pos c] at e ⊢
      obtain ⟨k1, k2⟩ := mtF_w n σ (fun i σ q => h i σ (by omega)) b c
      obtain ⟨l1, l2⟩ := h n _ (by omega) k1.1 e
      refine ⟨k1.tr l1, fun τ x i q => ?_⟩
      by_cases y : i = n
      · rw [y]; exact l2 τ x
      · exact k2 τ (x.m l1) i (by omega)
    · rw [if_neg c] at e
      exact absurd e c
theorem mt_w {S : zJ} (P : PT S) : ∀ (k : Nat) (σ : Int → Int) (p t : Int), (0 ≤ p ∧ p < S 165 0) → (0 ≤ t ∧ t < S 165 0) → BOK S σ → (mtO (fun t => S 166 (0 + t)) (mar S 0 0) (mag S 0) k σ p t).1 = true → MTK S σ (mtO (fun t => S 166 (0 + t)) (mar S 0 0) (mag S 0) k σ p t).2 ∧ ∀ τ, TXE τ (mtO (fun t => S 166 (0 + t)) (mar S 0 0) (mag S 0) k σ p t).2 → bw S τ p = mwt S 0 0 t
  | 0, _, _, _, _, _, _, e => by cases e
  | k + 1, σ, p, t, hp, ht, b, e => by
    have h8 := P.2.1 p hp.1 hp.2
    rw [mtO_s] at e ⊢
    by_cases c : S 166 (0 + p) < 0
    · rw [if_pos c] at e ⊢
      have bv : ∀ τ : Int → Int, τ (-1 - S 166 (0 + p)) = t → bw S τ p = mwt S 0 0 t := fun τ q => by
        rw [bw_v P hp c]
        unfold bvl
        rw [q, if_neg (by omega)]
      by_cases d : σ (-1 - S 166 (0 + p)) = -1
      · rw [if_pos d] at e ⊢
        refine ⟨⟨fun v x y => ?_, fun v x => ?_⟩, fun τ x => bv τ ?_⟩
        · show (if v = -1 - S 166 (0 + p) then t else σ v) = -1 ∨ (0 ≤ (if v = -1 - S 166 (0 + p) then t else σ v) ∧ (if v = -1 - S 166 (0 + p) then t else σ v) < S 165 0)
          split
          · exact Or.inr ht
          · exact b v x y
        · show (if v = -1 - S 166 (0 + p) then t else σ v) = σ v
          refine if_neg (fun q => ?_)
          rw [q] at x
          exact x d
        · have ef : fmS σ (-1 - S 166 (0 + p)) t (-1 - S 166 (0 + p)) = t := if_pos rfl
          have := x (-1 - S 166 (0 + p)) (by omega) (by omega) (by
            show ¬ fmS σ (-1 - S 166 (0 + p)) t (-1 - S 166 (0 + p)) = -1
            rw [ef]; omega)
          exact this.trans ef
      · rw [if_neg d] at e ⊢
        have q : σ (-1 - S 166 (0 + p)) = t := of_decide_eq_true e
        exact ⟨⟨b, fun _ _ => rfl⟩, fun τ x => bv τ ((x _ (by omega) (by omega) d).trans q)⟩
    · rw [if_neg c] at e ⊢
      by_cases d : S 166 (0 + p) = S 166 (0 + t)
      · rw [if_pos d] at e ⊢
        have am : mar S 0 0 t = mar S 0 0 p := by
          unfold mar
          rw [d]
        obtain ⟨p1, p2, p3⟩ := P.2.2 p hp.1 hp.2
        obtain ⟨q1, q2, q3⟩ := P.2.2 t ht.1 ht.2
        have w := mtF_w (S := S) (p := p) (t := t) (mar S 0 0 p).toNat σ (fun i σ q b e => by
          have u := (p3 i (by omega) (by omega)).1
          have u' := (q3 i (by omega) (by omega)).1
          exact mt_w P k σ _ _ ⟨u.1, by omega⟩ ⟨u'.1, by omega⟩ b e) b e
        refine ⟨w.1, fun τ x => ?_⟩
        have v := w.2 τ x
        rw [bw_un P hp, mwt_un P ht, am]
        have g : bgw S τ p = mgw S 0 0 t := by
          unfold bgw mgw
          rw [if_neg c, if_neg c, ← d, if_neg c]
        rw [g]
        congr 1
        exact a3_cg (fun q => v 0 (by omega)) (fun q => v 1 (by omega)) (fun q => v 2 (by omega))
      · rw [if_neg d] at e
        cases e
theorem om_w {S : zJ} (P : PT S) {p t : Int} (hp : 0 ≤ p ∧ p < S 165 0) (ht : 0 ≤ t ∧ t < S 165 0) (e : (omt S p t).1 = true) : BOK S (omt S p t).2 ∧ bw S (omt S p t).2 p = mwt S 0 0 t := by
  have w := mt_w P 6 (fun _ => -1) p t hp ht (fun _ _ _ => Or.inl rfl) e
  exact ⟨w.1.1, w.2 _ (fun _ _ _ _ => rfl)⟩
/-! ===== weights: fillings are linear ===== -/
theorem sps_ad {f g h : Int → Int} {ag : Int → Int → Int} {t : Int} (e : ∀ x, h x = f x + g x) : ∀ n : Nat, sps h ag t n = sps f ag t n + sps g ag t n
  | 0 => rfl
  | n + 1 => by
    show sps h ag t n + h _ = (sps f ag t n + f _) + (sps g ag t n + g _)
    rw [sps_ad e n, e]
    omega
theorem sS_ad {f g h ar : Int → Int} {ag : Int → Int → Int} (e : ∀ x, h x = f x + g x) : ∀ (k : Nat) (t : Int), sS h ar ag k t = sS f ar ag k t + sS g ar ag k t
  | 0, _ => rfl
  | k + 1, t => by
    show h t + sps (sS h ar ag k) ag t _ = (f t + sps (sS f ar ag k) ag t _) + (g t + sps (sS g ar ag k) ag t _)
    rw [sps_ad (sS_ad e k), e]
    omega
theorem sps_mu {f h : Int → Int} {ag : Int → Int → Int} {t c : Int} (e : ∀ x, h x = f x * c) : ∀ n : Nat, sps h ag t n = sps f ag t n * c
  | 0 => (Int.zero_mul c).symm
  | n + 1 => by
    show sps h ag t n + h _ = (sps f ag t n + f _) * c
    rw [sps_mu e n, e, Int.add_mul]
theorem sS_mu {f h ar : Int → Int} {ag : Int → Int → Int} {c : Int} (e : ∀ x, h x = f x * c) : ∀ (k : Nat) (t : Int), sS h ar ag k t = sS f ar ag k t * c
  | 0, _ => (Int.zero_mul c).symm
  | k + 1, t => by
    show h t + sps (sS h ar ag k) ag t _ = (f t + sps (sS f ar ag k) ag t _) * c
    rw [sps_mu (sS_mu e k), e, Int.add_mul]
theorem sS_zo {h ar : Int → Int} {ag : Int → Int → Int} (e : ∀ x, h x = 0) : ∀ (k : Nat) (t : Int), sS h ar ag k t = 0
  | 0, _ => rfl
  | k + 1, t => by
    have z : ∀ n : Nat, sps (sS h ar ag k) ag t n = 0 := fun n => by
      induction n with
      | zero => rfl
      | succ n ih =>
        show sps (sS h ar ag k) ag t n + sS h ar ag k _ = 0
        rw [ih, sS_zo e k]
        rfl
    show h t + sps (sS h ar ag k) ag t _ = 0
    rw [e, z]
    rfl
def csu (f : Int → Int) : Nat → Int
  | 0 => 0
  | n + 1 => csu f n + f n
theorem csu_0 {f : Int → Int} : ∀ n : Nat, (∀ v : Nat, v < n → f v = 0) → csu f n = 0
  | 0, _ => rfl
  | n + 1, h => by
    show csu f n + f n = 0
    rw [csu_0 n (fun v q => h v (by omega)), h n (by omega)]
    rfl
theorem csu_1 {f : Int → Int} {u : Nat} {c : Int} : ∀ n : Nat, u < n → f u = c → (∀ v : Nat, v < n → ¬ v = u → f v = 0) → csu f n = c
  | 0, h, _, _ => absurd h (by omega)
  | n + 1, h, e, z => by
    show csu f n + f n = c
    by_cases q : u = n
    · subst q
      rw [csu_0 u (fun v a => z v (by omega) (by omega)), e, Int.zero_add]
    · rw [csu_1 n (by omega) e (fun v a b => z v (by omega) b), z n (by omega) (fun w => q w.symm), Int.add_zero]
theorem csu_le {f g : Int → Int} : ∀ n : Nat, (∀ v : Nat, v < n → f v ≤ g v) → csu f n ≤ csu g n
  | 0, _ => Int.le_refl _
  | n + 1, h => by
    have a := csu_le n (fun v q => h v (by omega))
    have b := h n (by omega)
    show csu f n + f n ≤ csu g n + g n
    omega
theorem sS_cs {G : Int → Int → Int} {e : Int → Int} {ar : Int → Int} {ag : Int → Int → Int} : ∀ (n : Nat) (h : Int → Int), (∀ x, h x = csu (fun v => G v x * e v) n) → ∀ (k : Nat) (t : Int), sS h ar ag k t = csu (fun v => sS (G v) ar ag k t * e v) n
  | 0, h, q, k, t => sS_zo q k t
  | n + 1, h, q, k, t => by
    rw [sS_ad (f := fun x => csu (fun v => G v x * e v) n) (g := fun x => G n x * e n) q k t, sS_cs n (fun x => csu (fun v => G v x * e v) n) (fun _ => rfl) k t, sS_mu (f := G n) (c := e n) (fun _ => rfl) k t]
    rfl
/-- a term filled weighs what it weighs, and for each variable what is put in for it, less one -/
theorem bw_li {S : zJ} (P : PT S) {β : Int → Int} {t : Int} (ht : 0 ≤ t ∧ t < S 165 0) : bw S β t = mwt S 0 0 t + csu (fun v => mcn S 0 0 v t * (bvl S β v - 1)) 8 := by
  have e : ∀ x, 0 ≤ x → x < S 165 0 → bgw S β x = mgw S 0 0 x + csu (fun v => mgc S 0 v x * (bvl S β v - 1)) 8 := fun x a b => by
    have h := P.2.1 x a b
    unfold bgw
    by_cases c : S 166 (0 + x) < 0
    · rw [if_pos c]
      have g : mgw S 0 0 x = 1 := if_pos c
      rw [g, csu_1 (u := (-1 - S 166 (0 + x)).toNat) (c := bvl S β (-1 - S 166 (0 + x)) - 1) 8 (by omega) (by
        have z : ((-1 - S 166 (0 + x)).toNat : Int) = -1 - S 166 (0 + x) := by omega
        show mgc S 0 ((-1 - S 166 (0 + x)).toNat : Int) x * (bvl S β ((-1 - S 166 (0 + x)).toNat : Int) - 1) = _
        rw [z]
        unfold mgc
        rw [if_pos (by omega), Int.one_mul]) (fun v q w => by
        show mgc S 0 (v : Int) x * _ = 0
        unfold mgc
        rw [if_neg (by omega), Int.zero_mul])]
      omega
    · rw [if_neg c, csu_0 8 (fun v q => by
        show mgc S 0 (v : Int) x * _ = 0
        unfold mgc
        rw [if_neg (by omega), Int.zero_mul]), Int.add_zero]
  have s : sV (bgw S β) (mar S 0 0) (mag S 0) t = sV (fun x => mgw S 0 0 x + csu (fun v => mgc S 0 v x * (bvl S β v - 1)) 8) (mar S 0 0) (mag S 0) t := sV_cg P.2.2 (fun x a b => e x a b) (fun _ _ _ => rfl) (fun _ _ _ _ _ _ => rfl) 6 t ht
  refine s.trans ?_
  show sS _ _ _ 6 t = sS (mgw S 0 0) _ _ 6 t + _
  rw [sS_ad (f := mgw S 0 0) (g := fun x => csu (fun v => mgc S 0 v x * (bvl S β v - 1)) 8) (fun _ => rfl) 6 t]
  congr 1
  exact sS_cs 8 _ (fun _ => rfl) 6 t
/-- the one side never weighs more than the other, whatever is put in -/
def WLE (S : zJ) (r l : Int) : Prop := (∀ v, 0 ≤ v → v < 8 → mcn S 0 0 v r ≤ mcn S 0 0 v l) ∧ mwt S 0 0 r ≤ mwt S 0 0 l
theorem WLE.bw {S : zJ} (P : PT S) {r l : Int} (h : WLE S r l) (hr : 0 ≤ r ∧ r < S 165 0) (hl : 0 ≤ l ∧ l < S 165 0) {β : Int → Int} (hb : BOK S β) : bw S β r ≤ bw S β l := by
  rw [bw_li P hr, bw_li P hl]
  have a := csu_le (f := fun v => mcn S 0 0 v r * (bvl S β v - 1)) (g := fun v => mcn S 0 0 v l * (bvl S β v - 1)) 8 (fun v q => by
    refine Int.mul_le_mul_of_nonneg_right (h.1 v (by omega) (by omega)) ?_
    unfold bvl
    split
    · decide
    · have := (pt_wt P ((hb v (by omega) (by omega)).resolve_left (by assumption))).1
      omega)
  have := h.2
  omega
theorem EXW.wl {S' S : zJ} (x : EXW S' S) (P : PT S) {r l : Int} (hr : 0 ≤ r ∧ r < S 165 0) (hl : 0 ≤ l ∧ l < S 165 0) (h : WLE S r l) : WLE S' r l := ⟨fun v a b => by rw [x.cn P hr, x.cn P hl]; exact h.1 v a b, by rw [x.wt P hr, x.wt P hl]; exact h.2⟩
/-! ===== weights: the row ===== -/
/-- rules that make nothing heavier, a memo that tells nothing heavier -/
def WRr (S : zJ) (h : Int → Int) : Prop := 0 ≤ h 9 ∧ ∀ i, 0 ≤ i → i < h 9 → ((0 ≤ h (10 + 2 * i) ∧ h (10 + 2 * i) < S 165 0) ∧ (0 ≤ h (10 + 2 * i + 1) ∧ h (10 + 2 * i + 1) < S 165 0)) ∧ WLE S (h (10 + 2 * i + 1)) (h (10 + 2 * i))
def WMr (S : zJ) (h : Int → Int) : Prop := (0 ≤ h 40 ∧ h 40 ≤ h 39 ∧ h 39 ≤ 9) ∧ ∀ i, 0 ≤ i → i < h 40 → ((0 ≤ h (41 + 2 * i) ∧ h (41 + 2 * i) < S 165 0) ∧ (0 ≤ h (41 + 2 * i + 1) ∧ h (41 + 2 * i + 1) < S 165 0)) ∧ mwt S 0 0 (h (41 + 2 * i + 1)) ≤ mwt S 0 0 (h (41 + 2 * i))
theorem WRr.x {S' S : zJ} {h h' : Int → Int} (w : WRr S h) (x : EXW S' S) (P : PT S) (e : ∀ q, 9 ≤ q → q ≤ 25 → h' q = h q) (h8 : h 9 ≤ 8) : WRr S' h' := by
  obtain ⟨w0, w1⟩ := w
  have e9 := e 9 (by decide) (by decide)
  refine ⟨by omega, fun i a b => ?_⟩
  rw [e9] at b
  rw [e (10 + 2 * i) (by omega) (by omega), e (10 + 2 * i + 1) (by omega) (by omega)]
  obtain ⟨⟨v1, v2⟩, v3⟩ := w1 i a b
  have := x.1.1
  exact ⟨⟨⟨v1.1, by omega⟩, ⟨v2.1, by omega⟩⟩, x.wl P v2 v1 v3⟩
theorem WMr.x {S' S : zJ} {h : Int → Int} (w : WMr S h) (x : EXW S' S) (P : PT S) : WMr S' h := by
  obtain ⟨w0, w1⟩ := w
  refine ⟨w0, fun i a b => ?_⟩
  obtain ⟨⟨v1, v2⟩, v3⟩ := w1 i a b
  have := x.1.1
  exact ⟨⟨⟨v1.1, by omega⟩, ⟨v2.1, by omega⟩⟩, by rw [x.wt P v1, x.wt P v2]; exact v3⟩
theorem WMr.e {S : zJ} {h h' : Int → Int} (w : WMr S h) (e : ∀ q, 39 ≤ q → q ≤ 58 → h' q = h q) : WMr S h' := by
  obtain ⟨w0, w1⟩ := w
  have e40 := e 40 (by decide) (by decide)
  have e39 := e 39 (by decide) (by decide)
  refine ⟨by omega, fun i a b => ?_⟩
  rw [e40] at b
  rw [e (41 + 2 * i) (by omega) (by omega), e (41 + 2 * i + 1) (by omega) (by omega)]
  exact w1 i a b
/-- the memo: one is told, one goes -/
theorem WMr.ml {S : zJ} {h : Int → Int} {w : Int} (m : WMr S h) (hw : 0 ≤ w ∧ w < h 40) : (0 ≤ mlO h w 40 ∧ mlO h w 40 = h 40 - 1 ∧ mlO h w 39 = h 39) ∧ ∀ i, 0 ≤ i → i < mlO h w 40 → ((0 ≤ mlO h w (41 + 2 * i) ∧ mlO h w (41 + 2 * i) < S 165 0) ∧ (0 ≤ mlO h w (41 + 2 * i + 1) ∧ mlO h w (41 + 2 * i + 1) < S 165 0)) ∧ mwt S 0 0 (mlO h w (41 + 2 * i + 1)) ≤ mwt S 0 0 (mlO h w (41 + 2 * i)) := by
  obtain ⟨w0, w1⟩ := m
  have e40 : mlO h w 40 = h 40 - 1 := if_pos rfl
  have e39 : mlO h w 39 = h 39 := mlO_o (Or.inl (by decide)) ⟨hw.1, by omega⟩
  refine ⟨⟨by omega, e40, e39⟩, fun i a b => ?_⟩
  rw [e40] at b
  by_cases c : w ≤ i
  · have e1 : mlO h w (41 + 2 * i) = h (41 + 2 * (i + 1)) := by
      unfold mlO
      rw [if_neg (by omega), if_pos (by omega), show 41 + 2 * i + 2 = 41 + 2 * (i + 1) by omega]
    have e2 : mlO h w (41 + 2 * i + 1) = h (41 + 2 * (i + 1) + 1) := by
      unfold mlO
      rw [if_neg (by omega), if_pos (by omega), show 41 + 2 * i + 1 + 2 = 41 + 2 * (i + 1) + 1 by omega]
    rw [e1, e2]
    exact w1 (i + 1) (by omega) (by omega)
  · have e1 : mlO h w (41 + 2 * i) = h (41 + 2 * i) := by
      unfold mlO
      rw [if_neg (by omega), if_neg (by omega)]
    have e2 : mlO h w (41 + 2 * i + 1) = h (41 + 2 * i + 1) := by
      unfold mlO
      rw [if_neg (by omega), if_neg (by omega)]
    rw [e1, e2]
    exact w1 i a (by omega)
theorem WMr.ma {S : zJ} {h : Int → Int} {t z : Int} (h0 : 0 ≤ h 40 ∧ h 40 + 1 ≤ h 39 ∧ h 39 ≤ 9) (w1 : ∀ i, 0 ≤ i → i < h 40 → ((0 ≤ h (41 + 2 * i) ∧ h (41 + 2 * i) < S 165 0) ∧ (0 ≤ h (41 + 2 * i + 1) ∧ h (41 + 2 * i + 1) < S 165 0)) ∧ mwt S 0 0 (h (41 + 2 * i + 1)) ≤ mwt S 0 0 (h (41 + 2 * i))) (ht : 0 ≤ t ∧ t < S 165 0) (hz : 0 ≤ z ∧ z < S 165 0) (le : mwt S 0 0 z ≤ mwt S 0 0 t) : WMr S (maO h t z) := by
  have e40 : maO h t z 40 = h 40 + 1 := if_pos rfl
  have e39 : maO h t z 39 = h 39 := maO_o (Or.inl (by decide)) ⟨h0.1, by omega⟩
  refine ⟨by omega, fun i a b => ?_⟩
  rw [e40] at b
  by_cases c : i = h 40
  · have e1 : maO h t z (41 + 2 * i) = t := by
      unfold maO
      rw [if_neg (by omega), if_neg (by omega), if_pos (by omega)]
    have e2 : maO h t z (41 + 2 * i + 1) = z := by
      unfold maO
      rw [if_neg (by omega), if_pos (by omega)]
    rw [e1, e2]
    exact ⟨⟨ht, hz⟩, le⟩
  · have e1 : maO h t z (41 + 2 * i) = h (41 + 2 * i) := by
      unfold maO
      rw [if_neg (by omega), if_neg (by omega), if_neg (by omega)]
    have e2 : maO h t z (41 + 2 * i + 1) = h (41 + 2 * i + 1) := by
      unfold maO
      rw [if_neg (by omega), if_neg (by omega), if_neg (by omega)]
    rw [e1, e2]
    exact w1 i a (by omega)
theorem WMr.mg {S : zJ} {h : Int → Int} {t z : Int} (m : WMr S h) (ht : 0 ≤ t ∧ t < S 165 0) (hz : 0 ≤ z ∧ z < S 165 0) (le : mwt S 0 0 z ≤ mwt S 0 0 t) : WMr S (mgO h t z) := by
  have w0 := m.1
  unfold mgO
  by_cases a : h 39 = 0
  · rw [if_pos a]; exact m
  · rw [if_neg a]
    by_cases c : h 40 = h 39
    · rw [if_pos c]
      obtain ⟨⟨l1, l2, l3⟩, l4⟩ := m.ml (w := 0) ⟨Int.le_refl _, by omega⟩
      exact WMr.ma ⟨l1, by omega, by omega⟩ l4 ht hz le
    · rw [if_neg c]
      exact WMr.ma ⟨w0.1, by omega, w0.2.2⟩ m.2 ht hz le
theorem WMr.mh {S : zJ} {h : Int → Int} {w : Int} (m : WMr S h) (hw : 0 ≤ w ∧ w < h 40) : WMr S (mhO h w) := by
  obtain ⟨H, hH⟩ : ∃ H : Int → Int, H = (fun k : Int => if k = 61 then zw (h 61 + 1) else h k) := ⟨_, rfl⟩
  have eH : ∀ q, ¬ q = 61 → H q = h q := fun q hq => by rw [hH]; exact if_neg hq
  have m' : WMr S H := m.e (fun q a b => eH q (by omega))
  obtain ⟨⟨l1, l2, l3⟩, l4⟩ := m'.ml (w := w) ⟨hw.1, by rw [eH 40 (by decide)]; exact hw.2⟩
  obtain ⟨⟨v1, v2⟩, v3⟩ := m.2 w hw.1 hw.2
  have w0 := m.1
  rw [eH 40 (by decide)] at l2
  rw [eH 39 (by decide)] at l3
  unfold mhO
  rw [← hH]
  exact WMr.ma ⟨l1, by omega, by omega⟩ l4 v1 v2 v3
/-! ===== weights: the machine of normal forms makes nothing heavier ===== -/
theorem PT.c {S' S : zJ} (P : PT S) (e5 : S' 165 0 = S 165 0) (e4 : S' 164 9 = S 164 9) (e6 : S' 166 = S 166) (e7 : S' 167 = S 167) (e8 : S' 168 = S 168) (e0 : S' 170 = S 170) (e1 : S' 171 = S 171) : PT S' := by
  have a : mar S' 0 0 = mar S 0 0 := by funext t; unfold mar; rw [e6, e0]
  have b : mag S' 0 = mag S 0 := by funext t i; unfold mag; rw [e7]
  unfold PT
  rw [e5, e4, e6, e8, e0, e1, a, b]
  exact P
def MWI (S : zJ) : Prop := PT S ∧ (WRr S (S 165) ∧ S 165 9 ≤ 8) ∧ WMr S (S 165)
def PRT (S : zJ) (z t i : Int) : Prop := (0 ≤ z ∧ z < S 165 0) ∧ mwt S 0 0 z ≤ mwt S 0 0 (mag S 0 t i)
/-- a frame's parts so far -/
def FPO (S : zJ) (F : NFr) : Prop := (0 ≤ F.1 ∧ F.1 < S 165 0) ∧ 0 ≤ F.2.1 ∧ (F.2.1 < 4 → (0 < F.2.1 → 0 < mar S 0 0 F.1 → PRT S F.2.2.1 F.1 0) ∧ (1 < F.2.1 → 1 < mar S 0 0 F.1 → PRT S F.2.2.2.1 F.1 1) ∧ (2 < F.2.1 → 2 < mar S 0 0 F.1 → PRT S F.2.2.2.2 F.1 2))
/-- the frames take a value of this weight -/
def SOK (S : zJ) (w0 : Int) : List NFr → Int → Prop
  | [], w => w ≤ w0
  | F :: K, w => FPO S F ∧ ((3 ≤ F.2.1 ∧ w ≤ mwt S 0 0 F.1) ∨ (F.2.1 < 3 ∧ F.2.1 < mar S 0 0 F.1 ∧ w ≤ mwt S 0 0 (mag S 0 F.1 F.2.1))) ∧ SOK S w0 K (mwt S 0 0 F.1)
theorem SOK.le {S : zJ} {w0 w w' : Int} {K : List NFr} (h : SOK S w0 K w) (l : w' ≤ w) : SOK S w0 K w' := by
  cases K with
  | nil => exact Int.le_trans l h
  | cons F K =>
    obtain ⟨a, b, c⟩ := h
    refine ⟨a, ?_, c⟩
    rcases b with ⟨b1, b2⟩ | ⟨b1, b2, b3⟩
    · exact Or.inl ⟨b1, Int.le_trans l b2⟩
    · exact Or.inr ⟨b1, b2, Int.le_trans l b3⟩
theorem PRT.x {S' S : zJ} {z t i : Int} (h : PRT S z t i) (x : EXW S' S) (P : PT S) (ht : 0 ≤ t ∧ t < S 165 0) (hi : 0 ≤ i ∧ i < mar S 0 0 t) : PRT S' z t i := by
  have rg := ((P.2.2 t ht.1 ht.2).2.2 i hi.1 hi.2).1
  have := x.1.1
  have h2 := h.1.2
  refine ⟨⟨h.1.1, by omega⟩, ?_⟩
  rw [x.ag P ht hi, x.wt P h.1, x.wt P ⟨rg.1, by omega⟩]
  exact h.2
theorem FPO.x {S' S : zJ} {F : NFr} (h : FPO S F) (x : EXW S' S) (P : PT S) : FPO S' F := by
  obtain ⟨a, b, c⟩ := h
  have := x.1.1
  refine ⟨⟨a.1, by omega⟩, b, fun q => ?_⟩
  obtain ⟨c1, c2, c3⟩ := c q
  rw [x.ar a]
  exact ⟨fun u v => (c1 u v).x x P a ⟨by decide, v⟩, fun u v => (c2 u v).x x P a ⟨by decide, v⟩, fun u v => (c3 u v).x x P a ⟨by decide, v⟩⟩
theorem SOK.x {S' S : zJ} {w0 : Int} (x : EXW S' S) (P : PT S) : ∀ {K : List NFr} {w : Int}, SOK S w0 K w → SOK S' w0 K w
  | [], _, h => h
  | F :: K, w, h => by
    obtain ⟨a, b, c⟩ := h
    refine ⟨a.x x P, ?_, ?_⟩
    · rcases b with ⟨b1, b2⟩ | ⟨b1, b2, b3⟩
      · exact Or.inl ⟨b1, by rw [x.wt P a.1]; exact b2⟩
      · have rg := ((P.2.2 _ a.1.1 a.1.2).2.2 _ a.2.1 b2).1
        have l := a.1.2
        exact Or.inr ⟨b1, by rw [x.ar a.1]; exact b2, by rw [x.ag P a.1 ⟨a.2.1, b2⟩, x.wt P ⟨rg.1, by omega⟩]; exact b3⟩
    · rw [x.wt P a.1]
      exact SOK.x x P c
/-- a state of the machine is sound -/
def COK (S0 : zJ) (w0 : Int) (c : NCf) : Prop := (c.2.1 = [] ∧ (c.2.2 = -3 ∨ c.2.2 = -4)) ∨ ((MWI c.1.1 ∧ c.1.1 164 21 = 0 ∧ EXW c.1.1 S0) ∧ ((c.2.2 = -1 ∧ ∃ F K, c.2.1 = F :: K ∧ FPO c.1.1 F ∧ F.2.1 < 4 ∧ SOK c.1.1 w0 K (mwt c.1.1 0 0 F.1)) ∨ ((0 ≤ c.2.2 ∧ c.2.2 < c.1.1 165 0) ∧ SOK c.1.1 w0 c.2.1 (mwt c.1.1 0 0 c.2.2))))
theorem sr_x {S : zJ} {f : Int → Int} (h0 : f 0 = S 165 0) (P : PT S) : PT (sr S f) := P.c h0 rfl rfl rfl rfl rfl rfl
theorem cok_op {S0 S : zJ} {w0 σ t : Int} {K : List NFr} (M : MWI S) (f0 : S 164 21 = 0) (x : EXW S S0) (ht : 0 ≤ t ∧ t < S 165 0) (s : SOK S w0 K (mwt S 0 0 t)) : COK S0 w0 (nOP S σ K t) := by
  obtain ⟨P, ⟨r1, r2⟩, m⟩ := M
  unfold nOP
  by_cases c : S 166 (0 + t) < 0
  · rw [if_pos c]
    exact Or.inr ⟨⟨⟨P, ⟨r1, r2⟩, m⟩, f0, x⟩, Or.inr ⟨ht, s⟩⟩
  · rw [if_neg c]
    by_cases d : mAt S t = S 165 40
    · rw [if_pos d]
      exact Or.inr ⟨⟨⟨P, ⟨r1, r2⟩, m⟩, f0, x⟩, Or.inl ⟨rfl, _, _, rfl, ⟨ht, Int.le_refl _, fun _ => ⟨fun q => absurd (show (0 : Int) < 0 from q) (by decide), fun q => absurd (show (1 : Int) < 0 from q) (by decide), fun q => absurd (show (2 : Int) < 0 from q) (by decide)⟩⟩, by show (0 : Int) < 4; decide, s⟩⟩
    · rw [if_neg d]
      have r : 0 ≤ mAt S t ∧ mAt S t ≤ S 165 40 := fnB_rg m.1.1
      have hw : 0 ≤ mAt S t ∧ mAt S t < S 165 40 := by omega
      have e : S 165 (41 + 2 * mAt S t) = t := by
        have q := (fnB_at (p := fun q => dcB (¬ S 165 (41 + 2 * q) = t)) m.1.1).2
        refine Decidable.byContradiction (fun k => ?_)
        rcases q with q | q
        · exact d q
        · have : dcB (¬ S 165 (41 + 2 * mAt S t) = t) = true := dcB_t k
          rw [show dcB (¬ S 165 (41 + 2 * mAt S t) = t) = false from q] at this
          cases this
      obtain ⟨⟨v1, v2⟩, v3⟩ := m.2 _ hw.1 hw.2
      rw [e] at v3
      obtain ⟨o1, o2⟩ := mhO_o (h := S 165) (w := mAt S t) (by have := m.1; omega) hw
      have h0 : mhO (S 165) (mAt S t) 0 = S 165 0 := o1 0 (by decide)
      have xs : EXW (sr S (mhO (S 165) (mAt S t))) S := EXW.sr h0
      refine Or.inr ⟨⟨⟨sr_x h0 P, ⟨r1.x xs P (fun q _ b => o1 q (by omega)) r2, ?_⟩, (m.mh hw).x xs P⟩, f0, xs.tr x⟩, Or.inr ⟨⟨v2.1, ?_⟩, ?_⟩⟩
      · show mhO (S 165) (mAt S t) 9 ≤ 8
        rw [o1 9 (by decide)]
        exact r2
      · show _ < mhO (S 165) (mAt S t) 0
        rw [h0]
        exact v2.2
      · exact SOK.x xs P (s.le v3)
theorem apO_9 {β : Int → Int} {k : Nat} {S : zJ} {t q : Int} (h : ¬ q = 0) : (apO β k S t).1 165 q = S 165 q := apO_5 k S t q h
theorem cok_ru {S0 S : zJ} {w0 σ u k : Int} {K : List NFr} {F : NFr} (M : MWI S) (x : EXW S S0) (hu : 0 ≤ u ∧ u < S 165 0) (hk : 0 ≤ k ∧ k < S 165 9) (e : (omt S (S 165 (10 + 2 * k)) u).1 = true) (hF : 0 ≤ F.1 ∧ F.1 < S 165 0) (le : mwt S 0 0 u ≤ mwt S 0 0 F.1) (s : SOK S w0 K (mwt S 0 0 F.1)) : COK S0 w0 (nRU S σ K F u k) := by
  obtain ⟨P, ⟨r1, r2⟩, m⟩ := M
  unfold nRU
  by_cases c : 100 ≤ σ
  · rw [if_pos c]
    exact Or.inl ⟨rfl, Or.inr rfl⟩
  · rw [if_neg c]
    obtain ⟨⟨v1, v2⟩, v3⟩ := r1.2 k hk.1 hk.2
    obtain ⟨b1, b2⟩ := om_w P v1 hu e
    have P1 : PT (zup S 165 62 (zw (S 165 62 + 1))) := P.c (zup_ne (by decide)) rfl rfl rfl rfl rfl rfl
    have x1 : EXW (zup S 165 62 (zw (S 165 62 + 1))) S := EXW.up (by decide)
    have hb := b1.x x1
    have w := ap_w (β := (omt S (S 165 (10 + 2 * k)) u).2) 6 (zup S 165 62 (zw (S 165 62 + 1))) (S 165 (10 + 2 * k + 1)) P1 hb ⟨v2.1, by rw [show zup S 165 62 (zw (S 165 62 + 1)) 165 0 = S 165 0 from zup_ne (by decide)]; exact v2.2⟩
    have a9 : ∀ q, ¬ q = 0 → ¬ q = 62 → (apO (omt S (S 165 (10 + 2 * k)) u).2 6 (zup S 165 62 (zw (S 165 62 + 1))) (S 165 (10 + 2 * k + 1))).1 165 q = S 165 q := fun q a b => (apO_9 a).trans (zup_ne b)
    generalize apO (omt S (S 165 (10 + 2 * k)) u).2 6 (zup S 165 62 (zw (S 165 62 + 1))) (S 165 (10 + 2 * k + 1)) = R at w a9 ⊢
    by_cases d : R.1 164 21 = 0
    · rw [if_pos d]
      obtain ⟨w1, w2, w3, w4⟩ := w d
      have xr : EXW R.1 S := w2.tr x1
      have lt : mwt R.1 0 0 R.2 ≤ mwt R.1 0 0 F.1 := by
        rw [w4, x1.bw P b1 v2, xr.wt P hF]
        exact Int.le_trans (v3.bw P v2 v1 b1) (by rw [b2]; exact le)
      have xm := xr.1.1
      refine cok_op ⟨w1, ⟨r1.x xr P (fun q a b => a9 q (by omega) (by omega)) r2, by rw [a9 9 (by decide) (by decide)]; exact r2⟩, (m.x xr P).e (fun q a b => a9 q (by omega) (by omega))⟩ d (xr.tr x) w3 ⟨⟨⟨hF.1, Int.lt_of_lt_of_le hF.2 xm⟩, by show (0 : Int) ≤ 4; decide, fun q => absurd q (by show ¬ (4 : Int) < 4; decide)⟩, Or.inl ⟨by show (3 : Int) ≤ 4; decide, lt⟩, ?_⟩
      rw [show mwt R.1 0 0 (F.1, 4, F.2.2).1 = mwt S 0 0 F.1 from xr.wt P hF]
      exact SOK.x xr P s
    · rw [if_neg d]
      exact Or.inl ⟨rfl, Or.inl rfl⟩
theorem cok_md {S0 : zJ} {M : zJ × Int} {w0 σ : Int} {K : List NFr} {F : NFr} (h : M.1 164 21 = 0 → (MWI M.1 ∧ EXW M.1 S0) ∧ (0 ≤ M.2 ∧ M.2 < M.1 165 0) ∧ (0 ≤ F.1 ∧ F.1 < M.1 165 0) ∧ mwt M.1 0 0 M.2 ≤ mwt M.1 0 0 F.1 ∧ SOK M.1 w0 K (mwt M.1 0 0 F.1)) : COK S0 w0 (nMD M σ K F) := by
  unfold nMD
  by_cases f : M.1 164 21 = 0
  · rw [if_pos f]
    obtain ⟨⟨I, x⟩, hu, hF, le, s⟩ := h f
    by_cases d : nFR M.1 M.2 = M.1 165 9
    · rw [if_pos d]
      obtain ⟨P, ⟨r1, r2⟩, m⟩ := I
      have o : ∀ q : Int, (q < 40 ∨ 59 ≤ q) → mgO (M.1 165) F.1 M.2 q = M.1 165 q := fun q hq => mgO_o hq m.1
      have h0 := o 0 (Or.inl (by decide))
      have xs : EXW (sr M.1 (mgO (M.1 165) F.1 M.2)) M.1 := EXW.sr h0
      refine Or.inr ⟨⟨⟨sr_x h0 P, ⟨r1.x xs P (fun q _ b => o q (Or.inl (by omega))) r2, ?_⟩, (m.mg hF hu le).x xs P⟩, f, xs.tr x⟩, Or.inr ⟨⟨hu.1, ?_⟩, SOK.x xs P (s.le le)⟩⟩
      · show mgO (M.1 165) F.1 M.2 9 ≤ 8
        rw [o 9 (Or.inl (by decide))]
        exact r2
      · show _ < mgO (M.1 165) F.1 M.2 0
        rw [h0]
        exact hu.2
    · rw [if_neg d]
      have r0 := I.2.1.1.1
      have r : 0 ≤ nFR M.1 M.2 ∧ nFR M.1 M.2 ≤ M.1 165 9 := fnB_rg r0
      have e : (omt M.1 (M.1 165 (10 + 2 * nFR M.1 M.2)) M.2).1 = true := by
        have q := (fnB_at (p := fun q => dcB ((omt M.1 (M.1 165 (10 + 2 * q)) M.2).1 = false)) r0).2
        rcases q with q | q
        · exact absurd q d
        · cases k : (omt M.1 (M.1 165 (10 + 2 * nFR M.1 M.2)) M.2).1 with
          | true => rfl
          | false =>
            have : dcB ((omt M.1 (M.1 165 (10 + 2 * nFR M.1 M.2)) M.2).1 = false) = true := dcB_t k
            rw [show dcB ((omt M.1 (M.1 165 (10 + 2 * nFR M.1 M.2)) M.2).1 = false) = false from q] at this
            cases this
      exact cok_ru I x hu ⟨r.1, by omega⟩ e hF le s
  · rw [if_neg f]
    exact Or.inl ⟨rfl, Or.inl rfl⟩
theorem tmO_9 {S : zJ} {h x y w q : Int} (hq : ¬ q = 0) : (tmO S h x y w).1 165 q = S 165 q := EXA.tm.2 q hq
theorem cok_st {S0 : zJ} {w0 : Int} {c : NCf} (h : COK S0 w0 c) : COK S0 w0 (nST c) := by
  obtain ⟨⟨S, σ⟩, L, v⟩ := c
  cases L with
  | nil => exact h
  | cons F K =>
    rcases h with ⟨a, _⟩ | ⟨⟨I, f0, x⟩, h⟩
    · cases a
    · rw [nST_s]
      dsimp only at I f0 x h ⊢
      obtain ⟨P, ⟨r1, r2⟩, m⟩ := I
      rcases h with ⟨hv, F', K', e, pF, p4, s⟩ | ⟨hv, s⟩
      · cases e
        rw [if_pos hv]
        obtain ⟨q1, q2, q3⟩ := pF
        obtain ⟨t1, t2, t3⟩ := P.2.2 F.1 q1.1 q1.2
        by_cases c : F.2.1 < mar S 0 0 F.1
        · rw [if_pos c]
          have rg := (t3 F.2.1 q2 c).1
          exact cok_op ⟨P, ⟨r1, r2⟩, m⟩ f0 x ⟨rg.1, Int.lt_trans rg.2 q1.2⟩ ⟨⟨q1, q2, q3⟩, Or.inr ⟨by omega, c, Int.le_refl _⟩, s⟩
        · rw [if_neg c]
          obtain ⟨c1, c2, c3⟩ := q3 p4
          have oe : oar S (S 166 (0 + F.1)) = mar S 0 0 F.1 := rfl
          have hr : (0 < oar S (S 166 (0 + F.1)) → 0 ≤ F.2.2.1 ∧ F.2.2.1 < S 165 0) ∧ (1 < oar S (S 166 (0 + F.1)) → 0 ≤ F.2.2.2.1 ∧ F.2.2.2.1 < S 165 0) ∧ (2 < oar S (S 166 (0 + F.1)) → 0 ≤ F.2.2.2.2 ∧ F.2.2.2.2 < S 165 0) := by
            rw [oe]
            exact ⟨fun q => (c1 (by omega) q).1, fun q => (c2 (by omega) q).1, fun q => (c3 (by omega) q).1⟩
          refine cok_md (fun f => ?_)
          have w := tm_w P (P.2.1 F.1 q1.1 q1.2) hr f
          have xt := w.2.1
          have a9 : ∀ q, ¬ q = 0 → (tmO S (S 166 (0 + F.1)) F.2.2.1 F.2.2.2.1 F.2.2.2.2).1 165 q = S 165 q := fun q a => tmO_9 a
          refine ⟨⟨⟨w.1, ⟨r1.x xt P (fun q a b => a9 q (by omega)) r2, by rw [a9 9 (by decide)]; exact r2⟩, (m.x xt P).e (fun q a b => a9 q (by omega))⟩, xt.tr x⟩, w.2.2.1, ⟨q1.1, Int.lt_of_lt_of_le q1.2 xt.1.1⟩, ?_, ?_⟩
          · rw [w.wt P hr, xt.wt P q1, mwt_un P q1, oe]
            have g : mgw S 0 0 F.1 = if S 166 (0 + F.1) < 0 then 1 else S 171 (0 + S 166 (0 + F.1)) := rfl
            rw [g]
            exact Int.add_le_add_left (a3_le (fun q => (c1 (by omega) q).2) (fun q => (c2 (by omega) q).2) (fun q => (c3 (by omega) q).2)) _
          · rw [xt.wt P q1]
            exact SOK.x xt P s
      · rw [if_neg (by omega)]
        obtain ⟨pF, b, s'⟩ := s
        obtain ⟨q1, q2, q3⟩ := pF
        rcases b with ⟨b1, b2⟩ | ⟨b1, b2, b3⟩
        · rw [if_pos b1]
          have o : ∀ q : Int, (q < 40 ∨ 59 ≤ q) → mgO (S 165) F.1 v q = S 165 q := fun q hq => mgO_o hq m.1
          have h0 := o 0 (Or.inl (by decide))
          have xs : EXW (sr S (mgO (S 165) F.1 v)) S := EXW.sr h0
          refine Or.inr ⟨⟨⟨sr_x h0 P, ⟨r1.x xs P (fun q _ b => o q (Or.inl (by omega))) r2, ?_⟩, (m.mg q1 hv b2).x xs P⟩, f0, xs.tr x⟩, Or.inr ⟨⟨hv.1, ?_⟩, SOK.x xs P (s'.le b2)⟩⟩
          · show mgO (S 165) F.1 v 9 ≤ 8
            rw [o 9 (Or.inl (by decide))]
            exact r2
          · show _ < mgO (S 165) F.1 v 0
            rw [h0]
            exact hv.2
        · rw [if_neg (by omega)]
          refine Or.inr ⟨⟨⟨P, ⟨r1, r2⟩, m⟩, f0, x⟩, Or.inl ⟨rfl, _, _, rfl, ⟨q1, ?_, fun _ => ?_⟩, ?_, s'⟩⟩
          · show 0 ≤ F.2.1 + 1
            omega
          · obtain ⟨c1, c2, c3⟩ := q3 (by omega)
            have pv : PRT S v F.1 F.2.1 := ⟨hv, b3⟩
            refine ⟨fun q r => ?_, fun q r => ?_, fun q r => ?_⟩
            · show PRT S (if F.2.1 = 0 then v else F.2.2.1) F.1 0
              by_cases z : F.2.1 = 0
              · rw [if_pos z]; rw [z] at pv; exact pv
              · rw [if_neg z]; exact c1 (by omega) r
            · have q : 1 < F.2.1 + 1 := q
              show PRT S (if F.2.1 = 1 then v else F.2.2.2.1) F.1 1
              by_cases z : F.2.1 = 1
              · rw [if_pos z]; rw [z] at pv; exact pv
              · rw [if_neg z]; exact c2 (by omega) r
            · have q : 2 < F.2.1 + 1 := q
              show PRT S (if F.2.1 = 2 then v else F.2.2.2.2) F.1 2
              by_cases z : F.2.1 = 2
              · rw [if_pos z]; rw [z] at pv; exact pv
              · rw [if_neg z]; exact c3 (by omega) r
          · show F.2.1 + 1 < 4
            omega
theorem cok_it {S0 : zJ} {w0 : Int} : ∀ (n : Nat) (c : NCf), COK S0 w0 c → COK S0 w0 (nIT n c)
  | 0, _, h => h
  | n + 1, c, h => by
    rw [nIT_s]
    exact cok_it n _ (cok_st h)
/-- a normal form is no heavier -/
theorem fn_w {S : zJ} {σ t : Int} (M : MWI S) (f0 : S 164 21 = 0) (ht : 0 ≤ t ∧ t < S 165 0) (e : (nFN S σ t).2.1 = []) (h0 : 0 ≤ (nFN S σ t).2.2) : (MWI (nFN S σ t).1.1 ∧ (nFN S σ t).1.1 164 21 = 0 ∧ EXW (nFN S σ t).1.1 S) ∧ (nFN S σ t).2.2 < (nFN S σ t).1.1 165 0 ∧ mwt (nFN S σ t).1.1 0 0 (nFN S σ t).2.2 ≤ mwt (nFN S σ t).1.1 0 0 t := by
  have h : COK S (mwt S 0 0 t) (nFN S σ t) := by
    unfold nFN
    exact cok_it 1000000 _ (cok_op M f0 EXW.rf ht (Int.le_refl _))
  generalize nFN S σ t = c at *
  rcases h with ⟨_, h⟩ | ⟨⟨a1, a2, a3⟩, h⟩
  · omega
  · rcases h with ⟨h, _⟩ | ⟨hv, s⟩
    · omega
    · rw [e] at s
      exact ⟨⟨a1, a2, a3⟩, hv.2, by rw [a3.wt M.1 ht]; exact s⟩
/-! ===== weights: what is drawn ===== -/
def DRW (T : zJ → Int → (zJ × Int) × Int) : Prop := ∀ (S : zJ) (s : Int), PT S → (T S s).1.1 164 21 = 0 → PT (T S s).1.1 ∧ EXW (T S s).1.1 S ∧ (0 ≤ (T S s).1.2 ∧ (T S s).1.2 < (T S s).1.1 165 0)
theorem da_w {T : zJ → Int → (zJ × Int) × Int} (hT : DRW T) {G : zJ} {s A i : Int} (P : PT G) (f : (dA T G s A i).1.1 164 21 = 0) : PT (dA T G s A i).1.1 ∧ EXW (dA T G s A i).1.1 G ∧ (i < A → 0 ≤ (dA T G s A i).1.2 ∧ (dA T G s A i).1.2 < (dA T G s A i).1.1 165 0) := by
  unfold dA at f ⊢
  by_cases c : i < A
  · rw [if_pos c] at f ⊢
    obtain ⟨a, b, d⟩ := hT G s P f
    exact ⟨a, b, fun _ => d⟩
  · rw [if_neg c] at f ⊢
    exact ⟨P, EXW.rf, fun q => absurd q c⟩
theorem dr_w : ∀ d : Nat, DRW (drO (d + 1))
  | d, S, s, P, f => by
    rw [drO_s] at f ⊢
    by_cases c : dwN (dwS s) 8 = 0 ∨ d = 0 ∨ S 164 9 = 0
    · rw [if_pos c] at f ⊢
      dsimp only at f ⊢
      have hn : 0 ≤ dwN (dwS (dwS s)) 3 ∧ dwN (dwS (dwS s)) 3 < 3 := by
        unfold dwN
        omega
      generalize dwN (dwS (dwS s)) 3 = k at *
      have oz : oar S (-1 - k) = 0 := if_pos (by omega)
      have p9 := P.1.1.2
      have w := tm_w P (h := -1 - k) ⟨by omega, by omega⟩ ⟨fun q => absurd q (by omega), fun q => absurd q (by omega), fun q => absurd q (by omega)⟩ f
      exact ⟨w.1, w.2.1, w.2.2.1⟩
    · rw [if_neg c] at f ⊢
      obtain ⟨d', rfl⟩ : ∃ d', d = d' + 1 := ⟨d - 1, by omega⟩
      have ih := dr_w d'
      have hf : ∀ S s, ¬ S 164 21 = 0 → ¬ (drO (d' + 1) S s).1.1 164 21 = 0 := fun S s h => drO_f _ S s h
      have p9 := P.1.1.2
      have hn : 0 ≤ dwN (dwS (dwS s)) (S 164 9) ∧ dwN (dwS (dwS s)) (S 164 9) < S 164 9 := by
        unfold dwN
        exact ⟨Int.emod_nonneg _ (by omega), Int.emod_lt_of_pos _ (by omega)⟩
      generalize dwN (dwS (dwS s)) (S 164 9) = y at *
      generalize dwS (dwS s) = s2 at *
      unfold drR at f ⊢
      dsimp only at f ⊢
      have f2 : (dr2 (drO (d' + 1)) S s2 y).1.1 164 21 = 0 := Decidable.byContradiction (fun q => by
        rw [tmO_f q] at f
        exact q f)
      have f1 : (dr1 (drO (d' + 1)) S s2 y).1.1 164 21 = 0 := Decidable.byContradiction (fun q => dA_f hf q f2)
      have fz : (dr0 (drO (d' + 1)) S s2 y).1.1 164 21 = 0 := Decidable.byContradiction (fun q => dA_f hf q f1)
      obtain ⟨P0, x0, v0⟩ : PT (dr0 (drO (d' + 1)) S s2 y).1.1 ∧ EXW (dr0 (drO (d' + 1)) S s2 y).1.1 S ∧ (0 < S 170 (0 + y) → 0 ≤ (dr0 (drO (d' + 1)) S s2 y).1.2 ∧ (dr0 (drO (d' + 1)) S s2 y).1.2 < (dr0 (drO (d' + 1)) S s2 y).1.1 165 0) := da_w ih P fz
      obtain ⟨P1, x1, v1⟩ : PT (dr1 (drO (d' + 1)) S s2 y).1.1 ∧ EXW (dr1 (drO (d' + 1)) S s2 y).1.1 (dr0 (drO (d' + 1)) S s2 y).1.1 ∧ (1 < S 170 (0 + y) → 0 ≤ (dr1 (drO (d' + 1)) S s2 y).1.2 ∧ (dr1 (drO (d' + 1)) S s2 y).1.2 < (dr1 (drO (d' + 1)) S s2 y).1.1 165 0) := da_w ih P0 f1
      obtain ⟨P2, x2, v2⟩ : PT (dr2 (drO (d' + 1)) S s2 y).1.1 ∧ EXW (dr2 (drO (d' + 1)) S s2 y).1.1 (dr1 (drO (d' + 1)) S s2 y).1.1 ∧ (2 < S 170 (0 + y) → 0 ≤ (dr2 (drO (d' + 1)) S s2 y).1.2 ∧ (dr2 (drO (d' + 1)) S s2 y).1.2 < (dr2 (drO (d' + 1)) S s2 y).1.1 165 0) := da_w ih P1 f2
      have x20 := (x2.tr x1).tr x0
      have oe : oar (dr2 (drO (d' + 1)) S s2 y).1.1 y = S 170 (0 + y) := by
        unfold oar arh
        rw [if_neg (by omega)]
        exact congrFun x20.2.1 _
      have w := tm_w P2 (h := y) (x := (dr0 (drO (d' + 1)) S s2 y).1.2) (y := (dr1 (drO (d' + 1)) S s2 y).1.2) (w := (dr2 (drO (d' + 1)) S s2 y).1.2) ⟨by omega, by have e := x20.2.2.2; exact Int.lt_of_lt_of_le hn.2 (Int.le_of_eq e.symm)⟩ (by
        rw [oe]
        refine ⟨fun q => ?_, fun q => ?_, fun q => v2 q⟩
        · have u := v0 q
          exact ⟨u.1, Int.lt_of_lt_of_le u.2 (x2.tr x1).1.1⟩
        · have u := v1 q
          exact ⟨u.1, Int.lt_of_lt_of_le u.2 x2.1.1⟩) f
      exact ⟨w.1, w.2.1.tr x20, w.2.2.1⟩
theorem dr_i {S : zJ} {s : Int} {d : Nat} (M : MWI S) (f : (drO (d + 1) S s).1.1 164 21 = 0) : (MWI (drO (d + 1) S s).1.1 ∧ EXW (drO (d + 1) S s).1.1 S) ∧ (0 ≤ (drO (d + 1) S s).1.2 ∧ (drO (d + 1) S s).1.2 < (drO (d + 1) S s).1.1 165 0) := by
  obtain ⟨P, ⟨r1, r2⟩, m⟩ := M
  obtain ⟨w1, w2, w3⟩ := dr_w d S s P f
  have a9 : ∀ q, ¬ q = 0 → (drO (d + 1) S s).1.1 165 q = S 165 q := fun q h => (EXA.dr (d + 1) S s).2 q h
  exact ⟨⟨⟨w1, ⟨r1.x w2 P (fun q a b => a9 q (by omega)) r2, by rw [a9 9 (by decide)]; exact r2⟩, (m.x w2 P).e (fun q a b => a9 q (by omega))⟩, w2⟩, w3⟩
/-! ===== years, as a function ===== -/
/-- the state, the steps, the seed, what is lost, and how it goes on: 0 well, 1 full or too much, 2 no end -/
abbrev YCf : Type := (zJ × Int) × Int × Int × Int
noncomputable def yrD (c : YCf) : (zJ × Int) × Int := drO 3 c.1.1 c.2.1
noncomputable def yrN (c : YCf) : NCf := nFN (yrD c).1.1 c.1.2 (yrD c).1.2
noncomputable def yrG (c : YCf) (D : (zJ × Int) × Int) (N : NCf) : YCf :=
  if c.2.2.2 = 0 then (if D.1.1 164 21 = 0 then cif (N.2.1 = []) (if 0 ≤ N.2.2 then (N.1, D.2, c.2.2.1 + (mwt N.1.1 0 0 D.1.2 - mwt N.1.1 0 0 N.2.2), 0) else (c.1, c.2.1, c.2.2.1, 1)) (c.1, c.2.1, c.2.2.1, 2) else (c.1, c.2.1, c.2.2.1, 1)) else c
theorem yrG_k {c : YCf} {D : (zJ × Int) × Int} {N : NCf} (h : ¬ c.2.2.2 = 0) : yrG c D N = c := if_neg h
theorem yrG_d {c : YCf} {D : (zJ × Int) × Int} {N : NCf} (h : c.2.2.2 = 0) (f : ¬ D.1.1 164 21 = 0) : yrG c D N = (c.1, c.2.1, c.2.2.1, 1) := by
  unfold yrG
  rw [if_pos h, if_neg f]
theorem yrG_2 {c : YCf} {D : (zJ × Int) × Int} {N : NCf} (h : c.2.2.2 = 0) (f : D.1.1 164 21 = 0) (e : ¬ N.2.1 = []) : yrG c D N = (c.1, c.2.1, c.2.2.1, 2) := by
  unfold yrG
  rw [if_pos h, if_pos f, cif_neg e]
theorem yrG_n {c : YCf} {D : (zJ × Int) × Int} {N : NCf} (h : c.2.2.2 = 0) (f : D.1.1 164 21 = 0) (e : N.2.1 = []) (n : ¬ 0 ≤ N.2.2) : yrG c D N = (c.1, c.2.1, c.2.2.1, 1) := by
  unfold yrG
  rw [if_pos h, if_pos f, cif_pos e, if_neg n]
theorem yrG_0 {c : YCf} {D : (zJ × Int) × Int} {N : NCf} (h : c.2.2.2 = 0) (f : D.1.1 164 21 = 0) (e : N.2.1 = []) (n : 0 ≤ N.2.2) : yrG c D N = (N.1, D.2, c.2.2.1 + (mwt N.1.1 0 0 D.1.2 - mwt N.1.1 0 0 N.2.2), 0) := by
  unfold yrG
  rw [if_pos h, if_pos f, cif_pos e, if_pos n]
theorem yrG_i {c : YCf} {D : (zJ × Int) × Int} {N : NCf} (h : c.2.2.2 = 0) (e : (yrG c D N).2.2.2 = 0) : D.1.1 164 21 = 0 ∧ N.2.1 = [] ∧ 0 ≤ N.2.2 := by
  by_cases f : D.1.1 164 21 = 0
  · by_cases g : N.2.1 = []
    · by_cases n : 0 ≤ N.2.2
      · exact ⟨f, g, n⟩
      · rw [yrG_n h f g n] at e
        exact absurd (show (1 : Int) = 0 from e) (by decide)
    · rw [yrG_2 h f g] at e
      exact absurd (show (2 : Int) = 0 from e) (by decide)
  · rw [yrG_d h f] at e
    exact absurd (show (1 : Int) = 0 from e) (by decide)
noncomputable def yrS (c : YCf) : YCf := yrG c (yrD c) (yrN c)
noncomputable def yrO (S : zJ) (seed : Int) : Nat → YCf
  | 0 => ((S, 0), seed, 0, 0)
  | n + 1 => yrS (yrO S seed n)
theorem yrO_s {S : zJ} {seed : Int} {n : Nat} : yrO S seed (n + 1) = yrS (yrO S seed n) := rfl
theorem yrO_k {S : zJ} {seed : Int} {n : Nat} (h : ¬ (yrO S seed n).2.2.2 = 0) : ∀ k, yrO S seed (n + k) = yrO S seed n
  | 0 => rfl
  | k + 1 => by
    have ih := yrO_k h k
    show yrO S seed ((n + k) + 1) = _
    rw [yrO_s, ih]
    exact yrG_k h
theorem yr_wS {c : YCf} {D : (zJ × Int) × Int} {N : NCf} (l0 : 0 ≤ c.2.2.1) (hN : D.1.1 164 21 = 0 → N.2.1 = [] → 0 ≤ N.2.2 → (MWI N.1.1 ∧ N.1.1 164 21 = 0) ∧ mwt N.1.1 0 0 N.2.2 ≤ mwt N.1.1 0 0 D.1.2) (c0 : c.2.2.2 = 0) (e : (yrG c D N).2.2.2 = 0) : (MWI (yrG c D N).1.1 ∧ (yrG c D N).1.1 164 21 = 0) ∧ 0 ≤ (yrG c D N).2.2.1 := by
  obtain ⟨f, g, n⟩ := yrG_i c0 e
  obtain ⟨a, b⟩ := hN f g n
  rw [yrG_0 c0 f g n]
  refine ⟨a, ?_⟩
  show 0 ≤ c.2.2.1 + (mwt N.1.1 0 0 D.1.2 - mwt N.1.1 0 0 N.2.2)
  omega
theorem yr_d1 {c : YCf} (I : MWI c.1.1) (c1 : (yrD c).1.1 164 21 = 0) : MWI (yrD c).1.1 ∧ (0 ≤ (yrD c).1.2 ∧ (yrD c).1.2 < (yrD c).1.1 165 0) := by
  unfold yrD at c1 ⊢
  have w := dr_i (d := 2) I c1
  exact ⟨w.1.1, w.2⟩
theorem yr_n1 {S : zJ} {σ t : Int} {N : NCf} (hN : nFN S σ t = N) (M : MWI S) (f0 : S 164 21 = 0) (ht : 0 ≤ t ∧ t < S 165 0) (e : N.2.1 = []) (h0 : 0 ≤ N.2.2) : (MWI N.1.1 ∧ N.1.1 164 21 = 0) ∧ mwt N.1.1 0 0 N.2.2 ≤ mwt N.1.1 0 0 t := by
  subst hN
  have w := fn_w M f0 ht e h0
  exact ⟨⟨w.1.1, w.1.2.1⟩, w.2.2⟩
theorem yrN_e {c : YCf} : nFN (yrD c).1.1 c.1.2 (yrD c).1.2 = yrN c := by
  unfold yrN
  rfl
/-- nothing is ever lost below nothing -/
theorem yr_w {S : zJ} {seed : Int} (M : MWI S) (f0 : S 164 21 = 0) : ∀ n : Nat, (yrO S seed n).2.2.2 = 0 → (MWI (yrO S seed n).1.1 ∧ (yrO S seed n).1.1 164 21 = 0) ∧ 0 ≤ (yrO S seed n).2.2.1
  | 0, _ => ⟨⟨M, f0⟩, Int.le_refl _⟩
  | n + 1, e => by
    have ih := yr_w (seed := seed) M f0 n
    rw [yrO_s] at e ⊢
    generalize yrO S seed n = c at ih e ⊢
    by_cases c0 : c.2.2.2 = 0
    · obtain ⟨⟨I, g0⟩, l0⟩ := ih c0
      exact yr_wS (D := yrD c) (N := yrN c) l0 (fun f g k => yr_n1 yrN_e (yr_d1 I f).1 f (yr_d1 I f).2 g k) c0 e
    · rw [show yrS c = c from yrG_k c0] at e
      exact absurd e c0
