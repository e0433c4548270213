/-! ===== what only makes terms: the table grows, the row stays but for the count ===== -/
def EXT (S' S : zJ) : Prop := S 165 0 ≤ S' 165 0 ∧ (∀ t, 0 ≤ t → t < S 165 0 → S' 166 (0 + t) = S 166 (0 + t) ∧ ∀ i, 0 ≤ i → i < 3 → S' 167 (3 * (0 + t) + i) = S 167 (3 * (0 + t) + i)) ∧ S' 170 = S 170 ∧ S' 171 = S 171
def EXA (S' S : zJ) : Prop := EXT S' S ∧ ∀ q, ¬ q = 0 → S' 165 q = S 165 q
theorem EXT.rf {S : zJ} : EXT S S := ⟨Int.le_refl _, fun _ _ _ => ⟨rfl, fun _ _ _ => rfl⟩, rfl, rfl⟩
theorem EXT.tr {S2 S1 S : zJ} (g : EXT S2 S1) (h : EXT S1 S) : EXT S2 S := by
  obtain ⟨a, c, d, e⟩ := h
  obtain ⟨a', c', d', e'⟩ := g
  exact ⟨by omega, fun t x y => ⟨(c' t x (by omega)).1.trans (c t x y).1, fun i u v => ((c' t x (by omega)).2 i u v).trans ((c t x y).2 i u v)⟩, d'.trans d, e'.trans e⟩
theorem EXA.rf {S : zJ} : EXA S S := ⟨EXT.rf, fun _ _ => rfl⟩
theorem EXA.tr {S2 S1 S : zJ} (g : EXA S2 S1) (h : EXA S1 S) : EXA S2 S := ⟨g.1.tr h.1, fun q e => (g.2 q e).trans (h.2 q e)⟩
theorem EXA.fu {S : zJ} {v : Int} : EXA (zup S 164 21 v) S := ⟨⟨Int.le_refl _, fun _ _ _ => ⟨rfl, fun _ _ _ => rfl⟩, rfl, rfl⟩, fun _ _ => rfl⟩
theorem EXA.tm {S : zJ} {h x y w : Int} : EXA (tmO S h x y w).1 S := by
  unfold tmO
  split
  · split
    · exact EXA.rf
    · split
      · refine ⟨⟨?_, fun t a b => ⟨?_, fun i u v => ?_⟩, rfl, rfl⟩, fun q e => ?_⟩
        · show S 165 0 ≤ (if (0 : Int) = 0 then S 165 0 + 1 else S 165 0)
          rw [if_pos rfl]
          omega
        · show (if 0 + t = 0 + S 165 0 then h else S 166 (0 + t)) = S 166 (0 + t)
          rw [if_neg (by omega)]
        · show (if 3 * (0 + t) + i = 3 * (0 + S 165 0) + 2 then _ else if 3 * (0 + t) + i = 3 * (0 + S 165 0) + 1 then _ else if 3 * (0 + t) + i = 3 * (0 + S 165 0) then _ else S 167 (3 * (0 + t) + i)) = S 167 (3 * (0 + t) + i)
          rw [if_neg (by omega), if_neg (by omega), if_neg (by omega)]
        · show (if q = 0 then S 165 0 + 1 else S 165 q) = S 165 q
          rw [if_neg e]
      · exact EXA.fu
  · exact EXA.rf
theorem EXA.xaA {T : zJ → Int → zJ × Int} (hT : ∀ G t, EXA (T G t).1 G) {G : zJ} {t A i : Int} : EXA (apA T G t A i).1 G := by
  unfold apA
  split
  · exact hT _ _
  · exact EXA.rf
theorem EXA.apR {T : zJ → Int → zJ × Int} (hT : ∀ G t, EXA (T G t).1 G) {G : zJ} {t : Int} : EXA (apR T G t).1 G :=
  EXA.tr EXA.tm (EXA.tr (EXA.xaA hT) (EXA.tr (EXA.xaA hT) (EXA.xaA hT)))
theorem EXA.ap {β : Int → Int} : ∀ (k : Nat) (G : zJ) (t : Int), EXA (apO β k G t).1 G
  | 0, _, _ => EXA.fu
  | k + 1, G, t => by
    rw [apO_s]
    split
    · split
      · exact EXA.rf
      · exact EXA.apR (fun G t => EXA.ap k G t)
    · exact EXA.rf
theorem EXA.gst {T : zJ → Int → zJ × Int} (hT : ∀ G i, EXA (T G i).1 G) {G : zJ} {A : Int} : ∀ n : Nat, EXA (gst T G A n).1 G
  | 0 => EXA.rf
  | n + 1 => by
    rw [gst_s]
    unfold gA
    split
    · exact EXA.tr (hT _ _) (EXA.gst hT n)
    · exact EXA.gst hT n
theorem EXA.gR {T : zJ → Int → zJ × Int} (hT : ∀ G i, EXA (T G i).1 G) {G : zJ} {h : Int} : EXA (gR T G h).1 G := EXA.tr EXA.tm (EXA.gst hT 3)
theorem EXA.co {L : List (Int × Int)} : ∀ (k : Nat) (G : zJ) (s t : Int), EXA (coO L k G s t).1 G
  | 0, _, _, _ => EXA.fu
  | k + 1, G, s, t => by
    rw [coO_s]
    split
    · split
      · exact EXA.tm
      · exact EXA.gR (fun H i => EXA.co k H _ _)
    · exact EXA.rf
theorem EXA.gr {ρ : Int → Int} : ∀ (k : Nat) (G : zJ) (t : Int), EXA (grO ρ k G t).1 G
  | 0, G, t => by
    by_cases h : G 164 21 = 0
    · rw [grO_0 h]; exact EXA.fu
    · rw [grO_F h]; exact EXA.rf
  | k + 1, G, t => by
    rw [grO_s]
    split
    · split
      · exact EXA.rf
      · exact EXA.gR (fun H i => EXA.gr k H _)
    · exact EXA.rf
theorem EXA.pu {x : Int} : ∀ (k : Nat) (G : zJ) (t p : Int), EXA (puO x k G t p).1 G
  | 0, _, _, _ => EXA.fu
  | k + 1, G, t, p => by
    rw [puO_s]
    split
    · exact EXA.rf
    · exact EXA.tr EXA.tm (EXA.pu k G _ _)
theorem EXA.xdA {T : zJ → Int → (zJ × Int) × Int} (hT : ∀ G s, EXA (T G s).1.1 G) {G : zJ} {s A i : Int} : EXA (dA T G s A i).1.1 G := by
  unfold dA
  split
  · exact hT _ _
  · exact EXA.rf
theorem EXA.dr : ∀ (d : Nat) (G : zJ) (s : Int), EXA (drO d G s).1.1 G
  | 0, _, _ => EXA.fu (v := 1)
  | d + 1, G, s => by
    rw [drO_s]
    split
    · exact EXA.tm
    · exact EXA.tr EXA.tm (EXA.tr (EXA.xdA (EXA.dr d)) (EXA.tr (EXA.xdA (EXA.dr d)) (EXA.xdA (EXA.dr d))))
/-- the table grows, the rules stay -/
def EXR (S' S : zJ) : Prop := EXT S' S ∧ ∀ q, 9 ≤ q → q ≤ 25 → S' 165 q = S 165 q
theorem EXR.rf {S : zJ} : EXR S S := ⟨EXT.rf, fun _ _ _ => rfl⟩
theorem EXR.tr {S2 S1 S : zJ} (g : EXR S2 S1) (h : EXR S1 S) : EXR S2 S := ⟨g.1.tr h.1, fun q a b => (g.2 q a b).trans (h.2 q a b)⟩
theorem EXA.r {S' S : zJ} (h : EXA S' S) : EXR S' S := ⟨h.1, fun q a _ => h.2 q (by omega)⟩
theorem EXR.up {S : zJ} {k v : Int} (h : ¬ k = 0 ∧ (k < 9 ∨ 25 < k)) : EXR (zup S 165 k v) S := by
  refine ⟨⟨?_, fun _ _ _ => ⟨rfl, fun _ _ _ => rfl⟩, rfl, rfl⟩, fun q a b => zup_ne (by omega)⟩
  rw [show zup S 165 k v 165 0 = S 165 0 from zup_ne (by omega)]
  exact Int.le_refl _
theorem EXR.sr {S : zJ} {f : Int → Int} (h0 : f 0 = S 165 0) (h : ∀ q, 9 ≤ q → q ≤ 25 → f q = S 165 q) : EXR (sr S f) S := ⟨⟨by show S 165 0 ≤ f 0; omega, fun _ _ _ => ⟨rfl, fun _ _ _ => rfl⟩, rfl, rfl⟩, h⟩
theorem EXR.bn {ρ : Int → Int} {bs : Int} {G : zJ} : ∀ v : Nat, v ≤ 8 → EXR (bnO ρ bs G v) G
  | 0, _ => EXR.rf
  | v + 1, h => by
    rw [bnO_s]
    have ih := EXR.bn (ρ := ρ) (bs := bs) (G := G) v (by omega)
    unfold bn1
    split
    · split
      · split
        · exact EXR.tr (EXR.up (by omega)) ih
        · exact EXR.tr (EXR.up (by omega)) (EXR.tr (EXA.gr 6 _ _).r (EXR.tr (EXR.up (by omega)) ih))
      · exact EXR.tr (EXR.up (by omega)) ih
    · exact ih
/-! ===== the class's rules: no variable on the left, no side beyond 12 ===== -/
def RVh (J : zJ) (h : Int → Int) : Prop := ∀ i, 0 ≤ i → i < h 9 → 0 ≤ J 7 (h (10 + 2 * i)) ∧ J 10 (h (10 + 2 * i)) ≤ 12 ∧ J 10 (h (10 + 2 * i + 1)) ≤ 12
def RVS (J S : zJ) (n : Int) (R : Int → Int → Int) : Prop := RVh J (S 165) ∧ ∀ k, 0 ≤ k → k < n → RVh J (R k)
theorem RW.lb {f h : Int → Int} {m : Int} (w : RW f h) (l : LI f m) : ∀ i, 0 ≤ i → i < h 9 → (0 ≤ h (10 + 2 * i) ∧ h (10 + 2 * i) < m) ∧ (0 ≤ h (10 + 2 * i + 1) ∧ h (10 + 2 * i + 1) < m) := fun i x y => by
  obtain ⟨_, ⟨a, b⟩, _⟩ := w
  obtain ⟨b1, b2⟩ := b i x y
  have q := l.2.2.1 i x (by rw [a]; exact y)
  rw [b1, b2] at q
  exact q
theorem RVh.to {J J1 : zJ} {h : Int → Int} {m : Int} (v : RVh J h) (b : ∀ i, 0 ≤ i → i < h 9 → (0 ≤ h (10 + 2 * i) ∧ h (10 + 2 * i) < m) ∧ (0 ≤ h (10 + 2 * i + 1) ∧ h (10 + 2 * i + 1) < m)) (g : ∀ t, 0 ≤ t → t < m → J1 7 t = J 7 t ∧ J1 10 t = J 10 t) : RVh J1 h := fun i x y => by
  obtain ⟨p, q⟩ := b i x y
  obtain ⟨v1, v2, v3⟩ := v i x y
  rw [(g _ p.1 p.2).1, (g _ p.1 p.2).2, (g _ q.1 q.2).2]
  exact ⟨v1, v2, v3⟩
theorem RVS.to {J J1 S : zJ} {n m : Int} {R : Int → Int → Int} (c : CAL J S n R) (hI : CI J m) (v : RVS J S n R) (g : ∀ t, 0 ≤ t → t < m → J1 7 t = J 7 t ∧ J1 10 t = J 10 t) : RVS J1 S n R := by
  refine ⟨v.1.to (c.2.1.lb hI.1.1.2.2) g, fun k x y => ?_⟩
  have e6 := c.2.2.1
  obtain ⟨⟨l, l0⟩, _⟩ := hI.2.2 k x (by rw [e6]; exact y)
  exact (v.2 k x y).to ((c.2.2.2 k x y).1.lb (l.mono l0.2)) g
/-! ===== what else an act may do to the row ===== -/
theorem EXR.mt {S : zJ} {τ : Int → Int} : EXR (zmt S τ) S := by
  refine ⟨⟨?_, fun _ _ _ => ⟨rfl, fun _ _ _ => rfl⟩, rfl, rfl⟩, fun q a b => ?_⟩
  · show S 165 0 ≤ (if 1 ≤ (0 : Int) ∧ (0 : Int) < 9 then τ (0 - 1) + 1 else S 165 0)
    rw [if_neg (by omega)]
    exact Int.le_refl _
  · show (if 1 ≤ q ∧ q < 9 then τ (q - 1) + 1 else S 165 q) = S 165 q
    rw [if_neg (by omega)]
theorem EXR.bd {S : zJ} {v t : Int} (h : 0 ≤ v ∧ v < 8) : EXR (zbd S v t) S := EXR.up (by omega)
theorem EXR.rm {S : zJ} {x : Int} : EXR (zrm S x) S := EXR.tr (EXR.up (by decide)) (EXR.up (by decide))
theorem EXR.en {S : zJ} {t : Int} (h : 0 ≤ S 165 26) : EXR (zen S 0 t) S := EXR.tr (EXR.up (by decide)) (EXR.up (by
  have e : S 165 (0 + 26) = S 165 26 := rfl
  rw [e]
  omega))
theorem EXR.lv {S : zJ} {w : Int} (h : 0 ≤ w) : EXR (zlv S w) S := by
  refine ⟨⟨?_, fun _ _ _ => ⟨rfl, fun _ _ _ => rfl⟩, rfl, rfl⟩, fun q a b => ?_⟩
  · show S 165 0 ≤ (if (0 : Int) = 26 then S 165 26 - 1 else if 27 + w ≤ (0 : Int) ∧ (0 : Int) < 27 + (S 165 26 - 1) then S 165 (0 + 1) else S 165 0)
    rw [if_neg (by decide), if_neg (by omega)]
    exact Int.le_refl _
  · show (if q = 26 then S 165 26 - 1 else if 27 + w ≤ q ∧ q < 27 + (S 165 26 - 1) then S 165 (q + 1) else S 165 q) = S 165 q
    rw [if_neg (by omega), if_neg (by omega)]
/-- the memo is sound -/
def NI (S : zJ) : Prop := 0 ≤ S 165 40 ∧ S 165 40 ≤ S 165 39 ∧ S 165 39 ≤ 9
def EXN (S' S : zJ) : Prop := NI S → EXR S' S ∧ NI S'
theorem EXN.rf {S : zJ} : EXN S S := fun h => ⟨EXR.rf, h⟩
theorem EXN.tr {S2 S1 S : zJ} (g : EXN S2 S1) (h : EXN S1 S) : EXN S2 S := fun n => by
  obtain ⟨a, b⟩ := h n
  obtain ⟨c, d⟩ := g b
  exact ⟨c.tr a, d⟩
theorem EXA.n {S' S : zJ} (h : EXA S' S) : EXN S' S := fun n => ⟨h.r, by
  unfold NI
  rw [h.2 40 (by decide), h.2 39 (by decide)]
  exact n⟩
theorem EXN.up {S : zJ} {v : Int} : EXN (zup S 165 62 v) S := fun n => ⟨EXR.up (by decide), by
  unfold NI
  rw [show zup S 165 62 v 165 40 = S 165 40 from zup_ne (by decide), show zup S 165 62 v 165 39 = S 165 39 from zup_ne (by decide)]
  exact n⟩
theorem mhO_o {h : Int → Int} {w : Int} (r : h 40 ≤ 9) (hw : 0 ≤ w ∧ w < h 40) : (∀ k : Int, k < 40 → mhO h w k = h k) ∧ mhO h w 40 = h 40 := by
  have a : ∀ k : Int, ¬ k = 61 → (fun k : Int => if k = 61 then zw (h 61 + 1) else h k) k = h k := fun k q => if_neg q
  have m40 : mlO (fun k : Int => if k = 61 then zw (h 61 + 1) else h k) w 40 = h 40 - 1 := (if_pos rfl : mlO (fun k : Int => if k = 61 then zw (h 61 + 1) else h k) w 40 = (fun k : Int => if k = 61 then zw (h 61 + 1) else h k) 40 - 1).trans (by rw [a 40 (by decide)])
  refine ⟨fun k q => ?_, ?_⟩
  · show maO (mlO (fun k : Int => if k = 61 then zw (h 61 + 1) else h k) w) _ _ k = _
    rw [maO_o (Or.inl q) (by rw [m40]; omega), mlO_o (Or.inl q) ⟨hw.1, by rw [if_neg (show ¬ (40 : Int) = 61 by decide)]; omega⟩]
    exact a k (by omega)
  · show maO (mlO (fun k : Int => if k = 61 then zw (h 61 + 1) else h k) w) _ _ 40 = _
    have : maO (mlO (fun k : Int => if k = 61 then zw (h 61 + 1) else h k) w) (h (41 + 2 * w)) (h (41 + 2 * w + 1)) 40 = mlO (fun k : Int => if k = 61 then zw (h 61 + 1) else h k) w 40 + 1 := if_pos rfl
    rw [this, m40]
    omega
theorem mgO_4 {h : Int → Int} {t z : Int} (r : 0 ≤ h 40 ∧ h 40 ≤ h 39 ∧ h 39 ≤ 9) : 0 ≤ mgO h t z 40 := by
  unfold mgO
  by_cases a : h 39 = 0
  · rw [if_pos a]; exact r.1
  · rw [if_neg a]
    by_cases c : h 40 = h 39
    · rw [if_pos c]
      have e : maO (mlO h 0) t z 40 = mlO h 0 40 + 1 := if_pos rfl
      have e2 : mlO h 0 40 = h 40 - 1 := if_pos rfl
      rw [e, e2]
      omega
    · rw [if_neg c]
      have e : maO h t z 40 = h 40 + 1 := if_pos rfl
      rw [e]
      omega
theorem EXN.mh {S : zJ} {w : Int} (hw : 0 ≤ w ∧ w < S 165 40) : EXN (sr S (mhO (S 165) w)) S := fun n => by
  obtain ⟨a, b⟩ := mhO_o (h := S 165) (w := w) (by have := n.2; omega) hw
  refine ⟨EXR.sr (a 0 (by decide)) (fun q _ y => a q (by omega)), ?_⟩
  show 0 ≤ mhO (S 165) w 40 ∧ mhO (S 165) w 40 ≤ mhO (S 165) w 39 ∧ mhO (S 165) w 39 ≤ 9
  rw [b, a 39 (by decide)]
  exact n
theorem EXN.mg {S : zJ} {t z : Int} : EXN (sr S (mgO (S 165) t z)) S := fun n => by
  refine ⟨EXR.sr (mgO_o (Or.inl (by decide)) n) (fun q _ y => mgO_o (Or.inl (by omega)) n), ?_⟩
  show 0 ≤ mgO (S 165) t z 40 ∧ mgO (S 165) t z 40 ≤ mgO (S 165) t z 39 ∧ mgO (S 165) t z 39 ≤ 9
  refine ⟨mgO_4 n, mgO_r n, ?_⟩
  rw [mgO_o (Or.inl (by decide)) n]
  exact n.2.2
theorem EXN.op {S : zJ} {σ t : Int} {K : List NFr} : EXN (nOP S σ K t).1.1 S := fun n => by
  unfold nOP
  split
  · exact EXN.rf n
  · split
    · exact EXN.rf n
    · next h =>
      have r : 0 ≤ mAt S t ∧ mAt S t ≤ S 165 40 := fnB_rg n.1
      exact EXN.mh (by omega) n
theorem EXN.ru {S : zJ} {σ u k : Int} {K : List NFr} {F : NFr} : EXN (nRU S σ K F u k).1.1 S := fun n => by
  have a : EXN (apO (omt S (S 165 (10 + 2 * k)) u).2 6 (zup S 165 62 (zw (S 165 62 + 1))) (S 165 (10 + 2 * k + 1))).1 S := EXN.tr (EXA.ap 6 _ _).n EXN.up
  unfold nRU
  split
  · exact EXN.rf n
  · split
    · exact EXN.tr EXN.op a n
    · exact a n
theorem EXN.md {M : zJ × Int} {σ : Int} {K : List NFr} {F : NFr} : EXN (nMD M σ K F).1.1 M.1 := fun n => by
  unfold nMD
  split
  · split
    · exact EXN.mg n
    · exact EXN.ru n
  · exact EXN.rf n
theorem EXN.st {c : NCf} : EXN (nST c).1.1 c.1.1 := fun n => by
  obtain ⟨Q, L, v⟩ := c
  cases L with
  | nil => exact EXN.rf n
  | cons F K =>
    rw [nST_s]
    split
    · split
      · exact EXN.op n
      · exact EXN.tr EXN.md EXA.tm.n n
    · split
      · exact EXN.mg n
      · exact EXN.rf n
