/-! ===== the image, on both sides ===== -/
def MBI (J S : zJ) : Prop := (∀ k, 0 ≤ k → k < 63 → J 165 (2709 + k) = S 165 k) ∧ (∀ t, 0 ≤ t → t < S 165 0 → J 166 (400 + t) = S 166 t ∧ J 168 (400 + t) = S 168 t) ∧ (∀ k, 0 ≤ k → k < 3 * S 165 0 → J 167 (1200 + k) = S 167 k)
def MUi (J : zJ) (n : Int) (R : Int → Int → Int) : Prop := J 164 12 = n ∧ ∀ k, 0 ≤ k → k < n → ∀ q, 0 ≤ q → q < 63 → J 165 (2772 + 63 * ((J 164 13 + k) % 40) + q) = R k q
theorem MBI.fi {J' J G : zJ} (h : MBI J G) (f : MFI J' J) (b : 0 ≤ G 165 0 ∧ G 165 0 ≤ 400) : MBI J' G := ⟨fun k a c => by rw [f.1 _ (by omega)]; exact h.1 k a c, fun t a c => by rw [(f.2.1 _ (by omega) (by omega)).1, (f.2.1 _ (by omega) (by omega)).2]; exact h.2.1 t a c, fun k a c => by rw [f.2.2.1 _ (by omega) (by omega)]; exact h.2.2 k a c⟩
theorem MUi.fi {J' J : zJ} {n : Int} {R : Int → Int → Int} (u : MUi J n R) (f : MFI J' J) : MUi J' n R := ⟨f.2.2.2.1.trans u.1, fun k a b q c d => by rw [f.2.2.2.2, f.1 _ (by omega)]; exact u.2 k a b q c d⟩
def A1k (J G : zJ) : Prop := J 64 12 = G 165 0 ∧ (∀ t, 0 ≤ t → t < G 165 0 → J 65 t = G 166 (0 + t) ∧ J 70 t = G 168 (0 + t)) ∧ (∀ t i, 0 ≤ t → t < G 165 0 → 0 ≤ i → i < J 66 t → J 67 (t * 3 + i) = G 167 (3 * (0 + t) + i))
def CUk (J : zJ) (n : Int) (R : Int → Int → Int) : Prop := J 63 6 = n ∧ ∀ k, 0 ≤ k → k < n → KW (J (zV ((J 63 5 + k) % 40))) (R k)
/-- the class's image shows the state G with the kept rows R -/
def CALk (J G : zJ) (n : Int) (R : Int → Int → Int) : Prop := A1k J G ∧ RW (J 77) (G 165) ∧ CUk J n R
theorem CALk.of {J' J G : zJ} {n : Int} {R : Int → Int → Int} (h : CALk J G n R) (f : ∀ c, 63 ≤ c → c ≤ 120 → J' c = J c) : CALk J' G n R := by
  obtain ⟨h1, h2, h3, h4⟩ := h
  refine ⟨?_, by rw [f 77 (by decide) (by decide)]; exact h2, ?_⟩
  · unfold A1k
    rw [f 64 (by decide) (by decide), f 65 (by decide) (by decide), f 66 (by decide) (by decide), f 67 (by decide) (by decide), f 70 (by decide) (by decide)]
    exact h1
  · unfold CUk
    rw [f 63 (by decide) (by decide)]
    refine ⟨h3, fun k a b => ?_⟩
    rw [f _ (by unfold zV; omega) (by unfold zV; omega)]
    exact h4 k a b
theorem CAL.fr {J' J S : zJ} {n m : Int} {R : Int → Int → Int} (c : CAL J S n R) (hI : CI J m) (f : ∀ q, 0 < q → q < 63 → J' q = J q) : CAL J' S n R := ⟨c.1.f (fun q hq => f q (by omega) (by omega)), by rw [f 19 (by decide) (by decide)]; exact c.2.1, c.2.2.of (by have := hI.2.1; have := c.2.2.1; omega) (f 5 (by decide) (by decide)) (fun i a b => f _ (by unfold zU; omega) (by unfold zU; omega))⟩
theorem calk_mk {J' J S : zJ} {n m : Int} {R : Int → Int → Int} (c : CAL J S n R) (hI : CI J m) (e1 : J' 64 12 = J 6 12) (e2 : ∀ t, 0 ≤ t → t < J 6 12 → J' 65 t = J 7 t ∧ J' 66 t = J 8 t ∧ J' 70 t = J 12 t) (e3 : ∀ k, 0 ≤ k → k < J 6 12 * 3 → J' 67 k = J 9 k) (e4 : ∀ k, 0 ≤ k → k < 61 → J' 77 k = J 19 k) (e5 : J' 63 5 = J 5 5 ∧ J' 63 6 = J 5 6) (e6 : ∀ q, 0 ≤ q → q < J 5 6 → ∀ x, 0 ≤ x → x < 61 → J' (zV ((J 5 5 + q) % 40)) x = J (zU ((J 5 5 + q) % 40)) x) : CALk J' S n R := by
  have hm := c.1.2.1
  have m2 := hI.1.1.2.1
  have u1 := c.2.2.1
  refine ⟨⟨e1.trans hm, fun t a b => ?_, fun t i a b x y => ?_⟩, c.2.1.of hI.1.1.2.2 (fun k a b => e4 k (by omega) b), e5.2.trans u1, fun k a b => ?_⟩
  · have q := e2 t a (by omega)
    rw [q.1, q.2.2]
    exact c.1.2.2.1 t a b
  · have q := e2 t a (by omega)
    rw [q.2.1] at y
    have ar := (hI.1.1.1.ar a (by omega)).1
    rw [e3 _ (by omega) (by omega)]
    exact c.1.2.2.2 t i a b x y
  · rw [e5.1]
    exact (c.2.2.2 k a b).cp (hI.2.2 k a (by omega)).1.1 (e6 k a (by omega))
/-- the tables of G with the symbols of S -/
def gsy (S G : zJ) : zJ := fun c => if c = 165 ∨ c = 166 ∨ c = 167 ∨ c = 168 then G c else S c
theorem cal_rs {J' J S G : zJ} {n ni mk : Int} {R Ri : Int → Int → Int} (c : CAL J S n R) (ck : CALk J G ni Ri) (hK : KI J mk) (f : ∀ c, c < 5 → J' c = J c) (e1 : J' 6 12 = J 64 12) (e2 : ∀ t, 0 ≤ t → t < J 64 12 → J' 7 t = J 65 t ∧ J' 8 t = J 66 t ∧ J' 12 t = J 70 t) (e3 : ∀ k, 0 ≤ k → k < J 64 12 * 3 → J' 9 k = J 67 k) (e4 : ∀ k, 0 ≤ k → k < 61 → J' 19 k = J 77 k) (e5 : J' 5 5 = J 63 5 ∧ J' 5 6 = J 63 6) (e6 : ∀ q, 0 ≤ q → q < J 63 6 → ∀ x, 0 ≤ x → x < 61 → J' (zU ((J 63 5 + q) % 40)) x = J (zV ((J 63 5 + q) % 40)) x) : CAL J' (gsy S G) ni Ri := by
  have hm := ck.1.1
  have m2 := hK.1.2
  have u1 := ck.2.2.1
  refine ⟨⟨?_, e1.trans hm, fun t a b => ?_, fun t i a b x y => ?_⟩, ck.2.1.of hK.2.1 (fun k a b => e4 k (by omega) b), e5.2.trans u1, fun k a b => ?_⟩
  · rw [f 1 (by decide), f 2 (by decide), f 3 (by decide), f 4 (by decide)]
    exact c.1.1
  · have b' : t < G 165 0 := b
    have q := e2 t a (by omega)
    rw [q.1, q.2.2]
    exact ck.1.2.1 t a b
  · have b' : t < G 165 0 := b
    have q := e2 t a (by omega)
    rw [q.2.1] at y
    have ar : 0 ≤ J 66 t ∧ J 66 t ≤ 3 := (hK.1.1.ar a (by omega)).1
    rw [e3 _ (by omega) (by omega)]
    exact ck.1.2.2 t i a b x y
  · rw [e5.1]
    exact (ck.2.2.2 k a b).cp (hK.2.2.2 k a (by omega)).1.1 (e6 k a (by omega))
