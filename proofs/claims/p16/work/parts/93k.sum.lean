/-! ===== sums over a term's parts, and which of two is greater: over any table ===== -/
/-- depths fall: what a table of arities and arguments must have -/
def TD (m : Int) (ar : Int → Int) (ag : Int → Int → Int) (dp : Int → Int) : Prop := ∀ t, 0 ≤ t → t < m → (0 ≤ ar t ∧ ar t ≤ 3) ∧ (1 ≤ dp t ∧ dp t ≤ 6) ∧ ∀ i, 0 ≤ i → i < ar t → (0 ≤ ag t i ∧ ag t i < t) ∧ dp (ag t i) < dp t
def sps (f : Int → Int) (ag : Int → Int → Int) (t : Int) : Nat → Int
  | 0 => 0
  | i + 1 => sps f ag t i + f (ag t i)
def sS (g : Int → Int) (ar : Int → Int) (ag : Int → Int → Int) : Nat → Int → Int
  | 0, _ => 0
  | k + 1, t => g t + sps (sS g ar ag k) ag t (ar t).toNat
def sV (g : Int → Int) (ar : Int → Int) (ag : Int → Int → Int) (t : Int) : Int := sS g ar ag 6 t
theorem sps_cg {f g : Int → Int} {ag ag' : Int → Int → Int} {t : Int} : ∀ (n : Nat), (∀ i : Nat, i < n → f (ag t i) = g (ag' t i)) → sps f ag t n = sps g ag' t n
  | 0, _ => rfl
  | n + 1, h => by
    show sps f ag t n + _ = sps g ag' t n + _
    rw [sps_cg n (fun i hi => h i (by omega)), h n (by omega)]
theorem sS_st {m : Int} {g ar dp : Int → Int} {ag : Int → Int → Int} (h : TD m ar ag dp) : ∀ (k k' : Nat) (t : Int), (0 ≤ t ∧ t < m) → dp t ≤ k → dp t ≤ k' → sS g ar ag k t = sS g ar ag k' t
  | 0, _, t, ht, h1, _ => by have := (h t ht.1 ht.2).2.1; omega
  | _ + 1, 0, t, ht, _, h2 => by have := (h t ht.1 ht.2).2.1; omega
  | k + 1, k' + 1, t, ht, h1, h2 => by
    obtain ⟨a, b, c⟩ := h t ht.1 ht.2
    show g t + sps (sS g ar ag k) ag t (ar t).toNat = g t + sps (sS g ar ag k') ag t (ar t).toNat
    congr 1
    refine sps_cg _ (fun i hi => ?_)
    have hb := c (i : Int) (by omega) (by omega)
    exact sS_st h k k' _ ⟨hb.1.1, by omega⟩ (by omega) (by omega)
theorem sV_un {m : Int} {g ar dp : Int → Int} {ag : Int → Int → Int} (h : TD m ar ag dp) {t : Int} (ht : 0 ≤ t ∧ t < m) : sV g ar ag t = g t + sps (sV g ar ag) ag t (ar t).toNat := by
  have := (h t ht.1 ht.2).2.1
  exact sS_st h 6 7 t ht (by omega) (by omega)
/-- two tables that are alike below m have the same sums -/
theorem sV_cg {m : Int} {g g' ar ar' dp : Int → Int} {ag ag' : Int → Int → Int} (h : TD m ar ag dp) (hg : ∀ t, 0 ≤ t → t < m → g' t = g t) (ha : ∀ t, 0 ≤ t → t < m → ar' t = ar t) (hh : ∀ t, 0 ≤ t → t < m → ∀ i, 0 ≤ i → i < ar t → ag' t i = ag t i) : ∀ (k : Nat) (t : Int), (0 ≤ t ∧ t < m) → sS g' ar' ag' k t = sS g ar ag k t
  | 0, _, _ => rfl
  | k + 1, t, ht => by
    obtain ⟨a, b, c⟩ := h t ht.1 ht.2
    show g' t + sps (sS g' ar' ag' k) ag' t (ar' t).toNat = g t + sps (sS g ar ag k) ag t (ar t).toNat
    rw [hg t ht.1 ht.2, ha t ht.1 ht.2]
    congr 1
    refine sps_cg _ (fun i hi => ?_)
    have hb := c (i : Int) (by omega) (by omega)
    rw [hh t ht.1 ht.2 (i : Int) (by omega) (by omega)]
    exact sV_cg h hg ha hh k _ ⟨hb.1.1, by omega⟩
theorem sS_bd {m c : Int} {g ar dp : Int → Int} {ag : Int → Int → Int} (h : TD m ar ag dp) (hg : ∀ t, 0 ≤ t → t < m → 0 ≤ g t ∧ g t ≤ c) : ∀ (k : Nat) (t : Int), (0 ≤ t ∧ t < m) → dp t ≤ k → 0 ≤ sV g ar ag t ∧ sV g ar ag t ≤ c * zB (dp t)
  | 0, t, ht, h1 => by have := (h t ht.1 ht.2).2.1; omega
  | k + 1, t, ht, h1 => by
    obtain ⟨a, b, q⟩ := h t ht.1 ht.2
    have hc : 0 ≤ c := by have := hg t ht.1 ht.2; omega
    rw [sV_un h ht]
    have h0 := hg t ht.1 ht.2
    have hs : ∀ i : Nat, (i : Int) < ar t → 0 ≤ sV g ar ag (ag t i) ∧ sV g ar ag (ag t i) * 3 + c ≤ c * zB (dp t) := fun i hi => by
      have hb := q (i : Int) (by omega) hi
      have h7 := sS_bd h hg k (ag t i) ⟨hb.1.1, by omega⟩ (by omega)
      have h6 := (h (ag t i) hb.1.1 (by omega)).2.1
      have h5 := zB_step hb.2 h6.1 (by omega)
      have h4 : c * (3 * zB (dp (ag t i)) + 1) ≤ c * zB (dp t) := Int.mul_le_mul_of_nonneg_left h5 hc
      have e : c * (3 * zB (dp (ag t i)) + 1) = 3 * (c * zB (dp (ag t i))) + c := by
        rw [Int.mul_add, Int.mul_one, ← Int.mul_assoc, Int.mul_comm c 3, Int.mul_assoc]
      omega
    have h9 : c ≤ c * zB (dp t) := by
      have : c * 1 ≤ c * zB (dp t) := Int.mul_le_mul_of_nonneg_left (zB_rg _).1 hc
      omega
    have hc3 : ar t = 0 ∨ ar t = 1 ∨ ar t = 2 ∨ ar t = 3 := by omega
    have s0 := hs 0
    have s1 := hs 1
    have s2 := hs 2
    rcases hc3 with e | e | e | e <;> rw [e] at s0 s1 s2 ⊢
    · show 0 ≤ g t + 0 ∧ g t + 0 ≤ _
      omega
    · show 0 ≤ g t + (0 + sV g ar ag (ag t (0 : Nat))) ∧ g t + (0 + sV g ar ag (ag t (0 : Nat))) ≤ _
      have := s0 (by decide)
      omega
    · show 0 ≤ g t + (0 + sV g ar ag (ag t (0 : Nat)) + sV g ar ag (ag t (1 : Nat))) ∧ g t + (0 + sV g ar ag (ag t (0 : Nat)) + sV g ar ag (ag t (1 : Nat))) ≤ _
      have := s0 (by decide)
      have := s1 (by decide)
      omega
    · show 0 ≤ g t + (0 + sV g ar ag (ag t (0 : Nat)) + sV g ar ag (ag t (1 : Nat)) + sV g ar ag (ag t (2 : Nat))) ∧ g t + (0 + sV g ar ag (ag t (0 : Nat)) + sV g ar ag (ag t (1 : Nat)) + sV g ar ag (ag t (2 : Nat))) ≤ _
      have := s0 (by decide)
      have := s1 (by decide)
      have := s2 (by decide)
      omega
theorem sV_rg {m c : Int} {g ar dp : Int → Int} {ag : Int → Int → Int} (h : TD m ar ag dp) (hg : ∀ t, 0 ≤ t → t < m → 0 ≤ g t ∧ g t ≤ c) {t : Int} (ht : 0 ≤ t ∧ t < m) : 0 ≤ sV g ar ag t ∧ sV g ar ag t ≤ c * 364 := by
  have h1 := (h t ht.1 ht.2).2.1
  have h2 := sS_bd h hg 6 t ht (by omega)
  have hc : 0 ≤ c := by have := hg t ht.1 ht.2; omega
  have h3 : c * zB (dp t) ≤ c * 364 := Int.mul_le_mul_of_nonneg_left (zB_rg _).2 hc
  omega
theorem sps_s {f : Int → Int} {ag : Int → Int → Int} {t i : Int} (hi : 0 ≤ i) : sps f ag t (i + 1).toNat = sps f ag t i.toNat + f (ag t i) := by
  have e : (i + 1).toNat = i.toNat + 1 := by omega
  rw [e]
  show _ + f (ag t (i.toNat : Int)) = _
  rw [Int.toNat_of_nonneg hi]
/-- the first argument in which two are unlike -/
def fuB (ar : Int → Int) (ag : Int → Int → Int) (s t i : Int) : Prop := (0 ≤ i ∧ i < ar s) ∧ ¬ ag s i = ag t i ∧ ∀ j, 0 ≤ j → j < i → ag s j = ag t j
theorem fuB_u {ar : Int → Int} {ag : Int → Int → Int} {s t i j : Int} (h : fuB ar ag s t i) (g : fuB ar ag s t j) : i = j := by
  rcases Int.lt_trichotomy i j with e | e | e
  · exact absurd (g.2.2 i h.1.1 e) h.2.1
  · exact e
  · exact absurd (h.2.2 j g.1.1 e) g.2.1
/-- which of two terms is greater -/
def gtP (cn : Int → Int → Int) (wt hd ar : Int → Int) (ag : Int → Int → Int) : Nat → Int → Int → Prop
  | 0, _, _ => False
  | k + 1, s, t => ¬ s = t ∧ (∀ v, 0 ≤ v → v < 8 → cn v t ≤ cn v s) ∧ (wt t < wt s ∨ (wt t = wt s ∧ (hd t < 0 ∨ (0 ≤ hd s ∧ 0 ≤ hd t ∧ (hd t < hd s ∨ (hd s = hd t ∧ ∃ i, fuB ar ag s t i ∧ gtP cn wt hd ar ag k (ag s i) (ag t i)))))))
theorem gtP_st {m : Int} {cn : Int → Int → Int} {wt hd ar dp : Int → Int} {ag : Int → Int → Int} (h : TD m ar ag dp) : ∀ (k k' : Nat) (s t : Int), (0 ≤ s ∧ s < m) → dp s ≤ k → dp s ≤ k' → (gtP cn wt hd ar ag k s t ↔ gtP cn wt hd ar ag k' s t)
  | 0, _, s, t, hs, h1, _ => by have := (h s hs.1 hs.2).2.1; omega
  | _ + 1, 0, s, t, hs, _, h2 => by have := (h s hs.1 hs.2).2.1; omega
  | k + 1, k' + 1, s, t, hs, h1, h2 => by
    obtain ⟨a, b, c⟩ := h s hs.1 hs.2
    have e : ∀ i, fuB ar ag s t i → (gtP cn wt hd ar ag k (ag s i) (ag t i) ↔ gtP cn wt hd ar ag k' (ag s i) (ag t i)) := fun i hi => by
      have hb := c i hi.1.1 hi.1.2
      exact gtP_st h k k' _ _ ⟨hb.1.1, by omega⟩ (by omega) (by omega)
    show (¬ s = t ∧ _ ∧ (_ ∨ (_ ∧ (_ ∨ (_ ∧ _ ∧ (_ ∨ (_ ∧ ∃ i, _ ∧ _))))))) ↔ (¬ s = t ∧ _ ∧ (_ ∨ (_ ∧ (_ ∨ (_ ∧ _ ∧ (_ ∨ (_ ∧ ∃ i, _ ∧ _)))))))
    constructor
    · rintro ⟨p1, p2, p3⟩
      refine ⟨p1, p2, p3.imp id (fun ⟨q1, q2⟩ => ⟨q1, q2.imp id (fun ⟨r1, r2, r3⟩ => ⟨r1, r2, r3.imp id (fun ⟨u1, i, u2, u3⟩ => ⟨u1, i, u2, (e i u2).1 u3⟩)⟩)⟩)⟩
    · rintro ⟨p1, p2, p3⟩
      refine ⟨p1, p2, p3.imp id (fun ⟨q1, q2⟩ => ⟨q1, q2.imp id (fun ⟨r1, r2, r3⟩ => ⟨r1, r2, r3.imp id (fun ⟨u1, i, u2, u3⟩ => ⟨u1, i, u2, (e i u2).2 u3⟩)⟩)⟩)⟩
theorem gtP_cg {m : Int} {cn cn' : Int → Int → Int} {wt hd ar wt' hd' ar' dp : Int → Int} {ag ag' : Int → Int → Int} (h : TD m ar ag dp) (hc : ∀ v t, 0 ≤ v → v < 8 → 0 ≤ t → t < m → cn' v t = cn v t) (hw : ∀ t, 0 ≤ t → t < m → wt' t = wt t) (hh : ∀ t, 0 ≤ t → t < m → hd' t = hd t) (ha : ∀ t, 0 ≤ t → t < m → ar' t = ar t) (hg : ∀ t, 0 ≤ t → t < m → ∀ i, 0 ≤ i → i < ar t → ag' t i = ag t i) (hx : ∀ s t, 0 ≤ s → s < m → 0 ≤ t → t < m → hd s = hd t → ar s = ar t) : ∀ (k : Nat) (s t : Int), (0 ≤ s ∧ s < m) → (0 ≤ t ∧ t < m) → (gtP cn' wt' hd' ar' ag' k s t ↔ gtP cn wt hd ar ag k s t)
  | 0, _, _, _, _ => Iff.rfl
  | k + 1, s, t, hs, ht => by
    obtain ⟨a, b, c⟩ := h s hs.1 hs.2
    have e0 : hd s = hd t → ∀ i, (fuB ar' ag' s t i ↔ fuB ar ag s t i) ∧ (fuB ar ag s t i → (gtP cn' wt' hd' ar' ag' k (ag' s i) (ag' t i) ↔ gtP cn wt hd ar ag k (ag s i) (ag t i))) := fun q i => by
      have e1 := hx s t hs.1 hs.2 ht.1 ht.2 q
      have es : ∀ j, 0 ≤ j → j < ar s → ag' s j = ag s j := hg s hs.1 hs.2
      have et : ∀ j, 0 ≤ j → j < ar s → ag' t j = ag t j := fun j x y => hg t ht.1 ht.2 j x (by omega)
      refine ⟨?_, fun hf => ?_⟩
      · unfold fuB
        rw [ha s hs.1 hs.2]
        constructor
        · rintro ⟨p1, p2, p3⟩
          exact ⟨p1, by rw [← es i p1.1 p1.2, ← et i p1.1 p1.2]; exact p2, fun j x y => by rw [← es j x (by omega), ← et j x (by omega)]; exact p3 j x y⟩
        · rintro ⟨p1, p2, p3⟩
          exact ⟨p1, by rw [es i p1.1 p1.2, et i p1.1 p1.2]; exact p2, fun j x y => by rw [es j x (by omega), et j x (by omega)]; exact p3 j x y⟩
      · have hb := c i hf.1.1 hf.1.2
        have hb2 := (h t ht.1 ht.2).2.2 i hf.1.1 (by have := hf.1.2; omega)
        rw [es i hf.1.1 hf.1.2, et i hf.1.1 hf.1.2]
        exact gtP_cg h hc hw hh ha hg hx k _ _ ⟨hb.1.1, by omega⟩ ⟨hb2.1.1, by omega⟩
    show (¬ s = t ∧ (∀ v, 0 ≤ v → v < 8 → cn' v t ≤ cn' v s) ∧ (wt' t < wt' s ∨ (wt' t = wt' s ∧ (hd' t < 0 ∨ (0 ≤ hd' s ∧ 0 ≤ hd' t ∧ (hd' t < hd' s ∨ (hd' s = hd' t ∧ ∃ i, fuB ar' ag' s t i ∧ gtP cn' wt' hd' ar' ag' k (ag' s i) (ag' t i)))))))) ↔ (¬ s = t ∧ (∀ v, 0 ≤ v → v < 8 → cn v t ≤ cn v s) ∧ (wt t < wt s ∨ (wt t = wt s ∧ (hd t < 0 ∨ (0 ≤ hd s ∧ 0 ≤ hd t ∧ (hd t < hd s ∨ (hd s = hd t ∧ ∃ i, fuB ar ag s t i ∧ gtP cn wt hd ar ag k (ag s i) (ag t i))))))))
    rw [hw t ht.1 ht.2, hw s hs.1 hs.2, hh t ht.1 ht.2, hh s hs.1 hs.2]
    constructor
    · rintro ⟨p1, p2, p3⟩
      exact ⟨p1, fun v x y => by rw [← hc v t x y ht.1 ht.2, ← hc v s x y hs.1 hs.2]; exact p2 v x y, p3.imp id (fun ⟨q1, q2⟩ => ⟨q1, q2.imp id (fun ⟨r1, r2, r3⟩ => ⟨r1, r2, r3.imp id (fun ⟨u1, i, u2, u3⟩ => ⟨u1, i, ((e0 u1 i).1).1 u2, ((e0 u1 i).2 (((e0 u1 i).1).1 u2)).1 u3⟩)⟩)⟩)⟩
    · rintro ⟨p1, p2, p3⟩
      exact ⟨p1, fun v x y => by rw [hc v t x y ht.1 ht.2, hc v s x y hs.1 hs.2]; exact p2 v x y, p3.imp id (fun ⟨q1, q2⟩ => ⟨q1, q2.imp id (fun ⟨r1, r2, r3⟩ => ⟨r1, r2, r3.imp id (fun ⟨u1, i, u2, u3⟩ => ⟨u1, i, ((e0 u1 i).1).2 u2, ((e0 u1 i).2 u2).2 u3⟩)⟩)⟩)⟩
