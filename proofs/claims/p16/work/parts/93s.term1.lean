/-! ===== terms of a text: the reference follows the reading ===== -/
/-- the answer is the reading's, where nothing is at fault -/
def VQ (z : Int) (p : zJ × Int) : Prop := p.1 0 4 = 0 → z = p.2
theorem pP_f {g : zJ} {c : Int} (h : ¬ g 0 4 = 0) : pP g c = g := by unfold pP; rw [if_neg h]
theorem pU_f {g : zJ} {a b : Int} (h : ¬ g 0 4 = 0) : pU g a b = (g, a) := by unfold pU; rw [if_neg h]
theorem pT_s {k : Nat} {g : zJ} {d : Int} : pT (k + 1) g d = if g 0 4 = 0 then (if g 0 3 = 63 then (if d ≤ 6 then pV g else (pF g 2, 0)) else if g 0 3 = 2 then (if d ≤ 6 ∧ g 0 2 = g 0 1 + 1 then (if psy g (g 1 (g 0 1)) < g 164 44 then pC (pT k) (pN g) (psy g (g 1 (g 0 1))) d else (pF g 3, 0)) else (pF g 2, 0)) else (pF g 1, 0)) else (g, 0) := rfl
theorem pT_f {k : Nat} {g : zJ} {d : Int} (h : ¬ g 0 4 = 0) : pT k g d = (g, 0) := by
  cases k with
  | zero => rfl
  | succ k => rw [pT_s, if_neg h]
theorem SI.p {g : zJ} (h : SI g) {c : Int} : SI (pP g c) := by
  unfold pP
  split
  · split
    · exact h.n
    · exact h.f
  · exact h
theorem SI.u {g : zJ} (h : SI g) {a b : Int} : SI (pU g a b).1 := by
  unfold pU
  split
  · split
    · split
      · exact h.n
      · exact h.f
    · exact h.f
  · exact h
theorem SI.m {g : zJ} (h : SI g) {a x y w : Int} : SI (pMd g a x y w).1 := by
  unfold pMd
  split
  · exact h
  · split
    · exact h
    · exact h
theorem SI.a1 {T : zJ → Int → zJ × Int} (hT : ∀ g d, SI g → SI (T g d).1) {g : zJ} (h : SI g) {A d : Int} : SI (pA1 T g A d).1 := by
  unfold pA1
  split
  · exact hT _ _ h.p
  · exact h
theorem SI.a2 {T : zJ → Int → zJ × Int} (hT : ∀ g d, SI g → SI (T g d).1) {g : zJ} (h : SI g) {A d : Int} : SI (pA2 T g A d).1 := by
  unfold pA2
  split
  · exact hT _ _ (SI.a1 hT h).p
  · exact SI.a1 hT h
theorem SI.a3 {T : zJ → Int → zJ × Int} (hT : ∀ g d, SI g → SI (T g d).1) {g : zJ} (h : SI g) {A d : Int} : SI (pA3 T g A d).1 := by
  unfold pA3
  split
  · exact hT _ _ (SI.a2 hT h).p
  · exact SI.a2 hT h
theorem SI.a4 {T : zJ → Int → zJ × Int} (hT : ∀ g d, SI g → SI (T g d).1) {g : zJ} (h : SI g) {A d : Int} : SI (pA4 T g A d) := by
  unfold pA4
  split
  · exact (SI.a3 hT h).p
  · exact SI.a3 hT h
theorem SI.c {T : zJ → Int → zJ × Int} (hT : ∀ g d, SI g → SI (T g d).1) {g : zJ} (h : SI g) {s d : Int} : SI (pC T g s d).1 := by
  unfold pC
  split
  · exact (SI.a4 hT h).m
  · exact SI.a4 hT h
theorem SI.v {g : zJ} (h : SI g) : SI (pV g).1 := by
  unfold pV
  split
  · exact h.n.u.m
  · exact h.n.u
theorem SI.t : ∀ (k : Nat) (g : zJ) (d : Int), SI g → SI (pT k g d).1
  | 0, g, d, h => h
  | k + 1, g, d, h => by
    rw [pT_s]
    split
    · split
      · split
        · exact h.v
        · exact h.f
      · split
        · split
          · split
            · exact SI.c (SI.t k) h.n
            · exact h.f
          · exact h.f
        · exact h.f
    · exact h
theorem RelX.bad {J g : zJ} (h : RelX J g) (h0 : J 164 43 = 0) : g 0 4 = 99 ∨ (g 0 4 = 0 ∧ RelM J g) := h.imp id (fun q => ⟨by rw [← q.1]; exact h0, q⟩)
theorem RelX.no {J g : zJ} (h : RelX J g) (h0 : ¬ J 164 43 = 0) : ¬ g 0 4 = 0 := by
  rcases h with q | q
  · omega
  · rw [← q.1]; exact h0
theorem z_sign {l : Launch} {G : tb_G} (hl : l.stackTraces = false) (n : Nat) (J : zJ) (x : Int) (hr_x : -2147483648 ≤ x ∧ x < 2147483648) (g : zJ) (hR : RelX J g) (hS : SI g) (hP : RSP J) (hx : x = 40 ∨ x = 41 ∨ x = 44 ∨ x = 59 ∨ x = 63) : tz_Ok l G M_X12_sign 3 0 0 [.ref 164, zi x] n J (zqv (fun J' => RGw J' J ∧ (J' 164 43 = 0 → rmu J' < rmu J) ∧ RelX J' (pP g x))) zN := by
  by_cases h : g 0 4 = 99
  · exact (m_sign hl n J x hr_x hP (by omega)).mono (fun r J' _ ⟨a, b, c⟩ => ⟨a, b, c, Or.inl (by rw [pP_f (by omega)]; exact h)⟩) (fun _ _ _ h => h)
  · exact (y_sign hl n J x hr_x g (hR.resolve_left h) hS hP hx).mono (fun r J' _ ⟨a, b, c, d⟩ => ⟨a, b, c, Or.inr d⟩) (fun _ _ _ h => h)
theorem z_number {l : Launch} {G : tb_G} (hl : l.stackTraces = false) (n : Nat) (J : zJ) (a b : Int) (hr_a : -2147483648 ≤ a ∧ a < 2147483648) (hr_b : -2147483648 ≤ b ∧ b < 2147483648) (g : zJ) (hR : RelX J g) (hS : SI g) (hP : RSP J) (hab : (a = 0 ∨ a = 1) ∧ a ≤ b ∧ b ≤ 9) : tz_Ok l G M_X12_number 3 0 0 [.ref 164, zi a, zi b] n J (zqi (fun z J' => RGw J' J ∧ (a ≤ z ∧ z ≤ b) ∧ RelX J' (pU g a b).1 ∧ ((pU g a b).1 0 4 = 0 → z = (pU g a b).2))) zN := by
  by_cases h : g 0 4 = 99
  · exact (m_number hl n J a b hr_a hr_b hP hab.2.1).mono (fun r J' _ ⟨z, p, q, c, d⟩ => ⟨z, p, q, c, d, Or.inl (by rw [pU_f (by omega)]; exact h), fun e => by rw [pU_f (by omega)] at e; exact absurd e (by show ¬ g 0 4 = 0; omega)⟩) (fun _ _ _ h => h)
  · exact (y_number hl n J a b hr_a hr_b g (hR.resolve_left h) hS hP hab).mono (fun r J' _ ⟨z, p, q, c, d, e, f⟩ => ⟨z, p, q, c, d, Or.inr e, f⟩) (fun _ _ _ h => h)
theorem tmX.mg {J' J : zJ} {b r d s m A h x y w z : Int} (hM : MS J b r d s m) (hA : arh (fun k => J 170 (d + k)) h = A) (hh : -8 ≤ h ∧ h < s) (h21 : J 164 21 = 0) (hx : (0 < A → 0 ≤ x ∧ x < m) ∧ (1 < A → 0 ≤ y ∧ y < m) ∧ (2 < A → 0 ≤ w ∧ w < m)) (t : tmX J J' b r m A h x y w z) : ∃ m', MG [] [] (fun _ => false) J' J b r d s m m' ∧ 0 ≤ z ∧ z < m' := by
  have hT := hM.told
  have hA3 : 0 ≤ A ∧ A ≤ 3 := hA ▸ arh_rg hM.2.2.2.2.2.1 hh.2
  have hdx : 0 < A → 1 ≤ J 168 (b + x) ∧ J 168 (b + x) ≤ 6 := fun q => (hM.ar (hx.1 q)).2.2.1
  have hdy : 1 < A → 1 ≤ J 168 (b + y) ∧ J 168 (b + y) ≤ 6 := fun q => (hM.ar (hx.2.1 q)).2.2.1
  have hdw : 2 < A → 1 ≤ J 168 (b + w) ∧ J 168 (b + w) ≤ 6 := fun q => (hM.ar (hx.2.2 q)).2.2.1
  have m1 := zmax_le 1 (J 168 (b + x) + 1)
  have m2 := zmax_le (zmax 1 (J 168 (b + x) + 1)) (J 168 (b + y) + 1)
  have m3 := zmax_le (zmax (zmax 1 (J 168 (b + x) + 1)) (J 168 (b + y) + 1)) (J 168 (b + w) + 1)
  have hd : (1 ≤ dpS (fun t => J 168 (b + t)) A x y w ∧ (0 < A → J 168 (b + x) < dpS (fun t => J 168 (b + t)) A x y w) ∧ (1 < A → J 168 (b + y) < dpS (fun t => J 168 (b + t)) A x y w) ∧ (2 < A → J 168 (b + w) < dpS (fun t => J 168 (b + t)) A x y w)) ∧ (dpS (fun t => J 168 (b + t)) A x y w = 1 ∨ (0 < A ∧ dpS (fun t => J 168 (b + t)) A x y w = J 168 (b + x) + 1) ∨ (1 < A ∧ dpS (fun t => J 168 (b + t)) A x y w = J 168 (b + y) + 1) ∨ (2 < A ∧ dpS (fun t => J 168 (b + t)) A x y w = J 168 (b + w) + 1)) := by
    unfold dpS
    dsimp only
    by_cases a0 : A ≤ 0
    · rw [if_pos a0]; omega
    · rw [if_neg a0]
      by_cases a1 : A ≤ 1
      · rw [if_pos a1]; omega
      · rw [if_neg a1]
        by_cases a2 : A ≤ 2
        · rw [if_pos a2]; omega
        · rw [if_neg a2]; omega
  rcases t with ⟨q, hq, t1, t2, t3⟩ | ⟨t1, ⟨u1, u2, u3, u4⟩ | ⟨u1, u2, u3⟩⟩
  · subst t3
    exact ⟨m, MG.rf hM, by omega⟩
  · refine ⟨m + 1, ?_, by omega⟩
    rw [u4]
    exact hM.push (A := A) (x := x) (y := y) (w := w) u2 hh hA hA3 (fun q => ⟨by rw [if_pos q], hx.1 q, hd.1.2.1 q⟩) (fun q => ⟨by rw [if_pos q], hx.2.1 q, hd.1.2.2.1 q⟩) (fun q => ⟨by rw [if_pos q], hx.2.2 q, hd.1.2.2.2 q⟩) t1 ⟨hd.1.1, u1⟩ hd.2 h21
  · refine ⟨m, ?_, ?_⟩
    · rw [u3]
      exact (MG.rf hM).full (fun q => absurd q (by decide))
    · have : 0 < m := by
        rcases u1 with q | q
        · have : 0 < A := by
            rcases Int.lt_or_le 0 A with e | e
            · exact e
            · exfalso
              have : dpS (fun t => J 168 (b + t)) A x y w = 1 := by unfold dpS; rw [if_pos e]
              omega
          have := hx.1 this
          omega
        · omega
      omega
theorem z_tm0 {l : Launch} {G : tb_G} (hl : l.stackTraces = false) (n : Nat) (J : zJ) (h x y w : Int) (hr_h : -2147483648 ≤ h ∧ h < 2147483648) (hr_x : -2147483648 ≤ x ∧ x < 2147483648) (hr_y : -2147483648 ≤ y ∧ y < 2147483648) (hr_w : -2147483648 ≤ w ∧ w < 2147483648) (s m : Int) (g : zJ) (hM : MS J 800 126 10 s m) (hh : -8 ≤ h ∧ h < s) (hk : 0 ≤ h ∧ J 170 (10 + h) = 0) (hu : J 164 21 = 0 ∨ 0 < m) (hg : (0 < (0 : Int) → 0 ≤ x ∧ x < m) ∧ (1 < (0 : Int) → 0 ≤ y ∧ y < m) ∧ (2 < (0 : Int) → 0 ≤ w ∧ w < m)) (h43 : J 164 43 = 0) (hR : RelX J g) : tz_Ok l G M_X12_termOf 2 0 0 [.ref 164, zi h, zi x, zi y, zi w] n J (zqi (fun z J' => (∃ m', MG [] [] (fun _ => false) J' J 800 126 10 s m m' ∧ 0 ≤ z ∧ z < m') ∧ RelX J' (if g 0 4 = 0 then pMd g h x y w else (g, 0)).1 ∧ ((if g 0 4 = 0 then pMd g h x y w else (g, 0)).1 0 4 = 0 → z = (if g 0 4 = 0 then pMd g h x y w else (g, 0)).2))) zN := by
  rcases hR.bad h43 with q | ⟨q, hR⟩
  · exact (m_tu0 hl n J h x y w hr_h hr_x hr_y hr_w 800 126 10 s m hM hh hk hu hg).mono (fun r J' _ ⟨z, a, b, c⟩ => ⟨z, a, b, c, by rw [if_neg (by omega)]; exact Or.inl q, by rw [if_neg (by omega)]; intro e; exact absurd e (by show ¬ g 0 4 = 0; omega)⟩) (fun _ _ _ h => h)
  · have h21 : J 164 21 = 0 := (hR.2.2 q).2.2.2.1.2.2.1
    have hA : arh (fun k => J 170 (10 + k)) h = 0 := by rw [arh_pos hk.1]; exact hk.2
    exact (x_tm0 hl n J h x y w hr_h hr_x hr_y hr_w 800 126 10 s m hM hh hk h21 hg).mono (fun r J' _ ⟨z, a, b, c⟩ => ⟨z, a, b, c.mg hM hA hh h21 hg, by rw [if_pos q]; exact (hR.made q hM hA hh hg c).1, by rw [if_pos q]; exact (hR.made q hM hA hh hg c).2⟩) (fun _ _ _ h => h)
theorem z_tm1 {l : Launch} {G : tb_G} (hl : l.stackTraces = false) (n : Nat) (J : zJ) (h x y w : Int) (hr_h : -2147483648 ≤ h ∧ h < 2147483648) (hr_x : -2147483648 ≤ x ∧ x < 2147483648) (hr_y : -2147483648 ≤ y ∧ y < 2147483648) (hr_w : -2147483648 ≤ w ∧ w < 2147483648) (s m : Int) (g : zJ) (hM : MS J 800 126 10 s m) (hh : -8 ≤ h ∧ h < s) (hk : 0 ≤ h ∧ J 170 (10 + h) = 1) (hu : J 164 21 = 0 ∨ 0 < m) (hg : (0 < (1 : Int) → 0 ≤ x ∧ x < m) ∧ (1 < (1 : Int) → 0 ≤ y ∧ y < m) ∧ (2 < (1 : Int) → 0 ≤ w ∧ w < m)) (h43 : J 164 43 = 0) (hR : RelX J g) : tz_Ok l G M_X12_termOf 2 0 0 [.ref 164, zi h, zi x, zi y, zi w] n J (zqi (fun z J' => (∃ m', MG [] [] (fun _ => false) J' J 800 126 10 s m m' ∧ 0 ≤ z ∧ z < m') ∧ RelX J' (if g 0 4 = 0 then pMd g h x y w else (g, 0)).1 ∧ ((if g 0 4 = 0 then pMd g h x y w else (g, 0)).1 0 4 = 0 → z = (if g 0 4 = 0 then pMd g h x y w else (g, 0)).2))) zN := by
  rcases hR.bad h43 with q | ⟨q, hR⟩
  · exact (m_tu1 hl n J h x y w hr_h hr_x hr_y hr_w 800 126 10 s m hM hh hk hu hg).mono (fun r J' _ ⟨z, a, b, c⟩ => ⟨z, a, b, c, by rw [if_neg (by omega)]; exact Or.inl q, by rw [if_neg (by omega)]; intro e; exact absurd e (by show ¬ g 0 4 = 0; omega)⟩) (fun _ _ _ h => h)
  · have h21 : J 164 21 = 0 := (hR.2.2 q).2.2.2.1.2.2.1
    have hA : arh (fun k => J 170 (10 + k)) h = 1 := by rw [arh_pos hk.1]; exact hk.2
    exact (x_tm1 hl n J h x y w hr_h hr_x hr_y hr_w 800 126 10 s m hM hh hk h21 hg).mono (fun r J' _ ⟨z, a, b, c⟩ => ⟨z, a, b, c.mg hM hA hh h21 hg, by rw [if_pos q]; exact (hR.made q hM hA hh hg c).1, by rw [if_pos q]; exact (hR.made q hM hA hh hg c).2⟩) (fun _ _ _ h => h)
theorem z_tm2 {l : Launch} {G : tb_G} (hl : l.stackTraces = false) (n : Nat) (J : zJ) (h x y w : Int) (hr_h : -2147483648 ≤ h ∧ h < 2147483648) (hr_x : -2147483648 ≤ x ∧ x < 2147483648) (hr_y : -2147483648 ≤ y ∧ y < 2147483648) (hr_w : -2147483648 ≤ w ∧ w < 2147483648) (s m : Int) (g : zJ) (hM : MS J 800 126 10 s m) (hh : -8 ≤ h ∧ h < s) (hk : 0 ≤ h ∧ J 170 (10 + h) = 2) (hu : J 164 21 = 0 ∨ 0 < m) (hg : (0 < (2 : Int) → 0 ≤ x ∧ x < m) ∧ (1 < (2 : Int) → 0 ≤ y ∧ y < m) ∧ (2 < (2 : Int) → 0 ≤ w ∧ w < m)) (h43 : J 164 43 = 0) (hR : RelX J g) : tz_Ok l G M_X12_termOf 2 0 0 [.ref 164, zi h, zi x, zi y, zi w] n J (zqi (fun z J' => (∃ m', MG [] [] (fun _ => false) J' J 800 126 10 s m m' ∧ 0 ≤ z ∧ z < m') ∧ RelX J' (if g 0 4 = 0 then pMd g h x y w else (g, 0)).1 ∧ ((if g 0 4 = 0 then pMd g h x y w else (g, 0)).1 0 4 = 0 → z = (if g 0 4 = 0 then pMd g h x y w else (g, 0)).2))) zN := by
  rcases hR.bad h43 with q | ⟨q, hR⟩
  · exact (m_tu2 hl n J h x y w hr_h hr_x hr_y hr_w 800 126 10 s m hM hh hk hu hg).mono (fun r J' _ ⟨z, a, b, c⟩ => ⟨z, a, b, c, by rw [if_neg (by omega)]; exact Or.inl q, by rw [if_neg (by omega)]; intro e; exact absurd e (by show ¬ g 0 4 = 0; omega)⟩) (fun _ _ _ h => h)
  · have h21 : J 164 21 = 0 := (hR.2.2 q).2.2.2.1.2.2.1
    have hA : arh (fun k => J 170 (10 + k)) h = 2 := by rw [arh_pos hk.1]; exact hk.2
    exact (x_tm2 hl n J h x y w hr_h hr_x hr_y hr_w 800 126 10 s m hM hh hk h21 hg).mono (fun r J' _ ⟨z, a, b, c⟩ => ⟨z, a, b, c.mg hM hA hh h21 hg, by rw [if_pos q]; exact (hR.made q hM hA hh hg c).1, by rw [if_pos q]; exact (hR.made q hM hA hh hg c).2⟩) (fun _ _ _ h => h)
theorem z_tm3 {l : Launch} {G : tb_G} (hl : l.stackTraces = false) (n : Nat) (J : zJ) (h x y w : Int) (hr_h : -2147483648 ≤ h ∧ h < 2147483648) (hr_x : -2147483648 ≤ x ∧ x < 2147483648) (hr_y : -2147483648 ≤ y ∧ y < 2147483648) (hr_w : -2147483648 ≤ w ∧ w < 2147483648) (s m : Int) (g : zJ) (hM : MS J 800 126 10 s m) (hh : -8 ≤ h ∧ h < s) (hk : 0 ≤ h ∧ J 170 (10 + h) = 3) (hu : J 164 21 = 0 ∨ 0 < m) (hg : (0 < (3 : Int) → 0 ≤ x ∧ x < m) ∧ (1 < (3 : Int) → 0 ≤ y ∧ y < m) ∧ (2 < (3 : Int) → 0 ≤ w ∧ w < m)) (h43 : J 164 43 = 0) (hR : RelX J g) : tz_Ok l G M_X12_termOf 2 0 0 [.ref 164, zi h, zi x, zi y, zi w] n J (zqi (fun z J' => (∃ m', MG [] [] (fun _ => false) J' J 800 126 10 s m m' ∧ 0 ≤ z ∧ z < m') ∧ RelX J' (if g 0 4 = 0 then pMd g h x y w else (g, 0)).1 ∧ ((if g 0 4 = 0 then pMd g h x y w else (g, 0)).1 0 4 = 0 → z = (if g 0 4 = 0 then pMd g h x y w else (g, 0)).2))) zN := by
  rcases hR.bad h43 with q | ⟨q, hR⟩
  · exact (m_tu3 hl n J h x y w hr_h hr_x hr_y hr_w 800 126 10 s m hM hh hk hu hg).mono (fun r J' _ ⟨z, a, b, c⟩ => ⟨z, a, b, c, by rw [if_neg (by omega)]; exact Or.inl q, by rw [if_neg (by omega)]; intro e; exact absurd e (by show ¬ g 0 4 = 0; omega)⟩) (fun _ _ _ h => h)
  · have h21 : J 164 21 = 0 := (hR.2.2 q).2.2.2.1.2.2.1
    have hA : arh (fun k => J 170 (10 + k)) h = 3 := by rw [arh_pos hk.1]; exact hk.2
    exact (x_tm3 hl n J h x y w hr_h hr_x hr_y hr_w 800 126 10 s m hM hh hk h21 hg).mono (fun r J' _ ⟨z, a, b, c⟩ => ⟨z, a, b, c.mg hM hA hh h21 hg, by rw [if_pos q]; exact (hR.made q hM hA hh hg c).1, by rw [if_pos q]; exact (hR.made q hM hA hh hg c).2⟩) (fun _ _ _ h => h)
set_option maxHeartbeats 4000000 in
set_option maxRecDepth 100000 in
theorem x_varTerm {l : Launch} {G : tb_G} (hl : l.stackTraces = false) (n : Nat) (J : zJ) (v : Int) (hr_v : -2147483648 ≤ v ∧ v < 2147483648) (s m : Int) (hM : MS J 800 126 10 s m) (hv : 0 ≤ v ∧ v < 8) (h21 : J 164 21 = 0) : tz_Ok l G M_X12_variableTerm 3 0 0 [.ref 164, zi v] n J (zqi (fun z J' => tmX J J' 800 126 m 0 (-1 - v) 0 0 0 z)) zN := by
  refine tz_Ok.of hl (by decide +kernel) rfl (tb_c1 rfl) (Nat.le_of_ble_eq_true rfl) ?_
  show tz_At l G M_X12_variableTerm (tb_rm 3 0 0) none (tb_ZM G 0 0 (zQ n 0 (zqi (fun z J' => tmX J J' 800 126 m 0 (-1 - v) 0 0 0 z))) (zX n 0 zN)) 0 0 n J 0 [some (.ref 164), some (zi v)] []
  have hT := hM.told
  refine tz_aload_n (pc := 0) dX12_variableTerm_0 rfl rfl ?_
  refine tz_iconst (pc := 1) dX12_variableTerm_1 ?_
  refine tz_iload_n (pc := 2) dX12_variableTerm_2 rfl rfl ?_
  refine tz_isub (pc := 3) (v := (-1) - v) dX12_variableTerm_3 rfl ?_
  refine tz_iconst (pc := 4) dX12_variableTerm_4 ?_
  refine tz_iconst (pc := 5) dX12_variableTerm_5 ?_
  refine tz_iconst (pc := 6) dX12_variableTerm_6 ?_
  refine tz_cV (pc := 7) (x_tmN hl n _ _ _ _ _ (by omega) (by decide) (by decide) (by decide) 800 126 10 s m hM (by omega) (by omega) h21 (by omega)) vl_X12_107 dX12_variableTerm_7 o_164 rfl rfl (Nat.le_of_ble_eq_true rfl) ⟨(Nat.le_of_ble_eq_true rfl), (Nat.le_of_ble_eq_true rfl)⟩ rfl rfl (Nat.le_of_ble_eq_true rfl) (Nat.le_of_ble_eq_true rfl) (fun r9 J_7 hq9 => ?_)
  obtain ⟨z_7, rfl, hz_7, t1⟩ := hq9
  exact tz_iret (pc := 10) (z := z_7) dX12_variableTerm_10 rfl (Nat.le_of_ble_eq_true rfl) (Nat.le_of_ble_eq_true rfl) ⟨Nat.le_refl _, Nat.le_add_right _ _⟩ ⟨_, rfl, (by omega), t1⟩

set_option maxHeartbeats 4000000 in
set_option maxRecDepth 100000 in
theorem x_symOf {l : Launch} {G : tb_G} (hl : l.stackTraces = false) (n : Nat) (J : zJ) (x : Int) (hr_x : -2147483648 ≤ x ∧ x < 2147483648)  (h0 : 0 ≤ J 164 44 ∧ J 164 44 ≤ 10) : tz_Ok l G M_X12_symbolOf 0 0 0 [.ref 164, zi x] n J (zqi (fun z J' => J = J' ∧ ((0 ≤ z ∧ z < J 164 44 ∧ fnB (fun k => decide (¬ J 169 (10 + k) = x)) (J 164 44) 0 = z) ∨ (z = -1 ∧ fnB (fun k => decide (¬ J 169 (10 + k) = x)) (J 164 44) 0 = J 164 44)))) zN := by
  refine tz_Ok.of hl (by decide +kernel) rfl (tb_c1 rfl) (Nat.le_of_ble_eq_true rfl) ?_
  show tz_At l G M_X12_symbolOf (tb_rm 0 0 0) none (tb_ZM G 0 0 (zQ n 0 (zqi (fun z J' => J = J' ∧ ((0 ≤ z ∧ z < J 164 44 ∧ fnB (fun k => decide (¬ J 169 (10 + k) = x)) (J 164 44) 0 = z) ∨ (z = -1 ∧ fnB (fun k => decide (¬ J 169 (10 + k) = x)) (J 164 44) 0 = J 164 44))))) (zX n 0 zN)) 0 0 n J 0 [some (.ref 164), some (zi x), none] []
  refine tz_iconst (pc := 0) dX12_symbolOf_0 ?_
  refine tz_istore_n (pc := 1) (L2 := [_, _, _]) dX12_symbolOf_1 rfl (by decide) rfl ?_
  have loop2 : ∀ (f9 : Nat) (k : Int), ((10 - k).toNat) < f9 → (0 ≤ k ∧ k ≤ J 164 44) → (∀ q, 0 ≤ q → q < k → ¬ J 169 (10 + q) = x) → tz_At l G M_X12_symbolOf (tb_rm 0 0 0) none (tb_ZM G 0 0 (zQ n 0 (zqi (fun z J' => J = J' ∧ ((0 ≤ z ∧ z < J 164 44 ∧ fnB (fun k => decide (¬ J 169 (10 + k) = x)) (J 164 44) 0 = z) ∨ (z = -1 ∧ fnB (fun k => decide (¬ J 169 (10 + k) = x)) (J 164 44) 0 = J 164 44))))) (zX n 0 zN)) 0 0 n J 2 [some (.ref 164), some (zi x), some (zi k)] [] := by
    intro f9
    induction f9 with
    | zero => intro k hm9; exact absurd hm9 (Nat.not_lt_zero _)
    | succ f9 ih2 =>
      intro k hm2 hk hq
      refine tz_iload_n (pc := 2) dX12_symbolOf_2 rfl rfl ?_
      refine tz_aload_n (pc := 3) dX12_symbolOf_3 rfl rfl ?_
      refine tz_fI (pc := 4) (kz := 44) (v := (J 164 44)) dX12_symbolOf_4 fl_X12_287 i_164_44 rfl rfl (fun r_4 => ?_)
      refine tz_icmp_ge (pc := 7) (tgt := 31) dX12_symbolOf_7 (by decide) (by omega) (by omega) (fun h_7 => ?_) (fun h_7 => ?_)
      · refine tz_iconst (pc := 31) dX12_symbolOf_31 ?_
        exact tz_iret (pc := 32) (z := (-1)) dX12_symbolOf_32 rfl (Nat.le_of_ble_eq_true rfl) (Nat.le_of_ble_eq_true rfl) ⟨Nat.le_refl _, Nat.le_add_right _ _⟩ ⟨_, rfl, (by decide), ⟨rfl, Or.inr ⟨rfl, fnB_eq (by omega) (by omega) (fun q a b => decide_eq_true (hq q a (by omega))) (Or.inl rfl)⟩⟩⟩
      · refine tz_aload_n (pc := 10) dX12_symbolOf_10 rfl rfl ?_
        refine tz_fR (pc := 11) dX12_symbolOf_11 fl_X12_22 r_164_4 ?_
        refine tz_bipush (pc := 14) dX12_symbolOf_14 (by decide) ?_
        refine tz_iload_n (pc := 16) dX12_symbolOf_16 rfl rfl ?_
        refine tz_iadd (pc := 17) (v := 10 + k) dX12_symbolOf_17 rfl ?_
        refine tz_aL (pc := 18) (z := (10 + k)) (v := (J 169 (10 + k))) dX12_symbolOf_18 a_169 rfl (by omega) rfl (fun r_18 => ?_)
        refine tz_iload_n (pc := 19) dX12_symbolOf_19 rfl rfl ?_
        refine tz_icmp_ne (pc := 20) (tgt := 25) dX12_symbolOf_20 (by decide) (by omega) (by omega) (fun h_20 => ?_) (fun h_20 => ?_)
        · refine tz_iinc (pc := 25) (z := k + 1) (L2 := [_, _, _]) dX12_symbolOf_25 rfl (by omega) rfl ?_
          refine tz_goto (pc := 28) (tgt := 2) dX12_symbolOf_28 (by decide) ?_
          exact ih2 (k + 1) (by omega) (by omega) (fun q a b => (Decidable.em (q = k)).elim (fun e => by rw [e]; omega) (fun e => hq q a (by omega)))
        · refine tz_iload_n (pc := 23) dX12_symbolOf_23 rfl rfl ?_
          exact tz_iret (pc := 24) (z := k) dX12_symbolOf_24 rfl (Nat.le_of_ble_eq_true rfl) (Nat.le_of_ble_eq_true rfl) ⟨Nat.le_refl _, Nat.le_add_right _ _⟩ ⟨_, rfl, (by omega), ⟨rfl, Or.inl ⟨by omega, by omega, fnB_eq (by omega) (by omega) (fun q a b => decide_eq_true (hq q a b)) (Or.inr (decide_eq_false (fun e => e (by omega))))⟩⟩⟩
  exact loop2 _ 0 (Nat.lt_succ_self _) (by omega) (fun q a b => by omega)

set_option maxHeartbeats 4000000 in
set_option maxRecDepth 100000 in
theorem z_term1R {l : Launch} {G : tb_G} (hl : l.stackTraces = false) (n : Nat) : ∀ (r9 : Nat) (J : zJ) (x : Int) (hr_x : -2147483648 ≤ x ∧ x < 2147483648) (s m : Int) (g : zJ) (hM : MS J 800 126 10 s m) (hP : RSP J) (hu : J 164 21 = 0 ∨ 0 < m) (h44 : J 164 44 = s) (hx : 1 ≤ x ∧ x ≤ 7) (hX : RelX J g) (hS : SI g), ((7 - x).toNat) < r9 → tz_Ok l G M_X12_term1 (6 + 1 * r9) 0 0 [.ref 164, zi x] n J (zqi (fun z J' => ∃ m', MRT J' J s m m' ∧ TV J' z m' ∧ RelX J' (pT r9 g x).1 ∧ VQ z (pT r9 g x))) zN := by
  intro r9
  induction r9 with
  | zero => intro J x hr_x s m g hM hP hu h44 hx hX hS hm9; exact absurd hm9 (Nat.not_lt_zero _)
  | succ r9 ih =>
    intro J x hr_x s m g hM hP hu h44 hx hX hS hm9
    by_cases h99 : g 0 4 = 99
    · exact (m_term1R hl n (r9 + 1) J x hr_x s m hM hP hu h44 hx hm9).mono (fun r J' _ ⟨z, a, b, c, d, e⟩ => ⟨z, a, b, c, d, e, by rw [pT_f (by omega)]; exact Or.inl h99, fun q9 => absurd (show g 0 4 = 0 from by rw [pT_f (by omega)] at q9; exact q9) (by omega)⟩) (fun _ _ _ h => h)
    have hR := hX.resolve_left h99
    refine tz_Ok.of hl (by decide +kernel) rfl (tb_c1 rfl) (Nat.le_of_ble_eq_true rfl) ?_
    show tz_At l G M_X12_term1 (tb_rm (6 + 1 * (r9 + 1)) 0 0) none (tb_ZM G 0 0 (zQ n 0 (zqi (fun z J' => ∃ m', MRT J' J s m m' ∧ TV J' z m' ∧ RelX J' (pT (r9 + 1) g x).1 ∧ VQ z (pT (r9 + 1) g x)))) (zX n 0 zN)) 0 0 n J 0 [some (.ref 164), some (zi x), none, none, none, none, none] []
    have hT0 := hM.told
    have g0 := MRT.rf hM hP hu
    clear hu
    refine tz_aload_n (pc := 0) dX12_term1_0 rfl rfl ?_
    refine tz_fI (pc := 1) (kz := 43) (v := (J 164 43)) dX12_term1_1 fl_X12_273 i_164_43 rfl rfl (fun r_1 => ?_)
    refine tz_if_ne (pc := 4) (tgt := 37) dX12_term1_4 (by decide) (by omega) (fun h_4 => ?_) (fun h_4 => ?_)
    · refine tz_iconst (pc := 37) dX12_term1_37 ?_
      exact tz_iret (pc := 38) (z := 0) dX12_term1_38 rfl (Nat.le_of_ble_eq_true rfl) (Nat.le_of_ble_eq_true rfl) ⟨Nat.le_refl _, Nat.le_add_right _ _⟩ ⟨_, rfl, (by decide), ⟨m, g0, fun q9 => absurd q9 h_4, by rw [pT_f (by rw [← hR.1]; exact h_4)]; exact Or.inr hR, fun q9 => absurd (show g 0 4 = 0 by rw [pT_f (by rw [← hR.1]; exact h_4)] at q9; exact q9) (by rw [← hR.1]; exact h_4)⟩⟩
    · have h0 : g 0 4 = 0 := by rw [← hR.1]; omega
      have hT := hR.2.2 h0
      refine tz_aload_n (pc := 7) dX12_term1_7 rfl rfl ?_
      refine tz_aload_n (pc := 8) dX12_term1_8 rfl rfl ?_
      refine tz_fI (pc := 9) (kz := 38) (v := (J 164 38)) dX12_term1_9 fl_X12_261 i_164_38 rfl rfl (fun r_9 => ?_)
      refine tz_iconst (pc := 12) dX12_term1_12 ?_
      refine tz_icmp_eq (pc := 13) (tgt := 25) dX12_term1_13 (by decide) (by omega) (by decide) (fun h_13 => ?_) (fun h_13 => ?_)
      · refine tz_iconst (pc := 25) dX12_term1_25 ?_
        refine tz_goto (pc := 26) (tgt := 30) dX12_term1_26 (by decide) ?_
        refine tz_iconst (pc := 30) dX12_term1_30 ?_
        refine tz_cV (pc := 31) (y_wants hl n _ _ _ (by decide) (by decide) g hR hP (by decide)) vl_X12_276 dX12_term1_31 o_164 rfl rfl (Nat.le_of_ble_eq_true rfl) ⟨(show 0 + 1 ≤ 6 + 1 * (r9 + 1) by omega), (show 8 + (3 + 11) + 40 * (0) ≤ 40 * (6 + 1 * (r9 + 1)) by omega)⟩ rfl rfl (Nat.le_of_ble_eq_true rfl) (Nat.le_of_ble_eq_true rfl) (fun r9 J_31 hq9 => ?_)
        obtain ⟨z_31, rfl, hz_31, w_31, o_31⟩ := hq9
        obtain ⟨rfl, rfl⟩ : z_31 = 1 ∧ J = J_31 := by rcases o_31 with q | q | q; exact ⟨q.2.2.1, q.2.2.2⟩; exact absurd q.2.1 (by decide); exact absurd h0 q.1
        clear o_31
        refine tz_if_neT (pc := 34) (tgt := 39) (by decide) dX12_term1_34 (by decide) (by decide) ?_
        refine tz_aload_n (pc := 39) dX12_term1_39 rfl rfl ?_
        refine tz_fI (pc := 40) (kz := 42) (v := (J 164 42)) dX12_term1_40 fl_X12_258 i_164_42 rfl rfl (fun r_40 => ?_)
        refine tz_bipush (pc := 43) dX12_term1_43 (by decide) ?_
        refine tz_icmp_ne (pc := 45) (tgt := 98) dX12_term1_45 (by decide) (by omega) (by decide) (fun h_45 => ?_) (fun h_45 => ?_)
        · refine tz_aload_n (pc := 98) dX12_term1_98 rfl rfl ?_
          refine tz_aload_n (pc := 99) dX12_term1_99 rfl rfl ?_
          refine tz_aload_n (pc := 100) dX12_term1_100 rfl rfl ?_
          refine tz_fI (pc := 101) (kz := 36) (v := (J 164 36)) dX12_term1_101 fl_X12_246 i_164_36 rfl rfl (fun r_101 => ?_)
          have hp9 := hP.2.1
          refine tz_cV (pc := 104) (m_byteAt hl n _ _ (by omega) (by omega) hP.1.1.2) vl_X12_240 dX12_term1_104 o_164 rfl rfl (Nat.le_of_ble_eq_true rfl) ⟨(show 0 + 1 ≤ 6 + 1 * (r9 + 1) by omega), (show 8 + (2 + 11) + 40 * (0) ≤ 40 * (6 + 1 * (r9 + 1)) by omega)⟩ rfl rfl (Nat.le_of_ble_eq_true rfl) (Nat.le_of_ble_eq_true rfl) (fun r9 J_104 hq9 => ?_)
          obtain ⟨z_104, rfl, hz_104, rfl, -, hc9⟩ := hq9
          have hq9 : J 164 36 < J 164 37 := by rw [hT.1.1, hT.2.1]; have := hS.2.2; have := hT.1.so; omega
          have hb9 := hc9 hq9
          rw [hT.1.1, hT.2.2.1] at hb9
          refine tz_cV (pc := 107) (x_symOf hl n _ _ (by omega) (by rw [h44]; omega)) vl_X12_293 dX12_term1_107 o_164 rfl rfl (Nat.le_of_ble_eq_true rfl) ⟨(show 0 + 1 ≤ 6 + 1 * (r9 + 1) by omega), (show 8 + (3 + 11) + 40 * (0) ≤ 40 * (6 + 1 * (r9 + 1)) by omega)⟩ rfl rfl (Nat.le_of_ble_eq_true rfl) (Nat.le_of_ble_eq_true rfl) (fun r9 J_107 hq9 => ?_)
          obtain ⟨z_107, rfl, hz_107, rfl, hs9⟩ := hq9
          have hps : fnB (fun k => decide (¬ J 169 (10 + k) = z_104)) (J 164 44) 0 = psy g (g 1 (g 0 1)) := by rw [← hb9]; unfold psy; rw [hT.2.2.2.1.1]; exact fnB_cg (fun j a b => by rw [(hT.2.2.2.2.2.2.2 (10 + j) (by omega) (by rw [← hT.2.2.2.1.1, h44] at b; omega)).1])
          rw [hps, h44] at hs9
          have h4g : g 164 44 = s := by rw [← hT.2.2.2.1.1]; exact h44
          refine tz_istore_n (pc := 110) (L2 := [_, _, _, _, _, _, _]) dX12_term1_110 rfl (by decide) rfl ?_
          refine tz_aload_n (pc := 111) dX12_term1_111 rfl rfl ?_
          refine tz_aload_n (pc := 112) dX12_term1_112 rfl rfl ?_
          refine tz_fI (pc := 113) (kz := 41) (v := (J 164 41)) dX12_term1_113 fl_X12_252 i_164_41 rfl rfl (fun r_113 => ?_)
          refine tz_iconst (pc := 116) dX12_term1_116 ?_
          refine tz_icmp_ne (pc := 117) (tgt := 130) dX12_term1_117 (by decide) (by omega) (by decide) (fun h_117 => ?_) (fun h_117 => ?_)
          · refine tz_iconst (pc := 130) dX12_term1_130 ?_
            refine tz_iconst (pc := 131) dX12_term1_131 ?_
            refine tz_cV (pc := 132) (y_wants hl n _ _ _ (by decide) (by decide) g hR hP (by decide)) vl_X12_276 dX12_term1_132 o_164 rfl rfl (Nat.le_of_ble_eq_true rfl) ⟨(show 0 + 1 ≤ 6 + 1 * (r9 + 1) by omega), (show 8 + (3 + 11) + 40 * (0) ≤ 40 * (6 + 1 * (r9 + 1)) by omega)⟩ rfl rfl (Nat.le_of_ble_eq_true rfl) (Nat.le_of_ble_eq_true rfl) (fun r9 J_132 hq9 => ?_)
            obtain ⟨z_132, rfl, hz_132, w_132, o_132⟩ := hq9
            obtain ⟨rfl, v_132, r_132⟩ : z_132 = 0 ∧ ¬ J_132 164 43 = 0 ∧ RelM J_132 (pF g 2) := by rcases o_132 with q | q | q; exact absurd rfl q.2.1; exact ⟨q.2.2.1, q.2.2.2⟩; exact absurd h0 q.1
            have q_132 := MRT.w g0 w_132
            clear o_132
            refine tz_if_eqT (pc := 135) (tgt := 156) (by decide) dX12_term1_135 (by decide) (by decide) ?_
            refine tz_iconst (pc := 156) dX12_term1_156 ?_
            exact tz_iret (pc := 157) (z := 0) dX12_term1_157 rfl (Nat.le_of_ble_eq_true rfl) (Nat.le_of_ble_eq_true rfl) ⟨Nat.le_refl _, Nat.le_add_right _ _⟩ ⟨_, rfl, (by decide), (by have e9 : pT (r9 + 1) g x = (pF g 2, 0) := (by rw [pT_s, if_pos h0, if_neg (by have := hT.1.sg (c := 63) (by decide); omega), if_pos (by have := hT.1.so; omega), if_neg (by have := hT.1.so; omega)]); exact ⟨m, q_132, fun q9 => absurd q9 v_132, by rw [e9]; exact Or.inr r_132, fun q9 => absurd (r_132.1.trans (by rw [e9] at q9; exact q9)) v_132⟩)⟩
          · refine tz_iload_n (pc := 120) dX12_term1_120 rfl rfl ?_
            refine tz_bipush (pc := 121) dX12_term1_121 (by decide) ?_
            refine tz_icmp_gt (pc := 123) (tgt := 130) dX12_term1_123 (by decide) (by omega) (by decide) (fun h_123 => ?_) (fun h_123 => ?_)
            · refine tz_iconst (pc := 130) dX12_term1_130 ?_
              refine tz_iconst (pc := 131) dX12_term1_131 ?_
              refine tz_cV (pc := 132) (y_wants hl n _ _ _ (by decide) (by decide) g hR hP (by decide)) vl_X12_276 dX12_term1_132 o_164 rfl rfl (Nat.le_of_ble_eq_true rfl) ⟨(show 0 + 1 ≤ 6 + 1 * (r9 + 1) by omega), (show 8 + (3 + 11) + 40 * (0) ≤ 40 * (6 + 1 * (r9 + 1)) by omega)⟩ rfl rfl (Nat.le_of_ble_eq_true rfl) (Nat.le_of_ble_eq_true rfl) (fun r9 J_132 hq9 => ?_)
              obtain ⟨z_132, rfl, hz_132, w_132, o_132⟩ := hq9
              obtain ⟨rfl, v_132, r_132⟩ : z_132 = 0 ∧ ¬ J_132 164 43 = 0 ∧ RelM J_132 (pF g 2) := by rcases o_132 with q | q | q; exact absurd rfl q.2.1; exact ⟨q.2.2.1, q.2.2.2⟩; exact absurd h0 q.1
              have q_132 := MRT.w g0 w_132
              clear o_132
              refine tz_if_eqT (pc := 135) (tgt := 156) (by decide) dX12_term1_135 (by decide) (by decide) ?_
              refine tz_iconst (pc := 156) dX12_term1_156 ?_
              exact tz_iret (pc := 157) (z := 0) dX12_term1_157 rfl (Nat.le_of_ble_eq_true rfl) (Nat.le_of_ble_eq_true rfl) ⟨Nat.le_refl _, Nat.le_add_right _ _⟩ ⟨_, rfl, (by decide), (by have e9 : pT (r9 + 1) g x = (pF g 2, 0) := (by rw [pT_s, if_pos h0, if_neg (by have := hT.1.sg (c := 63) (by decide); omega), if_pos (by have := hT.1.so; omega), if_neg (by have := hT.1.so; omega)]); exact ⟨m, q_132, fun q9 => absurd q9 v_132, by rw [e9]; exact Or.inr r_132, fun q9 => absurd (r_132.1.trans (by rw [e9] at q9; exact q9)) v_132⟩)⟩
            · refine tz_iconst (pc := 126) dX12_term1_126 ?_
              refine tz_goto (pc := 127) (tgt := 131) dX12_term1_127 (by decide) ?_
              refine tz_iconst (pc := 131) dX12_term1_131 ?_
              refine tz_cV (pc := 132) (y_wants hl n _ _ _ (by decide) (by decide) g hR hP (by decide)) vl_X12_276 dX12_term1_132 o_164 rfl rfl (Nat.le_of_ble_eq_true rfl) ⟨(show 0 + 1 ≤ 6 + 1 * (r9 + 1) by omega), (show 8 + (3 + 11) + 40 * (0) ≤ 40 * (6 + 1 * (r9 + 1)) by omega)⟩ rfl rfl (Nat.le_of_ble_eq_true rfl) (Nat.le_of_ble_eq_true rfl) (fun r9 J_132 hq9 => ?_)
              obtain ⟨z_132, rfl, hz_132, w_132, o_132⟩ := hq9
              obtain ⟨rfl, rfl⟩ : z_132 = 1 ∧ J = J_132 := by rcases o_132 with q | q | q; exact ⟨q.2.2.1, q.2.2.2⟩; exact absurd q.2.1 (by decide); exact absurd h0 q.1
              clear o_132
              refine tz_if_eqF (pc := 135) (tgt := 156) (by decide) dX12_term1_135 (by decide) (by decide) ?_
              refine tz_aload_n (pc := 138) dX12_term1_138 rfl rfl ?_
              refine tz_iload_n (pc := 139) dX12_term1_139 rfl rfl ?_
              refine tz_iconst (pc := 140) dX12_term1_140 ?_
              refine tz_icmp_eq (pc := 141) (tgt := 148) dX12_term1_141 (by decide) (by omega) (by decide) (fun h_141 => ?_) (fun h_141 => ?_)
              · refine tz_iconst (pc := 148) dX12_term1_148 ?_
                refine tz_iconst (pc := 149) dX12_term1_149 ?_
                refine tz_cV (pc := 150) (y_wants hl n _ _ _ (by decide) (by decide) g hR hP (by decide)) vl_X12_276 dX12_term1_150 o_164 rfl rfl (Nat.le_of_ble_eq_true rfl) ⟨(show 0 + 1 ≤ 6 + 1 * (r9 + 1) by omega), (show 8 + (3 + 11) + 40 * (0) ≤ 40 * (6 + 1 * (r9 + 1)) by omega)⟩ rfl rfl (Nat.le_of_ble_eq_true rfl) (Nat.le_of_ble_eq_true rfl) (fun r9 J_150 hq9 => ?_)
                obtain ⟨z_150, rfl, hz_150, w_150, o_150⟩ := hq9
                obtain ⟨rfl, v_150, r_150⟩ : z_150 = 0 ∧ ¬ J_150 164 43 = 0 ∧ RelM J_150 (pF g 3) := by rcases o_150 with q | q | q; exact absurd rfl q.2.1; exact ⟨q.2.2.1, q.2.2.2⟩; exact absurd h0 q.1
                have q_150 := MRT.w g0 w_150
                clear o_150
                refine tz_if_neF (pc := 153) (tgt := 158) (by decide) dX12_term1_153 (by decide) (by decide) ?_
                refine tz_iconst (pc := 156) dX12_term1_156 ?_
                exact tz_iret (pc := 157) (z := 0) dX12_term1_157 rfl (Nat.le_of_ble_eq_true rfl) (Nat.le_of_ble_eq_true rfl) ⟨Nat.le_refl _, Nat.le_add_right _ _⟩ ⟨_, rfl, (by decide), (by have e9 : pT (r9 + 1) g x = (pF g 3, 0) := (by rw [pT_s, if_pos h0, if_neg (by have := hT.1.sg (c := 63) (by decide); omega), if_pos (by have := hT.1.so; omega), if_pos (by have := hT.1.so; omega), if_neg (by omega)]); exact ⟨m, q_150, fun q9 => absurd q9 v_150, by rw [e9]; exact Or.inr r_150, fun q9 => absurd (r_150.1.trans (by rw [e9] at q9; exact q9)) v_150⟩)⟩
              · refine tz_iconst (pc := 144) dX12_term1_144 ?_
                refine tz_goto (pc := 145) (tgt := 149) dX12_term1_145 (by decide) ?_
                refine tz_iconst (pc := 149) dX12_term1_149 ?_
                refine tz_cV (pc := 150) (y_wants hl n _ _ _ (by decide) (by decide) g hR hP (by decide)) vl_X12_276 dX12_term1_150 o_164 rfl rfl (Nat.le_of_ble_eq_true rfl) ⟨(show 0 + 1 ≤ 6 + 1 * (r9 + 1) by omega), (show 8 + (3 + 11) + 40 * (0) ≤ 40 * (6 + 1 * (r9 + 1)) by omega)⟩ rfl rfl (Nat.le_of_ble_eq_true rfl) (Nat.le_of_ble_eq_true rfl) (fun r9 J_150 hq9 => ?_)
                obtain ⟨z_150, rfl, hz_150, w_150, o_150⟩ := hq9
                obtain ⟨rfl, rfl⟩ : z_150 = 1 ∧ J = J_150 := by rcases o_150 with q | q | q; exact ⟨q.2.2.1, q.2.2.2⟩; exact absurd q.2.1 (by decide); exact absurd h0 q.1
                clear o_150
                refine tz_if_neT (pc := 153) (tgt := 158) (by decide) dX12_term1_153 (by decide) (by decide) ?_
                refine tz_aload_n (pc := 158) dX12_term1_158 rfl rfl ?_
                refine tz_cV (pc := 159) (y_go hl n _ g hR h0 hS) vl_X12_280 dX12_term1_159 o_164 rfl rfl (Nat.le_of_ble_eq_true rfl) ⟨(show 2 + 1 ≤ 6 + 1 * (r9 + 1) by omega), (show 8 + (2 + 11) + 40 * (2) ≤ 40 * (6 + 1 * (r9 + 1)) by omega)⟩ rfl rfl (Nat.le_of_ble_eq_true rfl) (Nat.le_of_ble_eq_true rfl) (fun r9 J_159 hq9 => ?_)
                obtain ⟨rfl, r_159, w_159, u_159⟩ := hq9
                have q_159 := MRT.w g0 w_159
                have s_159 := hS.n
                have x_159 : RelX J_159 (pN g) := Or.inr r_159
                clear u_159
                refine tz_aload_n (pc := 162) dX12_term1_162 rfl rfl ?_
                refine tz_fR (pc := 163) dX12_term1_163 fl_X12_25 r_164_5 ?_
                refine tz_bipush (pc := 166) dX12_term1_166 (by decide) ?_
                refine tz_iload_n (pc := 168) dX12_term1_168 rfl rfl ?_
                refine tz_iadd (pc := 169) (v := 10 + z_107) dX12_term1_169 rfl ?_
                refine tz_aL (pc := 170) (z := (10 + z_107)) (v := (J 170 (10 + z_107))) dX12_term1_170 a_170 rfl (by omega) (Eq.trans (congrFun (w_159.1.1 170 rfl) (10 + z_107)) rfl) (fun r_170 => ?_)
                have hA8 : 0 ≤ J 170 (10 + z_107) ∧ J 170 (10 + z_107) ≤ 3 := hM.2.2.2.2.2.1.2 z_107 (by omega) (by omega)
                have hz9 : z_107 = psy g (g 1 (g 0 1)) ∧ psy g (g 1 (g 0 1)) < s := by omega
                have hgA : (pN g) 170 (10 + psy g (g 1 (g 0 1))) = J 170 (10 + z_107) := by rw [pN_c (c := 170) (by decide), ← hz9.1]; exact ((hT.2.2.2.2.2.2.2 _ (by omega) (by omega)).2.1).symm
                rcases (show J 170 (10 + z_107) = 0 ∨ J 170 (10 + z_107) = 1 ∨ J 170 (10 + z_107) = 2 ∨ J 170 (10 + z_107) = 3 by omega) with hk9 | hk9 | hk9 | hk9
                · rw [hk9] at hgA ⊢
                  refine tz_istore_n (pc := 171) (L2 := [_, _, _, _, _, _, _]) dX12_term1_171 rfl (by decide) rfl ?_
                  refine tz_iconst (pc := 172) dX12_term1_172 ?_
                  refine tz_istore (pc := 173) (L2 := [_, _, _, _, _, _, _]) dX12_term1_173 (by decide) rfl ?_
                  refine tz_iconst (pc := 175) dX12_term1_175 ?_
                  refine tz_istore (pc := 176) (L2 := [_, _, _, _, _, _, _]) dX12_term1_176 (by decide) rfl ?_
                  refine tz_iconst (pc := 178) dX12_term1_178 ?_
                  refine tz_istore (pc := 179) (L2 := [_, _, _, _, _, _, _]) dX12_term1_179 (by decide) rfl ?_
                  refine tz_iload_n (pc := 181) dX12_term1_181 rfl rfl ?_
                  refine tz_if_leT (pc := 182) (tgt := 264) (by decide) dX12_term1_182 (by decide) (by decide) ?_
                  refine tz_aload_n (pc := 264) dX12_term1_264 rfl rfl ?_
                  refine tz_fI (pc := 265) (kz := 43) (v := (J_159 164 43)) dX12_term1_265 fl_X12_273 i_164_43 rfl rfl (fun r_265 => ?_)
                  refine tz_if_ne (pc := 268) (tgt := 285) dX12_term1_268 (by decide) (by omega) (fun h_268 => ?_) (fun h_268 => ?_)
                  · refine tz_iconst (pc := 285) dX12_term1_285 ?_
                    exact tz_iret (pc := 286) (z := 0) dX12_term1_286 rfl (Nat.le_of_ble_eq_true rfl) (Nat.le_of_ble_eq_true rfl) ⟨Nat.le_refl _, Nat.le_add_right _ _⟩ ⟨_, rfl, (by decide), (by have e9 : pT (r9 + 1) g x = (if (pN g) 0 4 = 0 then pMd (pN g) (psy g (g 1 (g 0 1)))  0 0 0 else (pN g, 0)) := (by rw [pT_s, if_pos h0, if_neg (by have := hT.1.sg (c := 63) (by decide); omega), if_pos (by have := hT.1.so; omega), if_pos (by have := hT.1.so; omega), if_pos (by omega)]; unfold pC; rw [hgA]; unfold pA4 pA3 pA2 pA1; simp only [show ¬ ((0 : Int) < 0) by decide, show ¬ ((1 : Int) < 0) by decide, show ¬ ((2 : Int) < 0) by decide, if_true, if_false]); have n9 := x_159.no (by omega); exact ⟨m, q_159, fun q9 => by omega, by rw [e9, if_neg n9]; exact x_159, fun q9 => absurd (show (pN g) 0 4 = 0 from by rw [e9, if_neg n9] at q9; exact q9) n9⟩)⟩
                  · refine tz_aload_n (pc := 271) dX12_term1_271 rfl rfl ?_
                    refine tz_iload_n (pc := 272) dX12_term1_272 rfl rfl ?_
                    refine tz_iload (pc := 273) dX12_term1_273 rfl ?_
                    refine tz_iload (pc := 275) dX12_term1_275 rfl ?_
                    refine tz_iload (pc := 277) dX12_term1_277 rfl ?_
                    refine tz_cV (pc := 279) (z_tm0 hl n _ _ _ _ _ (by omega) (by decide) (by decide) (by decide) s m _ (q_159).1.1.1 (by omega) ⟨by omega, ((congrFun ((q_159).c 170 rfl) _).trans hk9)⟩ (q_159).2.2.2.2 ⟨fun g9 => absurd g9 (by decide), fun g9 => absurd g9 (by decide), fun g9 => absurd g9 (by decide)⟩ h_268 x_159) vl_X12_107 dX12_term1_279 o_164 rfl rfl (Nat.le_of_ble_eq_true rfl) ⟨(show 2 + 1 ≤ 6 + 1 * (r9 + 1) by omega), (show 8 + (8 + 11) + 40 * (2) ≤ 40 * (6 + 1 * (r9 + 1)) by omega)⟩ rfl rfl (Nat.le_of_ble_eq_true rfl) (Nat.le_of_ble_eq_true rfl) (fun r9 J_279 hq9 => ?_)
                    obtain ⟨z_279, rfl, hz_279, ⟨m_279, g_279, h_279⟩, x_279, y_279⟩ := hq9
                    have q_279 := MRT.t q_159 g_279 (by omega)
                    refine tz_goto (pc := 282) (tgt := 286) dX12_term1_282 (by decide) ?_
                    exact tz_iret (pc := 286) (z := z_279) dX12_term1_286 rfl (Nat.le_of_ble_eq_true rfl) (Nat.le_of_ble_eq_true rfl) ⟨Nat.le_refl _, Nat.le_add_right _ _⟩ ⟨_, rfl, (by omega), (by have e9 : pT (r9 + 1) g x = (if (pN g) 0 4 = 0 then pMd (pN g) (psy g (g 1 (g 0 1)))  0 0 0 else (pN g, 0)) := (by rw [pT_s, if_pos h0, if_neg (by have := hT.1.sg (c := 63) (by decide); omega), if_pos (by have := hT.1.so; omega), if_pos (by have := hT.1.so; omega), if_pos (by omega)]; unfold pC; rw [hgA]; unfold pA4 pA3 pA2 pA1; simp only [show ¬ ((0 : Int) < 0) by decide, show ¬ ((1 : Int) < 0) by decide, show ¬ ((2 : Int) < 0) by decide, if_true, if_false]); have e8 : (if (pN g) 0 4 = 0 then pMd (pN g) (psy g (g 1 (g 0 1)))  0 0 0 else (pN g, 0)) = (if (pN g) 0 4 = 0 then pMd (pN g) z_107  0 0 0 else (pN g, 0)) := (by by_cases q9 : (pN g) 0 4 = 0; (rw [if_pos q9, if_pos q9]; skip; rw [← hz9.1]); rw [if_neg q9, if_neg q9]); exact ⟨m_279, q_279, fun _ => h_279, by rw [e9, e8]; exact x_279, by rw [e9, e8]; exact y_279⟩)⟩
                · rw [hk9] at hgA ⊢
                  refine tz_istore_n (pc := 171) (L2 := [_, _, _, _, _, _, _]) dX12_term1_171 rfl (by decide) rfl ?_
                  refine tz_iconst (pc := 172) dX12_term1_172 ?_
                  refine tz_istore (pc := 173) (L2 := [_, _, _, _, _, _, _]) dX12_term1_173 (by decide) rfl ?_
                  refine tz_iconst (pc := 175) dX12_term1_175 ?_
                  refine tz_istore (pc := 176) (L2 := [_, _, _, _, _, _, _]) dX12_term1_176 (by decide) rfl ?_
                  refine tz_iconst (pc := 178) dX12_term1_178 ?_
                  refine tz_istore (pc := 179) (L2 := [_, _, _, _, _, _, _]) dX12_term1_179 (by decide) rfl ?_
                  refine tz_iload_n (pc := 181) dX12_term1_181 rfl rfl ?_
                  refine tz_if_leF (pc := 182) (tgt := 264) (by decide) dX12_term1_182 (by decide) (by decide) ?_
                  refine tz_aload_n (pc := 185) dX12_term1_185 rfl rfl ?_
                  refine tz_bipush (pc := 186) dX12_term1_186 (by decide) ?_
                  refine tz_cV (pc := 188) (z_sign hl n _ _ (by decide) _ x_159 s_159 (q_159).2.1 (by decide)) vl_X12_296 dX12_term1_188 o_164 rfl rfl (Nat.le_of_ble_eq_true rfl) ⟨(show 3 + 1 ≤ 6 + 1 * (r9 + 1) by omega), (show 8 + (2 + 11) + 40 * (3) ≤ 40 * (6 + 1 * (r9 + 1)) by omega)⟩ rfl rfl (Nat.le_of_ble_eq_true rfl) (Nat.le_of_ble_eq_true rfl) (fun r9 J_188 hq9 => ?_)
                  obtain ⟨rfl, w_188, b_188, x_188⟩ := hq9
                  have q_188 := MRT.w q_159 w_188
                  have s_188 := s_159.p (c := 40)
                  clear b_188
                  refine tz_aload_n (pc := 191) dX12_term1_191 rfl rfl ?_
                  refine tz_iload_n (pc := 192) dX12_term1_192 rfl rfl ?_
                  refine tz_iconst (pc := 193) dX12_term1_193 ?_
                  refine tz_iadd (pc := 194) (v := x + 1) dX12_term1_194 rfl ?_
                  refine tz_cV (pc := 195) (ih _ _ (by omega) s m _ (q_188).1.1.1 (q_188).2.1 (q_188).2.2.2.2 (((q_188).f 44 rfl).trans h44) (by omega) x_188 s_188 (by omega)) vl_X12_298 dX12_term1_195 o_164 rfl rfl (Nat.le_of_ble_eq_true rfl) ⟨(show (6 + 1 * r9) + 1 ≤ 6 + 1 * (r9 + 1) by omega), (show 8 + (7 + 11) + 40 * ((6 + 1 * r9)) ≤ 40 * (6 + 1 * (r9 + 1)) by omega)⟩ rfl rfl (Nat.le_of_ble_eq_true rfl) (Nat.le_of_ble_eq_true rfl) (fun r9 J_195 hq9 => ?_)
                  obtain ⟨z_195, rfl, hz_195, m_195, w_195, h_195, x_195, y_195⟩ := hq9
                  have q_195 := MRT.tr q_188 w_195
                  have l_195 := w_195.1.1.2
                  have s_195 := SI.t r9 _ (x + 1) s_188
                  refine tz_istore (pc := 198) (L2 := [_, _, _, _, _, _, _]) dX12_term1_198 (by decide) rfl ?_
                  refine tz_iload_n (pc := 200) dX12_term1_200 rfl rfl ?_
                  refine tz_iconst (pc := 201) dX12_term1_201 ?_
                  refine tz_icmp_leT (pc := 202) (tgt := 211) (by decide) dX12_term1_202 (by decide) (by decide) (by decide) ?_
                  refine tz_iload_n (pc := 211) dX12_term1_211 rfl rfl ?_
                  refine tz_iconst (pc := 212) dX12_term1_212 ?_
                  refine tz_icmp_leT (pc := 213) (tgt := 226) (by decide) dX12_term1_213 (by decide) (by decide) (by decide) ?_
                  refine tz_iconst (pc := 226) dX12_term1_226 ?_
                  refine tz_istore (pc := 227) (L2 := [_, _, _, _, _, _, _]) dX12_term1_227 (by decide) rfl ?_
                  refine tz_iload_n (pc := 229) dX12_term1_229 rfl rfl ?_
                  refine tz_iconst (pc := 230) dX12_term1_230 ?_
                  refine tz_icmp_leT (pc := 231) (tgt := 240) (by decide) dX12_term1_231 (by decide) (by decide) (by decide) ?_
                  refine tz_iload_n (pc := 240) dX12_term1_240 rfl rfl ?_
                  refine tz_iconst (pc := 241) dX12_term1_241 ?_
                  refine tz_icmp_leT (pc := 242) (tgt := 255) (by decide) dX12_term1_242 (by decide) (by decide) (by decide) ?_
                  refine tz_iconst (pc := 255) dX12_term1_255 ?_
                  refine tz_istore (pc := 256) (L2 := [_, _, _, _, _, _, _]) dX12_term1_256 (by decide) rfl ?_
                  refine tz_aload_n (pc := 258) dX12_term1_258 rfl rfl ?_
                  refine tz_bipush (pc := 259) dX12_term1_259 (by decide) ?_
                  refine tz_cV (pc := 261) (z_sign hl n _ _ (by decide) _ x_195 s_195 (q_195).2.1 (by decide)) vl_X12_296 dX12_term1_261 o_164 rfl rfl (Nat.le_of_ble_eq_true rfl) ⟨(show 3 + 1 ≤ 6 + 1 * (r9 + 1) by omega), (show 8 + (2 + 11) + 40 * (3) ≤ 40 * (6 + 1 * (r9 + 1)) by omega)⟩ rfl rfl (Nat.le_of_ble_eq_true rfl) (Nat.le_of_ble_eq_true rfl) (fun r9 J_261 hq9 => ?_)
                  obtain ⟨rfl, w_261, b_261, x_261⟩ := hq9
                  have q_261 := MRT.w q_195 w_261
                  have s_261 := s_195.p (c := 41)
                  clear b_261
                  refine tz_aload_n (pc := 264) dX12_term1_264 rfl rfl ?_
                  refine tz_fI (pc := 265) (kz := 43) (v := (J_261 164 43)) dX12_term1_265 fl_X12_273 i_164_43 rfl rfl (fun r_265 => ?_)
                  refine tz_if_ne (pc := 268) (tgt := 285) dX12_term1_268 (by decide) (by omega) (fun h_268 => ?_) (fun h_268 => ?_)
                  · refine tz_iconst (pc := 285) dX12_term1_285 ?_
                    exact tz_iret (pc := 286) (z := 0) dX12_term1_286 rfl (Nat.le_of_ble_eq_true rfl) (Nat.le_of_ble_eq_true rfl) ⟨Nat.le_refl _, Nat.le_add_right _ _⟩ ⟨_, rfl, (by decide), (by have e9 : pT (r9 + 1) g x = (if ((pP (pT r9 (pP (pN g) 40) (x + 1)).1 41)) 0 4 = 0 then pMd ((pP (pT r9 (pP (pN g) 40) (x + 1)).1 41)) (psy g (g 1 (g 0 1))) (pT r9 (pP (pN g) 40) (x + 1)).2 0 0 else ((pP (pT r9 (pP (pN g) 40) (x + 1)).1 41), 0)) := (by rw [pT_s, if_pos h0, if_neg (by have := hT.1.sg (c := 63) (by decide); omega), if_pos (by have := hT.1.so; omega), if_pos (by have := hT.1.so; omega), if_pos (by omega)]; unfold pC; rw [hgA]; unfold pA4 pA3 pA2 pA1; simp only [show ((0 : Int) < 1) by decide, show ¬ ((1 : Int) < 1) by decide, show ¬ ((2 : Int) < 1) by decide, if_true, if_false]); have n9 := x_261.no (by omega); exact ⟨m_195, q_261, fun q9 => by omega, by rw [e9, if_neg n9]; exact x_261, fun q9 => absurd (show ((pP (pT r9 (pP (pN g) 40) (x + 1)).1 41)) 0 4 = 0 from by rw [e9, if_neg n9] at q9; exact q9) n9⟩)⟩
                  · refine tz_aload_n (pc := 271) dX12_term1_271 rfl rfl ?_
                    refine tz_iload_n (pc := 272) dX12_term1_272 rfl rfl ?_
                    refine tz_iload (pc := 273) dX12_term1_273 rfl ?_
                    refine tz_iload (pc := 275) dX12_term1_275 rfl ?_
                    refine tz_iload (pc := 277) dX12_term1_277 rfl ?_
                    have hb_261 : J_261 164 43 = 0 := h_268
                    have hb_195 := w_261.2.2.1 hb_261
                    have hv_195 := h_195 hb_195
                    refine tz_cV (pc := 279) (z_tm1 hl n _ _ _ _ _ (by omega) hz_195 (by decide) (by decide) s m_195 _ (q_261).1.1.1 (by omega) ⟨by omega, ((congrFun ((q_261).c 170 rfl) _).trans hk9)⟩ (q_261).2.2.2.2 ⟨fun _ => ⟨hv_195.1, by omega⟩, fun g9 => absurd g9 (by decide), fun g9 => absurd g9 (by decide)⟩ h_268 x_261) vl_X12_107 dX12_term1_279 o_164 rfl rfl (Nat.le_of_ble_eq_true rfl) ⟨(show 2 + 1 ≤ 6 + 1 * (r9 + 1) by omega), (show 8 + (8 + 11) + 40 * (2) ≤ 40 * (6 + 1 * (r9 + 1)) by omega)⟩ rfl rfl (Nat.le_of_ble_eq_true rfl) (Nat.le_of_ble_eq_true rfl) (fun r9 J_279 hq9 => ?_)
                    obtain ⟨z_279, rfl, hz_279, ⟨m_279, g_279, h_279⟩, x_279, y_279⟩ := hq9
                    have q_279 := MRT.t q_261 g_279 (by omega)
                    refine tz_goto (pc := 282) (tgt := 286) dX12_term1_282 (by decide) ?_
                    exact tz_iret (pc := 286) (z := z_279) dX12_term1_286 rfl (Nat.le_of_ble_eq_true rfl) (Nat.le_of_ble_eq_true rfl) ⟨Nat.le_refl _, Nat.le_add_right _ _⟩ ⟨_, rfl, (by omega), (by have e9 : pT (r9 + 1) g x = (if ((pP (pT r9 (pP (pN g) 40) (x + 1)).1 41)) 0 4 = 0 then pMd ((pP (pT r9 (pP (pN g) 40) (x + 1)).1 41)) (psy g (g 1 (g 0 1))) (pT r9 (pP (pN g) 40) (x + 1)).2 0 0 else ((pP (pT r9 (pP (pN g) 40) (x + 1)).1 41), 0)) := (by rw [pT_s, if_pos h0, if_neg (by have := hT.1.sg (c := 63) (by decide); omega), if_pos (by have := hT.1.so; omega), if_pos (by have := hT.1.so; omega), if_pos (by omega)]; unfold pC; rw [hgA]; unfold pA4 pA3 pA2 pA1; simp only [show ((0 : Int) < 1) by decide, show ¬ ((1 : Int) < 1) by decide, show ¬ ((2 : Int) < 1) by decide, if_true, if_false]); have e8 : (if ((pP (pT r9 (pP (pN g) 40) (x + 1)).1 41)) 0 4 = 0 then pMd ((pP (pT r9 (pP (pN g) 40) (x + 1)).1 41)) (psy g (g 1 (g 0 1))) (pT r9 (pP (pN g) 40) (x + 1)).2 0 0 else ((pP (pT r9 (pP (pN g) 40) (x + 1)).1 41), 0)) = (if ((pP (pT r9 (pP (pN g) 40) (x + 1)).1 41)) 0 4 = 0 then pMd ((pP (pT r9 (pP (pN g) 40) (x + 1)).1 41)) z_107 z_195 0 0 else ((pP (pT r9 (pP (pN g) 40) (x + 1)).1 41), 0)) := (by by_cases q9 : ((pP (pT r9 (pP (pN g) 40) (x + 1)).1 41)) 0 4 = 0; (rw [if_pos q9, if_pos q9]; have f_1 : (pT r9 (pP (pN g) 40) (x + 1)).1 0 4 = 0 := (Classical.byContradiction (fun e => e (by rw [pP_f e] at q9; exact q9))); rw [← hz9.1, ← y_195 f_1]); rw [if_neg q9, if_neg q9]); exact ⟨m_279, q_279, fun _ => h_279, by rw [e9, e8]; exact x_279, by rw [e9, e8]; exact y_279⟩)⟩
                · rw [hk9] at hgA ⊢
                  refine tz_istore_n (pc := 171) (L2 := [_, _, _, _, _, _, _]) dX12_term1_171 rfl (by decide) rfl ?_
                  refine tz_iconst (pc := 172) dX12_term1_172 ?_
                  refine tz_istore (pc := 173) (L2 := [_, _, _, _, _, _, _]) dX12_term1_173 (by decide) rfl ?_
                  refine tz_iconst (pc := 175) dX12_term1_175 ?_
                  refine tz_istore (pc := 176) (L2 := [_, _, _, _, _, _, _]) dX12_term1_176 (by decide) rfl ?_
                  refine tz_iconst (pc := 178) dX12_term1_178 ?_
                  refine tz_istore (pc := 179) (L2 := [_, _, _, _, _, _, _]) dX12_term1_179 (by decide) rfl ?_
                  refine tz_iload_n (pc := 181) dX12_term1_181 rfl rfl ?_
                  refine tz_if_leF (pc := 182) (tgt := 264) (by decide) dX12_term1_182 (by decide) (by decide) ?_
                  refine tz_aload_n (pc := 185) dX12_term1_185 rfl rfl ?_
                  refine tz_bipush (pc := 186) dX12_term1_186 (by decide) ?_
                  refine tz_cV (pc := 188) (z_sign hl n _ _ (by decide) _ x_159 s_159 (q_159).2.1 (by decide)) vl_X12_296 dX12_term1_188 o_164 rfl rfl (Nat.le_of_ble_eq_true rfl) ⟨(show 3 + 1 ≤ 6 + 1 * (r9 + 1) by omega), (show 8 + (2 + 11) + 40 * (3) ≤ 40 * (6 + 1 * (r9 + 1)) by omega)⟩ rfl rfl (Nat.le_of_ble_eq_true rfl) (Nat.le_of_ble_eq_true rfl) (fun r9 J_188 hq9 => ?_)
                  obtain ⟨rfl, w_188, b_188, x_188⟩ := hq9
                  have q_188 := MRT.w q_159 w_188
                  have s_188 := s_159.p (c := 40)
                  clear b_188
                  refine tz_aload_n (pc := 191) dX12_term1_191 rfl rfl ?_
                  refine tz_iload_n (pc := 192) dX12_term1_192 rfl rfl ?_
                  refine tz_iconst (pc := 193) dX12_term1_193 ?_
                  refine tz_iadd (pc := 194) (v := x + 1) dX12_term1_194 rfl ?_
                  refine tz_cV (pc := 195) (ih _ _ (by omega) s m _ (q_188).1.1.1 (q_188).2.1 (q_188).2.2.2.2 (((q_188).f 44 rfl).trans h44) (by omega) x_188 s_188 (by omega)) vl_X12_298 dX12_term1_195 o_164 rfl rfl (Nat.le_of_ble_eq_true rfl) ⟨(show (6 + 1 * r9) + 1 ≤ 6 + 1 * (r9 + 1) by omega), (show 8 + (7 + 11) + 40 * ((6 + 1 * r9)) ≤ 40 * (6 + 1 * (r9 + 1)) by omega)⟩ rfl rfl (Nat.le_of_ble_eq_true rfl) (Nat.le_of_ble_eq_true rfl) (fun r9 J_195 hq9 => ?_)
                  obtain ⟨z_195, rfl, hz_195, m_195, w_195, h_195, x_195, y_195⟩ := hq9
                  have q_195 := MRT.tr q_188 w_195
                  have l_195 := w_195.1.1.2
                  have s_195 := SI.t r9 _ (x + 1) s_188
                  refine tz_istore (pc := 198) (L2 := [_, _, _, _, _, _, _]) dX12_term1_198 (by decide) rfl ?_
                  refine tz_iload_n (pc := 200) dX12_term1_200 rfl rfl ?_
                  refine tz_iconst (pc := 201) dX12_term1_201 ?_
                  refine tz_icmp_leF (pc := 202) (tgt := 211) (by decide) dX12_term1_202 (by decide) (by decide) (by decide) ?_
                  refine tz_aload_n (pc := 205) dX12_term1_205 rfl rfl ?_
                  refine tz_bipush (pc := 206) dX12_term1_206 (by decide) ?_
                  refine tz_cV (pc := 208) (z_sign hl n _ _ (by decide) _ x_195 s_195 (q_195).2.1 (by decide)) vl_X12_296 dX12_term1_208 o_164 rfl rfl (Nat.le_of_ble_eq_true rfl) ⟨(show 3 + 1 ≤ 6 + 1 * (r9 + 1) by omega), (show 8 + (2 + 11) + 40 * (3) ≤ 40 * (6 + 1 * (r9 + 1)) by omega)⟩ rfl rfl (Nat.le_of_ble_eq_true rfl) (Nat.le_of_ble_eq_true rfl) (fun r9 J_208 hq9 => ?_)
                  obtain ⟨rfl, w_208, b_208, x_208⟩ := hq9
                  have q_208 := MRT.w q_195 w_208
                  have s_208 := s_195.p (c := 44)
                  clear b_208
                  refine tz_iload_n (pc := 211) dX12_term1_211 rfl rfl ?_
                  refine tz_iconst (pc := 212) dX12_term1_212 ?_
                  refine tz_icmp_leF (pc := 213) (tgt := 226) (by decide) dX12_term1_213 (by decide) (by decide) (by decide) ?_
                  refine tz_aload_n (pc := 216) dX12_term1_216 rfl rfl ?_
                  refine tz_iload_n (pc := 217) dX12_term1_217 rfl rfl ?_
                  refine tz_iconst (pc := 218) dX12_term1_218 ?_
                  refine tz_iadd (pc := 219) (v := x + 1) dX12_term1_219 rfl ?_
                  refine tz_cV (pc := 220) (ih _ _ (by omega) s m_195 _ (q_208).1.1.1 (q_208).2.1 (q_208).2.2.2.2 (((q_208).f 44 rfl).trans h44) (by omega) x_208 s_208 (by omega)) vl_X12_298 dX12_term1_220 o_164 rfl rfl (Nat.le_of_ble_eq_true rfl) ⟨(show (6 + 1 * r9) + 1 ≤ 6 + 1 * (r9 + 1) by omega), (show 8 + (7 + 11) + 40 * ((6 + 1 * r9)) ≤ 40 * (6 + 1 * (r9 + 1)) by omega)⟩ rfl rfl (Nat.le_of_ble_eq_true rfl) (Nat.le_of_ble_eq_true rfl) (fun r9 J_220 hq9 => ?_)
                  obtain ⟨z_220, rfl, hz_220, m_220, w_220, h_220, x_220, y_220⟩ := hq9
                  have q_220 := MRT.tr q_208 w_220
                  have l_220 := w_220.1.1.2
                  have s_220 := SI.t r9 _ (x + 1) s_208
                  refine tz_goto (pc := 223) (tgt := 227) dX12_term1_223 (by decide) ?_
                  refine tz_istore (pc := 227) (L2 := [_, _, _, _, _, _, _]) dX12_term1_227 (by decide) rfl ?_
                  refine tz_iload_n (pc := 229) dX12_term1_229 rfl rfl ?_
                  refine tz_iconst (pc := 230) dX12_term1_230 ?_
                  refine tz_icmp_leT (pc := 231) (tgt := 240) (by decide) dX12_term1_231 (by decide) (by decide) (by decide) ?_
                  refine tz_iload_n (pc := 240) dX12_term1_240 rfl rfl ?_
                  refine tz_iconst (pc := 241) dX12_term1_241 ?_
                  refine tz_icmp_leT (pc := 242) (tgt := 255) (by decide) dX12_term1_242 (by decide) (by decide) (by decide) ?_
                  refine tz_iconst (pc := 255) dX12_term1_255 ?_
                  refine tz_istore (pc := 256) (L2 := [_, _, _, _, _, _, _]) dX12_term1_256 (by decide) rfl ?_
                  refine tz_aload_n (pc := 258) dX12_term1_258 rfl rfl ?_
                  refine tz_bipush (pc := 259) dX12_term1_259 (by decide) ?_
                  refine tz_cV (pc := 261) (z_sign hl n _ _ (by decide) _ x_220 s_220 (q_220).2.1 (by decide)) vl_X12_296 dX12_term1_261 o_164 rfl rfl (Nat.le_of_ble_eq_true rfl) ⟨(show 3 + 1 ≤ 6 + 1 * (r9 + 1) by omega), (show 8 + (2 + 11) + 40 * (3) ≤ 40 * (6 + 1 * (r9 + 1)) by omega)⟩ rfl rfl (Nat.le_of_ble_eq_true rfl) (Nat.le_of_ble_eq_true rfl) (fun r9 J_261 hq9 => ?_)
                  obtain ⟨rfl, w_261, b_261, x_261⟩ := hq9
                  have q_261 := MRT.w q_220 w_261
                  have s_261 := s_220.p (c := 41)
                  clear b_261
                  refine tz_aload_n (pc := 264) dX12_term1_264 rfl rfl ?_
                  refine tz_fI (pc := 265) (kz := 43) (v := (J_261 164 43)) dX12_term1_265 fl_X12_273 i_164_43 rfl rfl (fun r_265 => ?_)
                  refine tz_if_ne (pc := 268) (tgt := 285) dX12_term1_268 (by decide) (by omega) (fun h_268 => ?_) (fun h_268 => ?_)
                  · refine tz_iconst (pc := 285) dX12_term1_285 ?_
                    exact tz_iret (pc := 286) (z := 0) dX12_term1_286 rfl (Nat.le_of_ble_eq_true rfl) (Nat.le_of_ble_eq_true rfl) ⟨Nat.le_refl _, Nat.le_add_right _ _⟩ ⟨_, rfl, (by decide), (by have e9 : pT (r9 + 1) g x = (if ((pP (pT r9 (pP (pT r9 (pP (pN g) 40) (x + 1)).1 44) (x + 1)).1 41)) 0 4 = 0 then pMd ((pP (pT r9 (pP (pT r9 (pP (pN g) 40) (x + 1)).1 44) (x + 1)).1 41)) (psy g (g 1 (g 0 1))) (pT r9 (pP (pN g) 40) (x + 1)).2 (pT r9 (pP (pT r9 (pP (pN g) 40) (x + 1)).1 44) (x + 1)).2 0 else ((pP (pT r9 (pP (pT r9 (pP (pN g) 40) (x + 1)).1 44) (x + 1)).1 41), 0)) := (by rw [pT_s, if_pos h0, if_neg (by have := hT.1.sg (c := 63) (by decide); omega), if_pos (by have := hT.1.so; omega), if_pos (by have := hT.1.so; omega), if_pos (by omega)]; unfold pC; rw [hgA]; unfold pA4 pA3 pA2 pA1; simp only [show ((0 : Int) < 2) by decide, show ((1 : Int) < 2) by decide, show ¬ ((2 : Int) < 2) by decide, if_true, if_false]); have n9 := x_261.no (by omega); exact ⟨m_220, q_261, fun q9 => by omega, by rw [e9, if_neg n9]; exact x_261, fun q9 => absurd (show ((pP (pT r9 (pP (pT r9 (pP (pN g) 40) (x + 1)).1 44) (x + 1)).1 41)) 0 4 = 0 from by rw [e9, if_neg n9] at q9; exact q9) n9⟩)⟩
                  · refine tz_aload_n (pc := 271) dX12_term1_271 rfl rfl ?_
                    refine tz_iload_n (pc := 272) dX12_term1_272 rfl rfl ?_
                    refine tz_iload (pc := 273) dX12_term1_273 rfl ?_
                    refine tz_iload (pc := 275) dX12_term1_275 rfl ?_
                    refine tz_iload (pc := 277) dX12_term1_277 rfl ?_
                    have hb_261 : J_261 164 43 = 0 := h_268
                    have hb_220 := w_261.2.2.1 hb_261
                    have hb_208 := w_220.2.2.1 hb_220
                    have hb_195 := w_208.2.2.1 hb_208
                    have hv_195 := h_195 hb_195
                    have hv_220 := h_220 hb_220
                    refine tz_cV (pc := 279) (z_tm2 hl n _ _ _ _ _ (by omega) hz_195 hz_220 (by decide) s m_220 _ (q_261).1.1.1 (by omega) ⟨by omega, ((congrFun ((q_261).c 170 rfl) _).trans hk9)⟩ (q_261).2.2.2.2 ⟨fun _ => ⟨hv_195.1, by omega⟩, fun _ => ⟨hv_220.1, by omega⟩, fun g9 => absurd g9 (by decide)⟩ h_268 x_261) vl_X12_107 dX12_term1_279 o_164 rfl rfl (Nat.le_of_ble_eq_true rfl) ⟨(show 2 + 1 ≤ 6 + 1 * (r9 + 1) by omega), (show 8 + (8 + 11) + 40 * (2) ≤ 40 * (6 + 1 * (r9 + 1)) by omega)⟩ rfl rfl (Nat.le_of_ble_eq_true rfl) (Nat.le_of_ble_eq_true rfl) (fun r9 J_279 hq9 => ?_)
                    obtain ⟨z_279, rfl, hz_279, ⟨m_279, g_279, h_279⟩, x_279, y_279⟩ := hq9
                    have q_279 := MRT.t q_261 g_279 (by omega)
                    refine tz_goto (pc := 282) (tgt := 286) dX12_term1_282 (by decide) ?_
                    exact tz_iret (pc := 286) (z := z_279) dX12_term1_286 rfl (Nat.le_of_ble_eq_true rfl) (Nat.le_of_ble_eq_true rfl) ⟨Nat.le_refl _, Nat.le_add_right _ _⟩ ⟨_, rfl, (by omega), (by have e9 : pT (r9 + 1) g x = (if ((pP (pT r9 (pP (pT r9 (pP (pN g) 40) (x + 1)).1 44) (x + 1)).1 41)) 0 4 = 0 then pMd ((pP (pT r9 (pP (pT r9 (pP (pN g) 40) (x + 1)).1 44) (x + 1)).1 41)) (psy g (g 1 (g 0 1))) (pT r9 (pP (pN g) 40) (x + 1)).2 (pT r9 (pP (pT r9 (pP (pN g) 40) (x + 1)).1 44) (x + 1)).2 0 else ((pP (pT r9 (pP (pT r9 (pP (pN g) 40) (x + 1)).1 44) (x + 1)).1 41), 0)) := (by rw [pT_s, if_pos h0, if_neg (by have := hT.1.sg (c := 63) (by decide); omega), if_pos (by have := hT.1.so; omega), if_pos (by have := hT.1.so; omega), if_pos (by omega)]; unfold pC; rw [hgA]; unfold pA4 pA3 pA2 pA1; simp only [show ((0 : Int) < 2) by decide, show ((1 : Int) < 2) by decide, show ¬ ((2 : Int) < 2) by decide, if_true, if_false]); have e8 : (if ((pP (pT r9 (pP (pT r9 (pP (pN g) 40) (x + 1)).1 44) (x + 1)).1 41)) 0 4 = 0 then pMd ((pP (pT r9 (pP (pT r9 (pP (pN g) 40) (x + 1)).1 44) (x + 1)).1 41)) (psy g (g 1 (g 0 1))) (pT r9 (pP (pN g) 40) (x + 1)).2 (pT r9 (pP (pT r9 (pP (pN g) 40) (x + 1)).1 44) (x + 1)).2 0 else ((pP (pT r9 (pP (pT r9 (pP (pN g) 40) (x + 1)).1 44) (x + 1)).1 41), 0)) = (if ((pP (pT r9 (pP (pT r9 (pP (pN g) 40) (x + 1)).1 44) (x + 1)).1 41)) 0 4 = 0 then pMd ((pP (pT r9 (pP (pT r9 (pP (pN g) 40) (x + 1)).1 44) (x + 1)).1 41)) z_107 z_195 z_220 0 else ((pP (pT r9 (pP (pT r9 (pP (pN g) 40) (x + 1)).1 44) (x + 1)).1 41), 0)) := (by by_cases q9 : ((pP (pT r9 (pP (pT r9 (pP (pN g) 40) (x + 1)).1 44) (x + 1)).1 41)) 0 4 = 0; (rw [if_pos q9, if_pos q9]; have f_2 : (pT r9 (pP (pT r9 (pP (pN g) 40) (x + 1)).1 44) (x + 1)).1 0 4 = 0 := (Classical.byContradiction (fun e => e (by rw [pP_f e] at q9; exact q9))); have f_1 : (pT r9 (pP (pN g) 40) (x + 1)).1 0 4 = 0 := (Classical.byContradiction (fun e => e (by have q8 := f_2; rw [pP_f e, pT_f e] at q8; exact q8))); rw [← hz9.1, ← y_195 f_1, ← y_220 f_2]); rw [if_neg q9, if_neg q9]); exact ⟨m_279, q_279, fun _ => h_279, by rw [e9, e8]; exact x_279, by rw [e9, e8]; exact y_279⟩)⟩
                · rw [hk9] at hgA ⊢
                  refine tz_istore_n (pc := 171) (L2 := [_, _, _, _, _, _, _]) dX12_term1_171 rfl (by decide) rfl ?_
                  refine tz_iconst (pc := 172) dX12_term1_172 ?_
                  refine tz_istore (pc := 173) (L2 := [_, _, _, _, _, _, _]) dX12_term1_173 (by decide) rfl ?_
                  refine tz_iconst (pc := 175) dX12_term1_175 ?_
                  refine tz_istore (pc := 176) (L2 := [_, _, _, _, _, _, _]) dX12_term1_176 (by decide) rfl ?_
                  refine tz_iconst (pc := 178) dX12_term1_178 ?_
                  refine tz_istore (pc := 179) (L2 := [_, _, _, _, _, _, _]) dX12_term1_179 (by decide) rfl ?_
                  refine tz_iload_n (pc := 181) dX12_term1_181 rfl rfl ?_
                  refine tz_if_leF (pc := 182) (tgt := 264) (by decide) dX12_term1_182 (by decide) (by decide) ?_
                  refine tz_aload_n (pc := 185) dX12_term1_185 rfl rfl ?_
                  refine tz_bipush (pc := 186) dX12_term1_186 (by decide) ?_
                  refine tz_cV (pc := 188) (z_sign hl n _ _ (by decide) _ x_159 s_159 (q_159).2.1 (by decide)) vl_X12_296 dX12_term1_188 o_164 rfl rfl (Nat.le_of_ble_eq_true rfl) ⟨(show 3 + 1 ≤ 6 + 1 * (r9 + 1) by omega), (show 8 + (2 + 11) + 40 * (3) ≤ 40 * (6 + 1 * (r9 + 1)) by omega)⟩ rfl rfl (Nat.le_of_ble_eq_true rfl) (Nat.le_of_ble_eq_true rfl) (fun r9 J_188 hq9 => ?_)
                  obtain ⟨rfl, w_188, b_188, x_188⟩ := hq9
                  have q_188 := MRT.w q_159 w_188
                  have s_188 := s_159.p (c := 40)
                  clear b_188
                  refine tz_aload_n (pc := 191) dX12_term1_191 rfl rfl ?_
                  refine tz_iload_n (pc := 192) dX12_term1_192 rfl rfl ?_
                  refine tz_iconst (pc := 193) dX12_term1_193 ?_
                  refine tz_iadd (pc := 194) (v := x + 1) dX12_term1_194 rfl ?_
                  refine tz_cV (pc := 195) (ih _ _ (by omega) s m _ (q_188).1.1.1 (q_188).2.1 (q_188).2.2.2.2 (((q_188).f 44 rfl).trans h44) (by omega) x_188 s_188 (by omega)) vl_X12_298 dX12_term1_195 o_164 rfl rfl (Nat.le_of_ble_eq_true rfl) ⟨(show (6 + 1 * r9) + 1 ≤ 6 + 1 * (r9 + 1) by omega), (show 8 + (7 + 11) + 40 * ((6 + 1 * r9)) ≤ 40 * (6 + 1 * (r9 + 1)) by omega)⟩ rfl rfl (Nat.le_of_ble_eq_true rfl) (Nat.le_of_ble_eq_true rfl) (fun r9 J_195 hq9 => ?_)
                  obtain ⟨z_195, rfl, hz_195, m_195, w_195, h_195, x_195, y_195⟩ := hq9
                  have q_195 := MRT.tr q_188 w_195
                  have l_195 := w_195.1.1.2
                  have s_195 := SI.t r9 _ (x + 1) s_188
                  refine tz_istore (pc := 198) (L2 := [_, _, _, _, _, _, _]) dX12_term1_198 (by decide) rfl ?_
                  refine tz_iload_n (pc := 200) dX12_term1_200 rfl rfl ?_
                  refine tz_iconst (pc := 201) dX12_term1_201 ?_
                  refine tz_icmp_leF (pc := 202) (tgt := 211) (by decide) dX12_term1_202 (by decide) (by decide) (by decide) ?_
                  refine tz_aload_n (pc := 205) dX12_term1_205 rfl rfl ?_
                  refine tz_bipush (pc := 206) dX12_term1_206 (by decide) ?_
                  refine tz_cV (pc := 208) (z_sign hl n _ _ (by decide) _ x_195 s_195 (q_195).2.1 (by decide)) vl_X12_296 dX12_term1_208 o_164 rfl rfl (Nat.le_of_ble_eq_true rfl) ⟨(show 3 + 1 ≤ 6 + 1 * (r9 + 1) by omega), (show 8 + (2 + 11) + 40 * (3) ≤ 40 * (6 + 1 * (r9 + 1)) by omega)⟩ rfl rfl (Nat.le_of_ble_eq_true rfl) (Nat.le_of_ble_eq_true rfl) (fun r9 J_208 hq9 => ?_)
                  obtain ⟨rfl, w_208, b_208, x_208⟩ := hq9
                  have q_208 := MRT.w q_195 w_208
                  have s_208 := s_195.p (c := 44)
                  clear b_208
                  refine tz_iload_n (pc := 211) dX12_term1_211 rfl rfl ?_
                  refine tz_iconst (pc := 212) dX12_term1_212 ?_
                  refine tz_icmp_leF (pc := 213) (tgt := 226) (by decide) dX12_term1_213 (by decide) (by decide) (by decide) ?_
                  refine tz_aload_n (pc := 216) dX12_term1_216 rfl rfl ?_
                  refine tz_iload_n (pc := 217) dX12_term1_217 rfl rfl ?_
                  refine tz_iconst (pc := 218) dX12_term1_218 ?_
                  refine tz_iadd (pc := 219) (v := x + 1) dX12_term1_219 rfl ?_
                  refine tz_cV (pc := 220) (ih _ _ (by omega) s m_195 _ (q_208).1.1.1 (q_208).2.1 (q_208).2.2.2.2 (((q_208).f 44 rfl).trans h44) (by omega) x_208 s_208 (by omega)) vl_X12_298 dX12_term1_220 o_164 rfl rfl (Nat.le_of_ble_eq_true rfl) ⟨(show (6 + 1 * r9) + 1 ≤ 6 + 1 * (r9 + 1) by omega), (show 8 + (7 + 11) + 40 * ((6 + 1 * r9)) ≤ 40 * (6 + 1 * (r9 + 1)) by omega)⟩ rfl rfl (Nat.le_of_ble_eq_true rfl) (Nat.le_of_ble_eq_true rfl) (fun r9 J_220 hq9 => ?_)
                  obtain ⟨z_220, rfl, hz_220, m_220, w_220, h_220, x_220, y_220⟩ := hq9
                  have q_220 := MRT.tr q_208 w_220
                  have l_220 := w_220.1.1.2
                  have s_220 := SI.t r9 _ (x + 1) s_208
                  refine tz_goto (pc := 223) (tgt := 227) dX12_term1_223 (by decide) ?_
                  refine tz_istore (pc := 227) (L2 := [_, _, _, _, _, _, _]) dX12_term1_227 (by decide) rfl ?_
                  refine tz_iload_n (pc := 229) dX12_term1_229 rfl rfl ?_
                  refine tz_iconst (pc := 230) dX12_term1_230 ?_
                  refine tz_icmp_leF (pc := 231) (tgt := 240) (by decide) dX12_term1_231 (by decide) (by decide) (by decide) ?_
                  refine tz_aload_n (pc := 234) dX12_term1_234 rfl rfl ?_
                  refine tz_bipush (pc := 235) dX12_term1_235 (by decide) ?_
                  refine tz_cV (pc := 237) (z_sign hl n _ _ (by decide) _ x_220 s_220 (q_220).2.1 (by decide)) vl_X12_296 dX12_term1_237 o_164 rfl rfl (Nat.le_of_ble_eq_true rfl) ⟨(show 3 + 1 ≤ 6 + 1 * (r9 + 1) by omega), (show 8 + (2 + 11) + 40 * (3) ≤ 40 * (6 + 1 * (r9 + 1)) by omega)⟩ rfl rfl (Nat.le_of_ble_eq_true rfl) (Nat.le_of_ble_eq_true rfl) (fun r9 J_237 hq9 => ?_)
                  obtain ⟨rfl, w_237, b_237, x_237⟩ := hq9
                  have q_237 := MRT.w q_220 w_237
                  have s_237 := s_220.p (c := 44)
                  clear b_237
                  refine tz_iload_n (pc := 240) dX12_term1_240 rfl rfl ?_
                  refine tz_iconst (pc := 241) dX12_term1_241 ?_
                  refine tz_icmp_leF (pc := 242) (tgt := 255) (by decide) dX12_term1_242 (by decide) (by decide) (by decide) ?_
                  refine tz_aload_n (pc := 245) dX12_term1_245 rfl rfl ?_
                  refine tz_iload_n (pc := 246) dX12_term1_246 rfl rfl ?_
                  refine tz_iconst (pc := 247) dX12_term1_247 ?_
                  refine tz_iadd (pc := 248) (v := x + 1) dX12_term1_248 rfl ?_
                  refine tz_cV (pc := 249) (ih _ _ (by omega) s m_220 _ (q_237).1.1.1 (q_237).2.1 (q_237).2.2.2.2 (((q_237).f 44 rfl).trans h44) (by omega) x_237 s_237 (by omega)) vl_X12_298 dX12_term1_249 o_164 rfl rfl (Nat.le_of_ble_eq_true rfl) ⟨(show (6 + 1 * r9) + 1 ≤ 6 + 1 * (r9 + 1) by omega), (show 8 + (7 + 11) + 40 * ((6 + 1 * r9)) ≤ 40 * (6 + 1 * (r9 + 1)) by omega)⟩ rfl rfl (Nat.le_of_ble_eq_true rfl) (Nat.le_of_ble_eq_true rfl) (fun r9 J_249 hq9 => ?_)
                  obtain ⟨z_249, rfl, hz_249, m_249, w_249, h_249, x_249, y_249⟩ := hq9
                  have q_249 := MRT.tr q_237 w_249
                  have l_249 := w_249.1.1.2
                  have s_249 := SI.t r9 _ (x + 1) s_237
                  refine tz_goto (pc := 252) (tgt := 256) dX12_term1_252 (by decide) ?_
                  refine tz_istore (pc := 256) (L2 := [_, _, _, _, _, _, _]) dX12_term1_256 (by decide) rfl ?_
                  refine tz_aload_n (pc := 258) dX12_term1_258 rfl rfl ?_
                  refine tz_bipush (pc := 259) dX12_term1_259 (by decide) ?_
                  refine tz_cV (pc := 261) (z_sign hl n _ _ (by decide) _ x_249 s_249 (q_249).2.1 (by decide)) vl_X12_296 dX12_term1_261 o_164 rfl rfl (Nat.le_of_ble_eq_true rfl) ⟨(show 3 + 1 ≤ 6 + 1 * (r9 + 1) by omega), (show 8 + (2 + 11) + 40 * (3) ≤ 40 * (6 + 1 * (r9 + 1)) by omega)⟩ rfl rfl (Nat.le_of_ble_eq_true rfl) (Nat.le_of_ble_eq_true rfl) (fun r9 J_261 hq9 => ?_)
                  obtain ⟨rfl, w_261, b_261, x_261⟩ := hq9
                  have q_261 := MRT.w q_249 w_261
                  have s_261 := s_249.p (c := 41)
                  clear b_261
                  refine tz_aload_n (pc := 264) dX12_term1_264 rfl rfl ?_
                  refine tz_fI (pc := 265) (kz := 43) (v := (J_261 164 43)) dX12_term1_265 fl_X12_273 i_164_43 rfl rfl (fun r_265 => ?_)
                  refine tz_if_ne (pc := 268) (tgt := 285) dX12_term1_268 (by decide) (by omega) (fun h_268 => ?_) (fun h_268 => ?_)
                  · refine tz_iconst (pc := 285) dX12_term1_285 ?_
                    exact tz_iret (pc := 286) (z := 0) dX12_term1_286 rfl (Nat.le_of_ble_eq_true rfl) (Nat.le_of_ble_eq_true rfl) ⟨Nat.le_refl _, Nat.le_add_right _ _⟩ ⟨_, rfl, (by decide), (by have e9 : pT (r9 + 1) g x = (if ((pP (pT r9 (pP (pT r9 (pP (pT r9 (pP (pN g) 40) (x + 1)).1 44) (x + 1)).1 44) (x + 1)).1 41)) 0 4 = 0 then pMd ((pP (pT r9 (pP (pT r9 (pP (pT r9 (pP (pN g) 40) (x + 1)).1 44) (x + 1)).1 44) (x + 1)).1 41)) (psy g (g 1 (g 0 1))) (pT r9 (pP (pN g) 40) (x + 1)).2 (pT r9 (pP (pT r9 (pP (pN g) 40) (x + 1)).1 44) (x + 1)).2 (pT r9 (pP (pT r9 (pP (pT r9 (pP (pN g) 40) (x + 1)).1 44) (x + 1)).1 44) (x + 1)).2 else ((pP (pT r9 (pP (pT r9 (pP (pT r9 (pP (pN g) 40) (x + 1)).1 44) (x + 1)).1 44) (x + 1)).1 41), 0)) := (by rw [pT_s, if_pos h0, if_neg (by have := hT.1.sg (c := 63) (by decide); omega), if_pos (by have := hT.1.so; omega), if_pos (by have := hT.1.so; omega), if_pos (by omega)]; unfold pC; rw [hgA]; unfold pA4 pA3 pA2 pA1; simp only [show ((0 : Int) < 3) by decide, show ((1 : Int) < 3) by decide, show ((2 : Int) < 3) by decide, if_true, if_false]); have n9 := x_261.no (by omega); exact ⟨m_249, q_261, fun q9 => by omega, by rw [e9, if_neg n9]; exact x_261, fun q9 => absurd (show ((pP (pT r9 (pP (pT r9 (pP (pT r9 (pP (pN g) 40) (x + 1)).1 44) (x + 1)).1 44) (x + 1)).1 41)) 0 4 = 0 from by rw [e9, if_neg n9] at q9; exact q9) n9⟩)⟩
                  · refine tz_aload_n (pc := 271) dX12_term1_271 rfl rfl ?_
                    refine tz_iload_n (pc := 272) dX12_term1_272 rfl rfl ?_
                    refine tz_iload (pc := 273) dX12_term1_273 rfl ?_
                    refine tz_iload (pc := 275) dX12_term1_275 rfl ?_
                    refine tz_iload (pc := 277) dX12_term1_277 rfl ?_
                    have hb_261 : J_261 164 43 = 0 := h_268
                    have hb_249 := w_261.2.2.1 hb_261
                    have hb_237 := w_249.2.2.1 hb_249
                    have hb_220 := w_237.2.2.1 hb_237
                    have hb_208 := w_220.2.2.1 hb_220
                    have hb_195 := w_208.2.2.1 hb_208
                    have hv_195 := h_195 hb_195
                    have hv_220 := h_220 hb_220
                    have hv_249 := h_249 hb_249
                    refine tz_cV (pc := 279) (z_tm3 hl n _ _ _ _ _ (by omega) hz_195 hz_220 hz_249 s m_249 _ (q_261).1.1.1 (by omega) ⟨by omega, ((congrFun ((q_261).c 170 rfl) _).trans hk9)⟩ (q_261).2.2.2.2 ⟨fun _ => ⟨hv_195.1, by omega⟩, fun _ => ⟨hv_220.1, by omega⟩, fun _ => ⟨hv_249.1, by omega⟩⟩ h_268 x_261) vl_X12_107 dX12_term1_279 o_164 rfl rfl (Nat.le_of_ble_eq_true rfl) ⟨(show 2 + 1 ≤ 6 + 1 * (r9 + 1) by omega), (show 8 + (8 + 11) + 40 * (2) ≤ 40 * (6 + 1 * (r9 + 1)) by omega)⟩ rfl rfl (Nat.le_of_ble_eq_true rfl) (Nat.le_of_ble_eq_true rfl) (fun r9 J_279 hq9 => ?_)
                    obtain ⟨z_279, rfl, hz_279, ⟨m_279, g_279, h_279⟩, x_279, y_279⟩ := hq9
                    have q_279 := MRT.t q_261 g_279 (by omega)
                    refine tz_goto (pc := 282) (tgt := 286) dX12_term1_282 (by decide) ?_
                    exact tz_iret (pc := 286) (z := z_279) dX12_term1_286 rfl (Nat.le_of_ble_eq_true rfl) (Nat.le_of_ble_eq_true rfl) ⟨Nat.le_refl _, Nat.le_add_right _ _⟩ ⟨_, rfl, (by omega), (by have e9 : pT (r9 + 1) g x = (if ((pP (pT r9 (pP (pT r9 (pP (pT r9 (pP (pN g) 40) (x + 1)).1 44) (x + 1)).1 44) (x + 1)).1 41)) 0 4 = 0 then pMd ((pP (pT r9 (pP (pT r9 (pP (pT r9 (pP (pN g) 40) (x + 1)).1 44) (x + 1)).1 44) (x + 1)).1 41)) (psy g (g 1 (g 0 1))) (pT r9 (pP (pN g) 40) (x + 1)).2 (pT r9 (pP (pT r9 (pP (pN g) 40) (x + 1)).1 44) (x + 1)).2 (pT r9 (pP (pT r9 (pP (pT r9 (pP (pN g) 40) (x + 1)).1 44) (x + 1)).1 44) (x + 1)).2 else ((pP (pT r9 (pP (pT r9 (pP (pT r9 (pP (pN g) 40) (x + 1)).1 44) (x + 1)).1 44) (x + 1)).1 41), 0)) := (by rw [pT_s, if_pos h0, if_neg (by have := hT.1.sg (c := 63) (by decide); omega), if_pos (by have := hT.1.so; omega), if_pos (by have := hT.1.so; omega), if_pos (by omega)]; unfold pC; rw [hgA]; unfold pA4 pA3 pA2 pA1; simp only [show ((0 : Int) < 3) by decide, show ((1 : Int) < 3) by decide, show ((2 : Int) < 3) by decide, if_true, if_false]); have e8 : (if ((pP (pT r9 (pP (pT r9 (pP (pT r9 (pP (pN g) 40) (x + 1)).1 44) (x + 1)).1 44) (x + 1)).1 41)) 0 4 = 0 then pMd ((pP (pT r9 (pP (pT r9 (pP (pT r9 (pP (pN g) 40) (x + 1)).1 44) (x + 1)).1 44) (x + 1)).1 41)) (psy g (g 1 (g 0 1))) (pT r9 (pP (pN g) 40) (x + 1)).2 (pT r9 (pP (pT r9 (pP (pN g) 40) (x + 1)).1 44) (x + 1)).2 (pT r9 (pP (pT r9 (pP (pT r9 (pP (pN g) 40) (x + 1)).1 44) (x + 1)).1 44) (x + 1)).2 else ((pP (pT r9 (pP (pT r9 (pP (pT r9 (pP (pN g) 40) (x + 1)).1 44) (x + 1)).1 44) (x + 1)).1 41), 0)) = (if ((pP (pT r9 (pP (pT r9 (pP (pT r9 (pP (pN g) 40) (x + 1)).1 44) (x + 1)).1 44) (x + 1)).1 41)) 0 4 = 0 then pMd ((pP (pT r9 (pP (pT r9 (pP (pT r9 (pP (pN g) 40) (x + 1)).1 44) (x + 1)).1 44) (x + 1)).1 41)) z_107 z_195 z_220 z_249 else ((pP (pT r9 (pP (pT r9 (pP (pT r9 (pP (pN g) 40) (x + 1)).1 44) (x + 1)).1 44) (x + 1)).1 41), 0)) := (by by_cases q9 : ((pP (pT r9 (pP (pT r9 (pP (pT r9 (pP (pN g) 40) (x + 1)).1 44) (x + 1)).1 44) (x + 1)).1 41)) 0 4 = 0; (rw [if_pos q9, if_pos q9]; have f_3 : (pT r9 (pP (pT r9 (pP (pT r9 (pP (pN g) 40) (x + 1)).1 44) (x + 1)).1 44) (x + 1)).1 0 4 = 0 := (Classical.byContradiction (fun e => e (by rw [pP_f e] at q9; exact q9))); have f_2 : (pT r9 (pP (pT r9 (pP (pN g) 40) (x + 1)).1 44) (x + 1)).1 0 4 = 0 := (Classical.byContradiction (fun e => e (by have q8 := f_3; rw [pP_f e, pT_f e] at q8; exact q8))); have f_1 : (pT r9 (pP (pN g) 40) (x + 1)).1 0 4 = 0 := (Classical.byContradiction (fun e => e (by have q8 := f_2; rw [pP_f e, pT_f e] at q8; exact q8))); rw [← hz9.1, ← y_195 f_1, ← y_220 f_2, ← y_249 f_3]); rw [if_neg q9, if_neg q9]); exact ⟨m_279, q_279, fun _ => h_279, by rw [e9, e8]; exact x_279, by rw [e9, e8]; exact y_279⟩)⟩
        · refine tz_aload_n (pc := 48) dX12_term1_48 rfl rfl ?_
          refine tz_iload_n (pc := 49) dX12_term1_49 rfl rfl ?_
          refine tz_bipush (pc := 50) dX12_term1_50 (by decide) ?_
          refine tz_icmp_gt (pc := 52) (tgt := 59) dX12_term1_52 (by decide) (by omega) (by decide) (fun h_52 => ?_) (fun h_52 => ?_)
          · refine tz_iconst (pc := 59) dX12_term1_59 ?_
            refine tz_iconst (pc := 60) dX12_term1_60 ?_
            refine tz_cV (pc := 61) (y_wants hl n _ _ _ (by decide) (by decide) g hR hP (by decide)) vl_X12_276 dX12_term1_61 o_164 rfl rfl (Nat.le_of_ble_eq_true rfl) ⟨(show 0 + 1 ≤ 6 + 1 * (r9 + 1) by omega), (show 8 + (3 + 11) + 40 * (0) ≤ 40 * (6 + 1 * (r9 + 1)) by omega)⟩ rfl rfl (Nat.le_of_ble_eq_true rfl) (Nat.le_of_ble_eq_true rfl) (fun r9 J_61 hq9 => ?_)
            obtain ⟨z_61, rfl, hz_61, w_61, o_61⟩ := hq9
            obtain ⟨rfl, v_61, r_61⟩ : z_61 = 0 ∧ ¬ J_61 164 43 = 0 ∧ RelM J_61 (pF g 2) := by rcases o_61 with q | q | q; exact absurd rfl q.2.1; exact ⟨q.2.2.1, q.2.2.2⟩; exact absurd h0 q.1
            have q_61 := MRT.w g0 w_61
            clear o_61
            refine tz_if_neF (pc := 64) (tgt := 69) (by decide) dX12_term1_64 (by decide) (by decide) ?_
            refine tz_iconst (pc := 67) dX12_term1_67 ?_
            exact tz_iret (pc := 68) (z := 0) dX12_term1_68 rfl (Nat.le_of_ble_eq_true rfl) (Nat.le_of_ble_eq_true rfl) ⟨Nat.le_refl _, Nat.le_add_right _ _⟩ ⟨_, rfl, (by decide), (by have e9 : pT (r9 + 1) g x = (pF g 2, 0) := (by rw [pT_s, if_pos h0, if_pos ((hT.1.sg (c := 63) (by decide)).1 (by omega)), if_neg (by omega)]); exact ⟨m, q_61, fun q9 => absurd q9 v_61, by rw [e9]; exact Or.inr r_61, fun q9 => absurd (r_61.1.trans (by rw [e9] at q9; exact q9)) v_61⟩)⟩
          · refine tz_iconst (pc := 55) dX12_term1_55 ?_
            refine tz_goto (pc := 56) (tgt := 60) dX12_term1_56 (by decide) ?_
            refine tz_iconst (pc := 60) dX12_term1_60 ?_
            refine tz_cV (pc := 61) (y_wants hl n _ _ _ (by decide) (by decide) g hR hP (by decide)) vl_X12_276 dX12_term1_61 o_164 rfl rfl (Nat.le_of_ble_eq_true rfl) ⟨(show 0 + 1 ≤ 6 + 1 * (r9 + 1) by omega), (show 8 + (3 + 11) + 40 * (0) ≤ 40 * (6 + 1 * (r9 + 1)) by omega)⟩ rfl rfl (Nat.le_of_ble_eq_true rfl) (Nat.le_of_ble_eq_true rfl) (fun r9 J_61 hq9 => ?_)
            obtain ⟨z_61, rfl, hz_61, w_61, o_61⟩ := hq9
            obtain ⟨rfl, rfl⟩ : z_61 = 1 ∧ J = J_61 := by rcases o_61 with q | q | q; exact ⟨q.2.2.1, q.2.2.2⟩; exact absurd q.2.1 (by decide); exact absurd h0 q.1
            clear o_61
            refine tz_if_neT (pc := 64) (tgt := 69) (by decide) dX12_term1_64 (by decide) (by decide) ?_
            refine tz_aload_n (pc := 69) dX12_term1_69 rfl rfl ?_
            refine tz_cV (pc := 70) (y_go hl n _ g hR h0 hS) vl_X12_280 dX12_term1_70 o_164 rfl rfl (Nat.le_of_ble_eq_true rfl) ⟨(show 2 + 1 ≤ 6 + 1 * (r9 + 1) by omega), (show 8 + (2 + 11) + 40 * (2) ≤ 40 * (6 + 1 * (r9 + 1)) by omega)⟩ rfl rfl (Nat.le_of_ble_eq_true rfl) (Nat.le_of_ble_eq_true rfl) (fun r9 J_70 hq9 => ?_)
            obtain ⟨rfl, r_70, w_70, u_70⟩ := hq9
            have q_70 := MRT.w g0 w_70
            have s_70 := hS.n
            have x_70 : RelX J_70 (pN g) := Or.inr r_70
            clear u_70
            refine tz_aload_n (pc := 73) dX12_term1_73 rfl rfl ?_
            refine tz_iconst (pc := 74) dX12_term1_74 ?_
            refine tz_bipush (pc := 75) dX12_term1_75 (by decide) ?_
            refine tz_cV (pc := 77) (y_number hl n _ _ _ (by decide) (by decide) (pN g) r_70 s_70 (q_70).2.1 (by decide)) vl_X12_290 dX12_term1_77 o_164 rfl rfl (Nat.le_of_ble_eq_true rfl) ⟨(show 3 + 1 ≤ 6 + 1 * (r9 + 1) by omega), (show 8 + (4 + 11) + 40 * (3) ≤ 40 * (6 + 1 * (r9 + 1)) by omega)⟩ rfl rfl (Nat.le_of_ble_eq_true rfl) (Nat.le_of_ble_eq_true rfl) (fun r9 J_77 hq9 => ?_)
            obtain ⟨z_77, rfl, hz_77, w_77, b_77, r_77, e_77⟩ := hq9
            have q_77 := MRT.w q_70 w_77
            refine tz_istore_n (pc := 80) (L2 := [_, _, _, _, _, _, _]) dX12_term1_80 rfl (by decide) rfl ?_
            refine tz_aload_n (pc := 81) dX12_term1_81 rfl rfl ?_
            refine tz_fI (pc := 82) (kz := 43) (v := (J_77 164 43)) dX12_term1_82 fl_X12_273 i_164_43 rfl rfl (fun r_82 => ?_)
            refine tz_if_ne (pc := 85) (tgt := 96) dX12_term1_85 (by decide) (by omega) (fun h_85 => ?_) (fun h_85 => ?_)
            · refine tz_iconst (pc := 96) dX12_term1_96 ?_
              exact tz_iret (pc := 97) (z := 0) dX12_term1_97 rfl (Nat.le_of_ble_eq_true rfl) (Nat.le_of_ble_eq_true rfl) ⟨Nat.le_refl _, Nat.le_add_right _ _⟩ ⟨_, rfl, (by decide), (by have hU : ¬ (pU (pN g) 0 7).1 0 4 = 0 := (by rw [← r_77.1]; omega); have e9 : pT (r9 + 1) g x = ((pU (pN g) 0 7).1, 0) := (by rw [pT_s, if_pos h0, if_pos ((hT.1.sg (c := 63) (by decide)).1 (by omega)), if_pos (by omega)]; unfold pV; rw [if_neg hU]); exact ⟨m, q_77, fun q9 => by omega, by rw [e9]; exact Or.inr r_77, fun q9 => absurd (by rw [e9] at q9; exact q9) hU⟩)⟩
            · refine tz_aload_n (pc := 88) dX12_term1_88 rfl rfl ?_
              refine tz_iload_n (pc := 89) dX12_term1_89 rfl rfl ?_
              have hU : (pU (pN g) 0 7).1 0 4 = 0 := by rw [← r_77.1]; omega
              have hz7 := e_77 hU
              clear e_77
              have h21 : J_77 164 21 = 0 := (r_77.2.2 hU).2.2.2.1.2.2.1
              refine tz_cV (pc := 90) (x_varTerm hl n _ _ (by omega) s m (q_77).1.1.1 (by omega) h21) vl_X12_180 dX12_term1_90 o_164 rfl rfl (Nat.le_of_ble_eq_true rfl) ⟨(show 3 + 1 ≤ 6 + 1 * (r9 + 1) by omega), (show 8 + (2 + 11) + 40 * (3) ≤ 40 * (6 + 1 * (r9 + 1)) by omega)⟩ rfl rfl (Nat.le_of_ble_eq_true rfl) (Nat.le_of_ble_eq_true rfl) (fun r9 J_90 hq9 => ?_)
              obtain ⟨z_90, rfl, hz_90, t_90⟩ := hq9
              have hA9 : arh (fun k => J_77 170 (10 + k)) (-1 - z_77) = 0 := arh_neg (by omega)
              obtain ⟨m_90, g_90, h_90⟩ := t_90.mg (q_77).1.1.1 hA9 (by omega) h21 (by omega)
              have q_90 := MRT.t q_77 g_90 (by omega)
              have x_90 := r_77.made hU (q_77).1.1.1 hA9 (by omega) (by omega) t_90
              rw [hz7] at x_90
              refine tz_goto (pc := 93) (tgt := 97) dX12_term1_93 (by decide) ?_
              exact tz_iret (pc := 97) (z := z_90) dX12_term1_97 rfl (Nat.le_of_ble_eq_true rfl) (Nat.le_of_ble_eq_true rfl) ⟨Nat.le_refl _, Nat.le_add_right _ _⟩ ⟨_, rfl, (by omega), (by have e9 : pT (r9 + 1) g x = pMd (pU (pN g) 0 7).1 (-1 - (pU (pN g) 0 7).2) 0 0 0 := (by rw [pT_s, if_pos h0, if_pos ((hT.1.sg (c := 63) (by decide)).1 (by omega)), if_pos (by omega)]; unfold pV; rw [if_pos hU]); exact ⟨m_90, q_90, fun _ => h_90, by rw [e9]; exact x_90.1, by rw [e9]; exact x_90.2⟩)⟩
      · refine tz_aload_n (pc := 16) dX12_term1_16 rfl rfl ?_
        refine tz_fI (pc := 17) (kz := 42) (v := (J 164 42)) dX12_term1_17 fl_X12_258 i_164_42 rfl rfl (fun r_17 => ?_)
        refine tz_bipush (pc := 20) dX12_term1_20 (by decide) ?_
        refine tz_icmp_ne (pc := 22) (tgt := 29) dX12_term1_22 (by decide) (by omega) (by decide) (fun h_22 => ?_) (fun h_22 => ?_)
        · refine tz_iconst (pc := 29) dX12_term1_29 ?_
          refine tz_iconst (pc := 30) dX12_term1_30 ?_
          refine tz_cV (pc := 31) (y_wants hl n _ _ _ (by decide) (by decide) g hR hP (by decide)) vl_X12_276 dX12_term1_31 o_164 rfl rfl (Nat.le_of_ble_eq_true rfl) ⟨(show 0 + 1 ≤ 6 + 1 * (r9 + 1) by omega), (show 8 + (3 + 11) + 40 * (0) ≤ 40 * (6 + 1 * (r9 + 1)) by omega)⟩ rfl rfl (Nat.le_of_ble_eq_true rfl) (Nat.le_of_ble_eq_true rfl) (fun r9 J_31 hq9 => ?_)
          obtain ⟨z_31, rfl, hz_31, w_31, o_31⟩ := hq9
          obtain ⟨rfl, v_31, r_31⟩ : z_31 = 0 ∧ ¬ J_31 164 43 = 0 ∧ RelM J_31 (pF g 1) := by rcases o_31 with q | q | q; exact absurd rfl q.2.1; exact ⟨q.2.2.1, q.2.2.2⟩; exact absurd h0 q.1
          have q_31 := MRT.w g0 w_31
          clear o_31
          refine tz_if_neF (pc := 34) (tgt := 39) (by decide) dX12_term1_34 (by decide) (by decide) ?_
          refine tz_iconst (pc := 37) dX12_term1_37 ?_
          exact tz_iret (pc := 38) (z := 0) dX12_term1_38 rfl (Nat.le_of_ble_eq_true rfl) (Nat.le_of_ble_eq_true rfl) ⟨Nat.le_refl _, Nat.le_add_right _ _⟩ ⟨_, rfl, (by decide), (by have e9 : pT (r9 + 1) g x = (pF g 1, 0) := (by rw [pT_s, if_pos h0, if_neg (by have := hT.1.sg (c := 63) (by decide); omega), if_neg (by have := hT.1.so; omega)]); exact ⟨m, q_31, fun q9 => absurd q9 v_31, by rw [e9]; exact Or.inr r_31, fun q9 => absurd (r_31.1.trans (by rw [e9] at q9; exact q9)) v_31⟩)⟩
        · refine tz_iconst (pc := 25) dX12_term1_25 ?_
          refine tz_goto (pc := 26) (tgt := 30) dX12_term1_26 (by decide) ?_
          refine tz_iconst (pc := 30) dX12_term1_30 ?_
          refine tz_cV (pc := 31) (y_wants hl n _ _ _ (by decide) (by decide) g hR hP (by decide)) vl_X12_276 dX12_term1_31 o_164 rfl rfl (Nat.le_of_ble_eq_true rfl) ⟨(show 0 + 1 ≤ 6 + 1 * (r9 + 1) by omega), (show 8 + (3 + 11) + 40 * (0) ≤ 40 * (6 + 1 * (r9 + 1)) by omega)⟩ rfl rfl (Nat.le_of_ble_eq_true rfl) (Nat.le_of_ble_eq_true rfl) (fun r9 J_31 hq9 => ?_)
          obtain ⟨z_31, rfl, hz_31, w_31, o_31⟩ := hq9
          obtain ⟨rfl, rfl⟩ : z_31 = 1 ∧ J = J_31 := by rcases o_31 with q | q | q; exact ⟨q.2.2.1, q.2.2.2⟩; exact absurd q.2.1 (by decide); exact absurd h0 q.1
          clear o_31
          refine tz_if_neT (pc := 34) (tgt := 39) (by decide) dX12_term1_34 (by decide) (by decide) ?_
          refine tz_aload_n (pc := 39) dX12_term1_39 rfl rfl ?_
          refine tz_fI (pc := 40) (kz := 42) (v := (J 164 42)) dX12_term1_40 fl_X12_258 i_164_42 rfl rfl (fun r_40 => ?_)
          refine tz_bipush (pc := 43) dX12_term1_43 (by decide) ?_
          refine tz_icmp_ne (pc := 45) (tgt := 98) dX12_term1_45 (by decide) (by omega) (by decide) (fun h_45 => ?_) (fun h_45 => ?_)
          · refine tz_aload_n (pc := 98) dX12_term1_98 rfl rfl ?_
            refine tz_aload_n (pc := 99) dX12_term1_99 rfl rfl ?_
            refine tz_aload_n (pc := 100) dX12_term1_100 rfl rfl ?_
            refine tz_fI (pc := 101) (kz := 36) (v := (J 164 36)) dX12_term1_101 fl_X12_246 i_164_36 rfl rfl (fun r_101 => ?_)
            have hp9 := hP.2.1
            refine tz_cV (pc := 104) (m_byteAt hl n _ _ (by omega) (by omega) hP.1.1.2) vl_X12_240 dX12_term1_104 o_164 rfl rfl (Nat.le_of_ble_eq_true rfl) ⟨(show 0 + 1 ≤ 6 + 1 * (r9 + 1) by omega), (show 8 + (2 + 11) + 40 * (0) ≤ 40 * (6 + 1 * (r9 + 1)) by omega)⟩ rfl rfl (Nat.le_of_ble_eq_true rfl) (Nat.le_of_ble_eq_true rfl) (fun r9 J_104 hq9 => ?_)
            obtain ⟨z_104, rfl, hz_104, rfl, -, hc9⟩ := hq9
            have hq9 : J 164 36 < J 164 37 := by rw [hT.1.1, hT.2.1]; have := hS.2.2; have := hT.1.so; omega
            have hb9 := hc9 hq9
            rw [hT.1.1, hT.2.2.1] at hb9
            refine tz_cV (pc := 107) (x_symOf hl n _ _ (by omega) (by rw [h44]; omega)) vl_X12_293 dX12_term1_107 o_164 rfl rfl (Nat.le_of_ble_eq_true rfl) ⟨(show 0 + 1 ≤ 6 + 1 * (r9 + 1) by omega), (show 8 + (3 + 11) + 40 * (0) ≤ 40 * (6 + 1 * (r9 + 1)) by omega)⟩ rfl rfl (Nat.le_of_ble_eq_true rfl) (Nat.le_of_ble_eq_true rfl) (fun r9 J_107 hq9 => ?_)
            obtain ⟨z_107, rfl, hz_107, rfl, hs9⟩ := hq9
            have hps : fnB (fun k => decide (¬ J 169 (10 + k) = z_104)) (J 164 44) 0 = psy g (g 1 (g 0 1)) := by rw [← hb9]; unfold psy; rw [hT.2.2.2.1.1]; exact fnB_cg (fun j a b => by rw [(hT.2.2.2.2.2.2.2 (10 + j) (by omega) (by rw [← hT.2.2.2.1.1, h44] at b; omega)).1])
            rw [hps, h44] at hs9
            have h4g : g 164 44 = s := by rw [← hT.2.2.2.1.1]; exact h44
            refine tz_istore_n (pc := 110) (L2 := [_, _, _, _, _, _, _]) dX12_term1_110 rfl (by decide) rfl ?_
            refine tz_aload_n (pc := 111) dX12_term1_111 rfl rfl ?_
            refine tz_aload_n (pc := 112) dX12_term1_112 rfl rfl ?_
            refine tz_fI (pc := 113) (kz := 41) (v := (J 164 41)) dX12_term1_113 fl_X12_252 i_164_41 rfl rfl (fun r_113 => ?_)
            refine tz_iconst (pc := 116) dX12_term1_116 ?_
            refine tz_icmp_ne (pc := 117) (tgt := 130) dX12_term1_117 (by decide) (by omega) (by decide) (fun h_117 => ?_) (fun h_117 => ?_)
            · refine tz_iconst (pc := 130) dX12_term1_130 ?_
              refine tz_iconst (pc := 131) dX12_term1_131 ?_
              refine tz_cV (pc := 132) (y_wants hl n _ _ _ (by decide) (by decide) g hR hP (by decide)) vl_X12_276 dX12_term1_132 o_164 rfl rfl (Nat.le_of_ble_eq_true rfl) ⟨(show 0 + 1 ≤ 6 + 1 * (r9 + 1) by omega), (show 8 + (3 + 11) + 40 * (0) ≤ 40 * (6 + 1 * (r9 + 1)) by omega)⟩ rfl rfl (Nat.le_of_ble_eq_true rfl) (Nat.le_of_ble_eq_true rfl) (fun r9 J_132 hq9 => ?_)
              obtain ⟨z_132, rfl, hz_132, w_132, o_132⟩ := hq9
              obtain ⟨rfl, v_132, r_132⟩ : z_132 = 0 ∧ ¬ J_132 164 43 = 0 ∧ RelM J_132 (pF g 2) := by rcases o_132 with q | q | q; exact absurd rfl q.2.1; exact ⟨q.2.2.1, q.2.2.2⟩; exact absurd h0 q.1
              have q_132 := MRT.w g0 w_132
              clear o_132
              refine tz_if_eqT (pc := 135) (tgt := 156) (by decide) dX12_term1_135 (by decide) (by decide) ?_
              refine tz_iconst (pc := 156) dX12_term1_156 ?_
              exact tz_iret (pc := 157) (z := 0) dX12_term1_157 rfl (Nat.le_of_ble_eq_true rfl) (Nat.le_of_ble_eq_true rfl) ⟨Nat.le_refl _, Nat.le_add_right _ _⟩ ⟨_, rfl, (by decide), (by have e9 : pT (r9 + 1) g x = (pF g 2, 0) := (by rw [pT_s, if_pos h0, if_neg (by have := hT.1.sg (c := 63) (by decide); omega), if_pos (by have := hT.1.so; omega), if_neg (by have := hT.1.so; omega)]); exact ⟨m, q_132, fun q9 => absurd q9 v_132, by rw [e9]; exact Or.inr r_132, fun q9 => absurd (r_132.1.trans (by rw [e9] at q9; exact q9)) v_132⟩)⟩
            · refine tz_iload_n (pc := 120) dX12_term1_120 rfl rfl ?_
              refine tz_bipush (pc := 121) dX12_term1_121 (by decide) ?_
              refine tz_icmp_gt (pc := 123) (tgt := 130) dX12_term1_123 (by decide) (by omega) (by decide) (fun h_123 => ?_) (fun h_123 => ?_)
              · refine tz_iconst (pc := 130) dX12_term1_130 ?_
                refine tz_iconst (pc := 131) dX12_term1_131 ?_
                refine tz_cV (pc := 132) (y_wants hl n _ _ _ (by decide) (by decide) g hR hP (by decide)) vl_X12_276 dX12_term1_132 o_164 rfl rfl (Nat.le_of_ble_eq_true rfl) ⟨(show 0 + 1 ≤ 6 + 1 * (r9 + 1) by omega), (show 8 + (3 + 11) + 40 * (0) ≤ 40 * (6 + 1 * (r9 + 1)) by omega)⟩ rfl rfl (Nat.le_of_ble_eq_true rfl) (Nat.le_of_ble_eq_true rfl) (fun r9 J_132 hq9 => ?_)
                obtain ⟨z_132, rfl, hz_132, w_132, o_132⟩ := hq9
                obtain ⟨rfl, v_132, r_132⟩ : z_132 = 0 ∧ ¬ J_132 164 43 = 0 ∧ RelM J_132 (pF g 2) := by rcases o_132 with q | q | q; exact absurd rfl q.2.1; exact ⟨q.2.2.1, q.2.2.2⟩; exact absurd h0 q.1
                have q_132 := MRT.w g0 w_132
                clear o_132
                refine tz_if_eqT (pc := 135) (tgt := 156) (by decide) dX12_term1_135 (by decide) (by decide) ?_
                refine tz_iconst (pc := 156) dX12_term1_156 ?_
                exact tz_iret (pc := 157) (z := 0) dX12_term1_157 rfl (Nat.le_of_ble_eq_true rfl) (Nat.le_of_ble_eq_true rfl) ⟨Nat.le_refl _, Nat.le_add_right _ _⟩ ⟨_, rfl, (by decide), (by have e9 : pT (r9 + 1) g x = (pF g 2, 0) := (by rw [pT_s, if_pos h0, if_neg (by have := hT.1.sg (c := 63) (by decide); omega), if_pos (by have := hT.1.so; omega), if_neg (by have := hT.1.so; omega)]); exact ⟨m, q_132, fun q9 => absurd q9 v_132, by rw [e9]; exact Or.inr r_132, fun q9 => absurd (r_132.1.trans (by rw [e9] at q9; exact q9)) v_132⟩)⟩
              · refine tz_iconst (pc := 126) dX12_term1_126 ?_
                refine tz_goto (pc := 127) (tgt := 131) dX12_term1_127 (by decide) ?_
                refine tz_iconst (pc := 131) dX12_term1_131 ?_
                refine tz_cV (pc := 132) (y_wants hl n _ _ _ (by decide) (by decide) g hR hP (by decide)) vl_X12_276 dX12_term1_132 o_164 rfl rfl (Nat.le_of_ble_eq_true rfl) ⟨(show 0 + 1 ≤ 6 + 1 * (r9 + 1) by omega), (show 8 + (3 + 11) + 40 * (0) ≤ 40 * (6 + 1 * (r9 + 1)) by omega)⟩ rfl rfl (Nat.le_of_ble_eq_true rfl) (Nat.le_of_ble_eq_true rfl) (fun r9 J_132 hq9 => ?_)
                obtain ⟨z_132, rfl, hz_132, w_132, o_132⟩ := hq9
                obtain ⟨rfl, rfl⟩ : z_132 = 1 ∧ J = J_132 := by rcases o_132 with q | q | q; exact ⟨q.2.2.1, q.2.2.2⟩; exact absurd q.2.1 (by decide); exact absurd h0 q.1
                clear o_132
                refine tz_if_eqF (pc := 135) (tgt := 156) (by decide) dX12_term1_135 (by decide) (by decide) ?_
                refine tz_aload_n (pc := 138) dX12_term1_138 rfl rfl ?_
                refine tz_iload_n (pc := 139) dX12_term1_139 rfl rfl ?_
                refine tz_iconst (pc := 140) dX12_term1_140 ?_
                refine tz_icmp_eq (pc := 141) (tgt := 148) dX12_term1_141 (by decide) (by omega) (by decide) (fun h_141 => ?_) (fun h_141 => ?_)
                · refine tz_iconst (pc := 148) dX12_term1_148 ?_
                  refine tz_iconst (pc := 149) dX12_term1_149 ?_
                  refine tz_cV (pc := 150) (y_wants hl n _ _ _ (by decide) (by decide) g hR hP (by decide)) vl_X12_276 dX12_term1_150 o_164 rfl rfl (Nat.le_of_ble_eq_true rfl) ⟨(show 0 + 1 ≤ 6 + 1 * (r9 + 1) by omega), (show 8 + (3 + 11) + 40 * (0) ≤ 40 * (6 + 1 * (r9 + 1)) by omega)⟩ rfl rfl (Nat.le_of_ble_eq_true rfl) (Nat.le_of_ble_eq_true rfl) (fun r9 J_150 hq9 => ?_)
                  obtain ⟨z_150, rfl, hz_150, w_150, o_150⟩ := hq9
                  obtain ⟨rfl, v_150, r_150⟩ : z_150 = 0 ∧ ¬ J_150 164 43 = 0 ∧ RelM J_150 (pF g 3) := by rcases o_150 with q | q | q; exact absurd rfl q.2.1; exact ⟨q.2.2.1, q.2.2.2⟩; exact absurd h0 q.1
                  have q_150 := MRT.w g0 w_150
                  clear o_150
                  refine tz_if_neF (pc := 153) (tgt := 158) (by decide) dX12_term1_153 (by decide) (by decide) ?_
                  refine tz_iconst (pc := 156) dX12_term1_156 ?_
                  exact tz_iret (pc := 157) (z := 0) dX12_term1_157 rfl (Nat.le_of_ble_eq_true rfl) (Nat.le_of_ble_eq_true rfl) ⟨Nat.le_refl _, Nat.le_add_right _ _⟩ ⟨_, rfl, (by decide), (by have e9 : pT (r9 + 1) g x = (pF g 3, 0) := (by rw [pT_s, if_pos h0, if_neg (by have := hT.1.sg (c := 63) (by decide); omega), if_pos (by have := hT.1.so; omega), if_pos (by have := hT.1.so; omega), if_neg (by omega)]); exact ⟨m, q_150, fun q9 => absurd q9 v_150, by rw [e9]; exact Or.inr r_150, fun q9 => absurd (r_150.1.trans (by rw [e9] at q9; exact q9)) v_150⟩)⟩
                · refine tz_iconst (pc := 144) dX12_term1_144 ?_
                  refine tz_goto (pc := 145) (tgt := 149) dX12_term1_145 (by decide) ?_
                  refine tz_iconst (pc := 149) dX12_term1_149 ?_
                  refine tz_cV (pc := 150) (y_wants hl n _ _ _ (by decide) (by decide) g hR hP (by decide)) vl_X12_276 dX12_term1_150 o_164 rfl rfl (Nat.le_of_ble_eq_true rfl) ⟨(show 0 + 1 ≤ 6 + 1 * (r9 + 1) by omega), (show 8 + (3 + 11) + 40 * (0) ≤ 40 * (6 + 1 * (r9 + 1)) by omega)⟩ rfl rfl (Nat.le_of_ble_eq_true rfl) (Nat.le_of_ble_eq_true rfl) (fun r9 J_150 hq9 => ?_)
                  obtain ⟨z_150, rfl, hz_150, w_150, o_150⟩ := hq9
                  obtain ⟨rfl, rfl⟩ : z_150 = 1 ∧ J = J_150 := by rcases o_150 with q | q | q; exact ⟨q.2.2.1, q.2.2.2⟩; exact absurd q.2.1 (by decide); exact absurd h0 q.1
                  clear o_150
                  refine tz_if_neT (pc := 153) (tgt := 158) (by decide) dX12_term1_153 (by decide) (by decide) ?_
                  refine tz_aload_n (pc := 158) dX12_term1_158 rfl rfl ?_
                  refine tz_cV (pc := 159) (y_go hl n _ g hR h0 hS) vl_X12_280 dX12_term1_159 o_164 rfl rfl (Nat.le_of_ble_eq_true rfl) ⟨(show 2 + 1 ≤ 6 + 1 * (r9 + 1) by omega), (show 8 + (2 + 11) + 40 * (2) ≤ 40 * (6 + 1 * (r9 + 1)) by omega)⟩ rfl rfl (Nat.le_of_ble_eq_true rfl) (Nat.le_of_ble_eq_true rfl) (fun r9 J_159 hq9 => ?_)
                  obtain ⟨rfl, r_159, w_159, u_159⟩ := hq9
                  have q_159 := MRT.w g0 w_159
                  have s_159 := hS.n
                  have x_159 : RelX J_159 (pN g) := Or.inr r_159
                  clear u_159
                  refine tz_aload_n (pc := 162) dX12_term1_162 rfl rfl ?_
                  refine tz_fR (pc := 163) dX12_term1_163 fl_X12_25 r_164_5 ?_
                  refine tz_bipush (pc := 166) dX12_term1_166 (by decide) ?_
                  refine tz_iload_n (pc := 168) dX12_term1_168 rfl rfl ?_
                  refine tz_iadd (pc := 169) (v := 10 + z_107) dX12_term1_169 rfl ?_
                  refine tz_aL (pc := 170) (z := (10 + z_107)) (v := (J 170 (10 + z_107))) dX12_term1_170 a_170 rfl (by omega) (Eq.trans (congrFun (w_159.1.1 170 rfl) (10 + z_107)) rfl) (fun r_170 => ?_)
                  have hA8 : 0 ≤ J 170 (10 + z_107) ∧ J 170 (10 + z_107) ≤ 3 := hM.2.2.2.2.2.1.2 z_107 (by omega) (by omega)
                  have hz9 : z_107 = psy g (g 1 (g 0 1)) ∧ psy g (g 1 (g 0 1)) < s := by omega
                  have hgA : (pN g) 170 (10 + psy g (g 1 (g 0 1))) = J 170 (10 + z_107) := by rw [pN_c (c := 170) (by decide), ← hz9.1]; exact ((hT.2.2.2.2.2.2.2 _ (by omega) (by omega)).2.1).symm
                  rcases (show J 170 (10 + z_107) = 0 ∨ J 170 (10 + z_107) = 1 ∨ J 170 (10 + z_107) = 2 ∨ J 170 (10 + z_107) = 3 by omega) with hk9 | hk9 | hk9 | hk9
                  · rw [hk9] at hgA ⊢
                    refine tz_istore_n (pc := 171) (L2 := [_, _, _, _, _, _, _]) dX12_term1_171 rfl (by decide) rfl ?_
                    refine tz_iconst (pc := 172) dX12_term1_172 ?_
                    refine tz_istore (pc := 173) (L2 := [_, _, _, _, _, _, _]) dX12_term1_173 (by decide) rfl ?_
                    refine tz_iconst (pc := 175) dX12_term1_175 ?_
                    refine tz_istore (pc := 176) (L2 := [_, _, _, _, _, _, _]) dX12_term1_176 (by decide) rfl ?_
                    refine tz_iconst (pc := 178) dX12_term1_178 ?_
                    refine tz_istore (pc := 179) (L2 := [_, _, _, _, _, _, _]) dX12_term1_179 (by decide) rfl ?_
                    refine tz_iload_n (pc := 181) dX12_term1_181 rfl rfl ?_
                    refine tz_if_leT (pc := 182) (tgt := 264) (by decide) dX12_term1_182 (by decide) (by decide) ?_
                    refine tz_aload_n (pc := 264) dX12_term1_264 rfl rfl ?_
                    refine tz_fI (pc := 265) (kz := 43) (v := (J_159 164 43)) dX12_term1_265 fl_X12_273 i_164_43 rfl rfl (fun r_265 => ?_)
                    refine tz_if_ne (pc := 268) (tgt := 285) dX12_term1_268 (by decide) (by omega) (fun h_268 => ?_) (fun h_268 => ?_)
                    · refine tz_iconst (pc := 285) dX12_term1_285 ?_
                      exact tz_iret (pc := 286) (z := 0) dX12_term1_286 rfl (Nat.le_of_ble_eq_true rfl) (Nat.le_of_ble_eq_true rfl) ⟨Nat.le_refl _, Nat.le_add_right _ _⟩ ⟨_, rfl, (by decide), (by have e9 : pT (r9 + 1) g x = (if (pN g) 0 4 = 0 then pMd (pN g) (psy g (g 1 (g 0 1)))  0 0 0 else (pN g, 0)) := (by rw [pT_s, if_pos h0, if_neg (by have := hT.1.sg (c := 63) (by decide); omega), if_pos (by have := hT.1.so; omega), if_pos (by have := hT.1.so; omega), if_pos (by omega)]; unfold pC; rw [hgA]; unfold pA4 pA3 pA2 pA1; simp only [show ¬ ((0 : Int) < 0) by decide, show ¬ ((1 : Int) < 0) by decide, show ¬ ((2 : Int) < 0) by decide, if_true, if_false]); have n9 := x_159.no (by omega); exact ⟨m, q_159, fun q9 => by omega, by rw [e9, if_neg n9]; exact x_159, fun q9 => absurd (show (pN g) 0 4 = 0 from by rw [e9, if_neg n9] at q9; exact q9) n9⟩)⟩
                    · refine tz_aload_n (pc := 271) dX12_term1_271 rfl rfl ?_
                      refine tz_iload_n (pc := 272) dX12_term1_272 rfl rfl ?_
                      refine tz_iload (pc := 273) dX12_term1_273 rfl ?_
                      refine tz_iload (pc := 275) dX12_term1_275 rfl ?_
                      refine tz_iload (pc := 277) dX12_term1_277 rfl ?_
                      refine tz_cV (pc := 279) (z_tm0 hl n _ _ _ _ _ (by omega) (by decide) (by decide) (by decide) s m _ (q_159).1.1.1 (by omega) ⟨by omega, ((congrFun ((q_159).c 170 rfl) _).trans hk9)⟩ (q_159).2.2.2.2 ⟨fun g9 => absurd g9 (by decide), fun g9 => absurd g9 (by decide), fun g9 => absurd g9 (by decide)⟩ h_268 x_159) vl_X12_107 dX12_term1_279 o_164 rfl rfl (Nat.le_of_ble_eq_true rfl) ⟨(show 2 + 1 ≤ 6 + 1 * (r9 + 1) by omega), (show 8 + (8 + 11) + 40 * (2) ≤ 40 * (6 + 1 * (r9 + 1)) by omega)⟩ rfl rfl (Nat.le_of_ble_eq_true rfl) (Nat.le_of_ble_eq_true rfl) (fun r9 J_279 hq9 => ?_)
                      obtain ⟨z_279, rfl, hz_279, ⟨m_279, g_279, h_279⟩, x_279, y_279⟩ := hq9
                      have q_279 := MRT.t q_159 g_279 (by omega)
                      refine tz_goto (pc := 282) (tgt := 286) dX12_term1_282 (by decide) ?_
                      exact tz_iret (pc := 286) (z := z_279) dX12_term1_286 rfl (Nat.le_of_ble_eq_true rfl) (Nat.le_of_ble_eq_true rfl) ⟨Nat.le_refl _, Nat.le_add_right _ _⟩ ⟨_, rfl, (by omega), (by have e9 : pT (r9 + 1) g x = (if (pN g) 0 4 = 0 then pMd (pN g) (psy g (g 1 (g 0 1)))  0 0 0 else (pN g, 0)) := (by rw [pT_s, if_pos h0, if_neg (by have := hT.1.sg (c := 63) (by decide); omega), if_pos (by have := hT.1.so; omega), if_pos (by have := hT.1.so; omega), if_pos (by omega)]; unfold pC; rw [hgA]; unfold pA4 pA3 pA2 pA1; simp only [show ¬ ((0 : Int) < 0) by decide, show ¬ ((1 : Int) < 0) by decide, show ¬ ((2 : Int) < 0) by decide, if_true, if_false]); have e8 : (if (pN g) 0 4 = 0 then pMd (pN g) (psy g (g 1 (g 0 1)))  0 0 0 else (pN g, 0)) = (if (pN g) 0 4 = 0 then pMd (pN g) z_107  0 0 0 else (pN g, 0)) := (by by_cases q9 : (pN g) 0 4 = 0; (rw [if_pos q9, if_pos q9]; skip; rw [← hz9.1]); rw [if_neg q9, if_neg q9]); exact ⟨m_279, q_279, fun _ => h_279, by rw [e9, e8]; exact x_279, by rw [e9, e8]; exact y_279⟩)⟩
                  · rw [hk9] at hgA ⊢
                    refine tz_istore_n (pc := 171) (L2 := [_, _, _, _, _, _, _]) dX12_term1_171 rfl (by decide) rfl ?_
                    refine tz_iconst (pc := 172) dX12_term1_172 ?_
                    refine tz_istore (pc := 173) (L2 := [_, _, _, _, _, _, _]) dX12_term1_173 (by decide) rfl ?_
                    refine tz_iconst (pc := 175) dX12_term1_175 ?_
                    refine tz_istore (pc := 176) (L2 := [_, _, _, _, _, _, _]) dX12_term1_176 (by decide) rfl ?_
                    refine tz_iconst (pc := 178) dX12_term1_178 ?_
                    refine tz_istore (pc := 179) (L2 := [_, _, _, _, _, _, _]) dX12_term1_179 (by decide) rfl ?_
                    refine tz_iload_n (pc := 181) dX12_term1_181 rfl rfl ?_
                    refine tz_if_leF (pc := 182) (tgt := 264) (by decide) dX12_term1_182 (by decide) (by decide) ?_
                    refine tz_aload_n (pc := 185) dX12_term1_185 rfl rfl ?_
                    refine tz_bipush (pc := 186) dX12_term1_186 (by decide) ?_
                    refine tz_cV (pc := 188) (z_sign hl n _ _ (by decide) _ x_159 s_159 (q_159).2.1 (by decide)) vl_X12_296 dX12_term1_188 o_164 rfl rfl (Nat.le_of_ble_eq_true rfl) ⟨(show 3 + 1 ≤ 6 + 1 * (r9 + 1) by omega), (show 8 + (2 + 11) + 40 * (3) ≤ 40 * (6 + 1 * (r9 + 1)) by omega)⟩ rfl rfl (Nat.le_of_ble_eq_true rfl) (Nat.le_of_ble_eq_true rfl) (fun r9 J_188 hq9 => ?_)
                    obtain ⟨rfl, w_188, b_188, x_188⟩ := hq9
                    have q_188 := MRT.w q_159 w_188
                    have s_188 := s_159.p (c := 40)
                    clear b_188
                    refine tz_aload_n (pc := 191) dX12_term1_191 rfl rfl ?_
                    refine tz_iload_n (pc := 192) dX12_term1_192 rfl rfl ?_
                    refine tz_iconst (pc := 193) dX12_term1_193 ?_
                    refine tz_iadd (pc := 194) (v := x + 1) dX12_term1_194 rfl ?_
                    refine tz_cV (pc := 195) (ih _ _ (by omega) s m _ (q_188).1.1.1 (q_188).2.1 (q_188).2.2.2.2 (((q_188).f 44 rfl).trans h44) (by omega) x_188 s_188 (by omega)) vl_X12_298 dX12_term1_195 o_164 rfl rfl (Nat.le_of_ble_eq_true rfl) ⟨(show (6 + 1 * r9) + 1 ≤ 6 + 1 * (r9 + 1) by omega), (show 8 + (7 + 11) + 40 * ((6 + 1 * r9)) ≤ 40 * (6 + 1 * (r9 + 1)) by omega)⟩ rfl rfl (Nat.le_of_ble_eq_true rfl) (Nat.le_of_ble_eq_true rfl) (fun r9 J_195 hq9 => ?_)
                    obtain ⟨z_195, rfl, hz_195, m_195, w_195, h_195, x_195, y_195⟩ := hq9
                    have q_195 := MRT.tr q_188 w_195
                    have l_195 := w_195.1.1.2
                    have s_195 := SI.t r9 _ (x + 1) s_188
                    refine tz_istore (pc := 198) (L2 := [_, _, _, _, _, _, _]) dX12_term1_198 (by decide) rfl ?_
                    refine tz_iload_n (pc := 200) dX12_term1_200 rfl rfl ?_
                    refine tz_iconst (pc := 201) dX12_term1_201 ?_
                    refine tz_icmp_leT (pc := 202) (tgt := 211) (by decide) dX12_term1_202 (by decide) (by decide) (by decide) ?_
                    refine tz_iload_n (pc := 211) dX12_term1_211 rfl rfl ?_
                    refine tz_iconst (pc := 212) dX12_term1_212 ?_
                    refine tz_icmp_leT (pc := 213) (tgt := 226) (by decide) dX12_term1_213 (by decide) (by decide) (by decide) ?_
                    refine tz_iconst (pc := 226) dX12_term1_226 ?_
                    refine tz_istore (pc := 227) (L2 := [_, _, _, _, _, _, _]) dX12_term1_227 (by decide) rfl ?_
                    refine tz_iload_n (pc := 229) dX12_term1_229 rfl rfl ?_
                    refine tz_iconst (pc := 230) dX12_term1_230 ?_
                    refine tz_icmp_leT (pc := 231) (tgt := 240) (by decide) dX12_term1_231 (by decide) (by decide) (by decide) ?_
                    refine tz_iload_n (pc := 240) dX12_term1_240 rfl rfl ?_
                    refine tz_iconst (pc := 241) dX12_term1_241 ?_
                    refine tz_icmp_leT (pc := 242) (tgt := 255) (by decide) dX12_term1_242 (by decide) (by decide) (by decide) ?_
                    refine tz_iconst (pc := 255) dX12_term1_255 ?_
                    refine tz_istore (pc := 256) (L2 := [_, _, _, _, _, _, _]) dX12_term1_256 (by decide) rfl ?_
                    refine tz_aload_n (pc := 258) dX12_term1_258 rfl rfl ?_
                    refine tz_bipush (pc := 259) dX12_term1_259 (by decide) ?_
                    refine tz_cV (pc := 261) (z_sign hl n _ _ (by decide) _ x_195 s_195 (q_195).2.1 (by decide)) vl_X12_296 dX12_term1_261 o_164 rfl rfl (Nat.le_of_ble_eq_true rfl) ⟨(show 3 + 1 ≤ 6 + 1 * (r9 + 1) by omega), (show 8 + (2 + 11) + 40 * (3) ≤ 40 * (6 + 1 * (r9 + 1)) by omega)⟩ rfl rfl (Nat.le_of_ble_eq_true rfl) (Nat.le_of_ble_eq_true rfl) (fun r9 J_261 hq9 => ?_)
                    obtain ⟨rfl, w_261, b_261, x_261⟩ := hq9
                    have q_261 := MRT.w q_195 w_261
                    have s_261 := s_195.p (c := 41)
                    clear b_261
                    refine tz_aload_n (pc := 264) dX12_term1_264 rfl rfl ?_
                    refine tz_fI (pc := 265) (kz := 43) (v := (J_261 164 43)) dX12_term1_265 fl_X12_273 i_164_43 rfl rfl (fun r_265 => ?_)
                    refine tz_if_ne (pc := 268) (tgt := 285) dX12_term1_268 (by decide) (by omega) (fun h_268 => ?_) (fun h_268 => ?_)
                    · refine tz_iconst (pc := 285) dX12_term1_285 ?_
                      exact tz_iret (pc := 286) (z := 0) dX12_term1_286 rfl (Nat.le_of_ble_eq_true rfl) (Nat.le_of_ble_eq_true rfl) ⟨Nat.le_refl _, Nat.le_add_right _ _⟩ ⟨_, rfl, (by decide), (by have e9 : pT (r9 + 1) g x = (if ((pP (pT r9 (pP (pN g) 40) (x + 1)).1 41)) 0 4 = 0 then pMd ((pP (pT r9 (pP (pN g) 40) (x + 1)).1 41)) (psy g (g 1 (g 0 1))) (pT r9 (pP (pN g) 40) (x + 1)).2 0 0 else ((pP (pT r9 (pP (pN g) 40) (x + 1)).1 41), 0)) := (by rw [pT_s, if_pos h0, if_neg (by have := hT.1.sg (c := 63) (by decide); omega), if_pos (by have := hT.1.so; omega), if_pos (by have := hT.1.so; omega), if_pos (by omega)]; unfold pC; rw [hgA]; unfold pA4 pA3 pA2 pA1; simp only [show ((0 : Int) < 1) by decide, show ¬ ((1 : Int) < 1) by decide, show ¬ ((2 : Int) < 1) by decide, if_true, if_false]); have n9 := x_261.no (by omega); exact ⟨m_195, q_261, fun q9 => by omega, by rw [e9, if_neg n9]; exact x_261, fun q9 => absurd (show ((pP (pT r9 (pP (pN g) 40) (x + 1)).1 41)) 0 4 = 0 from by rw [e9, if_neg n9] at q9; exact q9) n9⟩)⟩
                    · refine tz_aload_n (pc := 271) dX12_term1_271 rfl rfl ?_
                      refine tz_iload_n (pc := 272) dX12_term1_272 rfl rfl ?_
                      refine tz_iload (pc := 273) dX12_term1_273 rfl ?_
                      refine tz_iload (pc := 275) dX12_term1_275 rfl ?_
                      refine tz_iload (pc := 277) dX12_term1_277 rfl ?_
                      have hb_261 : J_261 164 43 = 0 := h_268
                      have hb_195 := w_261.2.2.1 hb_261
                      have hv_195 := h_195 hb_195
                      refine tz_cV (pc := 279) (z_tm1 hl n _ _ _ _ _ (by omega) hz_195 (by decide) (by decide) s m_195 _ (q_261).1.1.1 (by omega) ⟨by omega, ((congrFun ((q_261).c 170 rfl) _).trans hk9)⟩ (q_261).2.2.2.2 ⟨fun _ => ⟨hv_195.1, by omega⟩, fun g9 => absurd g9 (by decide), fun g9 => absurd g9 (by decide)⟩ h_268 x_261) vl_X12_107 dX12_term1_279 o_164 rfl rfl (Nat.le_of_ble_eq_true rfl) ⟨(show 2 + 1 ≤ 6 + 1 * (r9 + 1) by omega), (show 8 + (8 + 11) + 40 * (2) ≤ 40 * (6 + 1 * (r9 + 1)) by omega)⟩ rfl rfl (Nat.le_of_ble_eq_true rfl) (Nat.le_of_ble_eq_true rfl) (fun r9 J_279 hq9 => ?_)
                      obtain ⟨z_279, rfl, hz_279, ⟨m_279, g_279, h_279⟩, x_279, y_279⟩ := hq9
                      have q_279 := MRT.t q_261 g_279 (by omega)
                      refine tz_goto (pc := 282) (tgt := 286) dX12_term1_282 (by decide) ?_
                      exact tz_iret (pc := 286) (z := z_279) dX12_term1_286 rfl (Nat.le_of_ble_eq_true rfl) (Nat.le_of_ble_eq_true rfl) ⟨Nat.le_refl _, Nat.le_add_right _ _⟩ ⟨_, rfl, (by omega), (by have e9 : pT (r9 + 1) g x = (if ((pP (pT r9 (pP (pN g) 40) (x + 1)).1 41)) 0 4 = 0 then pMd ((pP (pT r9 (pP (pN g) 40) (x + 1)).1 41)) (psy g (g 1 (g 0 1))) (pT r9 (pP (pN g) 40) (x + 1)).2 0 0 else ((pP (pT r9 (pP (pN g) 40) (x + 1)).1 41), 0)) := (by rw [pT_s, if_pos h0, if_neg (by have := hT.1.sg (c := 63) (by decide); omega), if_pos (by have := hT.1.so; omega), if_pos (by have := hT.1.so; omega), if_pos (by omega)]; unfold pC; rw [hgA]; unfold pA4 pA3 pA2 pA1; simp only [show ((0 : Int) < 1) by decide, show ¬ ((1 : Int) < 1) by decide, show ¬ ((2 : Int) < 1) by decide, if_true, if_false]); have e8 : (if ((pP (pT r9 (pP (pN g) 40) (x + 1)).1 41)) 0 4 = 0 then pMd ((pP (pT r9 (pP (pN g) 40) (x + 1)).1 41)) (psy g (g 1 (g 0 1))) (pT r9 (pP (pN g) 40) (x + 1)).2 0 0 else ((pP (pT r9 (pP (pN g) 40) (x + 1)).1 41), 0)) = (if ((pP (pT r9 (pP (pN g) 40) (x + 1)).1 41)) 0 4 = 0 then pMd ((pP (pT r9 (pP (pN g) 40) (x + 1)).1 41)) z_107 z_195 0 0 else ((pP (pT r9 (pP (pN g) 40) (x + 1)).1 41), 0)) := (by by_cases q9 : ((pP (pT r9 (pP (pN g) 40) (x + 1)).1 41)) 0 4 = 0; (rw [if_pos q9, if_pos q9]; have f_1 : (pT r9 (pP (pN g) 40) (x + 1)).1 0 4 = 0 := (Classical.byContradiction (fun e => e (by rw [pP_f e] at q9; exact q9))); rw [← hz9.1, ← y_195 f_1]); rw [if_neg q9, if_neg q9]); exact ⟨m_279, q_279, fun _ => h_279, by rw [e9, e8]; exact x_279, by rw [e9, e8]; exact y_279⟩)⟩
                  · rw [hk9] at hgA ⊢
                    refine tz_istore_n (pc := 171) (L2 := [_, _, _, _, _, _, _]) dX12_term1_171 rfl (by decide) rfl ?_
                    refine tz_iconst (pc := 172) dX12_term1_172 ?_
                    refine tz_istore (pc := 173) (L2 := [_, _, _, _, _, _, _]) dX12_term1_173 (by decide) rfl ?_
                    refine tz_iconst (pc := 175) dX12_term1_175 ?_
                    refine tz_istore (pc := 176) (L2 := [_, _, _, _, _, _, _]) dX12_term1_176 (by decide) rfl ?_
                    refine tz_iconst (pc := 178) dX12_term1_178 ?_
                    refine tz_istore (pc := 179) (L2 := [_, _, _, _, _, _, _]) dX12_term1_179 (by decide) rfl ?_
                    refine tz_iload_n (pc := 181) dX12_term1_181 rfl rfl ?_
                    refine tz_if_leF (pc := 182) (tgt := 264) (by decide) dX12_term1_182 (by decide) (by decide) ?_
                    refine tz_aload_n (pc := 185) dX12_term1_185 rfl rfl ?_
                    refine tz_bipush (pc := 186) dX12_term1_186 (by decide) ?_
                    refine tz_cV (pc := 188) (z_sign hl n _ _ (by decide) _ x_159 s_159 (q_159).2.1 (by decide)) vl_X12_296 dX12_term1_188 o_164 rfl rfl (Nat.le_of_ble_eq_true rfl) ⟨(show 3 + 1 ≤ 6 + 1 * (r9 + 1) by omega), (show 8 + (2 + 11) + 40 * (3) ≤ 40 * (6 + 1 * (r9 + 1)) by omega)⟩ rfl rfl (Nat.le_of_ble_eq_true rfl) (Nat.le_of_ble_eq_true rfl) (fun r9 J_188 hq9 => ?_)
                    obtain ⟨rfl, w_188, b_188, x_188⟩ := hq9
                    have q_188 := MRT.w q_159 w_188
                    have s_188 := s_159.p (c := 40)
                    clear b_188
                    refine tz_aload_n (pc := 191) dX12_term1_191 rfl rfl ?_
                    refine tz_iload_n (pc := 192) dX12_term1_192 rfl rfl ?_
                    refine tz_iconst (pc := 193) dX12_term1_193 ?_
                    refine tz_iadd (pc := 194) (v := x + 1) dX12_term1_194 rfl ?_
                    refine tz_cV (pc := 195) (ih _ _ (by omega) s m _ (q_188).1.1.1 (q_188).2.1 (q_188).2.2.2.2 (((q_188).f 44 rfl).trans h44) (by omega) x_188 s_188 (by omega)) vl_X12_298 dX12_term1_195 o_164 rfl rfl (Nat.le_of_ble_eq_true rfl) ⟨(show (6 + 1 * r9) + 1 ≤ 6 + 1 * (r9 + 1) by omega), (show 8 + (7 + 11) + 40 * ((6 + 1 * r9)) ≤ 40 * (6 + 1 * (r9 + 1)) by omega)⟩ rfl rfl (Nat.le_of_ble_eq_true rfl) (Nat.le_of_ble_eq_true rfl) (fun r9 J_195 hq9 => ?_)
                    obtain ⟨z_195, rfl, hz_195, m_195, w_195, h_195, x_195, y_195⟩ := hq9
                    have q_195 := MRT.tr q_188 w_195
                    have l_195 := w_195.1.1.2
                    have s_195 := SI.t r9 _ (x + 1) s_188
                    refine tz_istore (pc := 198) (L2 := [_, _, _, _, _, _, _]) dX12_term1_198 (by decide) rfl ?_
                    refine tz_iload_n (pc := 200) dX12_term1_200 rfl rfl ?_
                    refine tz_iconst (pc := 201) dX12_term1_201 ?_
                    refine tz_icmp_leF (pc := 202) (tgt := 211) (by decide) dX12_term1_202 (by decide) (by decide) (by decide) ?_
                    refine tz_aload_n (pc := 205) dX12_term1_205 rfl rfl ?_
                    refine tz_bipush (pc := 206) dX12_term1_206 (by decide) ?_
                    refine tz_cV (pc := 208) (z_sign hl n _ _ (by decide) _ x_195 s_195 (q_195).2.1 (by decide)) vl_X12_296 dX12_term1_208 o_164 rfl rfl (Nat.le_of_ble_eq_true rfl) ⟨(show 3 + 1 ≤ 6 + 1 * (r9 + 1) by omega), (show 8 + (2 + 11) + 40 * (3) ≤ 40 * (6 + 1 * (r9 + 1)) by omega)⟩ rfl rfl (Nat.le_of_ble_eq_true rfl) (Nat.le_of_ble_eq_true rfl) (fun r9 J_208 hq9 => ?_)
                    obtain ⟨rfl, w_208, b_208, x_208⟩ := hq9
                    have q_208 := MRT.w q_195 w_208
                    have s_208 := s_195.p (c := 44)
                    clear b_208
                    refine tz_iload_n (pc := 211) dX12_term1_211 rfl rfl ?_
                    refine tz_iconst (pc := 212) dX12_term1_212 ?_
                    refine tz_icmp_leF (pc := 213) (tgt := 226) (by decide) dX12_term1_213 (by decide) (by decide) (by decide) ?_
                    refine tz_aload_n (pc := 216) dX12_term1_216 rfl rfl ?_
                    refine tz_iload_n (pc := 217) dX12_term1_217 rfl rfl ?_
                    refine tz_iconst (pc := 218) dX12_term1_218 ?_
                    refine tz_iadd (pc := 219) (v := x + 1) dX12_term1_219 rfl ?_
                    refine tz_cV (pc := 220) (ih _ _ (by omega) s m_195 _ (q_208).1.1.1 (q_208).2.1 (q_208).2.2.2.2 (((q_208).f 44 rfl).trans h44) (by omega) x_208 s_208 (by omega)) vl_X12_298 dX12_term1_220 o_164 rfl rfl (Nat.le_of_ble_eq_true rfl) ⟨(show (6 + 1 * r9) + 1 ≤ 6 + 1 * (r9 + 1) by omega), (show 8 + (7 + 11) + 40 * ((6 + 1 * r9)) ≤ 40 * (6 + 1 * (r9 + 1)) by omega)⟩ rfl rfl (Nat.le_of_ble_eq_true rfl) (Nat.le_of_ble_eq_true rfl) (fun r9 J_220 hq9 => ?_)
                    obtain ⟨z_220, rfl, hz_220, m_220, w_220, h_220, x_220, y_220⟩ := hq9
                    have q_220 := MRT.tr q_208 w_220
                    have l_220 := w_220.1.1.2
                    have s_220 := SI.t r9 _ (x + 1) s_208
                    refine tz_goto (pc := 223) (tgt := 227) dX12_term1_223 (by decide) ?_
                    refine tz_istore (pc := 227) (L2 := [_, _, _, _, _, _, _]) dX12_term1_227 (by decide) rfl ?_
                    refine tz_iload_n (pc := 229) dX12_term1_229 rfl rfl ?_
                    refine tz_iconst (pc := 230) dX12_term1_230 ?_
                    refine tz_icmp_leT (pc := 231) (tgt := 240) (by decide) dX12_term1_231 (by decide) (by decide) (by decide) ?_
                    refine tz_iload_n (pc := 240) dX12_term1_240 rfl rfl ?_
                    refine tz_iconst (pc := 241) dX12_term1_241 ?_
                    refine tz_icmp_leT (pc := 242) (tgt := 255) (by decide) dX12_term1_242 (by decide) (by decide) (by decide) ?_
                    refine tz_iconst (pc := 255) dX12_term1_255 ?_
                    refine tz_istore (pc := 256) (L2 := [_, _, _, _, _, _, _]) dX12_term1_256 (by decide) rfl ?_
                    refine tz_aload_n (pc := 258) dX12_term1_258 rfl rfl ?_
                    refine tz_bipush (pc := 259) dX12_term1_259 (by decide) ?_
                    refine tz_cV (pc := 261) (z_sign hl n _ _ (by decide) _ x_220 s_220 (q_220).2.1 (by decide)) vl_X12_296 dX12_term1_261 o_164 rfl rfl (Nat.le_of_ble_eq_true rfl) ⟨(show 3 + 1 ≤ 6 + 1 * (r9 + 1) by omega), (show 8 + (2 + 11) + 40 * (3) ≤ 40 * (6 + 1 * (r9 + 1)) by omega)⟩ rfl rfl (Nat.le_of_ble_eq_true rfl) (Nat.le_of_ble_eq_true rfl) (fun r9 J_261 hq9 => ?_)
                    obtain ⟨rfl, w_261, b_261, x_261⟩ := hq9
                    have q_261 := MRT.w q_220 w_261
                    have s_261 := s_220.p (c := 41)
                    clear b_261
                    refine tz_aload_n (pc := 264) dX12_term1_264 rfl rfl ?_
                    refine tz_fI (pc := 265) (kz := 43) (v := (J_261 164 43)) dX12_term1_265 fl_X12_273 i_164_43 rfl rfl (fun r_265 => ?_)
                    refine tz_if_ne (pc := 268) (tgt := 285) dX12_term1_268 (by decide) (by omega) (fun h_268 => ?_) (fun h_268 => ?_)
                    · refine tz_iconst (pc := 285) dX12_term1_285 ?_
                      exact tz_iret (pc := 286) (z := 0) dX12_term1_286 rfl (Nat.le_of_ble_eq_true rfl) (Nat.le_of_ble_eq_true rfl) ⟨Nat.le_refl _, Nat.le_add_right _ _⟩ ⟨_, rfl, (by decide), (by have e9 : pT (r9 + 1) g x = (if ((pP (pT r9 (pP (pT r9 (pP (pN g) 40) (x + 1)).1 44) (x + 1)).1 41)) 0 4 = 0 then pMd ((pP (pT r9 (pP (pT r9 (pP (pN g) 40) (x + 1)).1 44) (x + 1)).1 41)) (psy g (g 1 (g 0 1))) (pT r9 (pP (pN g) 40) (x + 1)).2 (pT r9 (pP (pT r9 (pP (pN g) 40) (x + 1)).1 44) (x + 1)).2 0 else ((pP (pT r9 (pP (pT r9 (pP (pN g) 40) (x + 1)).1 44) (x + 1)).1 41), 0)) := (by rw [pT_s, if_pos h0, if_neg (by have := hT.1.sg (c := 63) (by decide); omega), if_pos (by have := hT.1.so; omega), if_pos (by have := hT.1.so; omega), if_pos (by omega)]; unfold pC; rw [hgA]; unfold pA4 pA3 pA2 pA1; simp only [show ((0 : Int) < 2) by decide, show ((1 : Int) < 2) by decide, show ¬ ((2 : Int) < 2) by decide, if_true, if_false]); have n9 := x_261.no (by omega); exact ⟨m_220, q_261, fun q9 => by omega, by rw [e9, if_neg n9]; exact x_261, fun q9 => absurd (show ((pP (pT r9 (pP (pT r9 (pP (pN g) 40) (x + 1)).1 44) (x + 1)).1 41)) 0 4 = 0 from by rw [e9, if_neg n9] at q9; exact q9) n9⟩)⟩
                    · refine tz_aload_n (pc := 271) dX12_term1_271 rfl rfl ?_
                      refine tz_iload_n (pc := 272) dX12_term1_272 rfl rfl ?_
                      refine tz_iload (pc := 273) dX12_term1_273 rfl ?_
                      refine tz_iload (pc := 275) dX12_term1_275 rfl ?_
                      refine tz_iload (pc := 277) dX12_term1_277 rfl ?_
                      have hb_261 : J_261 164 43 = 0 := h_268
                      have hb_220 := w_261.2.2.1 hb_261
                      have hb_208 := w_220.2.2.1 hb_220
                      have hb_195 := w_208.2.2.1 hb_208
                      have hv_195 := h_195 hb_195
                      have hv_220 := h_220 hb_220
                      refine tz_cV (pc := 279) (z_tm2 hl n _ _ _ _ _ (by omega) hz_195 hz_220 (by decide) s m_220 _ (q_261).1.1.1 (by omega) ⟨by omega, ((congrFun ((q_261).c 170 rfl) _).trans hk9)⟩ (q_261).2.2.2.2 ⟨fun _ => ⟨hv_195.1, by omega⟩, fun _ => ⟨hv_220.1, by omega⟩, fun g9 => absurd g9 (by decide)⟩ h_268 x_261) vl_X12_107 dX12_term1_279 o_164 rfl rfl (Nat.le_of_ble_eq_true rfl) ⟨(show 2 + 1 ≤ 6 + 1 * (r9 + 1) by omega), (show 8 + (8 + 11) + 40 * (2) ≤ 40 * (6 + 1 * (r9 + 1)) by omega)⟩ rfl rfl (Nat.le_of_ble_eq_true rfl) (Nat.le_of_ble_eq_true rfl) (fun r9 J_279 hq9 => ?_)
                      obtain ⟨z_279, rfl, hz_279, ⟨m_279, g_279, h_279⟩, x_279, y_279⟩ := hq9
                      have q_279 := MRT.t q_261 g_279 (by omega)
                      refine tz_goto (pc := 282) (tgt := 286) dX12_term1_282 (by decide) ?_
                      exact tz_iret (pc := 286) (z := z_279) dX12_term1_286 rfl (Nat.le_of_ble_eq_true rfl) (Nat.le_of_ble_eq_true rfl) ⟨Nat.le_refl _, Nat.le_add_right _ _⟩ ⟨_, rfl, (by omega), (by have e9 : pT (r9 + 1) g x = (if ((pP (pT r9 (pP (pT r9 (pP (pN g) 40) (x + 1)).1 44) (x + 1)).1 41)) 0 4 = 0 then pMd ((pP (pT r9 (pP (pT r9 (pP (pN g) 40) (x + 1)).1 44) (x + 1)).1 41)) (psy g (g 1 (g 0 1))) (pT r9 (pP (pN g) 40) (x + 1)).2 (pT r9 (pP (pT r9 (pP (pN g) 40) (x + 1)).1 44) (x + 1)).2 0 else ((pP (pT r9 (pP (pT r9 (pP (pN g) 40) (x + 1)).1 44) (x + 1)).1 41), 0)) := (by rw [pT_s, if_pos h0, if_neg (by have := hT.1.sg (c := 63) (by decide); omega), if_pos (by have := hT.1.so; omega), if_pos (by have := hT.1.so; omega), if_pos (by omega)]; unfold pC; rw [hgA]; unfold pA4 pA3 pA2 pA1; simp only [show ((0 : Int) < 2) by decide, show ((1 : Int) < 2) by decide, show ¬ ((2 : Int) < 2) by decide, if_true, if_false]); have e8 : (if ((pP (pT r9 (pP (pT r9 (pP (pN g) 40) (x + 1)).1 44) (x + 1)).1 41)) 0 4 = 0 then pMd ((pP (pT r9 (pP (pT r9 (pP (pN g) 40) (x + 1)).1 44) (x + 1)).1 41)) (psy g (g 1 (g 0 1))) (pT r9 (pP (pN g) 40) (x + 1)).2 (pT r9 (pP (pT r9 (pP (pN g) 40) (x + 1)).1 44) (x + 1)).2 0 else ((pP (pT r9 (pP (pT r9 (pP (pN g) 40) (x + 1)).1 44) (x + 1)).1 41), 0)) = (if ((pP (pT r9 (pP (pT r9 (pP (pN g) 40) (x + 1)).1 44) (x + 1)).1 41)) 0 4 = 0 then pMd ((pP (pT r9 (pP (pT r9 (pP (pN g) 40) (x + 1)).1 44) (x + 1)).1 41)) z_107 z_195 z_220 0 else ((pP (pT r9 (pP (pT r9 (pP (pN g) 40) (x + 1)).1 44) (x + 1)).1 41), 0)) := (by by_cases q9 : ((pP (pT r9 (pP (pT r9 (pP (pN g) 40) (x + 1)).1 44) (x + 1)).1 41)) 0 4 = 0; (rw [if_pos q9, if_pos q9]; have f_2 : (pT r9 (pP (pT r9 (pP (pN g) 40) (x + 1)).1 44) (x + 1)).1 0 4 = 0 := (Classical.byContradiction (fun e => e (by rw [pP_f e] at q9; exact q9))); have f_1 : (pT r9 (pP (pN g) 40) (x + 1)).1 0 4 = 0 := (Classical.byContradiction (fun e => e (by have q8 := f_2; rw [pP_f e, pT_f e] at q8; exact q8))); rw [← hz9.1, ← y_195 f_1, ← y_220 f_2]); rw [if_neg q9, if_neg q9]); exact ⟨m_279, q_279, fun _ => h_279, by rw [e9, e8]; exact x_279, by rw [e9, e8]; exact y_279⟩)⟩
                  · rw [hk9] at hgA ⊢
                    refine tz_istore_n (pc := 171) (L2 := [_, _, _, _, _, _, _]) dX12_term1_171 rfl (by decide) rfl ?_
                    refine tz_iconst (pc := 172) dX12_term1_172 ?_
                    refine tz_istore (pc := 173) (L2 := [_, _, _, _, _, _, _]) dX12_term1_173 (by decide) rfl ?_
                    refine tz_iconst (pc := 175) dX12_term1_175 ?_
                    refine tz_istore (pc := 176) (L2 := [_, _, _, _, _, _, _]) dX12_term1_176 (by decide) rfl ?_
                    refine tz_iconst (pc := 178) dX12_term1_178 ?_
                    refine tz_istore (pc := 179) (L2 := [_, _, _, _, _, _, _]) dX12_term1_179 (by decide) rfl ?_
                    refine tz_iload_n (pc := 181) dX12_term1_181 rfl rfl ?_
                    refine tz_if_leF (pc := 182) (tgt := 264) (by decide) dX12_term1_182 (by decide) (by decide) ?_
                    refine tz_aload_n (pc := 185) dX12_term1_185 rfl rfl ?_
                    refine tz_bipush (pc := 186) dX12_term1_186 (by decide) ?_
                    refine tz_cV (pc := 188) (z_sign hl n _ _ (by decide) _ x_159 s_159 (q_159).2.1 (by decide)) vl_X12_296 dX12_term1_188 o_164 rfl rfl (Nat.le_of_ble_eq_true rfl) ⟨(show 3 + 1 ≤ 6 + 1 * (r9 + 1) by omega), (show 8 + (2 + 11) + 40 * (3) ≤ 40 * (6 + 1 * (r9 + 1)) by omega)⟩ rfl rfl (Nat.le_of_ble_eq_true rfl) (Nat.le_of_ble_eq_true rfl) (fun r9 J_188 hq9 => ?_)
                    obtain ⟨rfl, w_188, b_188, x_188⟩ := hq9
                    have q_188 := MRT.w q_159 w_188
                    have s_188 := s_159.p (c := 40)
                    clear b_188
                    refine tz_aload_n (pc := 191) dX12_term1_191 rfl rfl ?_
                    refine tz_iload_n (pc := 192) dX12_term1_192 rfl rfl ?_
                    refine tz_iconst (pc := 193) dX12_term1_193 ?_
                    refine tz_iadd (pc := 194) (v := x + 1) dX12_term1_194 rfl ?_
                    refine tz_cV (pc := 195) (ih _ _ (by omega) s m _ (q_188).1.1.1 (q_188).2.1 (q_188).2.2.2.2 (((q_188).f 44 rfl).trans h44) (by omega) x_188 s_188 (by omega)) vl_X12_298 dX12_term1_195 o_164 rfl rfl (Nat.le_of_ble_eq_true rfl) ⟨(show (6 + 1 * r9) + 1 ≤ 6 + 1 * (r9 + 1) by omega), (show 8 + (7 + 11) + 40 * ((6 + 1 * r9)) ≤ 40 * (6 + 1 * (r9 + 1)) by omega)⟩ rfl rfl (Nat.le_of_ble_eq_true rfl) (Nat.le_of_ble_eq_true rfl) (fun r9 J_195 hq9 => ?_)
                    obtain ⟨z_195, rfl, hz_195, m_195, w_195, h_195, x_195, y_195⟩ := hq9
                    have q_195 := MRT.tr q_188 w_195
                    have l_195 := w_195.1.1.2
                    have s_195 := SI.t r9 _ (x + 1) s_188
                    refine tz_istore (pc := 198) (L2 := [_, _, _, _, _, _, _]) dX12_term1_198 (by decide) rfl ?_
                    refine tz_iload_n (pc := 200) dX12_term1_200 rfl rfl ?_
                    refine tz_iconst (pc := 201) dX12_term1_201 ?_
                    refine tz_icmp_leF (pc := 202) (tgt := 211) (by decide) dX12_term1_202 (by decide) (by decide) (by decide) ?_
                    refine tz_aload_n (pc := 205) dX12_term1_205 rfl rfl ?_
                    refine tz_bipush (pc := 206) dX12_term1_206 (by decide) ?_
                    refine tz_cV (pc := 208) (z_sign hl n _ _ (by decide) _ x_195 s_195 (q_195).2.1 (by decide)) vl_X12_296 dX12_term1_208 o_164 rfl rfl (Nat.le_of_ble_eq_true rfl) ⟨(show 3 + 1 ≤ 6 + 1 * (r9 + 1) by omega), (show 8 + (2 + 11) + 40 * (3) ≤ 40 * (6 + 1 * (r9 + 1)) by omega)⟩ rfl rfl (Nat.le_of_ble_eq_true rfl) (Nat.le_of_ble_eq_true rfl) (fun r9 J_208 hq9 => ?_)
                    obtain ⟨rfl, w_208, b_208, x_208⟩ := hq9
                    have q_208 := MRT.w q_195 w_208
                    have s_208 := s_195.p (c := 44)
                    clear b_208
                    refine tz_iload_n (pc := 211) dX12_term1_211 rfl rfl ?_
                    refine tz_iconst (pc := 212) dX12_term1_212 ?_
                    refine tz_icmp_leF (pc := 213) (tgt := 226) (by decide) dX12_term1_213 (by decide) (by decide) (by decide) ?_
                    refine tz_aload_n (pc := 216) dX12_term1_216 rfl rfl ?_
                    refine tz_iload_n (pc := 217) dX12_term1_217 rfl rfl ?_
                    refine tz_iconst (pc := 218) dX12_term1_218 ?_
                    refine tz_iadd (pc := 219) (v := x + 1) dX12_term1_219 rfl ?_
                    refine tz_cV (pc := 220) (ih _ _ (by omega) s m_195 _ (q_208).1.1.1 (q_208).2.1 (q_208).2.2.2.2 (((q_208).f 44 rfl).trans h44) (by omega) x_208 s_208 (by omega)) vl_X12_298 dX12_term1_220 o_164 rfl rfl (Nat.le_of_ble_eq_true rfl) ⟨(show (6 + 1 * r9) + 1 ≤ 6 + 1 * (r9 + 1) by omega), (show 8 + (7 + 11) + 40 * ((6 + 1 * r9)) ≤ 40 * (6 + 1 * (r9 + 1)) by omega)⟩ rfl rfl (Nat.le_of_ble_eq_true rfl) (Nat.le_of_ble_eq_true rfl) (fun r9 J_220 hq9 => ?_)
                    obtain ⟨z_220, rfl, hz_220, m_220, w_220, h_220, x_220, y_220⟩ := hq9
                    have q_220 := MRT.tr q_208 w_220
                    have l_220 := w_220.1.1.2
                    have s_220 := SI.t r9 _ (x + 1) s_208
                    refine tz_goto (pc := 223) (tgt := 227) dX12_term1_223 (by decide) ?_
                    refine tz_istore (pc := 227) (L2 := [_, _, _, _, _, _, _]) dX12_term1_227 (by decide) rfl ?_
                    refine tz_iload_n (pc := 229) dX12_term1_229 rfl rfl ?_
                    refine tz_iconst (pc := 230) dX12_term1_230 ?_
                    refine tz_icmp_leF (pc := 231) (tgt := 240) (by decide) dX12_term1_231 (by decide) (by decide) (by decide) ?_
                    refine tz_aload_n (pc := 234) dX12_term1_234 rfl rfl ?_
                    refine tz_bipush (pc := 235) dX12_term1_235 (by decide) ?_
                    refine tz_cV (pc := 237) (z_sign hl n _ _ (by decide) _ x_220 s_220 (q_220).2.1 (by decide)) vl_X12_296 dX12_term1_237 o_164 rfl rfl (Nat.le_of_ble_eq_true rfl) ⟨(show 3 + 1 ≤ 6 + 1 * (r9 + 1) by omega), (show 8 + (2 + 11) + 40 * (3) ≤ 40 * (6 + 1 * (r9 + 1)) by omega)⟩ rfl rfl (Nat.le_of_ble_eq_true rfl) (Nat.le_of_ble_eq_true rfl) (fun r9 J_237 hq9 => ?_)
                    obtain ⟨rfl, w_237, b_237, x_237⟩ := hq9
                    have q_237 := MRT.w q_220 w_237
                    have s_237 := s_220.p (c := 44)
                    clear b_237
                    refine tz_iload_n (pc := 240) dX12_term1_240 rfl rfl ?_
                    refine tz_iconst (pc := 241) dX12_term1_241 ?_
                    refine tz_icmp_leF (pc := 242) (tgt := 255) (by decide) dX12_term1_242 (by decide) (by decide) (by decide) ?_
                    refine tz_aload_n (pc := 245) dX12_term1_245 rfl rfl ?_
                    refine tz_iload_n (pc := 246) dX12_term1_246 rfl rfl ?_
                    refine tz_iconst (pc := 247) dX12_term1_247 ?_
                    refine tz_iadd (pc := 248) (v := x + 1) dX12_term1_248 rfl ?_
                    refine tz_cV (pc := 249) (ih _ _ (by omega) s m_220 _ (q_237).1.1.1 (q_237).2.1 (q_237).2.2.2.2 (((q_237).f 44 rfl).trans h44) (by omega) x_237 s_237 (by omega)) vl_X12_298 dX12_term1_249 o_164 rfl rfl (Nat.le_of_ble_eq_true rfl) ⟨(show (6 + 1 * r9) + 1 ≤ 6 + 1 * (r9 + 1) by omega), (show 8 + (7 + 11) + 40 * ((6 + 1 * r9)) ≤ 40 * (6 + 1 * (r9 + 1)) by omega)⟩ rfl rfl (Nat.le_of_ble_eq_true rfl) (Nat.le_of_ble_eq_true rfl) (fun r9 J_249 hq9 => ?_)
                    obtain ⟨z_249, rfl, hz_249, m_249, w_249, h_249, x_249, y_249⟩ := hq9
                    have q_249 := MRT.tr q_237 w_249
                    have l_249 := w_249.1.1.2
                    have s_249 := SI.t r9 _ (x + 1) s_237
                    refine tz_goto (pc := 252) (tgt := 256) dX12_term1_252 (by decide) ?_
                    refine tz_istore (pc := 256) (L2 := [_, _, _, _, _, _, _]) dX12_term1_256 (by decide) rfl ?_
                    refine tz_aload_n (pc := 258) dX12_term1_258 rfl rfl ?_
                    refine tz_bipush (pc := 259) dX12_term1_259 (by decide) ?_
                    refine tz_cV (pc := 261) (z_sign hl n _ _ (by decide) _ x_249 s_249 (q_249).2.1 (by decide)) vl_X12_296 dX12_term1_261 o_164 rfl rfl (Nat.le_of_ble_eq_true rfl) ⟨(show 3 + 1 ≤ 6 + 1 * (r9 + 1) by omega), (show 8 + (2 + 11) + 40 * (3) ≤ 40 * (6 + 1 * (r9 + 1)) by omega)⟩ rfl rfl (Nat.le_of_ble_eq_true rfl) (Nat.le_of_ble_eq_true rfl) (fun r9 J_261 hq9 => ?_)
                    obtain ⟨rfl, w_261, b_261, x_261⟩ := hq9
                    have q_261 := MRT.w q_249 w_261
                    have s_261 := s_249.p (c := 41)
                    clear b_261
                    refine tz_aload_n (pc := 264) dX12_term1_264 rfl rfl ?_
                    refine tz_fI (pc := 265) (kz := 43) (v := (J_261 164 43)) dX12_term1_265 fl_X12_273 i_164_43 rfl rfl (fun r_265 => ?_)
                    refine tz_if_ne (pc := 268) (tgt := 285) dX12_term1_268 (by decide) (by omega) (fun h_268 => ?_) (fun h_268 => ?_)
                    · refine tz_iconst (pc := 285) dX12_term1_285 ?_
                      exact tz_iret (pc := 286) (z := 0) dX12_term1_286 rfl (Nat.le_of_ble_eq_true rfl) (Nat.le_of_ble_eq_true rfl) ⟨Nat.le_refl _, Nat.le_add_right _ _⟩ ⟨_, rfl, (by decide), (by have e9 : pT (r9 + 1) g x = (if ((pP (pT r9 (pP (pT r9 (pP (pT r9 (pP (pN g) 40) (x + 1)).1 44) (x + 1)).1 44) (x + 1)).1 41)) 0 4 = 0 then pMd ((pP (pT r9 (pP (pT r9 (pP (pT r9 (pP (pN g) 40) (x + 1)).1 44) (x + 1)).1 44) (x + 1)).1 41)) (psy g (g 1 (g 0 1))) (pT r9 (pP (pN g) 40) (x + 1)).2 (pT r9 (pP (pT r9 (pP (pN g) 40) (x + 1)).1 44) (x + 1)).2 (pT r9 (pP (pT r9 (pP (pT r9 (pP (pN g) 40) (x + 1)).1 44) (x + 1)).1 44) (x + 1)).2 else ((pP (pT r9 (pP (pT r9 (pP (pT r9 (pP (pN g) 40) (x + 1)).1 44) (x + 1)).1 44) (x + 1)).1 41), 0)) := (by rw [pT_s, if_pos h0, if_neg (by have := hT.1.sg (c := 63) (by decide); omega), if_pos (by have := hT.1.so; omega), if_pos (by have := hT.1.so; omega), if_pos (by omega)]; unfold pC; rw [hgA]; unfold pA4 pA3 pA2 pA1; simp only [show ((0 : Int) < 3) by decide, show ((1 : Int) < 3) by decide, show ((2 : Int) < 3) by decide, if_true, if_false]); have n9 := x_261.no (by omega); exact ⟨m_249, q_261, fun q9 => by omega, by rw [e9, if_neg n9]; exact x_261, fun q9 => absurd (show ((pP (pT r9 (pP (pT r9 (pP (pT r9 (pP (pN g) 40) (x + 1)).1 44) (x + 1)).1 44) (x + 1)).1 41)) 0 4 = 0 from by rw [e9, if_neg n9] at q9; exact q9) n9⟩)⟩
                    · refine tz_aload_n (pc := 271) dX12_term1_271 rfl rfl ?_
                      refine tz_iload_n (pc := 272) dX12_term1_272 rfl rfl ?_
                      refine tz_iload (pc := 273) dX12_term1_273 rfl ?_
                      refine tz_iload (pc := 275) dX12_term1_275 rfl ?_
                      refine tz_iload (pc := 277) dX12_term1_277 rfl ?_
                      have hb_261 : J_261 164 43 = 0 := h_268
                      have hb_249 := w_261.2.2.1 hb_261
                      have hb_237 := w_249.2.2.1 hb_249
                      have hb_220 := w_237.2.2.1 hb_237
                      have hb_208 := w_220.2.2.1 hb_220
                      have hb_195 := w_208.2.2.1 hb_208
                      have hv_195 := h_195 hb_195
                      have hv_220 := h_220 hb_220
                      have hv_249 := h_249 hb_249
                      refine tz_cV (pc := 279) (z_tm3 hl n _ _ _ _ _ (by omega) hz_195 hz_220 hz_249 s m_249 _ (q_261).1.1.1 (by omega) ⟨by omega, ((congrFun ((q_261).c 170 rfl) _).trans hk9)⟩ (q_261).2.2.2.2 ⟨fun _ => ⟨hv_195.1, by omega⟩, fun _ => ⟨hv_220.1, by omega⟩, fun _ => ⟨hv_249.1, by omega⟩⟩ h_268 x_261) vl_X12_107 dX12_term1_279 o_164 rfl rfl (Nat.le_of_ble_eq_true rfl) ⟨(show 2 + 1 ≤ 6 + 1 * (r9 + 1) by omega), (show 8 + (8 + 11) + 40 * (2) ≤ 40 * (6 + 1 * (r9 + 1)) by omega)⟩ rfl rfl (Nat.le_of_ble_eq_true rfl) (Nat.le_of_ble_eq_true rfl) (fun r9 J_279 hq9 => ?_)
                      obtain ⟨z_279, rfl, hz_279, ⟨m_279, g_279, h_279⟩, x_279, y_279⟩ := hq9
                      have q_279 := MRT.t q_261 g_279 (by omega)
                      refine tz_goto (pc := 282) (tgt := 286) dX12_term1_282 (by decide) ?_
                      exact tz_iret (pc := 286) (z := z_279) dX12_term1_286 rfl (Nat.le_of_ble_eq_true rfl) (Nat.le_of_ble_eq_true rfl) ⟨Nat.le_refl _, Nat.le_add_right _ _⟩ ⟨_, rfl, (by omega), (by have e9 : pT (r9 + 1) g x = (if ((pP (pT r9 (pP (pT r9 (pP (pT r9 (pP (pN g) 40) (x + 1)).1 44) (x + 1)).1 44) (x + 1)).1 41)) 0 4 = 0 then pMd ((pP (pT r9 (pP (pT r9 (pP (pT r9 (pP (pN g) 40) (x + 1)).1 44) (x + 1)).1 44) (x + 1)).1 41)) (psy g (g 1 (g 0 1))) (pT r9 (pP (pN g) 40) (x + 1)).2 (pT r9 (pP (pT r9 (pP (pN g) 40) (x + 1)).1 44) (x + 1)).2 (pT r9 (pP (pT r9 (pP (pT r9 (pP (pN g) 40) (x + 1)).1 44) (x + 1)).1 44) (x + 1)).2 else ((pP (pT r9 (pP (pT r9 (pP (pT r9 (pP (pN g) 40) (x + 1)).1 44) (x + 1)).1 44) (x + 1)).1 41), 0)) := (by rw [pT_s, if_pos h0, if_neg (by have := hT.1.sg (c := 63) (by decide); omega), if_pos (by have := hT.1.so; omega), if_pos (by have := hT.1.so; omega), if_pos (by omega)]; unfold pC; rw [hgA]; unfold pA4 pA3 pA2 pA1; simp only [show ((0 : Int) < 3) by decide, show ((1 : Int) < 3) by decide, show ((2 : Int) < 3) by decide, if_true, if_false]); have e8 : (if ((pP (pT r9 (pP (pT r9 (pP (pT r9 (pP (pN g) 40) (x + 1)).1 44) (x + 1)).1 44) (x + 1)).1 41)) 0 4 = 0 then pMd ((pP (pT r9 (pP (pT r9 (pP (pT r9 (pP (pN g) 40) (x + 1)).1 44) (x + 1)).1 44) (x + 1)).1 41)) (psy g (g 1 (g 0 1))) (pT r9 (pP (pN g) 40) (x + 1)).2 (pT r9 (pP (pT r9 (pP (pN g) 40) (x + 1)).1 44) (x + 1)).2 (pT r9 (pP (pT r9 (pP (pT r9 (pP (pN g) 40) (x + 1)).1 44) (x + 1)).1 44) (x + 1)).2 else ((pP (pT r9 (pP (pT r9 (pP (pT r9 (pP (pN g) 40) (x + 1)).1 44) (x + 1)).1 44) (x + 1)).1 41), 0)) = (if ((pP (pT r9 (pP (pT r9 (pP (pT r9 (pP (pN g) 40) (x + 1)).1 44) (x + 1)).1 44) (x + 1)).1 41)) 0 4 = 0 then pMd ((pP (pT r9 (pP (pT r9 (pP (pT r9 (pP (pN g) 40) (x + 1)).1 44) (x + 1)).1 44) (x + 1)).1 41)) z_107 z_195 z_220 z_249 else ((pP (pT r9 (pP (pT r9 (pP (pT r9 (pP (pN g) 40) (x + 1)).1 44) (x + 1)).1 44) (x + 1)).1 41), 0)) := (by by_cases q9 : ((pP (pT r9 (pP (pT r9 (pP (pT r9 (pP (pN g) 40) (x + 1)).1 44) (x + 1)).1 44) (x + 1)).1 41)) 0 4 = 0; (rw [if_pos q9, if_pos q9]; have f_3 : (pT r9 (pP (pT r9 (pP (pT r9 (pP (pN g) 40) (x + 1)).1 44) (x + 1)).1 44) (x + 1)).1 0 4 = 0 := (Classical.byContradiction (fun e => e (by rw [pP_f e] at q9; exact q9))); have f_2 : (pT r9 (pP (pT r9 (pP (pN g) 40) (x + 1)).1 44) (x + 1)).1 0 4 = 0 := (Classical.byContradiction (fun e => e (by have q8 := f_3; rw [pP_f e, pT_f e] at q8; exact q8))); have f_1 : (pT r9 (pP (pN g) 40) (x + 1)).1 0 4 = 0 := (Classical.byContradiction (fun e => e (by have q8 := f_2; rw [pP_f e, pT_f e] at q8; exact q8))); rw [← hz9.1, ← y_195 f_1, ← y_220 f_2, ← y_249 f_3]); rw [if_neg q9, if_neg q9]); exact ⟨m_279, q_279, fun _ => h_279, by rw [e9, e8]; exact x_279, by rw [e9, e8]; exact y_279⟩)⟩
          · refine tz_aload_n (pc := 48) dX12_term1_48 rfl rfl ?_
            refine tz_iload_n (pc := 49) dX12_term1_49 rfl rfl ?_
            refine tz_bipush (pc := 50) dX12_term1_50 (by decide) ?_
            refine tz_icmp_gt (pc := 52) (tgt := 59) dX12_term1_52 (by decide) (by omega) (by decide) (fun h_52 => ?_) (fun h_52 => ?_)
            · refine tz_iconst (pc := 59) dX12_term1_59 ?_
              refine tz_iconst (pc := 60) dX12_term1_60 ?_
              refine tz_cV (pc := 61) (y_wants hl n _ _ _ (by decide) (by decide) g hR hP (by decide)) vl_X12_276 dX12_term1_61 o_164 rfl rfl (Nat.le_of_ble_eq_true rfl) ⟨(show 0 + 1 ≤ 6 + 1 * (r9 + 1) by omega), (show 8 + (3 + 11) + 40 * (0) ≤ 40 * (6 + 1 * (r9 + 1)) by omega)⟩ rfl rfl (Nat.le_of_ble_eq_true rfl) (Nat.le_of_ble_eq_true rfl) (fun r9 J_61 hq9 => ?_)
              obtain ⟨z_61, rfl, hz_61, w_61, o_61⟩ := hq9
              obtain ⟨rfl, v_61, r_61⟩ : z_61 = 0 ∧ ¬ J_61 164 43 = 0 ∧ RelM J_61 (pF g 2) := by rcases o_61 with q | q | q; exact absurd rfl q.2.1; exact ⟨q.2.2.1, q.2.2.2⟩; exact absurd h0 q.1
              have q_61 := MRT.w g0 w_61
              clear o_61
              refine tz_if_neF (pc := 64) (tgt := 69) (by decide) dX12_term1_64 (by decide) (by decide) ?_
              refine tz_iconst (pc := 67) dX12_term1_67 ?_
              exact tz_iret (pc := 68) (z := 0) dX12_term1_68 rfl (Nat.le_of_ble_eq_true rfl) (Nat.le_of_ble_eq_true rfl) ⟨Nat.le_refl _, Nat.le_add_right _ _⟩ ⟨_, rfl, (by decide), (by have e9 : pT (r9 + 1) g x = (pF g 2, 0) := (by rw [pT_s, if_pos h0, if_pos ((hT.1.sg (c := 63) (by decide)).1 (by omega)), if_neg (by omega)]); exact ⟨m, q_61, fun q9 => absurd q9 v_61, by rw [e9]; exact Or.inr r_61, fun q9 => absurd (r_61.1.trans (by rw [e9] at q9; exact q9)) v_61⟩)⟩
            · refine tz_iconst (pc := 55) dX12_term1_55 ?_
              refine tz_goto (pc := 56) (tgt := 60) dX12_term1_56 (by decide) ?_
              refine tz_iconst (pc := 60) dX12_term1_60 ?_
              refine tz_cV (pc := 61) (y_wants hl n _ _ _ (by decide) (by decide) g hR hP (by decide)) vl_X12_276 dX12_term1_61 o_164 rfl rfl (Nat.le_of_ble_eq_true rfl) ⟨(show 0 + 1 ≤ 6 + 1 * (r9 + 1) by omega), (show 8 + (3 + 11) + 40 * (0) ≤ 40 * (6 + 1 * (r9 + 1)) by omega)⟩ rfl rfl (Nat.le_of_ble_eq_true rfl) (Nat.le_of_ble_eq_true rfl) (fun r9 J_61 hq9 => ?_)
              obtain ⟨z_61, rfl, hz_61, w_61, o_61⟩ := hq9
              obtain ⟨rfl, rfl⟩ : z_61 = 1 ∧ J = J_61 := by rcases o_61 with q | q | q; exact ⟨q.2.2.1, q.2.2.2⟩; exact absurd q.2.1 (by decide); exact absurd h0 q.1
              clear o_61
              refine tz_if_neT (pc := 64) (tgt := 69) (by decide) dX12_term1_64 (by decide) (by decide) ?_
              refine tz_aload_n (pc := 69) dX12_term1_69 rfl rfl ?_
              refine tz_cV (pc := 70) (y_go hl n _ g hR h0 hS) vl_X12_280 dX12_term1_70 o_164 rfl rfl (Nat.le_of_ble_eq_true rfl) ⟨(show 2 + 1 ≤ 6 + 1 * (r9 + 1) by omega), (show 8 + (2 + 11) + 40 * (2) ≤ 40 * (6 + 1 * (r9 + 1)) by omega)⟩ rfl rfl (Nat.le_of_ble_eq_true rfl) (Nat.le_of_ble_eq_true rfl) (fun r9 J_70 hq9 => ?_)
              obtain ⟨rfl, r_70, w_70, u_70⟩ := hq9
              have q_70 := MRT.w g0 w_70
              have s_70 := hS.n
              have x_70 : RelX J_70 (pN g) := Or.inr r_70
              clear u_70
              refine tz_aload_n (pc := 73) dX12_term1_73 rfl rfl ?_
              refine tz_iconst (pc := 74) dX12_term1_74 ?_
              refine tz_bipush (pc := 75) dX12_term1_75 (by decide) ?_
              refine tz_cV (pc := 77) (y_number hl n _ _ _ (by decide) (by decide) (pN g) r_70 s_70 (q_70).2.1 (by decide)) vl_X12_290 dX12_term1_77 o_164 rfl rfl (Nat.le_of_ble_eq_true rfl) ⟨(show 3 + 1 ≤ 6 + 1 * (r9 + 1) by omega), (show 8 + (4 + 11) + 40 * (3) ≤ 40 * (6 + 1 * (r9 + 1)) by omega)⟩ rfl rfl (Nat.le_of_ble_eq_true rfl) (Nat.le_of_ble_eq_true rfl) (fun r9 J_77 hq9 => ?_)
              obtain ⟨z_77, rfl, hz_77, w_77, b_77, r_77, e_77⟩ := hq9
              have q_77 := MRT.w q_70 w_77
              refine tz_istore_n (pc := 80) (L2 := [_, _, _, _, _, _, _]) dX12_term1_80 rfl (by decide) rfl ?_
              refine tz_aload_n (pc := 81) dX12_term1_81 rfl rfl ?_
              refine tz_fI (pc := 82) (kz := 43) (v := (J_77 164 43)) dX12_term1_82 fl_X12_273 i_164_43 rfl rfl (fun r_82 => ?_)
              refine tz_if_ne (pc := 85) (tgt := 96) dX12_term1_85 (by decide) (by omega) (fun h_85 => ?_) (fun h_85 => ?_)
              · refine tz_iconst (pc := 96) dX12_term1_96 ?_
                exact tz_iret (pc := 97) (z := 0) dX12_term1_97 rfl (Nat.le_of_ble_eq_true rfl) (Nat.le_of_ble_eq_true rfl) ⟨Nat.le_refl _, Nat.le_add_right _ _⟩ ⟨_, rfl, (by decide), (by have hU : ¬ (pU (pN g) 0 7).1 0 4 = 0 := (by rw [← r_77.1]; omega); have e9 : pT (r9 + 1) g x = ((pU (pN g) 0 7).1, 0) := (by rw [pT_s, if_pos h0, if_pos ((hT.1.sg (c := 63) (by decide)).1 (by omega)), if_pos (by omega)]; unfold pV; rw [if_neg hU]); exact ⟨m, q_77, fun q9 => by omega, by rw [e9]; exact Or.inr r_77, fun q9 => absurd (by rw [e9] at q9; exact q9) hU⟩)⟩
              · refine tz_aload_n (pc := 88) dX12_term1_88 rfl rfl ?_
                refine tz_iload_n (pc := 89) dX12_term1_89 rfl rfl ?_
                have hU : (pU (pN g) 0 7).1 0 4 = 0 := by rw [← r_77.1]; omega
                have hz7 := e_77 hU
                clear e_77
                have h21 : J_77 164 21 = 0 := (r_77.2.2 hU).2.2.2.1.2.2.1
                refine tz_cV (pc := 90) (x_varTerm hl n _ _ (by omega) s m (q_77).1.1.1 (by omega) h21) vl_X12_180 dX12_term1_90 o_164 rfl rfl (Nat.le_of_ble_eq_true rfl) ⟨(show 3 + 1 ≤ 6 + 1 * (r9 + 1) by omega), (show 8 + (2 + 11) + 40 * (3) ≤ 40 * (6 + 1 * (r9 + 1)) by omega)⟩ rfl rfl (Nat.le_of_ble_eq_true rfl) (Nat.le_of_ble_eq_true rfl) (fun r9 J_90 hq9 => ?_)
                obtain ⟨z_90, rfl, hz_90, t_90⟩ := hq9
                have hA9 : arh (fun k => J_77 170 (10 + k)) (-1 - z_77) = 0 := arh_neg (by omega)
                obtain ⟨m_90, g_90, h_90⟩ := t_90.mg (q_77).1.1.1 hA9 (by omega) h21 (by omega)
                have q_90 := MRT.t q_77 g_90 (by omega)
                have x_90 := r_77.made hU (q_77).1.1.1 hA9 (by omega) (by omega) t_90
                rw [hz7] at x_90
                refine tz_goto (pc := 93) (tgt := 97) dX12_term1_93 (by decide) ?_
                exact tz_iret (pc := 97) (z := z_90) dX12_term1_97 rfl (Nat.le_of_ble_eq_true rfl) (Nat.le_of_ble_eq_true rfl) ⟨Nat.le_refl _, Nat.le_add_right _ _⟩ ⟨_, rfl, (by omega), (by have e9 : pT (r9 + 1) g x = pMd (pU (pN g) 0 7).1 (-1 - (pU (pN g) 0 7).2) 0 0 0 := (by rw [pT_s, if_pos h0, if_pos ((hT.1.sg (c := 63) (by decide)).1 (by omega)), if_pos (by omega)]; unfold pV; rw [if_pos hU]); exact ⟨m_90, q_90, fun _ => h_90, by rw [e9]; exact x_90.1, by rw [e9]; exact x_90.2⟩)⟩

