theorem made_e {J : zJ} {m h A w v1 v2 v3 : Int} : zOf (zbut [7, 8, 9, 11]) (zup (zup (zup (zup (zup (zup J 7 m h) 8 m A) 11 m w) 9 (m * 3) v1) 9 ((m * 3) + 1) v2) 9 ((m * 3) + 2) v3) J ∧ zSU (zup (zup (zup (zup (zup (zup J 7 m h) 8 m A) 11 m w) 9 (m * 3) v1) 9 ((m * 3) + 1) v2) 9 ((m * 3) + 2) v3) J m ∧ (zup (zup (zup (zup (zup (zup J 7 m h) 8 m A) 11 m w) 9 (m * 3) v1) 9 ((m * 3) + 1) v2) 9 ((m * 3) + 2) v3) 7 m = h ∧ (zup (zup (zup (zup (zup (zup J 7 m h) 8 m A) 11 m w) 9 (m * 3) v1) 9 ((m * 3) + 1) v2) 9 ((m * 3) + 2) v3) 8 m = A ∧ (zup (zup (zup (zup (zup (zup J 7 m h) 8 m A) 11 m w) 9 (m * 3) v1) 9 ((m * 3) + 1) v2) 9 ((m * 3) + 2) v3) 11 m = w ∧ (zup (zup (zup (zup (zup (zup J 7 m h) 8 m A) 11 m w) 9 (m * 3) v1) 9 ((m * 3) + 1) v2) 9 ((m * 3) + 2) v3) 9 (m * 3 + 0) = v1 ∧ (zup (zup (zup (zup (zup (zup J 7 m h) 8 m A) 11 m w) 9 (m * 3) v1) 9 ((m * 3) + 1) v2) 9 ((m * 3) + 2) v3) 9 (m * 3 + 1) = v2 ∧ (zup (zup (zup (zup (zup (zup J 7 m h) 8 m A) 11 m w) 9 (m * 3) v1) 9 ((m * 3) + 1) v2) 9 ((m * 3) + 2) v3) 9 (m * 3 + 2) = v3 := by
  refine ⟨zOf.up rfl (zOf.up rfl (zOf.up rfl (zOf.up rfl (zOf.up rfl (zOf.up rfl zOf.rf))))), ⟨fun t a b => ⟨?_, ?_, rfl, ?_, rfl, rfl, rfl, rfl⟩, fun k a b => ?_⟩, ?_, ?_, ?_, ?_, ?_, ?_⟩
  · show (if t = m then h else J 7 t) = J 7 t
    rw [if_neg (by omega)]
  · show (if t = m then A else J 8 t) = J 8 t
    rw [if_neg (by omega)]
  · show (if t = m then w else J 11 t) = J 11 t
    rw [if_neg (by omega)]
  · show (if k = (m * 3) + 2 then v3 else if k = (m * 3) + 1 then v2 else if k = m * 3 then v1 else J 9 k) = J 9 k
    rw [if_neg (by omega), if_neg (by omega), if_neg (by omega)]
  · show (if m = m then h else J 7 m) = h
    rw [if_pos rfl]
  · show (if m = m then A else J 8 m) = A
    rw [if_pos rfl]
  · show (if m = m then w else J 11 m) = w
    rw [if_pos rfl]
  · show (if m * 3 + 0 = (m * 3) + 2 then v3 else if m * 3 + 0 = (m * 3) + 1 then v2 else if m * 3 + 0 = m * 3 then v1 else J 9 (m * 3 + 0)) = v1
    rw [if_neg (by omega), if_neg (by omega), if_pos (by omega)]
  · show (if m * 3 + 1 = (m * 3) + 2 then v3 else if m * 3 + 1 = (m * 3) + 1 then v2 else if m * 3 + 1 = m * 3 then v1 else J 9 (m * 3 + 1)) = v2
    rw [if_neg (by omega), if_pos rfl]
  · show (if m * 3 + 2 = (m * 3) + 2 then v3 else if m * 3 + 2 = (m * 3) + 1 then v2 else if m * 3 + 2 = m * 3 then v1 else J 9 (m * 3 + 2)) = v3
    rw [if_pos rfl]
/-- the arguments that count, where none is missing -/
def okA (A a b c : Int) : Prop := (0 < A → 0 ≤ a) ∧ (1 < A → 0 ≤ b) ∧ (2 < A → 0 ≤ c)
def ltA (A a b c m : Int) : Prop := (0 < A → a < m) ∧ (1 < A → b < m) ∧ (2 < A → c < m)
theorem made_a {X : Int → Int} {A a b c m v1 v2 v3 : Int} (hA : 0 ≤ A ∧ A ≤ 3) (e1 : v1 = if 0 < A then a else -1) (e2 : v2 = if 1 < A then b else -1) (e3 : v3 = if 2 < A then c else -1) (hn : okA A a b c) (hx : ltA A a b c m) (g0 : X 0 = v1) (g1 : X 1 = v2) (g2 : X 2 = v3) : ∀ i, 0 ≤ i → i < A → 0 ≤ X i ∧ X i < m := by
  intro i h0 h1
  rcases (show i = 0 ∨ i = 1 ∨ i = 2 by omega) with rfl | rfl | rfl
  · rw [g0, e1, if_pos h1]
    exact ⟨hn.1 h1, hx.1 h1⟩
  · rw [g1, e2, if_pos h1]
    exact ⟨hn.2.1 h1, hx.2.1 h1⟩
  · rw [g2, e3, if_pos h1]
    exact ⟨hn.2.2 h1, hx.2.2 h1⟩
/-- the same as the one that is laid at m -/
def smT (J1 : zJ) (t m : Int) : Prop := J1 7 t = J1 7 m ∧ ∀ j, 0 ≤ j → j < J1 8 m → J1 9 (t * 3 + j) = J1 9 (m * 3 + j)
theorem smT_isT {J J1 : zJ} {m t h A a b c v1 v2 v3 : Int} (C : CT J m) (s1 : zSU J1 J m) (hA : 0 ≤ A ∧ A ≤ 3) (eA : A = arh (J 3) h) (g7 : J1 7 m = h) (g8 : J1 8 m = A) (e1 : v1 = if 0 < A then a else -1) (e2 : v2 = if 1 < A then b else -1) (e3 : v3 = if 2 < A then c else -1) (g0 : J1 9 (m * 3 + 0) = v1) (g1 : J1 9 (m * 3 + 1) = v2) (g2 : J1 9 (m * 3 + 2) = v3) (h0 : 0 ≤ t) (h1 : t < m) : smT J1 t m ↔ isT J t h a b c := by
  have k7 := (s1.1 t h0 h1).1
  have q0 := s1.2 (t * 3 + 0) (by omega) (by omega)
  have q1 := s1.2 (t * 3 + 1) (by omega) (by omega)
  have q2 := s1.2 (t * 3 + 2) (by omega) (by omega)
  unfold smT isT
  rw [← eA, g7, g8, k7]
  constructor
  · rintro ⟨p, q⟩
    refine ⟨p, fun x => ?_, fun x => ?_, fun x => ?_⟩
    · have := q 0 (by decide) x
      rw [q0, g0, e1, if_pos x] at this
      exact this
    · have := q 1 (by decide) x
      rw [q1, g1, e2, if_pos x] at this
      exact this
    · have := q 2 (by decide) x
      rw [q2, g2, e3, if_pos x] at this
      exact this
  · rintro ⟨p, p0, p1, p2⟩
    refine ⟨p, fun j x y => ?_⟩
    rcases (show j = 0 ∨ j = 1 ∨ j = 2 by omega) with rfl | rfl | rfl
    · rw [q0, g0, e1, if_pos y]
      exact p0 y
    · rw [q1, g1, e2, if_pos y]
      exact p1 y
    · rw [q2, g2, e3, if_pos y]
      exact p2 y
theorem zmx_same {J : zJ} {t m : Int} : ∀ (k : Nat), J 7 t = J 7 m → (∀ j : Int, 0 ≤ j → j < k → J 9 (t * 3 + j) = J 9 (m * 3 + j)) → zmx J t k = zmx J m k
  | 0, h, _ => by simp only [zmx, h]
  | k + 1, h, h2 => by
    simp only [zmx]
    rw [zmx_same k h (fun i a b => h2 i a (by omega)), h2 (k : Int) (by omega) (by omega)]
theorem zbk_same {J : zJ} {t m : Int} (h7 : J 7 t = J 7 m) (h8 : J 8 t = J 8 m) (h0 : 0 ≤ J 8 m) (h9 : ∀ j, 0 ≤ j → j < J 8 m → J 9 (t * 3 + j) = J 9 (m * 3 + j)) : zbk J t = zbk J m := by
  unfold zbk
  rw [h8, zmx_same (J 8 m).toNat h7 (fun i a b => h9 i a (by omega))]
theorem smT_bk {J1 : zJ} {m t : Int} (C1 : CT J1 m) (h0 : 0 ≤ t) (h1 : t < m) (h8 : J1 8 m = arh (J1 3) (J1 7 m)) (h : smT J1 t m) : zbk J1 t = zbk J1 m := by
  have e8 : J1 8 t = J1 8 m := by rw [(C1.2.1 t h0 h1).1.1, h.1, h8]
  have h9 := (C1.ar h0 h1).1
  exact zbk_same h.1 e8 (by omega) h.2
def NST (J : zJ) (m h a b c : Int) : Prop := ∀ t, 0 ≤ t → t < m → ¬ isT J t h a b c
def madeP (J : zJ) (m h a b c : Int) (z : Int) (J' : zJ) : Prop := zOf (zbut [6, 7, 8, 9, 10, 11, 12, 13, 14, 15, 16, 17]) J' J ∧ zSU J' J m ∧
  (((z = -3 ∧ (¬ okA (arh (J 3) h) a b c ∨ (NST J m h a b c ∧ (m = 400 ∨ 6 < dpT J h a b c)))) ∧ J' 6 12 = m ∧ CT J' m) ∨
   (((0 ≤ z ∧ z < m) ∧ isT J z h a b c ∧ okA (arh (J 3) h) a b c) ∧ J' 6 12 = m ∧ CT J' m) ∨
   ((z = m ∧ m < 400 ∧ NST J m h a b c ∧ okA (arh (J 3) h) a b c ∧ dpT J h a b c ≤ 6) ∧ J' 6 12 = m + 1 ∧ CT J' (m + 1) ∧ isT J' m h a b c))
theorem made_w {J J1 : zJ} (f0 : zOf (zbut [7, 8, 9, 11]) J1 J) {J2 : zJ} (fr : zOf (zbut [14]) J2 J1) : zOf (zbut [6, 7, 8, 9, 10, 11, 12, 13, 14, 15, 16, 17]) J2 J := (zOf.mono fr (fun c hc => by simp [zbut] at hc ⊢; omega)).tr (zOf.mono f0 (fun c hc => by simp [zbut] at hc ⊢; omega))
theorem made_s {J2 J1 : zJ} {m : Int} (fr : zOf (zbut [14]) J2 J1) (f14 : ∀ t, 0 ≤ t → t < m → J2 14 t = J1 14 t) : zSU J2 J1 m := by
  refine ⟨fun t a b => ⟨?_, ?_, ?_, ?_, ?_, ?_, f14 t a b, ?_⟩, fun k a b => ?_⟩
  · rw [fr 7 rfl]
  · rw [fr 8 rfl]
  · rw [fr 10 rfl]
  · rw [fr 11 rfl]
  · rw [fr 12 rfl]
  · rw [fr 13 rfl]
  · rw [fr 15 rfl]
  · rw [fr 9 rfl]
theorem made_dp {J J2 : zJ} {m h A a b c v1 v2 v3 : Int} (hA : 0 ≤ A ∧ A ≤ 3) (eA : A = arh (J 3) h) (g8 : J2 8 m = A) (e1 : v1 = if 0 < A then a else -1) (e2 : v2 = if 1 < A then b else -1) (e3 : v3 = if 2 < A then c else -1) (g0 : J2 9 (m * 3 + 0) = v1) (g1 : J2 9 (m * 3 + 1) = v2) (g2 : J2 9 (m * 3 + 2) = v3) (e12 : J2 12 = J 12) : zd3 J2 m = dpT J h a b c := by
  unfold zd3 dpT
  rw [← eA, g8, g0, g1, g2, e12, e1, e2, e3]
  by_cases x0 : A ≤ 0
  · rw [if_pos x0, if_pos x0]
  · rw [if_neg x0, if_neg x0, if_pos (show 0 < A by omega)]
    by_cases x1 : A ≤ 1
    · rw [if_pos x1, if_pos x1]
    · rw [if_neg x1, if_neg x1, if_pos (show 1 < A by omega)]
      by_cases x2 : A ≤ 2
      · rw [if_pos x2, if_pos x2]
      · rw [if_neg x2, if_neg x2, if_pos (show 2 < A by omega)]
theorem made_full {J J1 J2 J3 : zJ} {m h A a b c v1 v2 v3 : Int} (C : CT J m) (hm : J 6 12 = m) (s1 : zSU J1 J m) (f0 : zOf (zbut [7, 8, 9, 11]) J1 J) (C1 : CT J1 m) (fr : zOf (zbut [14]) J2 J1) (f14 : ∀ t, 0 ≤ t → t < m → J2 14 t = J1 14 t) (p0 : zOf (zbut [10, 11, 12, 13]) J3 J2) (pk : ∀ k, ¬ k = m → J3 10 k = J2 10 k ∧ J3 11 k = J2 11 k ∧ J3 12 k = J2 12 k ∧ J3 13 k = J2 13 k) (hA : 0 ≤ A ∧ A ≤ 3) (eA : A = arh (J 3) h) (g7 : J1 7 m = h) (g8 : J1 8 m = A) (e1 : v1 = if 0 < A then a else -1) (e2 : v2 = if 1 < A then b else -1) (e3 : v3 = if 2 < A then c else -1) (g0 : J1 9 (m * 3 + 0) = v1) (g1 : J1 9 (m * 3 + 1) = v2) (g2 : J1 9 (m * 3 + 2) = v3) (NS : ∀ t, 0 ≤ t → t < m → ¬ smT J1 t m) (q12 : J3 12 m = zd3 J2 m) (hf : 400 ≤ m ∨ 6 < J3 12 m) : madeP J m h a b c (-3) J3 := by
  have s3 : zSU J3 J2 m := by
    refine ⟨fun t x y => ?_, fun k x y => by rw [p0 9 rfl]⟩
    obtain ⟨k1, k2, k3, k4⟩ := pk t (by omega)
    exact ⟨by rw [p0 7 rfl], by rw [p0 8 rfl], k1, k2, k3, k4, by rw [p0 14 rfl], by rw [p0 15 rfl]⟩
  have s2 := made_s fr f14
  have ht := C.told
  refine ⟨(zOf.mono p0 (fun c hc => by simp [zbut] at hc ⊢; omega)).tr (made_w f0 fr), s3.tr (s2.tr s1), Or.inl ⟨⟨rfl, Or.inr ⟨fun t x y z => NS t x y ((smT_isT C s1 hA eA g7 g8 e1 e2 e3 g0 g1 g2 x y).mpr z), ?_⟩⟩, ?_, ?_⟩⟩
  · rw [q12, made_dp hA eA (by rw [fr 8 rfl]; exact g8) e1 e2 e3 (by rw [fr 9 rfl]; exact g0) (by rw [fr 9 rfl]; exact g1) (by rw [fr 9 rfl]; exact g2) ((fr 12 rfl).trans (f0 12 rfl))] at hf
    omega
  · rw [p0 6 rfl, fr 6 rfl, f0 6 rfl]
    exact hm
  · exact C1.su ((p0 1 rfl).trans (fr 1 rfl)) ((p0 3 rfl).trans (fr 3 rfl)) ((p0 4 rfl).trans (fr 4 rfl)) ((p0 16 rfl).trans (fr 16 rfl)) (s3.tr s2)
theorem made_fin {J J1 J2 J3 : zJ} {m h A w a b c v1 v2 v3 : Int} (C : CT J m) (hm : J 6 12 = m) (hh : -8 ≤ h ∧ h < J 1 3) (s1 : zSU J1 J m) (f0 : zOf (zbut [7, 8, 9, 11]) J1 J) (C1 : CT J1 m) (fr : zOf (zbut [14]) J2 J1) (f14 : ∀ t, 0 ≤ t → t < m → J2 14 t = J1 14 t) (p0 : zOf (zbut [10, 11, 12, 13]) J3 J2) (pk : ∀ k, ¬ k = m → J3 10 k = J2 10 k ∧ J3 11 k = J2 11 k ∧ J3 12 k = J2 12 k ∧ J3 13 k = J2 13 k) (hA : 0 ≤ A ∧ A ≤ 3) (eA : A = arh (J 3) h) (g7 : J1 7 m = h) (g8 : J1 8 m = A) (g11 : J1 11 m = w) (ew : w = if h < 0 then 1 else J 4 h) (e1 : v1 = if 0 < A then a else -1) (e2 : v2 = if 1 < A then b else -1) (e3 : v3 = if 2 < A then c else -1) (g0 : J1 9 (m * 3 + 0) = v1) (g1 : J1 9 (m * 3 + 1) = v2) (g2 : J1 9 (m * 3 + 2) = v3) (hok : okA (arh (J 3) h) a b c) (hargs : ∀ i, 0 ≤ i → i < A → 0 ≤ J1 9 (m * 3 + i) ∧ J1 9 (m * 3 + i) < m) (NS : ∀ t, 0 ≤ t → t < m → ¬ smT J1 t m) (q10 : J3 10 m = 1 + zs3 J2 m) (q11 : J3 11 m = J2 11 m + zw3 J2 m) (q12 : J3 12 m = zd3 J2 m) (q13 : J3 13 m = zv3 J2 m) (hm4 : m < 400) (hd : J3 12 m ≤ 6) : madeP J m h a b c m (zup (zup (zup J3 15 m (J1 16 (zbk J1 m))) 16 (zbk J1 m) m) 6 12 (m + 1)) := by
  have s3 : zSU J3 J2 m := by
    refine ⟨fun t x y => ?_, fun k x y => by rw [p0 9 rfl]⟩
    obtain ⟨k1, k2, k3, k4⟩ := pk t (by omega)
    exact ⟨by rw [p0 7 rfl], by rw [p0 8 rfl], k1, k2, k3, k4, by rw [p0 14 rfl], by rw [p0 15 rfl]⟩
  have s2 := made_s fr f14
  have ht := C.told
  generalize hJ : zup (zup (zup J3 15 m (J1 16 (zbk J1 m))) 16 (zbk J1 m) m) 6 12 (m + 1) = J'
  have r7 : J' 7 = J1 7 := by rw [← hJ]; exact (p0 7 rfl).trans (fr 7 rfl)
  have r8 : J' 8 = J1 8 := by rw [← hJ]; exact (p0 8 rfl).trans (fr 8 rfl)
  have r9 : J' 9 = J1 9 := by rw [← hJ]; exact (p0 9 rfl).trans (fr 9 rfl)
  have r3 : J' 3 = J 3 := by rw [← hJ]; exact (p0 3 rfl).trans ((fr 3 rfl).trans (f0 3 rfl))
  have r4 : J' 4 = J 4 := by rw [← hJ]; exact (p0 4 rfl).trans ((fr 4 rfl).trans (f0 4 rfl))
  have r1 : J' 1 = J 1 := by rw [← hJ]; exact (p0 1 rfl).trans ((fr 1 rfl).trans (f0 1 rfl))
  have r10 : J' 10 = J3 10 := by rw [← hJ]; rfl
  have r11 : J' 11 = J3 11 := by rw [← hJ]; rfl
  have r12 : J' 12 = J3 12 := by rw [← hJ]; rfl
  have r13 : J' 13 = J3 13 := by rw [← hJ]; rfl
  have r14 : J' 14 = J2 14 := by rw [← hJ]; exact p0 14 rfl
  have r15 : ∀ t, ¬ t = m → J' 15 t = J1 15 t := fun t hne => by
    rw [← hJ]
    show (if t = m then J1 16 (zbk J1 m) else J3 15 t) = J1 15 t
    rw [if_neg hne, p0 15 rfl, fr 15 rfl]
  have r15m : J' 15 m = J1 16 (zbk J1 m) := by
    rw [← hJ]
    show (if m = m then J1 16 (zbk J1 m) else J3 15 m) = _
    rw [if_pos rfl]
  have sA : zSU J' J m := by
    refine zSU.tr ?_ (s3.tr (s2.tr s1))
    refine ⟨fun t x y => ⟨by rw [r7, p0 7 rfl, fr 7 rfl], by rw [r8, p0 8 rfl, fr 8 rfl], by rw [r10], by rw [r11], by rw [r12], by rw [r13], by rw [r14, p0 14 rfl], by rw [r15 t (by omega), p0 15 rfl, fr 15 rfl]⟩, fun k x y => by rw [r9, p0 9 rfl, fr 9 rfl]⟩
  have hlt : ∀ i, 0 ≤ i → i < J1 8 m → 0 ≤ J1 9 (m * 3 + i) ∧ J1 9 (m * 3 + i) < m := fun i x y => hargs i x (by rw [← g8]; exact y)
  have ez : zs3 J' m = zs3 J2 m := zs3_su (by rw [r8, fr 8 rfl]) (fun i x y => by
    rw [fr 8 rfl] at y
    have := hlt i x y
    rw [r9, fr 9 rfl, r10, (pk _ (by omega)).1])
  have ew3 : zw3 J' m = zw3 J2 m := zw3_su (by rw [r8, fr 8 rfl]) (fun i x y => by
    rw [fr 8 rfl] at y
    have := hlt i x y
    rw [r9, fr 9 rfl, r11, (pk _ (by omega)).2.1])
  have ev : zv3 J' m = zv3 J2 m := zv3_su (by rw [r7, fr 7 rfl]) (by rw [r8, fr 8 rfl]) (fun i x y => by
    rw [fr 8 rfl] at y
    have := hlt i x y
    rw [r9, fr 9 rfl, r13, (pk _ (by omega)).2.2.2])
  have ed2 : zd3 J2 m = dpT J h a b c := made_dp hA eA (by rw [fr 8 rfl]; exact g8) e1 e2 e3 (by rw [fr 9 rfl]; exact g0) (by rw [fr 9 rfl]; exact g1) (by rw [fr 9 rfl]; exact g2) ((fr 12 rfl).trans (f0 12 rfl))
  have ed : zd3 J' m = zd3 J2 m := by
    unfold zd3
    rw [r8, fr 8 rfl, r9, fr 9 rfl, r12]
    have k0 : 0 < J1 8 m → J3 12 (J1 9 (m * 3 + 0)) = J2 12 (J1 9 (m * 3 + 0)) := fun x => (pk _ (by have := hlt 0 (by decide) x; omega)).2.2.1
    have k1 : 1 < J1 8 m → J3 12 (J1 9 (m * 3 + 1)) = J2 12 (J1 9 (m * 3 + 1)) := fun x => (pk _ (by have := hlt 1 (by decide) x; omega)).2.2.1
    have k2 : 2 < J1 8 m → J3 12 (J1 9 (m * 3 + 2)) = J2 12 (J1 9 (m * 3 + 2)) := fun x => (pk _ (by have := hlt 2 (by decide) x; omega)).2.2.1
    by_cases x0 : J1 8 m ≤ 0
    · rw [if_pos x0, if_pos x0]
    · rw [if_neg x0, if_neg x0, k0 (by omega)]
      by_cases x1 : J1 8 m ≤ 1
      · rw [if_pos x1, if_pos x1]
      · rw [if_neg x1, if_neg x1, k1 (by omega)]
        by_cases x2 : J1 8 m ≤ 2
        · rw [if_pos x2, if_pos x2]
        · rw [if_neg x2, if_neg x2, k2 (by omega)]
  have eb : zbk J1 m = zbk J' m := (zbk_congr (by rw [r7]) (by rw [r8]) (fun i x y => by
    have := hlt i x y
    rw [r9, r14, f14 _ this.1 this.2]) (by rw [g8]; exact hA.1)).symm
  have hTU : ∀ s, 0 ≤ s → s < m → ¬ TU (J' 3) (J' 7) (fun t i => J' 9 (t * 3 + i)) s m := fun s x y z => NS s x y (by
    obtain ⟨z1, z2⟩ := z
    rw [r7] at z1 z2
    refine ⟨z1, fun j p q => ?_⟩
    have := z2 j p (by rw [r3, g7, ← eA, ← g8]; exact q)
    rw [r9] at this
    exact this)
  refine ⟨?_, sA, Or.inr (Or.inr ⟨⟨rfl, hm4, fun t x y z => NS t x y ((smT_isT C s1 hA eA g7 g8 e1 e2 e3 g0 g1 g2 x y).mpr z), hok, by rw [← ed2, ← q12]; exact hd⟩, ?_, ?_, ?_⟩)⟩
  · rw [← hJ]
    exact zOf.up rfl (zOf.up rfl (zOf.up rfl ((zOf.mono p0 (fun c hc => by simp [zbut] at hc ⊢; omega)).tr (made_w f0 fr))))
  · rw [← hJ]
    rfl
  · refine C.push (h := h) (B := zbk J1 m) hm4 r1 r3 r4 sA hh (by rw [r7]; exact g7) (by rw [r8, g8, eA]) (fun i x y => by rw [r9]; exact hargs i x (by rw [eA]; exact y)) (by rw [r10, ez]; exact q10) (by rw [r11, ew3, q11, fr 11 rfl, g11, ew]) (by rw [r12, ed]; exact q12) (by rw [ed, ← q12]; exact hd) (by rw [r13, ev]; exact q13) (by rw [r15m, f0 16 rfl]) eb ?_ (fun b x => ?_) hTU
    · rw [← hJ]
      show (if zbk J1 m = zbk J1 m then m else J3 16 (zbk J1 m)) = m
      rw [if_pos rfl]
    · rw [← hJ]
      show (if b = zbk J1 m then m else J3 16 b) = J 16 b
      rw [if_neg x, p0 16 rfl, fr 16 rfl, f0 16 rfl]
  · unfold isT
    rw [r7, r3, r9, ← eA]
    refine ⟨g7, fun x => ?_, fun x => ?_, fun x => ?_⟩
    · rw [g0, e1, if_pos x]
    · rw [g1, e2, if_pos x]
    · rw [g2, e3, if_pos x]
