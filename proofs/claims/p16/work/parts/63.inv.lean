/-! ===== what holds between two calls ===== -/
def zV (i : Int) : Nat := 79 + i.toNat
/-- the kept table, in the place of the class's -/
def kv (J : zJ) : zJ := fun c => if 7 ≤ c ∧ c ≤ 16 then J (c + 58) else J c
/-- a ring of rows is sound, with m terms -/
def RG (o : Nat) (u : Int → Nat) (J : zJ) (m : Int) : Prop := ((0 ≤ J o 5 ∧ J o 5 < 40) ∧ (0 ≤ J o 6 ∧ J o 6 ≤ 40)) ∧ ∀ k, 0 ≤ k → k < J o 6 → (LI (J (u ((J o 5 + k) % 40))) (J (u ((J o 5 + k) % 40)) 0) ∧ (0 ≤ J (u ((J o 5 + k) % 40)) 0 ∧ J (u ((J o 5 + k) % 40)) 0 ≤ m)) ∧ ∀ q, k ≤ q → q < J o 6 → J (u ((J o 5 + k) % 40)) 0 ≤ J (u ((J o 5 + q) % 40)) 0
def KI (J : zJ) (m : Int) : Prop := (CT (kv J) m ∧ J 64 12 = m) ∧ LI (J 77) m ∧ RG 63 zV J m
def KP (J : zJ) : Prop := ((0 ≤ J 0 13 ∧ J 0 13 ≤ 700) ∧ J 156 3 = -1) ∧ (J 0 15 = 0 ∨ (J 0 15 = 1 ∧ ∃ mk, KI J mk))
def SA (J : zJ) (m : Int) : Prop := (CT J m ∧ J 6 12 = m ∧ LI (J 19) m) ∧ RU J ∧ KP J
def CI (J : zJ) (m : Int) : Prop := SA J m ∧ RG 5 zU J m
/-- an act under way, begun with m0 terms -/
def AC (J : zJ) (m0 m : Int) : Prop := SA J m ∧ RG 5 zU J m0 ∧ (LI (J 61) m0 ∧ J 61 0 = m0) ∧ (0 ≤ m0 ∧ m0 ≤ m)
def fop (c : Nat) : Bool := decide (c < 6 ∨ c = 18 ∨ (20 ≤ c ∧ c < 140) ∨ c = 156 ∨ c = 162 ∨ 164 ≤ c)
def fou (c : Nat) : Bool := decide ((63 ≤ c ∧ c ≤ 120) ∨ c = 162 ∨ 164 ≤ c)
def foi (c : Nat) : Bool := decide (c = 162 ∨ 164 ≤ c)
theorem RG.of {o : Nat} {u : Int → Nat} {J' J : zJ} {m m' : Int} (h : RG o u J m) (hm : m ≤ m') (e5 : J' o 5 = J o 5) (e6 : J' o 6 = J o 6) (e : ∀ i, 0 ≤ i → i < 40 → J' (u i) = J (u i)) : RG o u J' m' := by
  unfold RG
  rw [e5, e6]
  refine ⟨h.1, fun k a b => ?_⟩
  have h0 := h.1
  obtain ⟨⟨g1, g2⟩, g3⟩ := h.2 k a b
  rw [e ((J o 5 + k) % 40) (by omega) (by omega)]
  refine ⟨⟨g1, by omega⟩, fun q x y => ?_⟩
  rw [e ((J o 5 + q) % 40) (by omega) (by omega)]
  exact g3 q x y
theorem KI.of {J' J : zJ} {m : Int} (h : KI J m) (e : ∀ c, c = 1 ∨ c = 3 ∨ c = 4 ∨ (63 ≤ c ∧ c ≤ 120) → J' c = J c) : KI J' m := by
  refine ⟨⟨h.1.1.of (fun c hc => ?_), by rw [e 64 (by omega)]; exact h.1.2⟩, by rw [e 77 (by omega)]; exact h.2.1, h.2.2.of (Int.le_refl _) (congrFun (e 63 (by omega)) 5) (congrFun (e 63 (by omega)) 6) (fun i a b => e _ (by unfold zV; omega))⟩
  unfold kv
  by_cases h7 : 7 ≤ c ∧ c ≤ 16
  · rw [if_pos h7, if_pos h7]
    exact e _ (by omega)
  · rw [if_neg h7, if_neg h7]
    exact e _ (by omega)
theorem KP.of6 {J' J : zJ} (h : KP J) (e : ∀ c, c = 0 ∨ c = 1 ∨ c = 3 ∨ c = 4 ∨ (63 ≤ c ∧ c ≤ 120) → J' c = J c) (e6 : J' 156 3 = -1) : KP J' := by
  unfold KP
  rw [e 0 (by omega)]
  refine ⟨⟨h.1.1, e6⟩, h.2.imp id (fun q => ⟨q.1, ?_⟩)⟩
  obtain ⟨mk, hk⟩ := q.2
  exact ⟨mk, hk.of (fun c hc => e c (by omega))⟩
theorem KP.of {J' J : zJ} (h : KP J) (e : ∀ c, c = 0 ∨ c = 1 ∨ c = 3 ∨ c = 4 ∨ (63 ≤ c ∧ c ≤ 120) ∨ c = 156 → J' c = J c) : KP J' := h.of6 (fun c hc => e c (by omega)) (by rw [e 156 (by omega)]; exact h.1.2)
theorem fop_t {J' J : zJ} (f : zOf fop J' J) {c : Nat} (hc : c < 6 ∨ c = 18 ∨ (20 ≤ c ∧ c < 140) ∨ c = 156 ∨ c = 162 ∨ 164 ≤ c) : J' c = J c := f c (decide_eq_true hc)
theorem SA.op {J' J : zJ} {m m' : Int} (h : SA J m) (f : zOf fop J' J) (hC : CT J' m') (hm : J' 6 12 = m') (hL : LI (J' 19) m') (hR : RU J') : SA J' m' := ⟨⟨hC, hm, hL⟩, hR, h.2.2.of (fun c hc => fop_t f (by omega))⟩
theorem AC.op {J' J : zJ} {m0 m m' : Int} (h : AC J m0 m) (f : zOf fop J' J) (hC : CT J' m') (hm : J' 6 12 = m') (hL : LI (J' 19) m') (hR : RU J') (hle : m ≤ m') : AC J' m0 m' := by
  refine ⟨h.1.op f hC hm hL hR, h.2.1.of (Int.le_refl _) (congrFun (fop_t f (by omega)) 5) (congrFun (fop_t f (by omega)) 6) (fun i a b => fop_t f (by unfold zU; omega)), ?_, by have := h.2.2.2; omega⟩
  rw [fop_t f (c := 61) (by omega)]
  exact h.2.2.1
theorem fop_of {X : List Nat} {J' J : zJ} (f : zOf (zbut X) J' J) (hX : (X.all fun c => decide ((6 ≤ c ∧ c ≤ 17) ∨ c = 19 ∨ (140 ≤ c ∧ c ≤ 163 ∧ ¬ c = 162 ∧ ¬ c = 156))) = true) : zOf fop J' J := fun c hc => f c (by
  have h1 := of_decide_eq_true hc
  simp only [zbut, Bool.not_eq_true', List.contains_eq_mem, decide_eq_false_iff_not]
  intro q
  have := of_decide_eq_true (List.all_eq_true.mp hX c q)
  omega)
theorem AC.gx {X : List Nat} {J' J : zJ} {m0 m m' : Int} (h : AC J m0 m) (g : GX X J' J m m') (hX : ((6 :: 7 :: 8 :: 9 :: 10 :: 11 :: 12 :: 13 :: 14 :: 15 :: 16 :: 17 :: X).all fun c => decide ((6 ≤ c ∧ c ≤ 17) ∨ c = 19 ∨ (140 ≤ c ∧ c ≤ 163 ∧ ¬ c = 162 ∧ ¬ c = 156))) = true) (hL : LI (J' 19) m') (hR : RU J') : AC J' m0 m' := h.op (fop_of g.2.2.2.2 hX) g.2.1 g.2.2.1 hL hR g.1
/-- where neither the ledger nor the unifier was written -/
theorem AC.gx0 {X : List Nat} {J' J : zJ} {m0 m m' : Int} (h : AC J m0 m) (g : GX X J' J m m') (hX : (X.all fun c => decide (140 ≤ c ∧ c ≤ 163 ∧ ¬ c = 162 ∧ ¬ c = 145 ∧ ¬ c = 146 ∧ ¬ c = 156)) = true) : AC J' m0 m' := by
  have hn : ∀ c, c ∉ X → (17 < c ∨ c < 6) → J' c = J c := fun c h1 h2 => g.2.2.2.2 c (by
    simp only [zbut, Bool.not_eq_true', List.contains_eq_mem, decide_eq_false_iff_not, List.mem_cons]
    intro q
    rcases q with q | q | q | q | q | q | q | q | q | q | q | q | q <;> first | omega | exact h1 q)
  have hx : ∀ c, c ∈ X → 140 ≤ c ∧ c ≤ 163 ∧ ¬ c = 162 ∧ ¬ c = 145 ∧ ¬ c = 146 ∧ ¬ c = 156 := fun c hc => of_decide_eq_true (List.all_eq_true.mp hX c hc)
  have e19 := hn 19 (fun q => by have := hx _ q; omega) (by omega)
  refine h.gx g ?_ (by rw [e19]; exact h.1.1.2.2.mono g.1) (h.1.2.1.of (hn 145 (fun q => by have := hx _ q; omega) (by omega)) (hn 146 (fun q => by have := hx _ q; omega) (by omega)))
  rw [List.all_eq_true]
  intro c hc
  simp only [List.mem_cons] at hc
  refine decide_eq_true ?_
  rcases hc with h1 | h1 | h1 | h1 | h1 | h1 | h1 | h1 | h1 | h1 | h1 | h1 | h1 <;> first | omega | (have := hx c h1; omega)
theorem CI.begin {J : zJ} {m : Int} (h : CI J m) : AC (zcp (zup J 19 0 (J 6 12)) 19 61 0 0 61) m m := by
  have e61 : ∀ k, 0 ≤ k → k < 61 → zcp (zup J 19 0 (J 6 12)) 19 61 0 0 61 61 k = zup J 19 0 (J 6 12) 19 k := fun k a b => by
    rw [zcp_in (by omega)]
    congr 1
    omega
  have hl : LI (zup J 19 0 (J 6 12) 19) m := h.1.1.2.2.terms
  have hf : ∀ c, ¬ c = 19 → ¬ c = 61 → zcp (zup J 19 0 (J 6 12)) 19 61 0 0 61 c = J c := fun c h1 h2 => by rw [zcp_nc h2, zup_nc h1]
  refine ⟨⟨⟨h.1.1.1.of (fun c hc => hf c (by omega) (by omega)), h.1.1.2.1, hl⟩, h.1.2.1.of rfl rfl, h.1.2.2.of (fun c hc => hf c (by omega) (by omega))⟩, h.2.of (Int.le_refl _) rfl rfl (fun i a b => hf _ (by unfold zU; omega) (by unfold zU; omega)), ⟨hl.c61 e61, ?_⟩, h.1.1.1.told.2.1, Int.le_refl _⟩
  rw [e61 0 (by omega) (by omega), zup_at]
  exact h.1.1.2.1
/-- the row that was laid by begin is kept -/
theorem AC.keepN {J : zJ} {m0 m : Int} (h : AC J m0 m) (h6 : J 5 6 < 40) : CI (zup (zcp J 61 (zU ((J 5 5 + J 5 6) % 40)) 0 0 61) 5 6 (J 5 6 + 1)) m := by
  have hr := h.2.1.1
  have hi : 0 ≤ (J 5 5 + J 5 6) % 40 ∧ (J 5 5 + J 5 6) % 40 < 40 := by omega
  have e5 : zup (zcp J 61 (zU ((J 5 5 + J 5 6) % 40)) 0 0 61) 5 6 (J 5 6 + 1) 5 5 = J 5 5 := by
    rw [zup_ne (by omega), zcp_nc (by unfold zU; omega)]
  have e6 : zup (zcp J 61 (zU ((J 5 5 + J 5 6) % 40)) 0 0 61) 5 6 (J 5 6 + 1) 5 6 = J 5 6 + 1 := zup_at
  have er : ∀ k, 0 ≤ k → k < 61 → zup (zcp J 61 (zU ((J 5 5 + J 5 6) % 40)) 0 0 61) 5 6 (J 5 6 + 1) (zU ((J 5 5 + J 5 6) % 40)) k = J 61 k := fun k a b => by
    rw [zup_nc (by unfold zU; omega), zcp_in (by omega)]
    congr 1
    omega
  have eo : ∀ c, ¬ c = zU ((J 5 5 + J 5 6) % 40) → ¬ c = 5 → zup (zcp J 61 (zU ((J 5 5 + J 5 6) % 40)) 0 0 61) 5 6 (J 5 6 + 1) c = J c := fun c a b => by rw [zup_nc b, zcp_nc a]
  generalize zup (zcp J 61 (zU ((J 5 5 + J 5 6) % 40)) 0 0 61) 5 6 (J 5 6 + 1) = J9 at *
  have ef : ∀ c, (c < 5 ∨ (5 < c ∧ c < 21) ∨ 60 < c) → J9 c = J c := fun c hc => eo c (by unfold zU; omega) (by omega)
  refine ⟨⟨⟨h.1.1.1.of (fun c hc => ef c (by omega)), by rw [ef 6 (by omega)]; exact h.1.1.2.1, by rw [ef 19 (by omega)]; exact h.1.1.2.2⟩, h.1.2.1.of (ef _ (by omega)) (ef _ (by omega)), h.1.2.2.of (fun c hc => ef c (by omega))⟩, ?_⟩
  unfold RG
  rw [e5, e6]
  refine ⟨by omega, fun k a b => ?_⟩
  have hm := h.2.2.2
  by_cases hk : k = J 5 6
  · subst hk
    rw [er 0 (by omega) (by omega), h.2.2.1.2]
    refine ⟨⟨h.2.2.1.1.c61 er, by omega⟩, fun q x y => ?_⟩
    have : q = J 5 6 := by omega
    subst this
    rw [er 0 (by omega) (by omega), h.2.2.1.2]
    exact Int.le_refl _
  · obtain ⟨⟨g1, g2⟩, g3⟩ := h.2.1.2 k a (by omega)
    have ek : J9 (zU ((J 5 5 + k) % 40)) = J (zU ((J 5 5 + k) % 40)) := eo _ (by unfold zU; omega) (by unfold zU; omega)
    rw [ek]
    refine ⟨⟨g1, by omega⟩, fun q x y => ?_⟩
    by_cases hq : q = J 5 6
    · subst hq
      rw [er 0 (by omega) (by omega), h.2.2.1.2]
      exact g2.2
    · rw [eo (zU ((J 5 5 + q) % 40)) (by unfold zU; omega) (by unfold zU; omega)]
      exact g3 q x (by omega)
theorem AC.drop {J : zJ} {m0 m : Int} (h : AC J m0 m) (h6 : J 5 6 = 40) : AC (zup (zup J 5 5 ((J 5 5 + 1) % 40)) 5 6 39) m0 m := by
  have hr := h.2.1.1
  have e5 : zup (zup J 5 5 ((J 5 5 + 1) % 40)) 5 6 39 5 5 = (J 5 5 + 1) % 40 := by rw [zup_ne (by omega), zup_at]
  have e6 : zup (zup J 5 5 ((J 5 5 + 1) % 40)) 5 6 39 5 6 = 39 := zup_at
  have eo : ∀ c, ¬ c = 5 → zup (zup J 5 5 ((J 5 5 + 1) % 40)) 5 6 39 c = J c := fun c a => by rw [zup_nc a, zup_nc a]
  generalize zup (zup J 5 5 ((J 5 5 + 1) % 40)) 5 6 39 = J9 at *
  refine ⟨⟨⟨h.1.1.1.of (fun c hc => eo c (by omega)), by rw [eo 6 (by omega)]; exact h.1.1.2.1, by rw [eo 19 (by omega)]; exact h.1.1.2.2⟩, h.1.2.1.of (eo _ (by omega)) (eo _ (by omega)), h.1.2.2.of (fun c hc => eo c (by omega))⟩, ?_, by rw [eo 61 (by omega)]; exact h.2.2.1, h.2.2.2⟩
  unfold RG
  rw [e5, e6]
  refine ⟨by omega, fun k a b => ?_⟩
  have ei : ∀ q, ((J 5 5 + 1) % 40 + q) % 40 = (J 5 5 + (q + 1)) % 40 := fun q => by omega
  obtain ⟨⟨g1, g2⟩, g3⟩ := h.2.1.2 (k + 1) (by omega) (by omega)
  rw [ei, eo (zU ((J 5 5 + (k + 1)) % 40)) (by unfold zU; omega)]
  refine ⟨⟨g1, g2⟩, fun q x y => ?_⟩
  rw [ei, eo (zU ((J 5 5 + (q + 1)) % 40)) (by unfold zU; omega)]
  exact g3 (q + 1) (by omega) (by omega)
theorem LI.row {J' J : zJ} {r : Nat} {m : Int} (h : LI (J r) m) (e : J' 19 = zcp J r 19 0 0 61 19) : LI (J' 19) m := by
  rw [e]
  refine h.c61 (fun k a b => ?_)
  rw [zcp_in (by omega)]
  congr 1
  omega
theorem AC.back {J' J : zJ} {m0 m : Int} (h : AC J m0 m) (f : zOf (zbut [6, 16, 19]) J' J) (e19 : J' 19 = zcp J 61 19 0 0 61 19) (e6 : J' 6 12 = J 61 0) (hC : CT J' (J 61 0)) : CI J' m0 := by
  rw [h.2.2.1.2] at e6 hC
  exact ⟨⟨⟨hC, e6, h.2.2.1.1.row e19⟩, h.1.2.1.of (f 145 rfl) (f 146 rfl), h.1.2.2.of (fun c hc => f c (by simp [zbut]; omega))⟩, h.2.1.of (Int.le_refl _) (congrFun (f 5 rfl) 5) (congrFun (f 5 rfl) 6) (fun i a b => f _ (by simp [zbut, zU]; omega))⟩
theorem CI.undo {J' J : zJ} {m : Int} (h : CI J m) (h6 : 0 < J 5 6) (f : zOf (zbut [6, 16, 19]) J' (zup J 5 6 (J 5 6 - 1))) (e19 : J' 19 = zcp (zup J 5 6 (J 5 6 - 1)) (zU ((J 5 5 + (J 5 6 - 1)) % 40)) 19 0 0 61 19) (e6 : J' 6 12 = (zup J 5 6 (J 5 6 - 1)) (zU ((J 5 5 + (J 5 6 - 1)) % 40)) 0) (hC : CT J' ((zup J 5 6 (J 5 6 - 1)) (zU ((J 5 5 + (J 5 6 - 1)) % 40)) 0)) : CI J' (J (zU ((J 5 5 + (J 5 6 - 1)) % 40)) 0) := by
  have hr := h.2.1
  have eu : ∀ i, 0 ≤ i → i < 40 → zup J 5 6 (J 5 6 - 1) (zU i) = J (zU i) := fun i a b => zup_nc (by unfold zU; omega)
  have ew := eu ((J 5 5 + (J 5 6 - 1)) % 40) (by omega) (by omega)
  rw [ew] at e6 hC
  obtain ⟨⟨g1, g2⟩, g3⟩ := h.2.2 (J 5 6 - 1) (by omega) (by omega)
  have eo : ∀ c, ¬ c = 5 → ¬ c = 6 → ¬ c = 16 → ¬ c = 19 → J' c = J c := fun c a1 a2 a3 a4 => (f c (by simp [zbut]; omega)).trans (zup_nc a1)
  have e55 : J' 5 5 = J 5 5 := (congrFun (f 5 rfl) 5).trans (zup_ne (by omega))
  have e56 : J' 5 6 = J 5 6 - 1 := (congrFun (f 5 rfl) 6).trans zup_at
  refine ⟨⟨⟨hC, e6, LI.row (J := zup J 5 6 (J 5 6 - 1)) (r := zU ((J 5 5 + (J 5 6 - 1)) % 40)) (by rw [ew]; exact g1) e19⟩, h.1.2.1.of (eo _ (by omega) (by omega) (by omega) (by omega)) (eo _ (by omega) (by omega) (by omega) (by omega)), h.1.2.2.of (fun c hc => eo c (by omega) (by omega) (by omega) (by omega))⟩, ?_⟩
  unfold RG
  rw [e55, e56]
  refine ⟨by omega, fun k a b => ?_⟩
  obtain ⟨⟨p1, p2⟩, p3⟩ := h.2.2 k a (by omega)
  rw [eo (zU ((J 5 5 + k) % 40)) (by unfold zU; omega) (by unfold zU; omega) (by unfold zU; omega) (by unfold zU; omega)]
  refine ⟨⟨p1, p2.1, p3 (J 5 6 - 1) (by omega) (by omega)⟩, fun q x y => ?_⟩
  rw [eo (zU ((J 5 5 + q) % 40)) (by unfold zU; omega) (by unfold zU; omega) (by unfold zU; omega) (by unfold zU; omega)]
  exact p3 q x (by omega)
/-- behind an act's end -/
def SQ (J' J : zJ) : Prop := (∃ m', CI J' m') ∧ J' 145 = J 145 ∧ J' 0 = J 0 ∧ zOf fou J' J
/-- behind a call -/
def CQ (J' J : zJ) : Prop := (∃ m', CI J' m') ∧ (J' 145 10 ≤ J 145 10 + 24000) ∧ J' 0 = J 0 ∧ zOf fou J' J
theorem CI.st {J' J : zJ} {m : Int} (h : CI J m) (f : zOf (zbut [62]) J' J) : CI J' m := ⟨⟨⟨h.1.1.1.of (fun c hc => f c (by simp [zbut]; omega)), by rw [f 6 rfl]; exact h.1.1.2.1, by rw [f 19 rfl]; exact h.1.1.2.2⟩, h.1.2.1.of (f 145 rfl) (f 146 rfl), h.1.2.2.of (fun c hc => f c (by simp [zbut]; omega))⟩, h.2.of (Int.le_refl _) (congrFun (f 5 rfl) 5) (congrFun (f 5 rfl) 6) (fun i a b => f _ (by simp [zbut, zU]; omega))⟩
/-- cells that no promise reads -/
theorem CI.work {X : List Nat} {J' J : zJ} {m : Int} (h : CI J m) (f : zOf (zbut X) J' J) (hX : (X.all fun c => decide (c = 17 ∨ c = 62 ∨ (140 ≤ c ∧ c ≤ 163 ∧ ¬ c = 162 ∧ ¬ c = 145 ∧ ¬ c = 146 ∧ ¬ c = 156))) = true) : CI J' m ∧ J' 145 = J 145 ∧ J' 0 = J 0 ∧ zOf fou J' J := by
  have hn : ∀ c, (¬ (c = 17 ∨ c = 62 ∨ (140 ≤ c ∧ c ≤ 163 ∧ ¬ c = 162 ∧ ¬ c = 145 ∧ ¬ c = 146 ∧ ¬ c = 156))) → J' c = J c := fun c hc => f c (by
    simp only [zbut, Bool.not_eq_true', List.contains_eq_mem, decide_eq_false_iff_not]
    exact fun q => hc (of_decide_eq_true (List.all_eq_true.mp hX c q)))
  exact ⟨⟨⟨⟨h.1.1.1.of (fun c hc => hn c (by omega)), by rw [hn 6 (by omega)]; exact h.1.1.2.1, by rw [hn 19 (by omega)]; exact h.1.1.2.2⟩, h.1.2.1.of (hn _ (by omega)) (hn _ (by omega)), h.1.2.2.of (fun c hc => hn c (by omega))⟩, h.2.of (Int.le_refl _) (congrFun (hn 5 (by omega)) 5) (congrFun (hn 5 (by omega)) 6) (fun i a b => hn _ (by unfold zU; omega))⟩, hn 145 (by omega), hn 0 (by omega), fun c hc => hn c (by have := of_decide_eq_true hc; omega)⟩
theorem CI.work6 {X : List Nat} {J' J : zJ} {m : Int} (h : CI J m) (f : zOf (zbut X) J' J) (hX : (X.all fun c => decide (c = 17 ∨ c = 62 ∨ (140 ≤ c ∧ c ≤ 163 ∧ ¬ c = 162 ∧ ¬ c = 145 ∧ ¬ c = 146))) = true) (e6 : J' 156 3 = -1) : CI J' m ∧ J' 145 = J 145 ∧ J' 0 = J 0 ∧ zOf fou J' J := by
  have hn : ∀ c, (¬ (c = 17 ∨ c = 62 ∨ (140 ≤ c ∧ c ≤ 163 ∧ ¬ c = 162 ∧ ¬ c = 145 ∧ ¬ c = 146))) → J' c = J c := fun c hc => f c (by
    simp only [zbut, Bool.not_eq_true', List.contains_eq_mem, decide_eq_false_iff_not]
    exact fun q => hc (of_decide_eq_true (List.all_eq_true.mp hX c q)))
  exact ⟨⟨⟨⟨h.1.1.1.of (fun c hc => hn c (by omega)), by rw [hn 6 (by omega)]; exact h.1.1.2.1, by rw [hn 19 (by omega)]; exact h.1.1.2.2⟩, h.1.2.1.of (hn _ (by omega)) (hn _ (by omega)), h.1.2.2.of6 (fun c hc => hn c (by omega)) e6⟩, h.2.of (Int.le_refl _) (congrFun (hn 5 (by omega)) 5) (congrFun (hn 5 (by omega)) 6) (fun i a b => hn _ (by unfold zU; omega))⟩, hn 145 (by omega), hn 0 (by omega), fun c hc => hn c (by have := of_decide_eq_true hc; omega)⟩
/-- the unifier was at work -/
theorem CI.uni {X : List Nat} {J' J : zJ} {m : Int} (h : CI J m) (f : zOf (zbut X) J' J) (hX : (X.all fun c => decide (140 ≤ c ∧ c ≤ 163 ∧ ¬ c = 162 ∧ ¬ c = 156)) = true) (hR : RU J') : CI J' m ∧ J' 0 = J 0 ∧ zOf fou J' J := by
  have hn : ∀ c, (¬ (140 ≤ c ∧ c ≤ 163 ∧ ¬ c = 162 ∧ ¬ c = 156)) → J' c = J c := fun c hc => f c (by
    simp only [zbut, Bool.not_eq_true', List.contains_eq_mem, decide_eq_false_iff_not]
    exact fun q => hc (of_decide_eq_true (List.all_eq_true.mp hX c q)))
  exact ⟨⟨⟨⟨h.1.1.1.of (fun c hc => hn c (by omega)), by rw [hn 6 (by omega)]; exact h.1.1.2.1, by rw [hn 19 (by omega)]; exact h.1.1.2.2⟩, hR, h.1.2.2.of (fun c hc => hn c (by omega))⟩, h.2.of (Int.le_refl _) (congrFun (hn 5 (by omega)) 5) (congrFun (hn 5 (by omega)) 6) (fun i a b => hn _ (by unfold zU; omega))⟩, hn 0 (by omega), fun c hc => hn c (by have := of_decide_eq_true hc; omega)⟩
theorem SQ.cq {J2 J1 J : zJ} (h : SQ J2 J1) (e1 : J1 145 10 ≤ J 145 10 + 24000) (e0 : J1 0 = J 0) (f : zOf fou J1 J) : CQ J2 J := ⟨h.1, by rw [h.2.1]; exact e1, h.2.2.1.trans e0, h.2.2.2.tr f⟩
theorem CQ.rf {J : zJ} {m : Int} (h : CI J m) : CQ J J := ⟨⟨m, h⟩, by omega, rfl, zOf.rf⟩
