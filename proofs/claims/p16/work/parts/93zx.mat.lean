/-! ===== matching, as a function ===== -/
def fmS (σ : Int → Int) (v t : Int) : Int → Int := fun k => if k = v then t else σ k
/-- one after the other, until one fails -/
def mtF (f : (Int → Int) → Int → Bool × (Int → Int)) : Nat → (Int → Int) → Bool × (Int → Int)
  | 0, σ => (true, σ)
  | i + 1, σ => if (mtF f i σ).1 = true then f (mtF f i σ).2 i else mtF f i σ
theorem mtF_s {f : (Int → Int) → Int → Bool × (Int → Int)} {i : Nat} {σ : Int → Int} : mtF f (i + 1) σ = if (mtF f i σ).1 = true then f (mtF f i σ).2 i else mtF f i σ := rfl
theorem mtF_f {f : (Int → Int) → Int → Bool × (Int → Int)} {i : Nat} {σ : Int → Int} (h : (mtF f i σ).1 = false) : ∀ n, mtF f (i + n) σ = mtF f i σ
  | 0 => rfl
  | n + 1 => by
    show mtF f (i + n + 1) σ = _
    rw [mtF_s, mtF_f h n, if_neg (by rw [h]; decide)]
def mtO (hd ar : Int → Int) (ag : Int → Int → Int) : Nat → (Int → Int) → Int → Int → Bool × (Int → Int)
  | 0, σ, _, _ => (false, σ)
  | k + 1, σ, p, t => if hd p < 0 then (if σ (-1 - hd p) = -1 then (true, fmS σ (-1 - hd p) t) else (decide (σ (-1 - hd p) = t), σ)) else if hd p = hd t then mtF (fun σ i => mtO hd ar ag k σ (ag p i) (ag t i)) (ar p).toNat σ else (false, σ)
theorem mtO_s {hd ar : Int → Int} {ag : Int → Int → Int} {k : Nat} {σ : Int → Int} {p t : Int} : mtO hd ar ag (k + 1) σ p t = if hd p < 0 then (if σ (-1 - hd p) = -1 then (true, fmS σ (-1 - hd p) t) else (decide (σ (-1 - hd p) = t), σ)) else if hd p = hd t then mtF (fun σ i => mtO hd ar ag k σ (ag p i) (ag t i)) (ar p).toNat σ else (false, σ) := rfl
/-- bindings are alike -/
def sgA (σ σ' : Int → Int) : Prop := ∀ k, 0 ≤ k → k < 8 → σ k = σ' k
theorem mtF_cg {f f' : (Int → Int) → Int → Bool × (Int → Int)} : ∀ (n : Nat), (∀ (i : Nat) σ σ', i < n → sgA σ σ' → (f σ i).1 = (f' σ' i).1 ∧ sgA (f σ i).2 (f' σ' i).2) → ∀ σ σ', sgA σ σ' → (mtF f n σ).1 = (mtF f' n σ').1 ∧ sgA (mtF f n σ).2 (mtF f' n σ').2
  | 0, _, σ, σ', e => ⟨rfl, e⟩
  | n + 1, h, σ, σ', e => by
    obtain ⟨a, b⟩ := mtF_cg n (fun i σ σ' q => h i σ σ' (by omega)) σ σ' e
    rw [mtF_s, mtF_s, ← a]
    split
    · exact h n _ _ (by omega) b
    · exact ⟨a, b⟩
/-- tables alike, bindings alike: the same -/
theorem mtO_cg {m : Int} {hd hd' ar ar' dp : Int → Int} {ag ag' : Int → Int → Int} (td : TD m ar ag dp) (h8 : ∀ t, 0 ≤ t → t < m → -8 ≤ hd t) (hh : ∀ t, 0 ≤ t → t < m → hd' t = hd t) (ha : ∀ t, 0 ≤ t → t < m → ar' t = ar t) (hg : ∀ t, 0 ≤ t → t < m → ∀ i, 0 ≤ i → i < ar t → ag' t i = ag t i) (hx : ∀ s t, 0 ≤ s → s < m → 0 ≤ t → t < m → hd s = hd t → ar s = ar t) : ∀ (k : Nat) (σ σ' : Int → Int) (p t : Int), (0 ≤ p ∧ p < m) → (0 ≤ t ∧ t < m) → sgA σ σ' → (mtO hd ar ag k σ p t).1 = (mtO hd' ar' ag' k σ' p t).1 ∧ sgA (mtO hd ar ag k σ p t).2 (mtO hd' ar' ag' k σ' p t).2
  | 0, σ, σ', p, t, hp, ht, e => ⟨rfl, e⟩
  | k + 1, σ, σ', p, t, hp, ht, e => by
    have p8 := h8 p hp.1 hp.2
    rw [mtO_s, mtO_s, hh p hp.1 hp.2, hh t ht.1 ht.2, ha p hp.1 hp.2]
    split
    · rw [← e (-1 - hd p) (by omega) (by omega)]
      split
      · refine ⟨rfl, fun q a b => ?_⟩
        show (if q = -1 - hd p then t else σ q) = if q = -1 - hd p then t else σ' q
        split
        · rfl
        · exact e q a b
      · exact ⟨rfl, e⟩
    · split
      · next q =>
        have at' := hx p t hp.1 hp.2 ht.1 ht.2 q
        obtain ⟨t1, t2, t3⟩ := td p hp.1 hp.2
        obtain ⟨u1, u2, u3⟩ := td t ht.1 ht.2
        refine mtF_cg _ (fun i σ σ' h e => ?_) σ σ' e
        have i1 := t3 i (by omega) (by omega)
        have i2 := u3 i (by omega) (by omega)
        rw [hg p hp.1 hp.2 i (by omega) (by omega), hg t ht.1 ht.2 i (by omega) (by omega)]
        exact mtO_cg td h8 hh ha hg hx k σ σ' _ _ ⟨i1.1.1, by omega⟩ ⟨i2.1.1, by omega⟩ e
      · exact ⟨rfl, e⟩
/-- more levels change nothing -/
theorem mtF_eq {f f' : (Int → Int) → Int → Bool × (Int → Int)} : ∀ (n : Nat), (∀ (i : Nat) σ, i < n → f σ i = f' σ i) → ∀ σ, mtF f n σ = mtF f' n σ
  | 0, _, _ => rfl
  | n + 1, h, σ => by
    rw [mtF_s, mtF_s, mtF_eq n (fun i σ q => h i σ (by omega)) σ]
    split
    · exact h n _ (by omega)
    · rfl
theorem mtO_st {m : Int} {hd ar dp : Int → Int} {ag : Int → Int → Int} (td : TD m ar ag dp) : ∀ (k k' : Nat) (σ : Int → Int) (p t : Int), (0 ≤ p ∧ p < m) → dp p ≤ k → dp p ≤ k' → mtO hd ar ag k σ p t = mtO hd ar ag k' σ p t
  | 0, _, _, p, _, hp, h, _ => by have := (td p hp.1 hp.2).2.1; omega
  | k + 1, 0, _, p, _, hp, _, h => by have := (td p hp.1 hp.2).2.1; omega
  | k + 1, k' + 1, σ, p, t, hp, h, h' => by
    rw [mtO_s, mtO_s]
    split
    · rfl
    · split
      · obtain ⟨t1, t2, t3⟩ := td p hp.1 hp.2
        refine mtF_eq _ (fun i σ q => ?_) σ
        have i1 := t3 i (by omega) (by omega)
        exact mtO_st td k k' σ _ _ ⟨i1.1.1, by omega⟩ (by omega) (by omega)
      · rfl
