/-! ===== withPut of the reference, exact: its loop ===== -/
theorem mag_tb {J : zJ} {s m t i : Int} (hM : MS J 0 0 0 s m) (ht : 0 ≤ t ∧ t < m) (hi : 0 ≤ i ∧ i < 3) : mag (tb0 J) 0 t i = mag J 0 t i := by
  have hT := hM.told
  show tb0 J 167 (3 * (0 + t) + i) = J 167 (3 * (0 + t) + i)
  rw [tb0_7, if_pos (by omega)]
theorem pfr_tb {J : zJ} {s m t : Int} (hM : MS J 0 0 0 s m) (ht : 0 ≤ t ∧ t < m) : ∀ n : Nat, (n : Int) ≤ mar J 0 0 t → pfr (tb0 J) t n = pfr J t n
  | 0, _ => rfl
  | n + 1, hn => by
    have ha := (hM.ar ht).1
    have hg := hM.arg ht (i := n) (by omega)
    have e := pfr_tb hM ht n (by omega)
    show pfr (tb0 J) t n + msz (tb0 J) 0 0 (mag (tb0 J) 0 t n) = pfr J t n + msz J 0 0 (mag J 0 t n)
    rw [e, mag_tb hM ht (by omega), msz_tb hM (t := mag J 0 t n) ⟨hg.1.1, by have := hg.1.2; show J 167 (3 * (0 + t) + n) < m; omega⟩]
theorem pfr_s {J : zJ} {t i : Int} (h : 0 ≤ i) : pfr J t (i + 1).toNat = pfr J t i.toNat + msz J 0 0 (J 167 (3 * (0 + t) + i)) := by
  rw [show (i + 1).toNat = i.toNat + 1 from by omega]
  show pfr J t i.toNat + msz J 0 0 (J 167 (3 * (0 + t) + (i.toNat : Int))) = _
  rw [Int.toNat_of_nonneg h]
theorem tb0_n {J1 J : zJ} {n : Nat} (f : zOf (zbut [n]) J1 J) (hn : 184 ≤ n) : tb0 J1 = tb0 J := by
  have e : ∀ c, c < 184 → J1 c = J c := fun c h => f c (zbut1 (by omega))
  exact tb0_of (by rw [e 164 (by decide)]) (by rw [e 164 (by decide)]) (fun k _ _ => by rw [e 165 (by decide)]) (fun k _ _ => ⟨by rw [e 166 (by decide)], by rw [e 168 (by decide)]⟩) (fun k _ _ => by rw [e 167 (by decide)]) (fun k _ _ => ⟨by rw [e 169 (by decide)], by rw [e 170 (by decide)], by rw [e 171 (by decide)]⟩)
def WQP (o : Int) (n : Nat) (J1 J : zJ) (t p q i : Int) : Prop := (0 ≤ q ∧ q = p - pfr J t i.toNat ∧ tb0 J1 = tb0 J ∧ ∀ j, 0 ≤ j → j < mar J 0 0 t → J1 n j = mag J 0 t j) ∨ (q < 0 ∧ ∃ i0, (0 ≤ i0 ∧ i0 < i) ∧ (pfr J t i0.toNat ≤ p ∧ p < pfr J t (i0 + 1).toNat) ∧ (∀ k : Nat, J 168 (0 + t) ≤ k + 1 → (tb0 J1, J1 n i0) = puO o k (tb0 J) (mag J 0 t i0) (p - pfr J t i0.toNat)) ∧ ∀ j, 0 ≤ j → j < mar J 0 0 t → ¬ j = i0 → J1 n j = mag J 0 t j)
theorem WQP.in {o : Int} {n : Nat} {J1 J : zJ} {t p : Int} (h : PAr n J1 J 0 0 t) (hn : 184 ≤ n) (hp : 1 ≤ p) : WQP o n J1 J t p (p - 1) 0 := Or.inl ⟨by omega, rfl, tb0_n h.1 hn, fun j x y => h.2 j x y⟩
theorem WQP.no {o : Int} {n : Nat} {J1 J : zJ} {s m m1 t p q i z : Int} (h : WQP o n J1 J t p q i) (hM : MS J 0 0 0 s m) (hM1 : MS J1 0 0 0 s m1) (hl : m ≤ m1) (ht : 0 ≤ t ∧ t < m) (hi : 0 ≤ i ∧ i < mar J 0 0 t) (hz : z = msz J1 0 0 (J 167 (3 * (0 + t) + i))) (hz1 : 1 ≤ z) (hc : ¬ (0 ≤ q ∧ q < z)) : WQP o n J1 J t p (q - z) (i + 1) := by
  have hg := hM.arg ht hi
  rcases h with ⟨a, b, c, d⟩ | ⟨a, i0, b, c, d, e⟩
  · have ez : z = msz J 0 0 (J 167 (3 * (0 + t) + i)) := by rw [hz, ← msz_tb hM1 (by omega), c, msz_tb hM (by omega)]
    have := pfr_s (J := J) (t := t) hi.1
    exact Or.inl ⟨by omega, by omega, c, d⟩
  · exact Or.inr ⟨by omega, i0, by omega, c, d, e⟩
theorem WQP.st {o : Int} {n : Nat} {J2 J1 J : zJ} {s m m1 t p q i z w : Int} (h : WQP o n J1 J t p q i) (hM : MS J 0 0 0 s m) (hM1 : MS J1 0 0 0 s m1) (hl : m ≤ m1) (ht : 0 ≤ t ∧ t < m) (hi : 0 ≤ i ∧ i < mar J 0 0 t) (hz : z = msz J1 0 0 (J 167 (3 * (0 + t) + i))) (hc : 0 ≤ q ∧ q < z) (hn : 184 ≤ n) (en : J2 n = J1 n) (x : ∀ k : Nat, J 168 (0 + J 167 (3 * (0 + t) + i)) ≤ k → (tb0 J2, w) = puO o k (tb0 J1) (J 167 (3 * (0 + t) + i)) q) : WQP o n (zup J2 n i w) J t p (q - z) (i + 1) := by
  have hg := hM.arg ht hi
  rcases h with ⟨a, b, c, d⟩ | ⟨a, _⟩
  · have ez : z = msz J 0 0 (J 167 (3 * (0 + t) + i)) := by rw [hz, ← msz_tb hM1 (by omega), c, msz_tb hM (by omega)]
    have := pfr_s (J := J) (t := t) hi.1
    refine Or.inr ⟨by omega, i, by omega, by omega, fun k hk => ?_, fun j u v y => by rw [zup_ne y, en]; exact d j u v⟩
    rw [zup_at, tb0_n (zOf.up (by simp [zbut]) zOf.rf) hn, ← b, ← c]
    exact x k (by omega)
  · omega
theorem WQP.end {o : Int} {n : Nat} {J1 J J' : zJ} {s m t p q z : Int} (h : WQP o n J1 J t p q (mar J 0 0 t)) (hM : MS J 0 0 0 s m) (ht : 0 ≤ t ∧ t < m) (hp : 1 ≤ p ∧ p < msz J 0 0 t) (e6 : J1 166 (0 + t) = J 166 (0 + t)) (e0 : ∀ k, J1 170 k = J 170 k) (x : (tb0 J', z) = tmO (tb0 J1) (J1 166 (0 + t)) (J1 n 0) (J1 n 1) (J1 n 2)) (k : Nat) (hk : J 168 (0 + t) ≤ k) : (tb0 J', z) = puO o k (tb0 J) t p := by
  have hT := hM.told
  have ha := hM.ar ht
  have hu := msz_un hM ht
  rcases h with ⟨a, b, _⟩ | ⟨_, i0, hi, ⟨p1, p2⟩, hr, ho⟩
  · have : pfr J t (mar J 0 0 t).toNat = tps (msz J 0 0) (mag J 0) t (mar J 0 0 t).toNat := rfl
    omega
  · obtain ⟨k9, rfl⟩ : ∃ k9, k = k9 + 1 := ⟨k - 1, by omega⟩
    have f := pfr_tb hM ht
    have h6 : tb0 J 166 (0 + t) = J 166 (0 + t) := by rw [tb0_6, if_pos (by omega)]
    have mo : ∀ i : Nat, ((i + 1 : Nat) : Int) ≤ mar J 0 0 t → pfr J t i ≤ pfr J t (i + 1) := fun i h => by
      have hg := hM.arg ht (i := i) (by omega)
      have := msz_bd hM 6 (mag J 0 t i) ⟨hg.1.1, by have := hg.1.2; show J 167 (3 * (0 + t) + i) < m; omega⟩ (hM.ar (t := mag J 0 t i) ⟨hg.1.1, by have := hg.1.2; show J 167 (3 * (0 + t) + i) < m; omega⟩).2.2.1.2
      show _ ≤ pfr J t i + msz J 0 0 (mag J 0 t i)
      omega
    have eI : puI (tb0 J) t p = i0 := by
      unfold puI
      rcases (show i0 = 0 ∨ i0 = 1 ∨ i0 = 2 by omega) with e | e | e
      · subst e
        rw [f 1 (by omega), if_pos (show p < pfr J t 1 from p2)]
      · subst e
        rw [f 1 (by omega), f 2 (by omega), if_neg (by have : pfr J t 1 ≤ p := p1; omega), if_pos (show p < pfr J t 2 from p2)]
      · subst e
        have m1 : pfr J t 1 ≤ pfr J t 2 := mo 1 (by omega)
        have p1 : pfr J t 2 ≤ p := p1
        rw [f 1 (by omega), f 2 (by omega), if_neg (by omega), if_neg (by omega)]
    have r := hr k9 hk
    have oa : oar (tb0 J1) (J 166 (0 + t)) = mar J 0 0 t := by
      unfold oar mar
      exact arh_cg (fun q => by rw [tb0_0, if_pos (by omega), e0])
    rw [puO_s, if_neg (by omega)]
    unfold puR
    rw [eI, f i0.toNat (by omega), mag_tb hM ht (i := i0) (by omega), ← r, h6, x, e6]
    refine tmO_c9 (fun u => ?_) (fun u => ?_) (fun u => ?_)
    · rw [oa] at u
      split
      · next v => rw [v]
      · next v => rw [mag_tb hM ht (by omega)]; exact ho 0 (by omega) u (fun e => v e.symm)
    · rw [oa] at u
      split
      · next v => rw [v]
      · next v => rw [mag_tb hM ht (by omega)]; exact ho 1 (by omega) u (fun e => v e.symm)
    · rw [oa] at u
      split
      · next v => rw [v]
      · next v => rw [mag_tb hM ht (by omega)]; exact ho 2 (by omega) u (fun e => v e.symm)
