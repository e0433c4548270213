/-! ===== what classes are made to ===== -/
/-- the terms that were there are there still -/
def OLD (m0 : Int) (S S' : zJ) : Prop := m0 ≤ S' 165 0 ∧ S' 170 = S 170 ∧ ∀ t, 0 ≤ t → t < m0 → S' 166 (0 + t) = S 166 (0 + t) ∧ ∀ i, 0 ≤ i → i < 3 → S' 167 (3 * (0 + t) + i) = S 167 (3 * (0 + t) + i)
theorem OLD.tm {m0 : Int} {S G : zJ} {h x y w : Int} (o : OLD m0 S G) (h0 : 0 ≤ m0) : OLD m0 S (tmO G h x y w).1 := by
  obtain ⟨o1, o2, o3⟩ := o
  unfold tmO
  split
  · split
    · exact ⟨o1, o2, o3⟩
    · split
      · refine ⟨by (try dsimp only); rw [chT_5, if_pos rfl]; omega, by (try dsimp only); rw [chT4 170 (by decide)]; exact o2, fun t a b => ?_⟩
        (try dsimp only)
        obtain ⟨p, q⟩ := o3 t a b
        refine ⟨by rw [chT_6, if_neg (by omega)]; exact p, fun i c d => ?_⟩
        rw [chT_7, if_neg (by omega), if_neg (by omega), if_neg (by omega)]
        exact q i c d
      · exact ⟨o1, o2, o3⟩
  · exact ⟨o1, o2, o3⟩
theorem OLD.gst {m0 : Int} {S : zJ} {T : zJ → Int → zJ × Int} {A : Int} (hT : ∀ H i, OLD m0 S H → OLD m0 S (T H i).1) {G : zJ} (o : OLD m0 S G) : ∀ i, OLD m0 S (gst T G A i).1
  | 0 => o
  | i + 1 => by
    rw [gst_s]
    unfold gA
    split
    · exact hT _ _ (OLD.gst hT o i)
    · exact OLD.gst hT o i
theorem OLD.gr {m0 : Int} {S : zJ} {ρ : Int → Int} (h0 : 0 ≤ m0) : ∀ (k : Nat) (G : zJ) (t : Int), OLD m0 S G → OLD m0 S (grO ρ k G t).1
  | 0, G, t, o => by
    by_cases e : G 164 21 = 0
    · rw [grO_0 e]; exact o
    · rw [grO_F e]; exact o
  | k + 1, G, t, o => by
    rw [grO_s]
    split
    · split
      · exact o
      · unfold gR
        exact OLD.tm (OLD.gst (fun H i q => OLD.gr h0 k H _ q) o 3) h0
    · exact o
theorem gst_c9 {m0 : Int} {S : zJ} {T1 T2 : zJ → Int → zJ × Int} {A : Int} (hT : ∀ H i, OLD m0 S H → OLD m0 S (T1 H i).1) (e : ∀ H (i : Int), OLD m0 S H → 0 ≤ i → i < 3 → i < A → T1 H i = T2 H i) {G : zJ} (o : OLD m0 S G) : ∀ i : Nat, i ≤ 3 → gst T1 G A i = gst T2 G A i
  | 0, _ => rfl
  | i + 1, hi => by
    rw [gst_s, gst_s, ← gst_c9 hT e o i (by omega)]
    unfold gA
    by_cases q : (i : Int) < A
    · rw [if_pos q, if_pos q]
      exact e _ _ (OLD.gst hT o i) (by omega) (by omega) q
    · rw [if_neg q, if_neg q]
theorem gR_c9 {m0 : Int} {S : zJ} {T1 T2 : zJ → Int → zJ × Int} (hT : ∀ H i, OLD m0 S H → OLD m0 S (T1 H i).1) {G : zJ} {h : Int} (e : ∀ H (i : Int), OLD m0 S H → 0 ≤ i → i < 3 → i < oar G h → T1 H i = T2 H i) (o : OLD m0 S G) : gR T1 G h = gR T2 G h := by
  unfold gR
  rw [gst_c9 hT e o 1 (by decide), gst_c9 hT e o 2 (by decide), gst_c9 hT e o 3 (by decide)]
/-- what a class is, as one sees it -/
def RHO (S : zJ) (m0 : Int) (T sh lv ρ : Int → Int) : Prop := ∀ t, VN 400 m0 t → VN 400 m0 (ρ t) ∧ (sh (T t) = -1 → S 166 (0 + ρ t) = -1 - lv (T t)) ∧ (¬ sh (T t) = -1 → ρ t = sh (T t))
/-- a sound table has each variable once -/
def VUN (S : zJ) (m0 : Int) : Prop := ∀ a b, VN 400 m0 a → VN 400 m0 b → S 166 (0 + a) < 0 → S 166 (0 + a) = S 166 (0 + b) → a = b
theorem hdN_4 {S : zJ} {m0 t : Int} (h : VN 400 m0 t) : hdN S 0 t = S 166 (0 + t) ∧ arN S 0 0 t = mar S 0 0 t ∧ ∀ i, agN S 0 t i = S 167 (3 * (0 + t) + i) := by
  have e : t % 400 = t := by have := h.1; omega
  have e2 : t / 400 = 0 := by have := h.1; omega
  unfold hdN arN agN
  rw [e, e2]
  exact ⟨rfl, rfl, fun i => by omega⟩
theorem rho_eq {S : zJ} {m0 s t : Int} {p1 p2 sh1 sh2 lv1 lv2 ρ1 ρ2 : Int → Int} (h0 : 0 ≤ m0) (U1 : UFp (VN 400 m0) p1) (S1 : SHp (VN 400 m0) (hdN S 0) p1 sh1 lv1) (K1 : ∀ u v, VN 400 m0 u → VN 400 m0 v → (tp p1 u = tp p1 v ↔ LCu (VN 400 m0) (hdN S 0) (arN S 0 0) (agN S 0) s t u v)) (R1 : RHO S m0 (tp p1) sh1 lv1 ρ1) (U2 : UFp (VN 400 m0) p2) (S2 : SHp (VN 400 m0) (hdN S 0) p2 sh2 lv2) (K2 : ∀ u v, VN 400 m0 u → VN 400 m0 v → (tp p2 u = tp p2 v ↔ LCu (VN 400 m0) (hdN S 0) (arN S 0 0) (agN S 0) s t u v)) (R2 : RHO S m0 (tp p2) sh2 lv2 ρ2) (g : CGm (VN 400 m0) (hdN S 0) (arN S 0 0) (agN S 0) (tp p1)) (hV : ∀ x i, VN 400 m0 x → 0 ≤ hdN S 0 x → 0 ≤ i → i < arN S 0 0 x → VN 400 m0 (agN S 0 x i)) (vu : VUN S m0) : ∀ (k : Nat) (S' : zJ) (u w : Int), OLD m0 S S' → VN 400 m0 u → VN 400 m0 w → tp p1 u = tp p1 w → grO ρ1 k S' u = grO ρ2 k S' w
  | 0, _, _, _, _, _, _, _ => rfl
  | k + 1, S', u, w, o, hu, hw, e => by
    have r1 := U1.root hu
    have r2 := U2.root hw
    obtain ⟨a1, b1, c1⟩ := R1 u hu
    obtain ⟨a2, b2, c2⟩ := R2 w hw
    obtain ⟨x1, y1⟩ := S1 _ r1.2 r1.1
    obtain ⟨x2, y2⟩ := S2 _ r2.2 r2.1
    have tr : ∀ q, VN 400 m0 q → (tp p1 q = tp p1 u ↔ tp p2 q = tp p2 w) := fun q hq => by rw [e, K1 q w hq hw, K2 q w hq hw]
    by_cases n1 : sh1 (tp p1 u) = -1
    · have n2 : sh2 (tp p2 w) = -1 := Classical.byContradiction (fun n => by
        obtain ⟨q1, q2, q3⟩ := x2.resolve_left n
        have := ((y1 n1).1 _ q1 ((tr _ q1).2 q3)).1
        omega)
      have el : lv1 (tp p1 u) = lv2 (tp p2 w) := by
        obtain ⟨m1, v1, hv1, ev1, l1⟩ := y1 n1
        obtain ⟨m2, v2, hv2, ev2, l2⟩ := y2 n2
        have := (m1 v2 hv2 ((tr _ hv2).2 ev2)).2
        have := (m2 v1 hv1 ((tr _ hv1).1 ev1)).2
        omega
      have hh : S 166 (0 + ρ1 u) = S 166 (0 + ρ2 w) := by rw [b1 n1, b2 n2, el]
      have neg : S 166 (0 + ρ1 u) < 0 := by
        obtain ⟨m1, v1, hv1, ev1, l1⟩ := y1 n1
        have := (m1 v1 hv1 ev1).1
        have := b1 n1
        omega
      have er := vu _ _ a1 a2 neg hh
      rw [grO_s, grO_s, er]
      have h6 := (o.2.2 (ρ2 w) a2.1.1 (by have := a2.1; have := a2.2; omega)).1
      have neg2 : S' 166 (0 + ρ2 w) < 0 := by rw [h6, ← hh]; exact neg
      rw [if_pos neg2, if_pos neg2]
    · have n2 : ¬ sh2 (tp p2 w) = -1 := fun n => by
        obtain ⟨q1, q2, q3⟩ := x1.resolve_left n1
        have := ((y2 n).1 _ q1 ((tr _ q1).1 q3)).1
        omega
      obtain ⟨q1, q2, q3⟩ := x1.resolve_left n1
      obtain ⟨z1, z2, z3⟩ := x2.resolve_left n2
      have ez : tp p1 (sh1 (tp p1 u)) = tp p1 (sh2 (tp p2 w)) := q3.trans ((tr _ z1).2 z3).symm
      obtain ⟨g1, g2⟩ := g _ _ q1 z1 ez q2 z2
      have d1 := hdN_4 (S := S) q1
      have d2 := hdN_4 (S := S) z1
      have m1 : sh1 (tp p1 u) < m0 := by have := q1.1; have := q1.2; omega
      have m2 : sh2 (tp p2 w) < m0 := by have := z1.1; have := z1.2; omega
      obtain ⟨o6, o7⟩ := o.2.2 _ q1.1.1 m1
      obtain ⟨o8, o9⟩ := o.2.2 _ z1.1.1 m2
      rw [grO_s, grO_s, c1 n1, c2 n2, o6, o8, ← d1.1, ← d2.1, ← g1]
      by_cases f : S' 164 21 = 0
      · rw [if_pos f, if_pos f, if_neg (by omega), if_neg (by omega)]
        have eo : oar S' (hdN S 0 (sh1 (tp p1 u))) = arN S 0 0 (sh1 (tp p1 u)) := by
          rw [d1.2.1, d1.1]
          unfold oar mar
          rw [o.2.1]
        refine gR_c9 (fun H i q => OLD.gr h0 k H _ q) (fun H i q i0 i3 iA => ?_) o
        (try dsimp only)
        rw [eo] at iA
        rw [(q.2.2 _ q1.1.1 m1).2 i i0 i3, (q.2.2 _ z1.1.1 m2).2 i i0 i3, ← d1.2.2 i, ← d2.2.2 i]
        have ea : arN S 0 0 (sh2 (tp p2 w)) = arN S 0 0 (sh1 (tp p1 u)) := by
          unfold arN mar
          unfold hdN at g1
          rw [g1]
        exact rho_eq h0 U1 S1 K1 R1 U2 S2 K2 R2 g hV vu k H _ _ q (hV _ i q1 q2 i0 iA) (hV _ i z1 z2 i0 (by omega)) (g2 i i0 iA)
      · rw [if_neg f, if_neg f]
/-- one variable's binding, by what classes are made to -/
noncomputable def bn1 (ρ : Int → Int) (bs v : Int) (G : zJ) : zJ := @ite _ (G 164 21 = 0) (Classical.propDecidable _) (@ite _ (bt bs v) (Classical.propDecidable _) (if ρ (ofi G (-1 - v) 0 0 0) = ofi G (-1 - v) 0 0 0 then zup G 165 (1 + v) 0 else zup (grO ρ 6 (zup G 165 (1 + v) 0) (ofi G (-1 - v) 0 0 0)).1 165 (1 + v) (1 + (grO ρ 6 (zup G 165 (1 + v) 0) (ofi G (-1 - v) 0 0 0)).2)) (zup G 165 (1 + v) 0)) G
noncomputable def bnO (ρ : Int → Int) (bs : Int) (G : zJ) : Nat → zJ
  | 0 => G
  | v + 1 => bn1 ρ bs v (bnO ρ bs G v)
theorem bnO_s {ρ : Int → Int} {bs : Int} {G : zJ} {v : Nat} : bnO ρ bs G (v + 1) = bn1 ρ bs v (bnO ρ bs G v) := rfl
theorem bn1_F {ρ : Int → Int} {bs v : Int} {G : zJ} (h : ¬ G 164 21 = 0) : bn1 ρ bs v G = G := by
  unfold bn1
  rw [@if_neg _ (Classical.propDecidable _) h]
theorem bn1_n {ρ : Int → Int} {bs v : Int} {G : zJ} (h : G 164 21 = 0) (b : ¬ bt bs v) : bn1 ρ bs v G = zup G 165 (1 + v) 0 := by
  unfold bn1
  rw [@if_pos _ (Classical.propDecidable _) h, @if_neg _ (Classical.propDecidable _) b]
theorem bn1_i {ρ : Int → Int} {bs v : Int} {G : zJ} (h : G 164 21 = 0) (b : bt bs v) (e : ρ (ofi G (-1 - v) 0 0 0) = ofi G (-1 - v) 0 0 0) : bn1 ρ bs v G = zup G 165 (1 + v) 0 := by
  unfold bn1
  rw [@if_pos _ (Classical.propDecidable _) h, @if_pos _ (Classical.propDecidable _) b, if_pos e]
theorem bn1_g {ρ : Int → Int} {bs v : Int} {G : zJ} (h : G 164 21 = 0) (b : bt bs v) (e : ¬ ρ (ofi G (-1 - v) 0 0 0) = ofi G (-1 - v) 0 0 0) : bn1 ρ bs v G = zup (grO ρ 6 (zup G 165 (1 + v) 0) (ofi G (-1 - v) 0 0 0)).1 165 (1 + v) (1 + (grO ρ 6 (zup G 165 (1 + v) 0) (ofi G (-1 - v) 0 0 0)).2) := by
  unfold bn1
  rw [@if_pos _ (Classical.propDecidable _) h, @if_pos _ (Classical.propDecidable _) b, if_neg e]
theorem bnO_f {ρ : Int → Int} {bs : Int} {G : zJ} {v : Nat} (h : ¬ (bnO ρ bs G v) 164 21 = 0) : ∀ j, bnO ρ bs G (v + j) = bnO ρ bs G v
  | 0 => rfl
  | j + 1 => by rw [show v + (j + 1) = (v + j) + 1 from rfl, bnO_s, bnO_f h j, bn1_F h]
