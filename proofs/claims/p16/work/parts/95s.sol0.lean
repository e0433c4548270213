/-! ===== bindings out of classes ===== -/
theorem occ_nd {S : zJ} {m : Int} (h : tcl S m) : ∀ (k : Nat) (t v : Int), (0 ≤ t ∧ t < m) → occ S 0 0 k t v → ∃ u, (0 ≤ u ∧ u < m) ∧ S 166 (0 + u) = -1 - v
  | 0, _, _, _, o => o.elim
  | k + 1, t, v, ht, o => by
    rcases o with ⟨o1, o2⟩ | ⟨i, hi, o⟩
    · exact ⟨t, ht, by omega⟩
    · have w := h t i ht hi.1 hi.2
      exact occ_nd h k _ v ⟨w.2.1, w.2.2⟩ o
theorem Occ.nd {S : zJ} {m t v : Int} (h : tcl S m) (ht : 0 ≤ t ∧ t < m) (o : Occ S 0 0 t v) : ∃ u, (0 ≤ u ∧ u < m) ∧ S 166 (0 + u) = -1 - v := o.elim (fun k o => occ_nd h k t v ht o)
theorem MS.ond {J : zJ} {s m : Int} (hM : MS J 0 0 0 s m) : ∀ (k : Nat) (t v : Int), (0 ≤ t ∧ t < m) → occ J 0 0 k t v → ∃ u, (0 ≤ u ∧ u < m) ∧ J 166 (0 + u) = -1 - v
  | 0, _, _, _, o => o.elim
  | k + 1, t, v, ht, o => by
    rcases o with ⟨o1, o2⟩ | ⟨i, hi, o⟩
    · exact ⟨t, ht, by omega⟩
    · have a := (hM.arg ht hi).1
      exact MS.ond hM k _ v ⟨a.1, by omega⟩ o
/-- a picture of the classes, and what they come to -/
def GSOL (S : zJ) (m0 s t : Int) (ρ : Int → Int) : Prop := ∃ p sh lv, UFp (VN 400 m0) p ∧ SHp (VN 400 m0) (hdN S 0) p sh lv ∧ (∀ u v, VN 400 m0 u → VN 400 m0 v → (tp p u = tp p v ↔ LCu (VN 400 m0) (hdN S 0) (arN S 0 0) (agN S 0) s t u v)) ∧ RHO S m0 (tp p) sh lv ρ
def UEX (S : zJ) (m0 s t : Int) : Prop := ∃ f, CGm (VN 400 m0) (hdN S 0) (arN S 0 0) (agN S 0) f ∧ f s = f t
def NRQ (S : zJ) (m0 s t : Int) : Prop := NRu (VN 400 m0) (hdN S 0) (arN S 0 0) (agN S 0) (LCu (VN 400 m0) (hdN S 0) (arN S 0 0) (agN S 0) s t) s
theorem sol_mk {S : zJ} {m0 : Int} {p sh lv : Int → Int} (U : UFp (VN 400 m0) p) (H : SHp (VN 400 m0) (hdN S 0) p sh lv) : ∃ ρ, RHO S m0 (tp p) sh lv ρ ∧ ∀ t, VN 400 m0 t → VN 400 m0 (tp p t) ∧ tp p (tp p t) = tp p t ∧ ρ t = ρ (tp p t) := by
  have w : ∀ a, ∃ r, VN 400 m0 a → p a = a → VN 400 m0 r ∧ (sh a = -1 → S 166 (0 + r) = -1 - lv a) ∧ (¬ sh a = -1 → r = sh a) := fun a => by
    by_cases q : VN 400 m0 a ∧ p a = a
    · obtain ⟨h1, h2⟩ := H a q.1 q.2
      by_cases n : sh a = -1
      · obtain ⟨_, u, hu, e1, e2⟩ := h2 n
        refine ⟨u, fun _ _ => ⟨hu, fun _ => ?_, fun n' => absurd n n'⟩⟩
        rw [← (hdN_4 (S := S) hu).1]
        omega
      · exact ⟨sh a, fun _ _ => ⟨(h1.resolve_left n).1, fun n' => absurd n' n, fun _ => rfl⟩⟩
    · exact ⟨0, fun a b => absurd ⟨a, b⟩ q⟩
  obtain ⟨f, hf⟩ := Classical.axiomOfChoice w
  refine ⟨fun t => f (tp p t), fun t ht => ?_, fun t ht => ?_⟩
  · have r := U.root ht
    exact hf _ r.2 r.1
  · have r := U.root ht
    have e := tp_r r.1
    refine ⟨r.2, e, ?_⟩
    (try dsimp only)
    rw [e]
theorem sol_lv {S : zJ} {m0 a : Int} {p sh lv : Int → Int} (H : SHp (VN 400 m0) (hdN S 0) p sh lv) (ha : VN 400 m0 a) (r : p a = a) : (sh a = -1 → 0 ≤ lv a) ∧ (¬ sh a = -1 → VN 400 m0 (sh a) ∧ 0 ≤ S 166 (0 + sh a)) := by
  obtain ⟨h1, h2⟩ := H a ha r
  refine ⟨fun n => ?_, fun n => ?_⟩
  · obtain ⟨q, u, hu, e1, e2⟩ := h2 n
    have := (q u hu e1).1
    omega
  · obtain ⟨q1, q2, q3⟩ := h1.resolve_left n
    exact ⟨q1, by rw [← (hdN_4 (S := S) q1).1]; exact q2⟩
theorem cro_mk {S J : zJ} {m0 : Int} {p sh lv ρ : Int → Int} (E : A0 J S) (C : CT J m0) (hm : J 6 12 = m0) (H : SHp (VN 400 m0) (hdN S 0) p sh lv) (R : RHO S m0 (tp p) sh lv ρ) (U : UFp (VN 400 m0) p) (q : ∀ t, VN 400 m0 t → VN 400 m0 (tp p t) ∧ tp p (tp p t) = tp p t ∧ ρ t = ρ (tp p t)) : CRO m0 (tp p) sh lv ρ J := ⟨q, fun x hx e => by
  have r : p x = x := by
    have := (U.root hx).1
    rw [e] at this
    exact this
  obtain ⟨l1, l2⟩ := sol_lv H hx r
  obtain ⟨a, b, c⟩ := R x hx
  rw [e] at b c
  refine ⟨fun n => ⟨a, ?_, l1 n⟩, fun n => ?_⟩
  · rw [← (E.tm C hm a.z).1]; exact b n
  · obtain ⟨y1, y2⟩ := l2 n
    exact ⟨y1, by rw [← (E.tm C hm y1.z).1]; exact y2, c n⟩⟩
/-! ===== one binding, in the class ===== -/
def BNX (m0 : Int) (ρ : Int → Int) (S : zJ) (x z : Int) (J' : zJ) : Prop := (ρ x = x ∧ z = -1 ∧ A0 J' S ∧ nNO m0 J') ∨ (¬ ρ x = x ∧ ((z = -3 ∧ ¬ (grO ρ 6 S x).1 164 21 = 0) ∨ (0 ≤ z ∧ (grO ρ 6 S x).1 164 21 = 0 ∧ A0 J' (grO ρ 6 S x).1 ∧ z = (grO ρ 6 S x).2 ∧ nNO m0 J')))
theorem bnx_s {m0 m' x y z : Int} {ρ : Int → Int} {S J' : zJ} (C : CT J' m') (hz : z = -3 ∨ (0 ≤ z ∧ z < m')) (e : EXK (nNO m0) 6 (grO ρ 6 S y) z J') (er : ρ x = ρ y) (ne : ¬ ρ x = x) : BNX m0 ρ S x z J' := by
  rw [grO_r (k := 6) er.symm] at e
  rcases e with ⟨a, b⟩ | ⟨a, b, c⟩ | ⟨a, b, c, d, f⟩
  · exact Or.inr ⟨ne, Or.inl ⟨a, b⟩⟩
  · exfalso
    have w : 0 ≤ z ∧ z < m' := by omega
    have := (C.nums w.1 w.2).2.2
    omega
  · exact Or.inr ⟨ne, Or.inr ⟨a, b, c, d, f⟩⟩
theorem bnx_v {m0 x z : Int} {ρ : Int → Int} {S J' : zJ} (hS : S 164 21 = 0) (E : A0 J' S) (N : nNO m0 J') (hv : S 166 (0 + ρ x) < 0) (h0 : 0 ≤ ρ x) (hz : (ρ x = x ∧ z = -1) ∨ (¬ ρ x = x ∧ z = ρ x)) : BNX m0 ρ S x z J' := by
  have g : grO ρ 6 S x = (S, ρ x) := by rw [show (6 : Nat) = 5 + 1 from rfl, grO_s, if_pos hS, if_pos hv]
  rcases hz with ⟨a, b⟩ | ⟨a, b⟩
  · exact Or.inl ⟨a, b, E, N⟩
  · unfold BNX
    rw [g]
    exact Or.inr ⟨a, Or.inr ⟨by omega, hS, E, b, N⟩⟩
/-- a variable's term is there -/
theorem bst_v {J1 J2 G : zJ} {m1 v t z : Int} (E : A0 J1 G) (h0 : G 164 21 = 0) (C : CT J1 m1) (hm : J1 6 12 = m1) (hv : 0 ≤ v ∧ v < 8) (ht : 0 ≤ t ∧ t < m1) (e : J1 7 t = -1 - v) (p : madeP J1 m1 (-1 - v) (-1) (-1) (-1) z J2) : z = t ∧ A0 J2 G ∧ ofi G (-1 - v) 0 0 0 = t := by
  have ar : arh (J1 3) (-1 - v) = 0 := by unfold arh; rw [if_pos (by omega)]
  have h3 := C.told
  have hh : -1 - v < J1 1 3 := by omega
  have i : isT J1 t (-1 - v) 0 0 0 := ⟨e, fun y => by omega, fun y => by omega, fun y => by omega⟩
  have f := E.fnd h0 C hm hh ht i
  have o : ofi G (-1 - v) 0 0 0 = t := by
    have hA := E.ar hh
    have e6 := E.2.1
    have hx : (0 < arh (J1 3) (-1 - v) → (0 : Int) = 0) ∧ (1 < arh (J1 3) (-1 - v) → (0 : Int) = 0) ∧ (2 < arh (J1 3) (-1 - v) → (0 : Int) = 0) := ⟨fun _ => rfl, fun _ => rfl, fun _ => rfl⟩
    unfold ofi
    refine fnB_eq ht.1 (by omega) (fun t u v => dcB_t (fun k => ?_)) (Or.inr (dcB_f (fun k => k ?_)))
    · rw [hA] at k
      have := isT_u C hh (q := t) (by omega) ht ((E.nm C hm hx (by omega)).1 k) i
      omega
    · rw [hA]
      exact (E.nm C hm hx ht).2 i
  rcases E.made (x := 0) (y := 0) (w := 0) h0 C hm ⟨by omega, hh⟩ ⟨fun q => by omega, fun q => by omega, fun q => by omega⟩ ⟨fun q => by omega, fun q => by omega, fun q => by omega⟩ p with ⟨_, q⟩ | ⟨_, q1, q2, q3⟩
  · rw [f] at q; exact absurd h0 q
  · rw [f] at q2 q3; exact ⟨q3, q2, o⟩
/-- bindings so far, in the class -/
def BST (m0 : Int) (T sh lv ρ : Int → Int) (bs : Int) (S J1 : zJ) (m1 v : Int) : Prop := (bnO ρ bs S v.toNat) 164 21 = 0 ∧ A0 J1 (bnO ρ bs S v.toNat) ∧ RW (J1 19) ((bnO ρ bs S v.toNat) 165) ∧ SLV m0 T sh lv ρ J1 m1 ∧ nNO m0 J1
theorem SLV.v9 {m0 m k z : Int} {T sh lv ρ : Int → Int} {J : zJ} (h : SLV m0 T sh lv ρ J m) : SLV m0 T sh lv ρ (zup J 19 k z) m := h.e ⟨h.1, fun _ _ => rfl, fun _ _ => ⟨rfl, rfl, rfl, rfl⟩⟩ (fun q hq => zup_nc (by omega))
theorem A0.r5 {J G : zJ} {q z : Int} (E : A0 J G) (hq : ¬ q = 0) : A0 J (zup G 165 q z) := E.g (zup_ne (fun e => hq e.symm)) (zOf.up rfl zOf.rf)
theorem BST.no {m0 bs m1 v : Int} {T sh lv ρ : Int → Int} {S J1 : zJ} (B : BST m0 T sh lv ρ bs S J1 m1 v) (hv : 0 ≤ v ∧ v < 8) (l : LI (J1 19) m1) (b : ¬ bt bs v) : BST m0 T sh lv ρ bs S (zup J1 19 (7 + v) (-1)) m1 (v + 1) := by
  obtain ⟨f, E, W, V, N⟩ := B
  have en : ((v.toNat : Nat) : Int) = v := by omega
  have e : bnO ρ bs S (v + 1).toNat = zup (bnO ρ bs S v.toNat) 165 (1 + v) 0 := by
    rw [show (v + 1).toNat = v.toNat + 1 from by omega, bnO_s, en, bn1_n f b]
  unfold BST
  rw [e]
  refine ⟨by rw [zup_nc (by decide)]; exact f, (E.r5 (by omega)).f (fun c hc => zup_nc (by omega)), ?_, V.v9, N⟩
  have wb := W.b l
  exact W.bd (t := -1) hv ⟨wb.1.2, wb.2.1.2, wb.2.2.2⟩
theorem BST.yes {m0 bs m1 m3 v x z : Int} {T sh lv ρ : Int → Int} {S J1 J3 : zJ} (B : BST m0 T sh lv ρ bs S J1 m1 v) (hv : 0 ≤ v ∧ v < 8) (l : LI (J1 19) m1) (b : bt bs v) (ho : ofi (bnO ρ bs S v.toNat) (-1 - v) 0 0 0 = x) (hz : z = -3 ∨ -1 ≤ z) (e : BNX m0 ρ (zup (bnO ρ bs S v.toNat) 165 (1 + v) 0) x z J3) (r : J3 19 = J1 19) (V3 : SLV m0 T sh lv ρ J3 m3) : (z = -3 → ¬ (bnO ρ bs S 8) 164 21 = 0) ∧ (¬ z = -3 → BST m0 T sh lv ρ bs S (zup J3 19 (7 + v) z) m3 (v + 1)) := by
  obtain ⟨f, E, W, V, N⟩ := B
  have en : ((v.toNat : Nat) : Int) = v := by omega
  have wb := W.b l
  have e9 : (v + 1).toNat = v.toNat + 1 := by omega
  rcases e with ⟨y1, y2, y3, y4⟩ | ⟨y1, y⟩
  · have g : bnO ρ bs S (v + 1).toNat = zup (bnO ρ bs S v.toNat) 165 (1 + v) 0 := by
      rw [e9, bnO_s, en, bn1_i f b (by rw [ho]; exact y1)]
    refine ⟨fun q => by omega, fun _ => ?_⟩
    unfold BST
    rw [g]
    refine ⟨by rw [zup_nc (by decide)]; exact f, y3.f (fun c hc => zup_nc (by omega)), ?_, V3.v9, y4⟩
    rw [y2]
    have q := W.bd (t := -1) hv ⟨wb.1.2, wb.2.1.2, wb.2.2.2⟩
    rw [← r] at q
    exact q
  · have g : bnO ρ bs S (v + 1).toNat = zup (grO ρ 6 (zup (bnO ρ bs S v.toNat) 165 (1 + v) 0) x).1 165 (1 + v) (1 + (grO ρ 6 (zup (bnO ρ bs S v.toNat) 165 (1 + v) 0) x).2) := by
      rw [e9, bnO_s, en, bn1_g f b (by rw [ho]; exact y1), ho]
    rcases y with ⟨y2, y3⟩ | ⟨y2, y3, y4, y5, y6⟩
    · refine ⟨fun _ => ?_, fun q => absurd y2 q⟩
      have n : ¬ (bnO ρ bs S (v + 1).toNat) 164 21 = 0 := by rw [g, zup_nc (by decide)]; exact y3
      obtain ⟨j, hj⟩ : ∃ j : Nat, 8 = (v + 1).toNat + j := ⟨8 - (v + 1).toNat, by omega⟩
      rw [hj, bnO_f n j]
      exact n
    · refine ⟨fun q => by omega, fun _ => ?_⟩
      unfold BST
      rw [g]
      refine ⟨by rw [zup_nc (by decide)]; exact y3, (y4.r5 (by omega)).f (fun c hc => zup_nc (by omega)), ?_, V3.v9, y6⟩
      have q := W.bd (t := z) hv ⟨wb.1.2, wb.2.1.2, wb.2.2.2⟩
      rw [← r] at q
      obtain ⟨⟨a1, a2, a3⟩, ⟨b1, b2⟩, ⟨c1, c2⟩, ⟨d1, d2⟩, w⟩ := q
      have x5 : ∀ k, ¬ k = 0 → zup (grO ρ 6 (zup (bnO ρ bs S v.toNat) 165 (1 + v) 0) x).1 165 (1 + v) (1 + (grO ρ 6 (zup (bnO ρ bs S v.toNat) 165 (1 + v) 0) x).2) 165 k = if k = 1 + v then z + 1 else (bnO ρ bs S v.toNat) 165 k := fun k hk => by
        show (if k = 1 + v then 1 + (grO ρ 6 (zup (bnO ρ bs S v.toNat) 165 (1 + v) 0) x).2 else (grO ρ 6 (zup (bnO ρ bs S v.toNat) 165 (1 + v) 0) x).1 165 k) = _
        by_cases w : k = 1 + v
        · rw [if_pos w, if_pos w, ← y5]; omega
        · rw [if_neg w, if_neg w, grO_5 6 _ _ k hk, zup_ne w]
      dsimp only at a1 a2 a3 b1 b2 c1 c2 d1 d2 w
      have k9 : (if (9 : Int) = 1 + v then z + 1 else (bnO ρ bs S v.toNat) 165 9) = (bnO ρ bs S v.toNat) 165 9 := if_neg (by omega)
      have k26 : (if (26 : Int) = 1 + v then z + 1 else (bnO ρ bs S v.toNat) 165 26) = (bnO ρ bs S v.toNat) 165 26 := if_neg (by omega)
      have k40 : (if (40 : Int) = 1 + v then z + 1 else (bnO ρ bs S v.toNat) 165 40) = (bnO ρ bs S v.toNat) 165 40 := if_neg (by omega)
      refine ⟨⟨?_, ?_, ?_⟩, ⟨?_, fun i p q => ?_⟩, ⟨?_, fun i p q => ?_⟩, ⟨?_, fun i p q => ?_⟩, fun i p q => ?_⟩
      · rw [x5 _ (by decide)]; exact a1
      · rw [x5 _ (by decide)]; exact a2
      · rw [x5 _ (by decide)]; exact a3
      · rw [x5 _ (by decide)]; exact b1
      · rw [x5 _ (by decide)] at q; rw [x5 _ (by omega), x5 _ (by omega)]; exact b2 i p q
      · rw [x5 _ (by decide)]; exact c1
      · rw [x5 _ (by decide)] at q; rw [x5 _ (by omega)]; exact c2 i p q
      · rw [x5 _ (by decide)]; exact d1
      · rw [x5 _ (by decide)] at q; rw [x5 _ (by omega), x5 _ (by omega)]; exact d2 i p q
      · rw [x5 _ (by omega)]; exact w i p q
theorem BST.is {m0 bs m1 v m2 : Int} {T sh lv ρ : Int → Int} {S J1 J2 : zJ} (B : BST m0 T sh lv ρ bs S J1 m1 v) (g : GR J2 J1 m1 m2) (hm : m0 ≤ m1) (hU : UI J1 0 m1) (E : A0 J2 (bnO ρ bs S v.toNat)) : SLV m0 T sh lv ρ J2 m2 ∧ nNO m0 J2 ∧ A0 J2 (zup (bnO ρ bs S v.toNat) 165 (1 + v) 0) ∨ v < 0 := by
  by_cases q : v < 0
  · exact Or.inr q
  · exact Or.inl ⟨B.2.2.2.1.made hm (Or.inr (fun y a c e => by have := ((hU y a c).2 (by rw [e])).2.2.2.1.z; exact this)) g, B.2.2.2.2.made g, E.r5 (by omega)⟩
