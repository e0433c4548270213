/-! ===== two pictures bind alike ===== -/
theorem sol_cg {S : zJ} {m s t : Int} {p : Int → Int} (u : UEX S m s t) (K : ∀ u v, VN 400 m u → VN 400 m v → (tp p u = tp p v ↔ LCu (VN 400 m) (hdN S 0) (arN S 0 0) (agN S 0) s t u v)) (hV : ∀ x i, VN 400 m x → 0 ≤ hdN S 0 x → 0 ≤ i → i < arN S 0 0 x → VN 400 m (agN S 0 x i)) : CGm (VN 400 m) (hdN S 0) (arN S 0 0) (agN S 0) (tp p) := fun x y hx hy e h1 h2 => by
  have w := (K x y hx hy).1 e
  obtain ⟨f, g, q⟩ := u
  have d1 := hdN_4 (S := S) hx
  have d2 := hdN_4 (S := S) hy
  have e0 := (g x y hx hy (w f g q) h1 h2).1
  refine ⟨e0, fun i i0 iA => ?_⟩
  have ea : arN S 0 0 y = arN S 0 0 x := by
    unfold arN mar
    unfold hdN at e0
    rw [e0]
  exact (K _ _ (hV x i hx h1 i0 iA) (hV y i hy h2 i0 (by omega))).2 (fun f' g' q' => (g' x y hx hy (w f' g' q') h1 h2).2 i i0 iA)
theorem OLD.r5 {m0 q z : Int} {S G : zJ} (o : OLD m0 S G) (hq : ¬ q = 0) : OLD m0 S (zup G 165 q z) := by
  obtain ⟨o1, o2, o3⟩ := o
  refine ⟨by rw [zup_ne (fun e => hq e.symm)]; exact o1, by rw [zup_nc (by decide)]; exact o2, fun t a b => ?_⟩
  rw [zup_nc (by decide), zup_nc (by decide)]
  exact o3 t a b
theorem OLD.of {m0 t v : Int} {S G : zJ} (o : OLD m0 S G) (h4 : m0 ≤ 400) (vu : VUN S m0) (hv : 0 ≤ v) (ht : 0 ≤ t ∧ t < m0) (e : S 166 (0 + t) = -1 - v) : ofi G (-1 - v) 0 0 0 = t := by
  obtain ⟨o1, o2, o3⟩ := o
  have ar : oar G (-1 - v) = 0 := by unfold oar arh; rw [if_pos (by omega)]
  unfold ofi
  refine fnB_eq ht.1 (by omega) (fun j a c => dcB_t (fun k => ?_)) (Or.inr (dcB_f (fun k => k ?_)))
  · have h6 := k.1
    have e6 := (o3 j (by omega) (by omega)).1
    have := vu t j ⟨by omega, by omega⟩ ⟨by omega, by omega⟩ (by omega) (by omega)
    omega
  · refine ⟨by rw [(o3 t ht.1 ht.2).1]; exact e, fun y => ?_, fun y => ?_, fun y => ?_⟩ <;> omega
theorem rho_v {S : zJ} {m0 s t x : Int} {p1 p2 sh1 sh2 lv1 lv2 ρ1 ρ2 : Int → Int} (U1 : UFp (VN 400 m0) p1) (S1 : SHp (VN 400 m0) (hdN S 0) p1 sh1 lv1) (K1 : ∀ u v, VN 400 m0 u → VN 400 m0 v → (tp p1 u = tp p1 v ↔ LCu (VN 400 m0) (hdN S 0) (arN S 0 0) (agN S 0) s t u v)) (R1 : RHO S m0 (tp p1) sh1 lv1 ρ1) (U2 : UFp (VN 400 m0) p2) (S2 : SHp (VN 400 m0) (hdN S 0) p2 sh2 lv2) (K2 : ∀ u v, VN 400 m0 u → VN 400 m0 v → (tp p2 u = tp p2 v ↔ LCu (VN 400 m0) (hdN S 0) (arN S 0 0) (agN S 0) s t u v)) (R2 : RHO S m0 (tp p2) sh2 lv2 ρ2) (vu : VUN S m0) (hx : VN 400 m0 x) (n : S 166 (0 + x) < 0) : ρ1 x = x → ρ2 x = x := fun e => by
  have r1 := U1.root hx
  have r2 := U2.root hx
  obtain ⟨a1, b1, c1⟩ := R1 x hx
  obtain ⟨a2, b2, c2⟩ := R2 x hx
  obtain ⟨x1, y1⟩ := S1 _ r1.2 r1.1
  obtain ⟨x2, y2⟩ := S2 _ r2.2 r2.1
  have tr : ∀ q, VN 400 m0 q → (tp p1 q = tp p1 x ↔ tp p2 q = tp p2 x) := fun q hq => by rw [K1 q x hq hx, K2 q x hq hx]
  by_cases n1 : sh1 (tp p1 x) = -1
  · have n2 : sh2 (tp p2 x) = -1 := Classical.byContradiction (fun n => by
      obtain ⟨q1, q2, q3⟩ := x2.resolve_left n
      have := ((y1 n1).1 _ q1 ((tr _ q1).2 q3)).1
      omega)
    have el : lv1 (tp p1 x) = lv2 (tp p2 x) := by
      obtain ⟨m1, v1, hv1, ev1, l1⟩ := y1 n1
      obtain ⟨m2, v2, hv2, ev2, l2⟩ := y2 n2
      have := (m1 v2 hv2 ((tr _ hv2).2 ev2)).2
      have := (m2 v1 hv1 ((tr _ hv1).1 ev1)).2
      omega
    have w1 := b1 n1
    have w2 := b2 n2
    rw [e] at w1
    exact (vu x (ρ2 x) hx a2 n (by omega)).symm
  · obtain ⟨q1, q2, q3⟩ := x1.resolve_left n1
    have w := c1 n1
    rw [e] at w
    rw [← w, (hdN_4 (S := S) hx).1] at q2
    omega
theorem sol_eq {S : zJ} {m s t b1 b2 : Int} {ρ1 ρ2 : Int → Int} (g1 : GSOL S m s t ρ1) (g2 : GSOL S m s t ρ2) (u : UEX S m s t) (hm : 0 ≤ m ∧ m ≤ 400) (hS : S 165 0 = m) (hV : ∀ x i, VN 400 m x → 0 ≤ hdN S 0 x → 0 ≤ i → i < arN S 0 0 x → VN 400 m (agN S 0 x i)) (vu : VUN S m) (hb : ∀ v, 0 ≤ v → v < 8 → (bt b1 v ↔ bt b2 v)) (hn : ∀ v, 0 ≤ v → v < 8 → bt b1 v → ∃ t, (0 ≤ t ∧ t < m) ∧ S 166 (0 + t) = -1 - v) : ∀ k : Nat, k ≤ 8 → bnO ρ1 b1 S k = bnO ρ2 b2 S k ∧ OLD m S (bnO ρ1 b1 S k)
  | 0, _ => ⟨rfl, by show m ≤ S 165 0; omega, rfl, fun _ _ _ => ⟨rfl, fun _ _ _ => rfl⟩⟩
  | k + 1, hk => by
    obtain ⟨ih, o⟩ := sol_eq g1 g2 u hm hS hV vu hb hn k (by omega)
    rw [bnO_s, bnO_s, ← ih]
    generalize bnO ρ1 b1 S k = G at o
    by_cases f : G 164 21 = 0
    · by_cases b : bt b1 (k : Int)
      · have b' := (hb k (by omega) (by omega)).1 b
        obtain ⟨x, hx, ex⟩ := hn k (by omega) (by omega) b
        have of9 := o.of hm.2 vu (by omega) hx ex
        have vx : VN 400 m x := ⟨by omega, by omega⟩
        obtain ⟨p1, sh1, lv1, U1, H1, K1, R1⟩ := g1
        obtain ⟨p2, sh2, lv2, U2, H2, K2, R2⟩ := g2
        have r12 := rho_v U1 H1 K1 R1 U2 H2 K2 R2 vu vx (by omega)
        have r21 := rho_v U2 H2 K2 R2 U1 H1 K1 R1 vu vx (by omega)
        by_cases r : ρ1 x = x
        · rw [bn1_i f b (by rw [of9]; exact r), bn1_i f b' (by rw [of9]; exact r12 r)]
          exact ⟨rfl, o.r5 (by omega)⟩
        · rw [bn1_g f b (by rw [of9]; exact r), bn1_g f b' (by rw [of9]; exact fun q => r (r21 q)), of9]
          have o2 : OLD m S (zup G 165 (1 + (k : Int)) 0) := o.r5 (by omega)
          have gq := rho_eq hm.1 U1 H1 K1 R1 U2 H2 K2 R2 (sol_cg u K1 hV) hV vu 6 _ x x o2 vx vx rfl
          rw [gq]
          exact ⟨rfl, (OLD.gr hm.1 6 _ x o2).r5 (by omega)⟩
      · have b' : ¬ bt b2 (k : Int) := fun q => b ((hb k (by omega) (by omega)).2 q)
        rw [bn1_n f b, bn1_n f b']
        exact ⟨rfl, o.r5 (by omega)⟩
    · rw [bn1_F f, bn1_F f]
      exact ⟨rfl, o⟩
/-- what a sound table of the reference gives for it -/
theorem tbz_V {J : zJ} {s m : Int} (hM : MS J 0 0 0 s m) : ∀ x i, VN 400 m x → 0 ≤ hdN (tbz J) 0 x → 0 ≤ i → i < arN (tbz J) 0 0 x → VN 400 m (agN (tbz J) 0 x i) := fun x i hx _ i0 iA => by
  have hT := hM.told
  obtain ⟨_, b, _, d⟩ := alk_z (H := J) hM rfl rfl rfl x hx
  have a3 := (hM.ar hx.z).1
  obtain ⟨_, b1, c1⟩ := hdN_4 (S := J) hx
  rw [b, b1] at iA
  have a := (hM.arg hx.z ⟨i0, iA⟩).1
  have z := hx.z
  rw [d i i0 (by omega), c1]
  exact ⟨by omega, by omega⟩
theorem tbz_u {J : zJ} {s m : Int} (hM : MS J 0 0 0 s m) : VUN (tbz J) m := fun a b ha hb h e => by
  have hT := hM.told
  have za := ha.z
  have zb := hb.z
  rw [tbz_6 (by omega)] at h e
  rw [tbz_6 (by omega)] at e
  exact ms_vu hM za zb h e
theorem tbz_n {J : zJ} {s m x y b : Int} (hM : MS J 0 0 0 s m) (hx : 0 ≤ x ∧ x < m) (hy : 0 ≤ y ∧ y < m) (h : ∀ v, 0 ≤ v → v < 8 → (bt b v ↔ Occ (tbz J) 0 0 x v ∨ Occ (tbz J) 0 0 y v)) : ∀ v, 0 ≤ v → v < 8 → bt b v → ∃ t, (0 ≤ t ∧ t < m) ∧ tbz J 166 (0 + t) = -1 - v := fun v p q w => by
  have hT := hM.told
  have oq : ∀ x, (0 ≤ x ∧ x < m) → Occ (tbz J) 0 0 x v → ∃ t, (0 ≤ t ∧ t < m) ∧ tbz J 166 (0 + t) = -1 - v := fun x hx o => by
    have o1 : Occ (tb0 J) 0 0 x v := o.elim (fun k o => ⟨k, (occ_cg (J' := zup (tb0 J) 164 21 0) (J := tb0 J) rfl rfl rfl k x v).1 o⟩)
    have o2 := (hM.oc hx).1 o1
    obtain ⟨k, o3⟩ := o2
    obtain ⟨t, ht, e⟩ := hM.ond k x v hx o3
    exact ⟨t, ht, by rw [tbz_6 (by omega)]; exact e⟩
  exact ((h v p q).1 w).elim (oq x hx) (oq y hy)
