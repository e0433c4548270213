theorem ask_eq {za zb t8 ra V V2 : Int} {C C2 : Prop} (hc : C ↔ C2) (hv : C → V = V2) (a : (za = 0 ∧ C ∧ ra = V) ∨ (za = 1 ∧ ¬ C)) (b : (t8 = 0 ∧ C2 ∧ zb = V2) ∨ (t8 = 1 ∧ ¬ C2)) : t8 = za ∧ (za = 0 → ra = zb) := by
  rcases a with ⟨a1, a2, a3⟩ | ⟨a1, a2⟩ <;> rcases b with ⟨b1, b2, b3⟩ | ⟨b1, b2⟩
  · exact ⟨b1.trans a1.symm, fun _ => a3.trans ((hv a2).trans b3.symm)⟩
  · exact absurd (hc.1 a2) b2
  · exact absurd (hc.2 b2) a2
  · exact ⟨b1.trans a1.symm, fun w => absurd (w.symm.trans a1) (by decide)⟩
/-! ===== the reference's table read through the class's ===== -/
theorem ma_all {J : zJ} {m : Int} (E : A0 J (tbz J)) (C : CT J m) (hm : J 6 12 = m) : (∀ t, 0 ≤ t → t < m → J 166 (0 + t) = J 7 t ∧ mar J 0 0 t = J 8 t ∧ msz J 0 0 t = J 10 t) ∧ ∀ t, 0 ≤ t → t < m → ∀ i, 0 ≤ i → i < J 8 t → mag J 0 t i = cag J t i := by
  have T := C.told
  have ts := C.1.1.1
  obtain ⟨⟨e1, e0'⟩, ⟨e6', E2', E3'⟩⟩ := E
  have e1' : J 1 3 = J 164 9 := e1
  have e6 : J 6 12 = J 165 0 := e6'
  have e0 : ∀ k, 0 ≤ k → k < J 164 9 → J 3 k = J 170 (0 + k) := fun k a b => by
    have q := (e0' k a b).2.1
    rw [show tbz J 170 (0 + k) = J 170 (0 + k) from if_pos ⟨by omega, by omega⟩] at q
    exact q
  have h6 : ∀ t, 0 ≤ t → t < m → J 166 (0 + t) = J 7 t := fun t a c => by
    have q := (E2' t a (show t < J 165 0 by omega)).1
    rw [show tbz J 166 (0 + t) = J 166 (0 + t) from if_pos ⟨by omega, by omega⟩] at q
    exact q.symm
  have E3 : ∀ t i, 0 ≤ t → t < m → 0 ≤ i → i < J 8 t → J 9 (t * 3 + i) = J 167 (3 * (0 + t) + i) := fun t i a c x y => by
    have ar := (C.ar a c).1
    have q := E3' t i a (show t < J 165 0 by omega) x y
    rw [show tbz J 167 (3 * (0 + t) + i) = J 167 (3 * (0 + t) + i) from if_pos ⟨by omega, by omega⟩] at q
    exact q
  have ha : ∀ t, 0 ≤ t → t < m → mar J 0 0 t = J 8 t := fun t a c => by
    have h7 := (C.ar a c).2.2
    unfold mar
    rw [h6 t a c, (C.2.1 t a c).1.1]
    exact arh_cg (fun q => (e0 _ q (by omega)).symm)
  have hg : ∀ t, 0 ≤ t → t < m → ∀ i, 0 ≤ i → i < J 8 t → mag J 0 t i = cag J t i := fun t a c i x y => (E3 t i a c x y).symm
  have td' : TD m (mar J 0 0) (mag J 0) (J 12) := fun t x y => by
    obtain ⟨a, b, c⟩ := C.td t x y
    refine ⟨by rw [ha t x y]; exact a, b, fun i p q => ?_⟩
    rw [ha t x y] at q
    rw [hg t x y i p q]
    exact c i p q
  have hz : ∀ t, 0 ≤ t → t < m → msz J 0 0 t = J 10 t := fun t a c => by
    have h12 := (C.td t a c).2.1
    rw [C.sz ⟨a, c⟩]
    exact (tsz_sS td' 6 t ⟨a, c⟩ (by omega)).trans (sV_cg C.td (fun _ _ _ => rfl) ha hg 6 t ⟨a, c⟩)
  exact ⟨fun t a b => ⟨h6 t a b, ha t a b, hz t a b⟩, hg⟩
theorem mar_z {J' J : zJ} (f : MZ J' J) : mar J' 0 0 = mar J 0 0 := by
  funext t
  unfold mar
  rw [f.1 166 rfl, f.1 170 rfl]
theorem mag_z {J' J : zJ} (f : MZ J' J) : mag J' 0 = mag J 0 := by
  funext t i
  unfold mag
  rw [f.1 167 rfl]
theorem mtb_hi {J1 J : zJ} (f : ∀ c, 164 ≤ c → c < 183 → J1 c = J c) : mar J1 0 0 = mar J 0 0 ∧ mag J1 0 = mag J 0 ∧ msz J1 0 0 = msz J 0 0 := by
  have a : mar J1 0 0 = mar J 0 0 := by
    funext t
    unfold mar
    rw [f 166 (by decide) (by decide), f 170 (by decide) (by decide)]
  have b : mag J1 0 = mag J 0 := by
    funext t i
    unfold mag
    rw [f 167 (by decide) (by decide)]
  refine ⟨a, b, ?_⟩
  funext t
  unfold msz
  rw [a, b]
/-! ===== find: what it answers ===== -/
theorem or_l {z : Int} {a : Prop} (h : (z = 1 ∧ a) ∨ (z = 0 ∧ ¬ a)) (k : ¬ z = 0) : a := h.elim (fun w => w.2) (fun w => absurd w.1 k)
theorem or_r {z : Int} {a : Prop} (h : (z = 1 ∧ a) ∨ (z = 0 ∧ ¬ a)) (k : z = 0) : ¬ a := h.elim (fun w => absurd (w.1.symm.trans k) (by decide)) (fun w => w.2)
/-- terms of one shape -/
def shP (hd ar : Int → Int) (ag : Int → Int → Int) : Nat → Int → Int → Prop
  | 0, _, _ => False
  | k + 1, s, t => (hd s < 0 ∧ hd t < 0) ∨ (0 ≤ hd s ∧ hd s = hd t ∧ ∀ i, 0 ≤ i → i < ar s → shP hd ar ag k (ag s i) (ag t i))
theorem shP_s {hd ar : Int → Int} {ag : Int → Int → Int} {k : Nat} {s t : Int} : shP hd ar ag (k + 1) s t ↔ ((hd s < 0 ∧ hd t < 0) ∨ (0 ≤ hd s ∧ hd s = hd t ∧ ∀ i, 0 ≤ i → i < ar s → shP hd ar ag k (ag s i) (ag t i))) := Iff.rfl
theorem sh_c {J : zJ} {m : Int} (C : CT J m) : ∀ (k : Nat) (s t : Int), (0 ≤ s ∧ s < m) → (0 ≤ t ∧ t < m) → J 12 s ≤ k → (J 14 s = J 14 t ↔ shP (J 7) (J 8) (cag J) k s t)
  | 0, s, t, hs, _, h => by have := (C.nums hs.1 hs.2).2.2; omega
  | k + 1, s, t, hs, ht, h => by
    rw [sm1_eq C hs.1 hs.2 ht.1 ht.2, shP_s]
    unfold sm1
    have as := C.ar hs.1 hs.2
    have at' := C.ar ht.1 ht.2
    constructor
    · rintro ⟨w, g⟩
      by_cases n : J 7 s < 0
      · exact Or.inl ⟨n, by omega⟩
      · have e := C.ar1 hs.1 hs.2 ht.1 ht.2 w
        refine Or.inr ⟨by omega, by omega, fun i x y => ?_⟩
        have a1 := C.arg hs.1 hs.2 x y
        have a2 := C.arg ht.1 ht.2 x (by omega)
        exact (sh_c C k (J 9 (s * 3 + i)) (J 9 (t * 3 + i)) (by omega) (by omega) (by omega)).1 (g i x (by omega))
    · rintro (⟨w1, w2⟩ | ⟨w0, w1, w2⟩)
      · exact ⟨Or.inr ⟨w1, w2⟩, fun j x y => by have := at'.2.1 w2; omega⟩
      · have e := C.ar1 hs.1 hs.2 ht.1 ht.2 (Or.inl w1)
        refine ⟨Or.inl w1, fun j x y => ?_⟩
        have a1 := C.arg hs.1 hs.2 x (by omega)
        have a2 := C.arg ht.1 ht.2 x y
        exact (sh_c C k (J 9 (s * 3 + j)) (J 9 (t * 3 + j)) (by omega) (by omega) (by omega)).2 (w2 j x (by omega))
theorem shP_cg {hd hd' ar ar' : Int → Int} {ag ag' : Int → Int → Int} {m : Int} (rg : ∀ x i, 0 ≤ x → x < m → 0 ≤ i → i < ar x → 0 ≤ ag x i ∧ ag x i < x) (e7 : ∀ x, 0 ≤ x → x < m → hd' x = hd x) (e8 : ∀ x, 0 ≤ x → x < m → ar' x = ar x) (eg : ∀ x, 0 ≤ x → x < m → ∀ i, 0 ≤ i → i < ar x → ag' x i = ag x i) (h8 : ∀ x y, 0 ≤ x → x < m → 0 ≤ y → y < m → hd x = hd y → ar x = ar y) : ∀ (k : Nat) (s t : Int), (0 ≤ s ∧ s < m) → (0 ≤ t ∧ t < m) → (shP hd' ar' ag' k s t ↔ shP hd ar ag k s t)
  | 0, _, _, _, _ => Iff.rfl
  | k + 1, s, t, hs, ht => by
    rw [shP_s, shP_s, e7 s hs.1 hs.2, e7 t ht.1 ht.2, e8 s hs.1 hs.2]
    have q : hd s = hd t → ∀ i, 0 ≤ i → i < ar s → (shP hd' ar' ag' k (ag' s i) (ag' t i) ↔ shP hd ar ag k (ag s i) (ag t i)) := fun e i x y => by
      have e9 := h8 s t hs.1 hs.2 ht.1 ht.2 e
      have a1 := rg s i hs.1 hs.2 x y
      have a2 := rg t i ht.1 ht.2 x (by omega)
      rw [eg s hs.1 hs.2 i x y, eg t ht.1 ht.2 i x (by omega)]
      exact shP_cg rg e7 e8 eg h8 k _ _ (by omega) (by omega)
    exact ⟨fun w => w.imp id (fun ⟨a, b, c⟩ => ⟨a, b, fun i x y => (q b i x y).1 (c i x y)⟩), fun w => w.imp id (fun ⟨a, b, c⟩ => ⟨a, b, fun i x y => (q b i x y).2 (c i x y)⟩)⟩
/-- they can be made alike, the variables of the one apart from those of the other -/
def UA8 (S : zJ) (m s t : Int) : Prop := (∃ f, CGm (VN 800 m) (hdN S 0) (arN S 0 0) (agN S 0) f ∧ f s = f t) ∧ NRu (VN 800 m) (hdN S 0) (arN S 0 0) (agN S 0) (LCu (VN 800 m) (hdN S 0) (arN S 0 0) (agN S 0) s t) s
theorem upo8 {S : zJ} {m s t z : Int} {p sh lv : Int → Int} (q : UPO 800 m 0 0 S s t p sh lv z) : (z = 1 ∧ UA8 S m s t) ∨ (¬ z = 1 ∧ ¬ UA8 S m s t) := by
  rcases q with ⟨a, b⟩ | ⟨f, _, _, _, ⟨a, n⟩ | ⟨a, n⟩⟩
  · exact Or.inr ⟨by omega, fun w => b w.1⟩
  · exact Or.inl ⟨a, f, n⟩
  · exact Or.inr ⟨by omega, fun w => n w.2⟩
theorem alk8 {J : zJ} {s m : Int} (hM : MS J 0 0 0 s m) : ALK (VN 800 m) (hdN J 0) (hdN (tbz J) 0) (arN J 0 0) (arN (tbz J) 0 0) (agN J 0) (agN (tbz J) 0) := fun x hx => by
  have hT := hM.told
  have h1 := hx.1
  have h2 := hx.2
  have z : 0 ≤ x % 400 ∧ x % 400 < m := ⟨by omega, h2⟩
  have oa := hM.oa z
  have a3 := (hM.ar z).1
  refine ⟨?_, oa.2, ?_, fun i p q => ?_⟩
  · show tbz J 166 (0 + x % 400) = J 166 (0 + x % 400)
    exact tbz_6 (by omega)
  · show mar J 0 0 (x % 400) ≤ 3
    omega
  · show x / 400 * 400 + tbz J 167 (3 * (0 + x % 400) + i) = x / 400 * 400 + J 167 (3 * (0 + x % 400) + i)
    rw [show tbz J 167 (3 * (0 + x % 400) + i) = J 167 (3 * (0 + x % 400) + i) from if_pos ⟨by omega, by omega⟩]
theorem ua8_z {J : zJ} {s m x y : Int} (hM : MS J 0 0 0 s m) : UA8 J m x y ↔ UA8 (tbz J) m x y :=
  ⟨fun ⟨⟨f, g, q⟩, n⟩ => ⟨⟨f, (alk8 hM).cg g, q⟩, (alk8 hM).nr n⟩, fun ⟨⟨f, g, q⟩, n⟩ => ⟨⟨f, (alk8 hM).sy.cg g, q⟩, (alk8 hM).sy.nr n⟩⟩
def FD (S : zJ) (sh : Int → Int → Prop) (m u x t : Int) : Prop := (u = 0 ∧ (omt S x t).1 = true) ∨ (u = 1 ∧ (omt S t x).1 = true) ∨ (u = 2 ∧ UA8 S m x (t + 400)) ∨ (u = 3 ∧ sh x t)
theorem FD.u0 {S : zJ} {sh : Int → Int → Prop} {m u x t : Int} (h : u = 0) : FD S sh m u x t ↔ (omt S x t).1 = true := ⟨fun w => by rcases w with w | w | w | w <;> first | exact w.2 | exact absurd (h.symm.trans w.1) (by decide), fun w => Or.inl ⟨h, w⟩⟩
theorem FD.u1 {S : zJ} {sh : Int → Int → Prop} {m u x t : Int} (h : u = 1) : FD S sh m u x t ↔ (omt S t x).1 = true := ⟨fun w => by rcases w with w | w | w | w <;> first | exact absurd (h.symm.trans w.1) (by decide) | exact w.2, fun w => Or.inr (Or.inl ⟨h, w⟩)⟩
theorem FD.u2 {S : zJ} {sh : Int → Int → Prop} {m u x t : Int} (h : u = 2) : FD S sh m u x t ↔ UA8 S m x (t + 400) := ⟨fun w => by rcases w with w | w | w | w <;> first | exact absurd (h.symm.trans w.1) (by decide) | exact w.2, fun w => Or.inr (Or.inr (Or.inl ⟨h, w⟩))⟩
theorem FD.u3 {S : zJ} {sh : Int → Int → Prop} {m u x t : Int} (h : u = 3) : FD S sh m u x t ↔ sh x t := ⟨fun w => by rcases w with w | w | w | w <;> first | exact absurd (h.symm.trans w.1) (by decide) | exact w.2, fun w => Or.inr (Or.inr (Or.inr ⟨h, w⟩))⟩
theorem FD.cg {S : zJ} {sh sh' : Int → Int → Prop} {m u x t : Int} (h : sh x t ↔ sh' x t) : FD S sh m u x t ↔ FD S sh' m u x t := ⟨fun w => w.imp id (fun w => w.imp id (fun w => w.imp id (fun w => ⟨w.1, h.1 w.2⟩))), fun w => w.imp id (fun w => w.imp id (fun w => w.imp id (fun w => ⟨w.1, h.2 w.2⟩)))⟩
theorem fd0 {r b : Bool} {z : Int} {F : Prop} (q : (r = true ∧ z = 1) ∨ (r = false ∧ z = 0)) (e : r = b) (h : F ↔ b = true) : (z = 1 ∧ F) ∨ (z = 0 ∧ ¬ F) := by
  subst e
  rcases q with ⟨a, c⟩ | ⟨a, c⟩
  · exact Or.inl ⟨c, h.2 a⟩
  · exact Or.inr ⟨c, fun w => by rw [h.1 w] at a; cases a⟩
noncomputable def fdF (p : Int → Prop) : Nat → Int
  | 0 => 0
  | n + 1 => @ite Int (p n) (Classical.propDecidable _) (zor (fdF p n) (zshl 1 n)) (fdF p n)
theorem fdF_y {p : Int → Prop} {i : Int} (hi : 0 ≤ i) (h : p i) : fdF p (i + 1).toNat = zor (fdF p i.toNat) (zshl 1 i) := by
  rw [show (i + 1).toNat = i.toNat + 1 from by omega]
  have e := Int.toNat_of_nonneg hi
  refine (if_pos (by rw [e]; exact h)).trans ?_
  rw [e]
theorem fdF_n {p : Int → Prop} {i : Int} (hi : 0 ≤ i) (h : ¬ p i) : fdF p (i + 1).toNat = fdF p i.toNat := by
  rw [show (i + 1).toNat = i.toNat + 1 from by omega]
  have e := Int.toNat_of_nonneg hi
  exact if_neg (by rw [e]; exact h)
theorem fdF_cg {p q : Int → Prop} : ∀ n : Nat, (∀ k : Int, 0 ≤ k → k < n → (p k ↔ q k)) → fdF p n = fdF q n
  | 0, _ => rfl
  | n + 1, h => by
    have a := fdF_cg n (fun k x y => h k x (by omega))
    have b := propext (h n (by omega) (by omega))
    show @ite Int (p n) (Classical.propDecidable _) _ _ = @ite Int (q n) (Classical.propDecidable _) _ _
    by_cases c : q n
    · rw [if_pos c, if_pos (b ▸ c : p n), a]
    · rw [if_neg c, if_neg (fun w => c (b ▸ w)), a]
set_option maxHeartbeats 4000000 in
set_option maxRecDepth 100000 in
theorem e_isFound {l : Launch} {G : tb_G} (hl : l.stackTraces = false) (n : Nat) (J : zJ) (x : Int) (t : Int) (u : Int) (hr_x : -2147483648 ≤ x ∧ x < 2147483648) (hr_t : -2147483648 ≤ t ∧ t < 2147483648) (hr_u : -2147483648 ≤ u ∧ u < 2147483648) (m : Int) (S : zJ) (C : CT J m) (hm : J 6 12 = m) (E : A0 J S) (hx : 0 ≤ x ∧ x < m) (ht : 0 ≤ t ∧ t < m) (hu : 0 ≤ u ∧ u ≤ 3) (hR : RU J) (h9 : J 145 10 < 2000000000) : tz_Ok l G M_X7_isFound 8 0 0 [.ref 155, zi x, zi t, zi u] n J (zqi (fun z J' => ((z = 1 ∧ FD S (fun a9 b9 => J 14 a9 = J 14 b9) m u x t) ∨ (z = 0 ∧ ¬ FD S (fun a9 b9 => J 14 a9 = J 14 b9) m u x t)) ∧ RU J' ∧ (J 145 10 ≤ J' 145 10 ∧ J' 145 10 ≤ J 145 10 + 1) ∧  zOf (zbut [140, 145, 146, 147, 148, 149, 150, 151, 152, 153, 154]) J' J)) zN := by
  refine tz_Ok.of hl (by decide +kernel) rfl (tb_c1 rfl) (Nat.le_of_ble_eq_true rfl) ?_
  show tz_At l G M_X7_isFound (tb_rm 8 0 0) none (tb_ZM G 0 0 (zQ n 0 (zqi (fun z J' => ((z = 1 ∧ FD S (fun a9 b9 => J 14 a9 = J 14 b9) m u x t) ∨ (z = 0 ∧ ¬ FD S (fun a9 b9 => J 14 a9 = J 14 b9) m u x t)) ∧ RU J' ∧ (J 145 10 ≤ J' 145 10 ∧ J' 145 10 ≤ J 145 10 + 1) ∧  zOf (zbut [140, 145, 146, 147, 148, 149, 150, 151, 152, 153, 154]) J' J))) (zX n 0 zN)) 0 0 n J 0 [some (.ref 155), some (zi x), some (zi t), some (zi u)] []
  have hb := C.told
  refine tz_iload_n (pc := 0) dX7_isFound_0 rfl rfl ?_
  by_cases hs_1 : u < 0 ∨ 2 < u
  · refine tz_tabOut (pc := 1) (tgt := 70) dX7_isFound_1 (by omega) hs_1 (by decide) ?_
    refine tz_aload_n (pc := 70) dX7_isFound_70 rfl rfl ?_
    refine tz_fR (pc := 71) dX7_isFound_71 fl_X7_21 r_155_1 ?_
    refine tz_fR (pc := 74) dX7_isFound_74 fl_X7_101 r_6_8 ?_
    refine tz_iload_n (pc := 77) dX7_isFound_77 rfl rfl ?_
    refine tz_aL (pc := 78) (z := x) (v := (J 14 x)) dX7_isFound_78 a_14 rfl (by omega) rfl (fun r_78 => ?_)
    refine tz_aload_n (pc := 79) dX7_isFound_79 rfl rfl ?_
    refine tz_fR (pc := 80) dX7_isFound_80 fl_X7_21 r_155_1 ?_
    refine tz_fR (pc := 83) dX7_isFound_83 fl_X7_101 r_6_8 ?_
    refine tz_iload_n (pc := 86) dX7_isFound_86 rfl rfl ?_
    refine tz_aL (pc := 87) (z := t) (v := (J 14 t)) dX7_isFound_87 a_14 rfl (by omega) rfl (fun r_87 => ?_)
    refine tz_icmp_ne (pc := 88) (tgt := 95) dX7_isFound_88 (by decide) (by omega) (by omega) (fun h_88 => ?_) (fun h_88 => ?_)
    · refine tz_iconst (pc := 95) dX7_isFound_95 ?_
      exact tz_zret (pc := 96) (z := 0) dX7_isFound_96 rfl (Or.inl rfl) (Nat.le_of_ble_eq_true rfl) (Nat.le_of_ble_eq_true rfl) ⟨Nat.le_refl _, Nat.le_add_right _ _⟩ ⟨_, rfl, (by decide), (by first | exact ⟨fd0 q1.1 mt9.1 (FD.u0 (by omega)), hR.of (a2 145 rfl) (a2 146 rfl), by rw [a2 145 rfl]; omega, a2.mono (fun c hc => by simp [zbut] at hc ⊢; omega)⟩ | exact ⟨fd0 q1.1 mt9.1 (FD.u1 (by omega)), hR.of (a2 145 rfl) (a2 146 rfl), by rw [a2 145 rfl]; omega, a2.mono (fun c hc => by simp [zbut] at hc ⊢; omega)⟩ | exact ⟨Or.inl ⟨rfl, (FD.u2 (by omega)).2 ((upo8 qu).resolve_right (fun w => w.1 (by omega))).2⟩, w2.rest (by have := hR.1; omega), by omega, w4.mono (fun c hc => by simp [zbut] at hc ⊢; omega)⟩ | exact ⟨Or.inr ⟨rfl, fun w => ((upo8 qu).resolve_left (fun v => by have := v.1; omega)).2 ((FD.u2 (by omega)).1 w)⟩, w2.rest (by have := hR.1; omega), by omega, w4.mono (fun c hc => by simp [zbut] at hc ⊢; omega)⟩ | exact ⟨Or.inl ⟨rfl, (FD.u3 (by omega)).2 (by show J 14 x = J 14 t; omega)⟩, hR, by omega, zOf.rf⟩ | exact ⟨Or.inr ⟨rfl, fun w => absurd ((FD.u3 (by omega)).1 w) (by show ¬ J 14 x = J 14 t; omega)⟩, hR, by omega, zOf.rf⟩)⟩
    · refine tz_iconst (pc := 91) dX7_isFound_91 ?_
      refine tz_goto (pc := 92) (tgt := 96) dX7_isFound_92 (by decide) ?_
      exact tz_zret (pc := 96) (z := 1) dX7_isFound_96 rfl (Or.inr rfl) (Nat.le_of_ble_eq_true rfl) (Nat.le_of_ble_eq_true rfl) ⟨Nat.le_refl _, Nat.le_add_right _ _⟩ ⟨_, rfl, (by decide), (by first | exact ⟨fd0 q1.1 mt9.1 (FD.u0 (by omega)), hR.of (a2 145 rfl) (a2 146 rfl), by rw [a2 145 rfl]; omega, a2.mono (fun c hc => by simp [zbut] at hc ⊢; omega)⟩ | exact ⟨fd0 q1.1 mt9.1 (FD.u1 (by omega)), hR.of (a2 145 rfl) (a2 146 rfl), by rw [a2 145 rfl]; omega, a2.mono (fun c hc => by simp [zbut] at hc ⊢; omega)⟩ | exact ⟨Or.inl ⟨rfl, (FD.u2 (by omega)).2 ((upo8 qu).resolve_right (fun w => w.1 (by omega))).2⟩, w2.rest (by have := hR.1; omega), by omega, w4.mono (fun c hc => by simp [zbut] at hc ⊢; omega)⟩ | exact ⟨Or.inr ⟨rfl, fun w => ((upo8 qu).resolve_left (fun v => by have := v.1; omega)).2 ((FD.u2 (by omega)).1 w)⟩, w2.rest (by have := hR.1; omega), by omega, w4.mono (fun c hc => by simp [zbut] at hc ⊢; omega)⟩ | exact ⟨Or.inl ⟨rfl, (FD.u3 (by omega)).2 (by show J 14 x = J 14 t; omega)⟩, hR, by omega, zOf.rf⟩ | exact ⟨Or.inr ⟨rfl, fun w => absurd ((FD.u3 (by omega)).1 w) (by show ¬ J 14 x = J 14 t; omega)⟩, hR, by omega, zOf.rf⟩)⟩
  · have hs9 : u = 0 ∨ u = 1 ∨ u = 2 := by omega
    rcases hs9 with hc_1 | hc_1 | hc_1
    · refine tz_tabIn (pc := 1) (tgt := 28) 0 dX7_isFound_1 hc_1 (by decide) rfl (by decide) ?_
      refine tz_aload_n (pc := 28) dX7_isFound_28 rfl rfl ?_
      refine tz_fR (pc := 29) dX7_isFound_29 fl_X7_22 r_155_2 ?_
      refine tz_iload_n (pc := 32) dX7_isFound_32 rfl rfl ?_
      refine tz_iload_n (pc := 33) dX7_isFound_33 rfl rfl ?_
      refine tz_cV (pc := 34) (x_matches hl n _ _ _ (by omega) (by omega) m C hx ht) vl_X7_96 dX7_isFound_34 o_139 rfl rfl (Nat.le_of_ble_eq_true rfl) ⟨(Nat.le_of_ble_eq_true rfl), (Nat.le_of_ble_eq_true rfl)⟩ rfl rfl (Nat.le_of_ble_eq_true rfl) (Nat.le_of_ble_eq_true rfl) (fun r9 J_34 hq9 => ?_)
      obtain ⟨z_34, rfl, hz_34, ⟨σ9, qs, q1⟩, a2, -⟩ := hq9
      have mt9 := E.mt (σ' := fun _ => -1) C hm (p := x) (t := t) hx ht qs
      have i0 : z_34 = 0 ∨ z_34 = 1 := q1.1.elim (fun w9 => Or.inr w9.2) (fun w9 => Or.inl w9.2)
      exact tz_zret (pc := 37) (z := z_34) dX7_isFound_37 rfl (by omega) (Nat.le_of_ble_eq_true rfl) (Nat.le_of_ble_eq_true rfl) ⟨Nat.le_refl _, Nat.le_add_right _ _⟩ ⟨_, rfl, (by omega), (by first | exact ⟨fd0 q1.1 mt9.1 (FD.u0 (by omega)), hR.of (a2 145 rfl) (a2 146 rfl), by rw [a2 145 rfl]; omega, a2.mono (fun c hc => by simp [zbut] at hc ⊢; omega)⟩ | exact ⟨fd0 q1.1 mt9.1 (FD.u1 (by omega)), hR.of (a2 145 rfl) (a2 146 rfl), by rw [a2 145 rfl]; omega, a2.mono (fun c hc => by simp [zbut] at hc ⊢; omega)⟩ | exact ⟨Or.inl ⟨rfl, (FD.u2 (by omega)).2 ((upo8 qu).resolve_right (fun w => w.1 (by omega))).2⟩, w2.rest (by have := hR.1; omega), by omega, w4.mono (fun c hc => by simp [zbut] at hc ⊢; omega)⟩ | exact ⟨Or.inr ⟨rfl, fun w => ((upo8 qu).resolve_left (fun v => by have := v.1; omega)).2 ((FD.u2 (by omega)).1 w)⟩, w2.rest (by have := hR.1; omega), by omega, w4.mono (fun c hc => by simp [zbut] at hc ⊢; omega)⟩ | exact ⟨Or.inl ⟨rfl, (FD.u3 (by omega)).2 (by show J 14 x = J 14 t; omega)⟩, hR, by omega, zOf.rf⟩ | exact ⟨Or.inr ⟨rfl, fun w => absurd ((FD.u3 (by omega)).1 w) (by show ¬ J 14 x = J 14 t; omega)⟩, hR, by omega, zOf.rf⟩)⟩
    · refine tz_tabIn (pc := 1) (tgt := 38) 1 dX7_isFound_1 hc_1 (by decide) rfl (by decide) ?_
      refine tz_aload_n (pc := 38) dX7_isFound_38 rfl rfl ?_
      refine tz_fR (pc := 39) dX7_isFound_39 fl_X7_22 r_155_2 ?_
      refine tz_iload_n (pc := 42) dX7_isFound_42 rfl rfl ?_
      refine tz_iload_n (pc := 43) dX7_isFound_43 rfl rfl ?_
      refine tz_cV (pc := 44) (x_matches hl n _ _ _ (by omega) (by omega) m C ht hx) vl_X7_96 dX7_isFound_44 o_139 rfl rfl (Nat.le_of_ble_eq_true rfl) ⟨(Nat.le_of_ble_eq_true rfl), (Nat.le_of_ble_eq_true rfl)⟩ rfl rfl (Nat.le_of_ble_eq_true rfl) (Nat.le_of_ble_eq_true rfl) (fun r9 J_44 hq9 => ?_)
      obtain ⟨z_44, rfl, hz_44, ⟨σ9, qs, q1⟩, a2, -⟩ := hq9
      have mt9 := E.mt (σ' := fun _ => -1) C hm (p := t) (t := x) ht hx qs
      have i0 : z_44 = 0 ∨ z_44 = 1 := q1.1.elim (fun w9 => Or.inr w9.2) (fun w9 => Or.inl w9.2)
      exact tz_zret (pc := 47) (z := z_44) dX7_isFound_47 rfl (by omega) (Nat.le_of_ble_eq_true rfl) (Nat.le_of_ble_eq_true rfl) ⟨Nat.le_refl _, Nat.le_add_right _ _⟩ ⟨_, rfl, (by omega), (by first | exact ⟨fd0 q1.1 mt9.1 (FD.u0 (by omega)), hR.of (a2 145 rfl) (a2 146 rfl), by rw [a2 145 rfl]; omega, a2.mono (fun c hc => by simp [zbut] at hc ⊢; omega)⟩ | exact ⟨fd0 q1.1 mt9.1 (FD.u1 (by omega)), hR.of (a2 145 rfl) (a2 146 rfl), by rw [a2 145 rfl]; omega, a2.mono (fun c hc => by simp [zbut] at hc ⊢; omega)⟩ | exact ⟨Or.inl ⟨rfl, (FD.u2 (by omega)).2 ((upo8 qu).resolve_right (fun w => w.1 (by omega))).2⟩, w2.rest (by have := hR.1; omega), by omega, w4.mono (fun c hc => by simp [zbut] at hc ⊢; omega)⟩ | exact ⟨Or.inr ⟨rfl, fun w => ((upo8 qu).resolve_left (fun v => by have := v.1; omega)).2 ((FD.u2 (by omega)).1 w)⟩, w2.rest (by have := hR.1; omega), by omega, w4.mono (fun c hc => by simp [zbut] at hc ⊢; omega)⟩ | exact ⟨Or.inl ⟨rfl, (FD.u3 (by omega)).2 (by show J 14 x = J 14 t; omega)⟩, hR, by omega, zOf.rf⟩ | exact ⟨Or.inr ⟨rfl, fun w => absurd ((FD.u3 (by omega)).1 w) (by show ¬ J 14 x = J 14 t; omega)⟩, hR, by omega, zOf.rf⟩)⟩
    · refine tz_tabIn (pc := 1) (tgt := 48) 2 dX7_isFound_1 hc_1 (by decide) rfl (by decide) ?_
      refine tz_aload_n (pc := 48) dX7_isFound_48 rfl rfl ?_
      refine tz_fR (pc := 49) dX7_isFound_49 fl_X7_26 r_155_3 ?_
      refine tz_iload_n (pc := 52) dX7_isFound_52 rfl rfl ?_
      refine tz_iload_n (pc := 53) dX7_isFound_53 rfl rfl ?_
      refine tz_sipush (pc := 54) dX7_isFound_54 (by decide) ?_
      refine tz_cV (pc := 57) (u_wayOf hl n _ _ _ _ (by omega) (by omega) (by omega) m 800 S C hm E hx ht (Or.inr rfl) hR h9 (Or.inr ⟨rfl, rfl⟩)) vl_X7_89 dX7_isFound_57 o_145 rfl rfl (Nat.le_of_ble_eq_true rfl) ⟨(Nat.le_of_ble_eq_true rfl), (Nat.le_of_ble_eq_true rfl)⟩ rfl rfl (Nat.le_of_ble_eq_true rfl) (Nat.le_of_ble_eq_true rfl) (fun r9 J_57 hq9 => ?_)
      obtain ⟨z_57, rfl, hz_57, ⟨w1, w2, w3, w4⟩, qu, -⟩ := hq9
      refine tz_iconst (pc := 60) dX7_isFound_60 ?_
      refine tz_icmp_ne (pc := 61) (tgt := 68) dX7_isFound_61 (by decide) (by omega) (by decide) (fun h_61 => ?_) (fun h_61 => ?_)
      · refine tz_iconst (pc := 68) dX7_isFound_68 ?_
        exact tz_zret (pc := 69) (z := 0) dX7_isFound_69 rfl (Or.inl rfl) (Nat.le_of_ble_eq_true rfl) (Nat.le_of_ble_eq_true rfl) ⟨Nat.le_refl _, Nat.le_add_right _ _⟩ ⟨_, rfl, (by decide), (by first | exact ⟨fd0 q1.1 mt9.1 (FD.u0 (by omega)), hR.of (a2 145 rfl) (a2 146 rfl), by rw [a2 145 rfl]; omega, a2.mono (fun c hc => by simp [zbut] at hc ⊢; omega)⟩ | exact ⟨fd0 q1.1 mt9.1 (FD.u1 (by omega)), hR.of (a2 145 rfl) (a2 146 rfl), by rw [a2 145 rfl]; omega, a2.mono (fun c hc => by simp [zbut] at hc ⊢; omega)⟩ | exact ⟨Or.inl ⟨rfl, (FD.u2 (by omega)).2 ((upo8 qu).resolve_right (fun w => w.1 (by omega))).2⟩, w2.rest (by have := hR.1; omega), by omega, w4.mono (fun c hc => by simp [zbut] at hc ⊢; omega)⟩ | exact ⟨Or.inr ⟨rfl, fun w => ((upo8 qu).resolve_left (fun v => by have := v.1; omega)).2 ((FD.u2 (by omega)).1 w)⟩, w2.rest (by have := hR.1; omega), by omega, w4.mono (fun c hc => by simp [zbut] at hc ⊢; omega)⟩ | exact ⟨Or.inl ⟨rfl, (FD.u3 (by omega)).2 (by show J 14 x = J 14 t; omega)⟩, hR, by omega, zOf.rf⟩ | exact ⟨Or.inr ⟨rfl, fun w => absurd ((FD.u3 (by omega)).1 w) (by show ¬ J 14 x = J 14 t; omega)⟩, hR, by omega, zOf.rf⟩)⟩
      · refine tz_iconst (pc := 64) dX7_isFound_64 ?_
        refine tz_goto (pc := 65) (tgt := 69) dX7_isFound_65 (by decide) ?_
        exact tz_zret (pc := 69) (z := 1) dX7_isFound_69 rfl (Or.inr rfl) (Nat.le_of_ble_eq_true rfl) (Nat.le_of_ble_eq_true rfl) ⟨Nat.le_refl _, Nat.le_add_right _ _⟩ ⟨_, rfl, (by decide), (by first | exact ⟨fd0 q1.1 mt9.1 (FD.u0 (by omega)), hR.of (a2 145 rfl) (a2 146 rfl), by rw [a2 145 rfl]; omega, a2.mono (fun c hc => by simp [zbut] at hc ⊢; omega)⟩ | exact ⟨fd0 q1.1 mt9.1 (FD.u1 (by omega)), hR.of (a2 145 rfl) (a2 146 rfl), by rw [a2 145 rfl]; omega, a2.mono (fun c hc => by simp [zbut] at hc ⊢; omega)⟩ | exact ⟨Or.inl ⟨rfl, (FD.u2 (by omega)).2 ((upo8 qu).resolve_right (fun w => w.1 (by omega))).2⟩, w2.rest (by have := hR.1; omega), by omega, w4.mono (fun c hc => by simp [zbut] at hc ⊢; omega)⟩ | exact ⟨Or.inr ⟨rfl, fun w => ((upo8 qu).resolve_left (fun v => by have := v.1; omega)).2 ((FD.u2 (by omega)).1 w)⟩, w2.rest (by have := hR.1; omega), by omega, w4.mono (fun c hc => by simp [zbut] at hc ⊢; omega)⟩ | exact ⟨Or.inl ⟨rfl, (FD.u3 (by omega)).2 (by show J 14 x = J 14 t; omega)⟩, hR, by omega, zOf.rf⟩ | exact ⟨Or.inr ⟨rfl, fun w => absurd ((FD.u3 (by omega)).1 w) (by show ¬ J 14 x = J 14 t; omega)⟩, hR, by omega, zOf.rf⟩)⟩

set_option maxHeartbeats 4000000 in
set_option maxRecDepth 100000 in
theorem e_found {l : Launch} {G : tb_G} (hl : l.stackTraces = false) (n : Nat) (J : zJ) (t : Int) (u : Int) (hr_t : -2147483648 ≤ t ∧ t < 2147483648) (hr_u : -2147483648 ≤ u ∧ u < 2147483648) (m : Int) (S : zJ) (C : CT J m) (hm : J 6 12 = m) (E : A0 J S) (hL : LI (J 19) m) (ht : 0 ≤ t ∧ t < m) (hu : 0 ≤ u ∧ u ≤ 3) (hR : RU J) (h9 : J 145 10 < 1000000000) : tz_Ok l G M_X7_found 9 0 0 [.ref 155, zi t, zi u] n J (zqi (fun z J' => z = fdF (fun i9 => FD S (fun a9 b9 => J 14 a9 = J 14 b9) m u (J 19 (31 + i9)) t) (J 19 5).toNat ∧ RU J' ∧ (J 145 10 ≤ J' 145 10 ∧ J' 145 10 ≤ J 145 10 + 12) ∧  zOf (zbut [140, 145, 146, 147, 148, 149, 150, 151, 152, 153, 154]) J' J)) zN := by
  refine tz_Ok.of hl (by decide +kernel) rfl (tb_c1 rfl) (Nat.le_of_ble_eq_true rfl) ?_
  show tz_At l G M_X7_found (tb_rm 9 0 0) none (tb_ZM G 0 0 (zQ n 0 (zqi (fun z J' => z = fdF (fun i9 => FD S (fun a9 b9 => J 14 a9 = J 14 b9) m u (J 19 (31 + i9)) t) (J 19 5).toNat ∧ RU J' ∧ (J 145 10 ≤ J' 145 10 ∧ J' 145 10 ≤ J 145 10 + 12) ∧  zOf (zbut [140, 145, 146, 147, 148, 149, 150, 151, 152, 153, 154]) J' J))) (zX n 0 zN)) 0 0 n J 0 [some (.ref 155), some (zi t), some (zi u), none, none, none] []
  have hb := C.told
  have h5 := hL.1.2.2.1
  refine tz_aload_n (pc := 0) dX7_found_0 rfl rfl ?_
  refine tz_fR (pc := 1) dX7_found_1 fl_X7_9 r_155_0 ?_
  refine tz_fR (pc := 4) dX7_found_4 fl_X7_56 r_5_1 ?_
  refine tz_fR (pc := 7) dX7_found_7 fl_X7_60 r_18_0 ?_
  refine tz_astore_n (pc := 10) (L2 := [_, _, _, _, _, _]) dX7_found_10 rfl (by decide) rfl ?_
  refine tz_iconst (pc := 11) dX7_found_11 ?_
  refine tz_istore (pc := 12) (L2 := [_, _, _, _, _, _]) dX7_found_12 (by decide) rfl ?_
  refine tz_iconst (pc := 14) dX7_found_14 ?_
  refine tz_istore (pc := 15) (L2 := [_, _, _, _, _, _]) dX7_found_15 (by decide) rfl ?_
  have loop17 : ∀ (f9 : Nat) (q : Int) (i : Int) (J1 : zJ), ((12 - i).toNat) < f9 → ((0 ≤ i ∧ i ≤ J 19 5) ∧ (-2147483648 ≤ q ∧ q < 2147483648)) → (RU J1 ∧ (J 145 10 ≤ J1 145 10 ∧ J1 145 10 ≤ J 145 10 + i)) → (zOf (zbut [140, 145, 146, 147, 148, 149, 150, 151, 152, 153, 154]) J1 J) → (q = fdF (fun i9 => FD S (fun a9 b9 => J 14 a9 = J 14 b9) m u (J 19 (31 + i9)) t) i.toNat) → tz_At l G M_X7_found (tb_rm 9 0 0) none (tb_ZM G 0 0 (zQ n 0 (zqi (fun z J' => z = fdF (fun i9 => FD S (fun a9 b9 => J 14 a9 = J 14 b9) m u (J 19 (31 + i9)) t) (J 19 5).toNat ∧ RU J' ∧ (J 145 10 ≤ J' 145 10 ∧ J' 145 10 ≤ J 145 10 + 12) ∧  zOf (zbut [140, 145, 146, 147, 148, 149, 150, 151, 152, 153, 154]) J' J))) (zX n 0 zN)) 0 0 n J1 17 [some (.ref 155), some (zi t), some (zi u), some (.ref 19), some (zi q), some (zi i)] [] := by
    intro f9
    induction f9 with
    | zero => intro q i J1 hm9; exact absurd hm9 (Nat.not_lt_zero _)
    | succ f9 ih17 =>
      intro q i J1 hm17 hi u1 f1 hq
      have e9 := hL.2.2.2.1 i
      refine tz_iload (pc := 17) dX7_found_17 rfl ?_
      refine tz_aload_n (pc := 19) dX7_found_19 rfl rfl ?_
      refine tz_iconst (pc := 20) dX7_found_20 ?_
      refine tz_aL (pc := 21) (z := 5) (v := (J 19 5)) dX7_found_21 a_19 rfl (by decide) (Eq.trans (congrFun (f1 19 rfl) 5) rfl) (fun r_21 => ?_)
      refine tz_icmp_ge (pc := 22) (tgt := 56) dX7_found_22 (by decide) (by omega) (by omega) (fun h_22 => ?_) (fun h_22 => ?_)
      · refine tz_iload (pc := 56) dX7_found_56 rfl ?_
        exact tz_iret (pc := 58) (z := q) dX7_found_58 rfl (Nat.le_of_ble_eq_true rfl) (Nat.le_of_ble_eq_true rfl) ⟨Nat.le_refl _, Nat.le_add_right _ _⟩ ⟨_, rfl, (by omega), ⟨by rw [hq, show i = J 19 5 from by omega], u1.1, by omega, f1⟩⟩
      · refine tz_aload_n (pc := 25) dX7_found_25 rfl rfl ?_
        refine tz_aload_n (pc := 26) dX7_found_26 rfl rfl ?_
        refine tz_bipush (pc := 27) dX7_found_27 (by decide) ?_
        refine tz_iload (pc := 29) dX7_found_29 rfl ?_
        refine tz_iadd (pc := 31) (v := 31 + i) dX7_found_31 rfl ?_
        refine tz_aL (pc := 32) (z := (31 + i)) (v := (J 19 (31 + i))) dX7_found_32 a_19 rfl (by omega) (Eq.trans (congrFun (f1 19 rfl) (31 + i)) rfl) (fun r_32 => ?_)
        refine tz_iload_n (pc := 33) dX7_found_33 rfl rfl ?_
        refine tz_iload_n (pc := 34) dX7_found_34 rfl rfl ?_
        refine tz_cV (pc := 35) (e_isFound hl n _ _ _ _ (by omega) (by omega) (by omega) m S (C.of (fun c hc => f1 c (by simp [zbut]; omega))) (by rw [f1 6 rfl]; exact hm) (E.f (fun c hc => f1 c (by simp [zbut]; omega))) (by omega) ht hu u1.1 (by omega)) vl_X7_93 dX7_found_35 o_155 rfl rfl (Nat.le_of_ble_eq_true rfl) ⟨(Nat.le_of_ble_eq_true rfl), (Nat.le_of_ble_eq_true rfl)⟩ rfl rfl (Nat.le_of_ble_eq_true rfl) (Nat.le_of_ble_eq_true rfl) (fun r9 J_35 hq9 => ?_)
        obtain ⟨z_35, rfl, hz_35, i1, i2, i3, i4⟩ := hq9
        rw [f1 14 rfl] at i1
        have i0 : _ ∨ _ := i1.elim (fun w9 => Or.inr w9.1) (fun w9 => Or.inl w9.1)
        refine tz_if_eq (pc := 38) (tgt := 50) dX7_found_38 (by decide) (by omega) (fun h_38 => ?_) (fun h_38 => ?_)
        · refine tz_iinc (pc := 50) (z := i + 1) (L2 := [_, _, _, _, _, _]) dX7_found_50 rfl (by omega) rfl ?_
          refine tz_goto (pc := 53) (tgt := 17) dX7_found_53 (by decide) ?_
          exact ih17 _ (i + 1) _ (by omega) (by omega) ⟨i2, by omega⟩ (i4.tr f1) (by first | exact (by rw [fdF_y (p := (fun i9 => FD S (fun a9 b9 => J 14 a9 = J 14 b9) m u (J 19 (31 + i9)) t)) (i := i) (by omega) (or_l i1 (by omega)), ← hq]) | exact (by rw [fdF_n (p := (fun i9 => FD S (fun a9 b9 => J 14 a9 = J 14 b9) m u (J 19 (31 + i9)) t)) (i := i) (by omega) (or_r i1 (by omega)), ← hq]))
        · refine tz_iload (pc := 41) dX7_found_41 rfl ?_
          refine tz_iconst (pc := 43) dX7_found_43 ?_
          refine tz_iload (pc := 44) dX7_found_44 rfl ?_
          refine tz_ishl (pc := 46) (v := zshl 1 i) dX7_found_46 rfl ?_
          refine tz_ior (pc := 47) (v := zor q (zshl 1 i)) dX7_found_47 rfl ?_
          have r_47 := zor_rg q (zshl 1 i)
          refine tz_istore (pc := 48) (L2 := [_, _, _, _, _, _]) dX7_found_48 (by decide) rfl ?_
          refine tz_iinc (pc := 50) (z := i + 1) (L2 := [_, _, _, _, _, _]) dX7_found_50 rfl (by omega) rfl ?_
          refine tz_goto (pc := 53) (tgt := 17) dX7_found_53 (by decide) ?_
          exact ih17 _ (i + 1) _ (by omega) (by omega) ⟨i2, by omega⟩ (i4.tr f1) (by first | exact (by rw [fdF_y (p := (fun i9 => FD S (fun a9 b9 => J 14 a9 = J 14 b9) m u (J 19 (31 + i9)) t)) (i := i) (by omega) (or_l i1 (by omega)), ← hq]) | exact (by rw [fdF_n (p := (fun i9 => FD S (fun a9 b9 => J 14 a9 = J 14 b9) m u (J 19 (31 + i9)) t)) (i := i) (by omega) (or_r i1 (by omega)), ← hq]))
  exact loop17 _ 0 0 _ (Nat.lt_succ_self _) (by omega) ⟨hR, by omega⟩ zOf.rf rfl

set_option maxHeartbeats 4000000 in
set_option maxRecDepth 100000 in
theorem e_find {l : Launch} {G : tb_G} (hl : l.stackTraces = false) (n : Nat) (J : zJ) (t : Int) (u : Int) (hr_t : -2147483648 ≤ t ∧ t < 2147483648) (hr_u : -2147483648 ≤ u ∧ u < 2147483648) (m : Int) (S : zJ) (pn : Int) (RR : Int → Int → Int) (hI : CI J m) (h9 : J 145 10 < 1000000000) (cc : CAL J S pn RR) (h21 : S 164 21 = 0) : tz_Ok l G M_X11_find 10 1 6 [.ref 0, zi t, zi u] n J (zqi (fun z J' => CQ J' J ∧ CAL J' S pn RR ∧ ((0 ≤ t ∧ t < J 6 12) ∧ 0 ≤ u ∧ u ≤ 3) ∧ z = fdF (fun i9 => FD S (fun a9 b9 => J 14 a9 = J 14 b9) (J 6 12) u (J 19 (31 + i9)) t) (J 19 5).toNat)) (fun E J' => E = "java/util/NoSuchElementException" ∧ J = J' ∧ ¬ ((0 ≤ t ∧ t < J 6 12) ∧ 0 ≤ u ∧ u ≤ 3)) := by
  refine tz_Ok.of hl (by decide +kernel) rfl (tb_c1 rfl) (Nat.le_of_ble_eq_true rfl) ?_
  show tz_At l G M_X11_find (tb_rm 10 1 6) none (tb_ZM G 1 6 (zQ n 1 (zqi (fun z J' => CQ J' J ∧ CAL J' S pn RR ∧ ((0 ≤ t ∧ t < J 6 12) ∧ 0 ≤ u ∧ u ≤ 3) ∧ z = fdF (fun i9 => FD S (fun a9 b9 => J 14 a9 = J 14 b9) (J 6 12) u (J 19 (31 + i9)) t) (J 19 5).toNat))) (zX n 1 (fun E J' => E = "java/util/NoSuchElementException" ∧ J = J' ∧ ¬ ((0 ≤ t ∧ t < J 6 12) ∧ 0 ≤ u ∧ u ≤ 3)))) 0 0 n J 0 [some (.ref 0), some (zi t), some (zi u)] []
  have hC := hI.1.1.1
  have hm := hI.1.1.2.1
  have hL := hI.1.1.2.2
  have hb := hC.told
  refine tz_aload_n (pc := 0) dX11_find_0 rfl rfl ?_
  refine tz_iload_n (pc := 1) dX11_find_1 rfl rfl ?_
  by_cases hh_2 : 0 ≤ t ∧ t < J 6 12
  · refine tz_cV (pc := 2) (c_need1 hl n _ _ (by omega) hh_2) vl_X11_216 dX11_find_2 o_0 rfl rfl (Nat.le_of_ble_eq_true rfl) ⟨(Nat.le_of_ble_eq_true rfl), (Nat.le_of_ble_eq_true rfl)⟩ rfl rfl (Nat.le_of_ble_eq_true rfl) (Nat.le_of_ble_eq_true rfl) (fun r9 J9 hq9 => ?_)
    obtain ⟨rfl, rfl⟩ := hq9
    refine tz_iload_n (pc := 5) dX11_find_5 rfl rfl ?_
    refine tz_if_lt (pc := 6) (tgt := 14) dX11_find_6 (by decide) (by omega) (fun h_6 => ?_) (fun h_6 => ?_)
    · exact tz_throwNW (pc := 14) (text := "no such question of the index") th_X11_188_192 (by decide +kernel) rfl dX11_find_14 dX11_find_17 dX11_find_18 dX11_find_21 dX11_find_24 (Nat.le_of_ble_eq_true rfl) (Nat.le_of_ble_eq_true rfl) (Nat.le_of_ble_eq_true rfl) (Nat.le_of_ble_eq_true rfl) (Nat.le_of_ble_eq_true rfl) (Nat.le_of_ble_eq_true rfl) ⟨Nat.le_refl _, Nat.le_add_right _ _⟩ ⟨rfl, rfl, by omega⟩
    · refine tz_iload_n (pc := 9) dX11_find_9 rfl rfl ?_
      refine tz_iconst (pc := 10) dX11_find_10 ?_
      refine tz_icmp_le (pc := 11) (tgt := 25) dX11_find_11 (by decide) (by omega) (by decide) (fun h_11 => ?_) (fun h_11 => ?_)
      · refine tz_aload_n (pc := 25) dX11_find_25 rfl rfl ?_
        refine tz_fR (pc := 26) dX11_find_26 fl_X11_81 r_0_9 ?_
        refine tz_iload_n (pc := 29) dX11_find_29 rfl rfl ?_
        refine tz_iload_n (pc := 30) dX11_find_30 rfl rfl ?_
        refine tz_cV (pc := 31) (e_found hl n _ _ _ (by omega) (by omega) m S hC hm cc.1 hL (by omega) (by omega) hI.1.2.1 (by omega)) vl_X11_270 dX11_find_31 o_155 rfl rfl (Nat.le_of_ble_eq_true rfl) ⟨(Nat.le_of_ble_eq_true rfl), (Nat.le_of_ble_eq_true rfl)⟩ rfl rfl (Nat.le_of_ble_eq_true rfl) (Nat.le_of_ble_eq_true rfl) (fun r9 J_31 hq9 => ?_)
        obtain ⟨z_31, rfl, hz_31, e1, u1, u2, u3⟩ := hq9
        rw [← hm] at e1
        exact tz_iret (pc := 34) (z := z_31) dX11_find_34 rfl (Nat.le_of_ble_eq_true rfl) (Nat.le_of_ble_eq_true rfl) ⟨Nat.le_refl _, Nat.le_add_right _ _⟩ ⟨_, rfl, (by omega), (by have hw := hI.uni u3 rfl u1; exact ⟨⟨⟨m, hw.1⟩, by omega, hw.2.1, hw.2.2⟩, cc.wk7 hI u3 rfl, by omega, e1⟩)⟩
      · exact tz_throwNW (pc := 14) (text := "no such question of the index") th_X11_188_192 (by decide +kernel) rfl dX11_find_14 dX11_find_17 dX11_find_18 dX11_find_21 dX11_find_24 (Nat.le_of_ble_eq_true rfl) (Nat.le_of_ble_eq_true rfl) (Nat.le_of_ble_eq_true rfl) (Nat.le_of_ble_eq_true rfl) (Nat.le_of_ble_eq_true rfl) (Nat.le_of_ble_eq_true rfl) ⟨Nat.le_refl _, Nat.le_add_right _ _⟩ ⟨rfl, rfl, by omega⟩
  · refine tz_cVX (pc := 2) (c_need0 hl n _ _ (by omega) hh_2) vl_X11_216 dX11_find_2 o_0 rfl rfl (Nat.le_of_ble_eq_true rfl) ⟨(Nat.le_of_ble_eq_true rfl), (Nat.le_of_ble_eq_true rfl)⟩ rfl rfl (Nat.le_of_ble_eq_true rfl) (Nat.le_of_ble_eq_true rfl) (fun r9 n9 J9 hn1 hn2 hq9 => hq9.elim) (fun E9 n9 J9 hn1 hn2 hx9 => ?_)
    obtain ⟨rfl, rfl⟩ := hx9
    exact tz_out rfl (Nat.le_of_ble_eq_true rfl) (Nat.le_of_ble_eq_true rfl) ⟨by omega, by omega⟩ ⟨rfl, rfl, by omega⟩

set_option maxHeartbeats 4000000 in
set_option maxRecDepth 100000 in
theorem m_right4 {l : Launch} {G : tb_G} (hl : l.stackTraces = false) (n : Nat) (J : zJ) (x : Int) (y : Int) (hr_x : -2147483648 ≤ x ∧ x < 2147483648) (hr_y : -2147483648 ≤ y ∧ y < 2147483648)  (hy : ¬ y = 0) : tz_Ok l G M_X12_right 0 0 0 [.ref 164, zi x, zi y] n J (zqi (fun z J' => (zOf (zbut [164]) J' J ∧ ∀ k, ¬ k = 8 → J' 164 k = J 164 k) ∧ (z = 0 ∨ z = 1) ∧ (z = 1 → J = J' ∧ J 164 8 = 0 ∧ (¬ x = 0 ∨ y = 0)) ∧ (J 164 8 = 0 → (z = 0 → J' 164 8 = y ∧ x = 0) ∧ (z = 1 → J' 164 8 = 0 ∧ ¬ x = 0)))) zN := by
  refine tz_Ok.of hl (by decide +kernel) rfl (tb_c1 rfl) (Nat.le_of_ble_eq_true rfl) ?_
  show tz_At l G M_X12_right (tb_rm 0 0 0) none (tb_ZM G 0 0 (zQ n 0 (zqi (fun z J' => (zOf (zbut [164]) J' J ∧ ∀ k, ¬ k = 8 → J' 164 k = J 164 k) ∧ (z = 0 ∨ z = 1) ∧ (z = 1 → J = J' ∧ J 164 8 = 0 ∧ (¬ x = 0 ∨ y = 0)) ∧ (J 164 8 = 0 → (z = 0 → J' 164 8 = y ∧ x = 0) ∧ (z = 1 → J' 164 8 = 0 ∧ ¬ x = 0))))) (zX n 0 zN)) 0 0 n J 0 [some (.ref 164), some (zi x), some (zi y)] []
  refine tz_aload_n (pc := 0) dX12_right_0 rfl rfl ?_
  refine tz_fI (pc := 1) (kz := 8) (v := (J 164 8)) dX12_right_1 fl_X12_68 i_164_8 rfl rfl (fun r_1 => ?_)
  refine tz_if_ne (pc := 4) (tgt := 16) dX12_right_4 (by decide) (by omega) (fun h_4 => ?_) (fun h_4 => ?_)
  · refine tz_aload_n (pc := 16) dX12_right_16 rfl rfl ?_
    refine tz_fI (pc := 17) (kz := 8) (v := (J 164 8)) dX12_right_17 fl_X12_68 i_164_8 rfl rfl (fun r_17 => ?_)
    refine tz_if_ne (pc := 20) (tgt := 27) dX12_right_20 (by decide) (by omega) (fun h_20 => ?_) (fun h_20 => ?_)
    · refine tz_iconst (pc := 27) dX12_right_27 ?_
      exact tz_zret (pc := 28) (z := 0) dX12_right_28 rfl (Or.inl rfl) (Nat.le_of_ble_eq_true rfl) (Nat.le_of_ble_eq_true rfl) ⟨Nat.le_refl _, Nat.le_add_right _ _⟩ ⟨_, rfl, (by decide), ⟨⟨zOf.rf, fun _ _ => rfl⟩, by omega, fun q9 => ⟨rfl, by omega, by omega⟩, fun w9 => ⟨fun q9 => by omega, fun q9 => by omega⟩⟩⟩
    · refine tz_iconst (pc := 23) dX12_right_23 ?_
      refine tz_goto (pc := 24) (tgt := 28) dX12_right_24 (by decide) ?_
      exact tz_zret (pc := 28) (z := 1) dX12_right_28 rfl (Or.inr rfl) (Nat.le_of_ble_eq_true rfl) (Nat.le_of_ble_eq_true rfl) ⟨Nat.le_refl _, Nat.le_add_right _ _⟩ ⟨_, rfl, (by decide), ⟨⟨zOf.rf, fun _ _ => rfl⟩, by omega, fun q9 => ⟨rfl, by omega, by omega⟩, fun w9 => ⟨fun q9 => absurd q9 (by omega), fun q9 => ⟨by omega, by omega⟩⟩⟩⟩
  · refine tz_iload_n (pc := 7) dX12_right_7 rfl rfl ?_
    refine tz_if_ne (pc := 8) (tgt := 16) dX12_right_8 (by decide) (by omega) (fun h_8 => ?_) (fun h_8 => ?_)
    · refine tz_aload_n (pc := 16) dX12_right_16 rfl rfl ?_
      refine tz_fI (pc := 17) (kz := 8) (v := (J 164 8)) dX12_right_17 fl_X12_68 i_164_8 rfl rfl (fun r_17 => ?_)
      refine tz_if_ne (pc := 20) (tgt := 27) dX12_right_20 (by decide) (by omega) (fun h_20 => ?_) (fun h_20 => ?_)
      · refine tz_iconst (pc := 27) dX12_right_27 ?_
        exact tz_zret (pc := 28) (z := 0) dX12_right_28 rfl (Or.inl rfl) (Nat.le_of_ble_eq_true rfl) (Nat.le_of_ble_eq_true rfl) ⟨Nat.le_refl _, Nat.le_add_right _ _⟩ ⟨_, rfl, (by decide), ⟨⟨zOf.rf, fun _ _ => rfl⟩, by omega, fun q9 => ⟨rfl, by omega, by omega⟩, fun w9 => ⟨fun q9 => by omega, fun q9 => by omega⟩⟩⟩
      · refine tz_iconst (pc := 23) dX12_right_23 ?_
        refine tz_goto (pc := 24) (tgt := 28) dX12_right_24 (by decide) ?_
        exact tz_zret (pc := 28) (z := 1) dX12_right_28 rfl (Or.inr rfl) (Nat.le_of_ble_eq_true rfl) (Nat.le_of_ble_eq_true rfl) ⟨Nat.le_refl _, Nat.le_add_right _ _⟩ ⟨_, rfl, (by decide), ⟨⟨zOf.rf, fun _ _ => rfl⟩, by omega, fun q9 => ⟨rfl, by omega, by omega⟩, fun w9 => ⟨fun q9 => absurd q9 (by omega), fun q9 => ⟨by omega, by omega⟩⟩⟩⟩
    · refine tz_aload_n (pc := 11) dX12_right_11 rfl rfl ?_
      refine tz_iload_n (pc := 12) dX12_right_12 rfl rfl ?_
      refine tz_pI (pc := 13) (kz := 8) dX12_right_13 fl_X12_68 i_164_8 rfl rfl (by omega) ?_
      refine tz_aload_n (pc := 16) dX12_right_16 rfl rfl ?_
      refine tz_fI (pc := 17) (kz := 8) (v := y) dX12_right_17 fl_X12_68 i_164_8 rfl rfl (fun r_17 => ?_)
      refine tz_if_ne (pc := 20) (tgt := 27) dX12_right_20 (by decide) (by omega) (fun h_20 => ?_) (fun h_20 => ?_)
      · refine tz_iconst (pc := 27) dX12_right_27 ?_
        exact tz_zret (pc := 28) (z := 0) dX12_right_28 rfl (Or.inl rfl) (Nat.le_of_ble_eq_true rfl) (Nat.le_of_ble_eq_true rfl) ⟨Nat.le_refl _, Nat.le_add_right _ _⟩ ⟨_, rfl, (by decide), ⟨⟨zOf.up rfl zOf.rf, fun k hk => zup_ne hk⟩, by omega, fun q9 => by omega, fun w9 => ⟨fun q9 => ⟨zup_at, by omega⟩, fun q9 => by omega⟩⟩⟩
      · refine tz_iconst (pc := 23) dX12_right_23 ?_
        refine tz_goto (pc := 24) (tgt := 28) dX12_right_24 (by decide) ?_
        exact tz_zret (pc := 28) (z := 1) dX12_right_28 rfl (Or.inr rfl) (Nat.le_of_ble_eq_true rfl) (Nat.le_of_ble_eq_true rfl) ⟨Nat.le_refl _, Nat.le_add_right _ _⟩ ⟨_, rfl, (by decide), ⟨⟨zOf.up rfl zOf.rf, fun k hk => zup_ne hk⟩, by omega, fun q9 => by omega, fun w9 => ⟨fun q9 => ⟨zup_at, by omega⟩, fun q9 => by omega⟩⟩⟩

set_option maxHeartbeats 4000000 in
set_option maxRecDepth 100000 in
theorem m_isTermNow4 {l : Launch} {G : tb_G} (hl : l.stackTraces = false) (n : Nat) (J : zJ) (t : Int) (hr_t : -2147483648 ≤ t ∧ t < 2147483648)  (h0 : 0 ≤ J 165 0) : tz_Ok l G M_X12_isTermNow 2 0 0 [.ref 164, zi t] n J (zqi (fun z J' => (zOf (zbut [164]) J' J ∧ ∀ k, ¬ k = 8 → J' 164 k = J 164 k) ∧ (z = 0 ∨ z = 1) ∧ (z = 1 → 0 ≤ t ∧ t < J 165 0) ∧ (J 164 8 = 0 → (z = 0 → J' 164 8 = 1 ∧ ¬ (0 ≤ t ∧ t < J 165 0)) ∧ (z = 1 → J' 164 8 = 0 ∧ 0 ≤ t ∧ t < J 165 0)))) zN := by
  refine tz_Ok.of hl (by decide +kernel) rfl (tb_c1 rfl) (Nat.le_of_ble_eq_true rfl) ?_
  show tz_At l G M_X12_isTermNow (tb_rm 2 0 0) none (tb_ZM G 0 0 (zQ n 0 (zqi (fun z J' => (zOf (zbut [164]) J' J ∧ ∀ k, ¬ k = 8 → J' 164 k = J 164 k) ∧ (z = 0 ∨ z = 1) ∧ (z = 1 → 0 ≤ t ∧ t < J 165 0) ∧ (J 164 8 = 0 → (z = 0 → J' 164 8 = 1 ∧ ¬ (0 ≤ t ∧ t < J 165 0)) ∧ (z = 1 → J' 164 8 = 0 ∧ 0 ≤ t ∧ t < J 165 0))))) (zX n 0 zN)) 0 0 n J 0 [some (.ref 164), some (zi t)] []
  refine tz_aload_n (pc := 0) dX12_isTermNow_0 rfl rfl ?_
  refine tz_aload_n (pc := 1) dX12_isTermNow_1 rfl rfl ?_
  refine tz_iload_n (pc := 2) dX12_isTermNow_2 rfl rfl ?_
  refine tz_cV (pc := 3) (m_isTerm hl n _ _ (by omega) h0) vl_X12_376 dX12_isTermNow_3 o_164 rfl rfl (Nat.le_of_ble_eq_true rfl) ⟨(Nat.le_of_ble_eq_true rfl), (Nat.le_of_ble_eq_true rfl)⟩ rfl rfl (Nat.le_of_ble_eq_true rfl) (Nat.le_of_ble_eq_true rfl) (fun r9 J_3 hq9 => ?_)
  obtain ⟨z_3, rfl, hz_3, rfl, ht9⟩ := hq9
  refine tz_iconst (pc := 6) dX12_isTermNow_6 ?_
  refine tz_cV (pc := 7) (m_right4 hl n _ _ _ (by omega) (by decide) (by decide)) vl_X12_334 dX12_isTermNow_7 o_164 rfl rfl (Nat.le_of_ble_eq_true rfl) ⟨(Nat.le_of_ble_eq_true rfl), (Nat.le_of_ble_eq_true rfl)⟩ rfl rfl (Nat.le_of_ble_eq_true rfl) (Nat.le_of_ble_eq_true rfl) (fun r9 J_7 hq9 => ?_)
  obtain ⟨z_7, rfl, hz_7, f9, b9, c9, w9⟩ := hq9
  exact tz_zret (pc := 10) (z := z_7) dX12_isTermNow_10 rfl (by omega) (Nat.le_of_ble_eq_true rfl) (Nat.le_of_ble_eq_true rfl) ⟨Nat.le_refl _, Nat.le_add_right _ _⟩ ⟨_, rfl, (by omega), ⟨f9, b9, fun q9 => by have := (c9 q9).2.2; omega, fun y9 => ⟨fun q9 => ⟨((w9 y9).1 q9).1, by have := ((w9 y9).1 q9).2; omega⟩, fun q9 => ⟨((w9 y9).2 q9).1, by have := ((w9 y9).2 q9).2; omega⟩⟩⟩⟩

set_option maxHeartbeats 4000000 in
set_option maxRecDepth 100000 in
theorem e_qshapeR {l : Launch} {G : tb_G} (hl : l.stackTraces = false) (n : Nat) : ∀ (r9 : Nat) (J : zJ) (u : Int) (t : Int) (hr_u : -2147483648 ≤ u ∧ u < 2147483648) (hr_t : -2147483648 ≤ t ∧ t < 2147483648) (b r d s m : Int) (hM : MS J b r d s m) (hs : 0 ≤ u ∧ u < m) (ht : 0 ≤ t ∧ t < m), ((J 168 (b + u)).toNat) < r9 → tz_Ok l G M_X12_isShape (3 + 1 * r9) 0 0 [.ref 164, zi u, zi t] n J (zqi (fun z J' => J = J' ∧ ∀ k9 : Nat, J 168 (b + u) ≤ k9 → ((z = 1 ∧ shP (fun q => J 166 (b + q)) (mar J b d) (mag J b) k9 u t) ∨ (z = 0 ∧ ¬ shP (fun q => J 166 (b + q)) (mar J b d) (mag J b) k9 u t)))) zN := by
  intro r9
  induction r9 with
  | zero => intro J u t hr_u hr_t b r d s m hM hs ht hm9; exact absurd hm9 (Nat.not_lt_zero _)
  | succ r9 ih =>
    intro J u t hr_u hr_t b r d s m hM hs ht hm9
    refine tz_Ok.of hl (by decide +kernel) rfl (tb_c1 rfl) (Nat.le_of_ble_eq_true rfl) ?_
    show tz_At l G M_X12_isShape (tb_rm (3 + 1 * (r9 + 1)) 0 0) none (tb_ZM G 0 0 (zQ n 0 (zqi (fun z J' => J = J' ∧ ∀ k9 : Nat, J 168 (b + u) ≤ k9 → ((z = 1 ∧ shP (fun q => J 166 (b + q)) (mar J b d) (mag J b) k9 u t) ∨ (z = 0 ∧ ¬ shP (fun q => J 166 (b + q)) (mar J b d) (mag J b) k9 u t))))) (zX n 0 zN)) 0 0 n J 0 [some (.ref 164), some (zi u), some (zi t), none] []
    obtain ⟨hM1, hM2, hM3, hM4, hM5, hM6⟩ := id hM
    have hT := hM.told
    have ha := hM.ar hs
    have hb := hM.ar ht
    refine tz_aload_n (pc := 0) dX12_isShape_0 rfl rfl ?_
    refine tz_iload_n (pc := 1) dX12_isShape_1 rfl rfl ?_
    refine tz_cV (pc := 2) (m_isVar hl n _ _ (by omega) b r d s m hM (by omega)) vl_X12_78 dX12_isShape_2 o_164 rfl rfl (Nat.le_of_ble_eq_true rfl) ⟨(show 1 + 1 ≤ 3 + 1 * (r9 + 1) by omega), (show 8 + (2 + 11) + 40 * (1) ≤ 40 * (3 + 1 * (r9 + 1)) by omega)⟩ rfl rfl (Nat.le_of_ble_eq_true rfl) (Nat.le_of_ble_eq_true rfl) (fun r9 J_2 hq9 => ?_)
    obtain ⟨z_2, rfl, hz_2, rfl, rfl⟩ := hq9
    by_cases hw_5 : J 166 (b + u) < 0
    · rw [show (if J 166 (b + u) < 0 then 1 else 0 : Int) = 1 from if_pos hw_5]
      refine tz_if_neT (pc := 5) (tgt := 16) (by decide) dX12_isShape_5 (by decide) (by decide) ?_
      refine tz_aload_n (pc := 16) dX12_isShape_16 rfl rfl ?_
      refine tz_iload_n (pc := 17) dX12_isShape_17 rfl rfl ?_
      refine tz_cV (pc := 18) (m_isVar hl n _ _ (by omega) b r d s m hM (by omega)) vl_X12_78 dX12_isShape_18 o_164 rfl rfl (Nat.le_of_ble_eq_true rfl) ⟨(show 1 + 1 ≤ 3 + 1 * (r9 + 1) by omega), (show 8 + (2 + 11) + 40 * (1) ≤ 40 * (3 + 1 * (r9 + 1)) by omega)⟩ rfl rfl (Nat.le_of_ble_eq_true rfl) (Nat.le_of_ble_eq_true rfl) (fun r9 J_18 hq9 => ?_)
      obtain ⟨z_18, rfl, hz_18, rfl, rfl⟩ := hq9
      by_cases hw_21 : J 166 (b + u) < 0
      · rw [show (if J 166 (b + u) < 0 then 1 else 0 : Int) = 1 from if_pos hw_21]
        refine tz_if_eqF (pc := 21) (tgt := 36) (by decide) dX12_isShape_21 (by decide) (by decide) ?_
        refine tz_aload_n (pc := 24) dX12_isShape_24 rfl rfl ?_
        refine tz_iload_n (pc := 25) dX12_isShape_25 rfl rfl ?_
        refine tz_cV (pc := 26) (m_isVar hl n _ _ (by omega) b r d s m hM (by omega)) vl_X12_78 dX12_isShape_26 o_164 rfl rfl (Nat.le_of_ble_eq_true rfl) ⟨(show 1 + 1 ≤ 3 + 1 * (r9 + 1) by omega), (show 8 + (2 + 11) + 40 * (1) ≤ 40 * (3 + 1 * (r9 + 1)) by omega)⟩ rfl rfl (Nat.le_of_ble_eq_true rfl) (Nat.le_of_ble_eq_true rfl) (fun r9 J_26 hq9 => ?_)
        obtain ⟨z_26, rfl, hz_26, rfl, rfl⟩ := hq9
        by_cases hw_29 : J 166 (b + t) < 0
        · rw [show (if J 166 (b + t) < 0 then 1 else 0 : Int) = 1 from if_pos hw_29]
          refine tz_if_eqF (pc := 29) (tgt := 36) (by decide) dX12_isShape_29 (by decide) (by decide) ?_
          refine tz_iconst (pc := 32) dX12_isShape_32 ?_
          refine tz_goto (pc := 33) (tgt := 37) dX12_isShape_33 (by decide) ?_
          exact tz_zret (pc := 37) (z := 1) dX12_isShape_37 rfl (Or.inr rfl) (Nat.le_of_ble_eq_true rfl) (Nat.le_of_ble_eq_true rfl) ⟨Nat.le_refl _, Nat.le_add_right _ _⟩ ⟨_, rfl, (by decide), ⟨rfl, fun k9 h9 => by obtain ⟨k8, rfl⟩ : ∃ k8, k9 = k8 + 1 := ⟨k9 - 1, by have := ha.2.2.1; omega⟩; first | exact Or.inl ⟨rfl, shP_s.2 (Or.inl ⟨by show J 166 (b + u) < 0; omega, by show J 166 (b + t) < 0; omega⟩)⟩ | exact Or.inr ⟨rfl, fun w9 => by rcases shP_s.1 w9 with ⟨a8, b8⟩ | ⟨a8, b8, _⟩; exact absurd (show J 166 (b + u) < 0 from a8) (by have : J 166 (b + t) < 0 := b8; omega); exact absurd (show 0 ≤ J 166 (b + u) from a8) (by have : J 166 (b + u) = J 166 (b + t) := b8; omega)⟩ | exact Or.inr ⟨rfl, fun w9 => by rcases shP_s.1 w9 with ⟨a8, b8⟩ | ⟨a8, b8, c8⟩; exact absurd (show J 166 (b + u) < 0 from a8) (by omega); exact or_r (hz1 k8 (by have := hg.2; omega)) (by omega) (c8 i (by omega) (by omega))⟩ | exact Or.inl ⟨rfl, shP_s.2 (Or.inr ⟨by show 0 ≤ J 166 (b + u); omega, by show J 166 (b + u) = J 166 (b + t); omega, fun j x y => hn k8 h9 j x (by omega)⟩)⟩⟩⟩
        · rw [show (if J 166 (b + t) < 0 then 1 else 0 : Int) = 0 from if_neg hw_29]
          refine tz_if_eqT (pc := 29) (tgt := 36) (by decide) dX12_isShape_29 (by decide) (by decide) ?_
          refine tz_iconst (pc := 36) dX12_isShape_36 ?_
          exact tz_zret (pc := 37) (z := 0) dX12_isShape_37 rfl (Or.inl rfl) (Nat.le_of_ble_eq_true rfl) (Nat.le_of_ble_eq_true rfl) ⟨Nat.le_refl _, Nat.le_add_right _ _⟩ ⟨_, rfl, (by decide), ⟨rfl, fun k9 h9 => by obtain ⟨k8, rfl⟩ : ∃ k8, k9 = k8 + 1 := ⟨k9 - 1, by have := ha.2.2.1; omega⟩; first | exact Or.inl ⟨rfl, shP_s.2 (Or.inl ⟨by show J 166 (b + u) < 0; omega, by show J 166 (b + t) < 0; omega⟩)⟩ | exact Or.inr ⟨rfl, fun w9 => by rcases shP_s.1 w9 with ⟨a8, b8⟩ | ⟨a8, b8, _⟩; exact absurd (show J 166 (b + u) < 0 from a8) (by have : J 166 (b + t) < 0 := b8; omega); exact absurd (show 0 ≤ J 166 (b + u) from a8) (by have : J 166 (b + u) = J 166 (b + t) := b8; omega)⟩ | exact Or.inr ⟨rfl, fun w9 => by rcases shP_s.1 w9 with ⟨a8, b8⟩ | ⟨a8, b8, c8⟩; exact absurd (show J 166 (b + u) < 0 from a8) (by omega); exact or_r (hz1 k8 (by have := hg.2; omega)) (by omega) (c8 i (by omega) (by omega))⟩ | exact Or.inl ⟨rfl, shP_s.2 (Or.inr ⟨by show 0 ≤ J 166 (b + u); omega, by show J 166 (b + u) = J 166 (b + t); omega, fun j x y => hn k8 h9 j x (by omega)⟩)⟩⟩⟩
      · rw [show (if J 166 (b + u) < 0 then 1 else 0 : Int) = 0 from if_neg hw_21]
        refine tz_if_eqT (pc := 21) (tgt := 36) (by decide) dX12_isShape_21 (by decide) (by decide) ?_
        refine tz_iconst (pc := 36) dX12_isShape_36 ?_
        exact tz_zret (pc := 37) (z := 0) dX12_isShape_37 rfl (Or.inl rfl) (Nat.le_of_ble_eq_true rfl) (Nat.le_of_ble_eq_true rfl) ⟨Nat.le_refl _, Nat.le_add_right _ _⟩ ⟨_, rfl, (by decide), ⟨rfl, fun k9 h9 => by obtain ⟨k8, rfl⟩ : ∃ k8, k9 = k8 + 1 := ⟨k9 - 1, by have := ha.2.2.1; omega⟩; first | exact Or.inl ⟨rfl, shP_s.2 (Or.inl ⟨by show J 166 (b + u) < 0; omega, by show J 166 (b + t) < 0; omega⟩)⟩ | exact Or.inr ⟨rfl, fun w9 => by rcases shP_s.1 w9 with ⟨a8, b8⟩ | ⟨a8, b8, _⟩; exact absurd (show J 166 (b + u) < 0 from a8) (by have : J 166 (b + t) < 0 := b8; omega); exact absurd (show 0 ≤ J 166 (b + u) from a8) (by have : J 166 (b + u) = J 166 (b + t) := b8; omega)⟩ | exact Or.inr ⟨rfl, fun w9 => by rcases shP_s.1 w9 with ⟨a8, b8⟩ | ⟨a8, b8, c8⟩; exact absurd (show J 166 (b + u) < 0 from a8) (by omega); exact or_r (hz1 k8 (by have := hg.2; omega)) (by omega) (c8 i (by omega) (by omega))⟩ | exact Or.inl ⟨rfl, shP_s.2 (Or.inr ⟨by show 0 ≤ J 166 (b + u); omega, by show J 166 (b + u) = J 166 (b + t); omega, fun j x y => hn k8 h9 j x (by omega)⟩)⟩⟩⟩
    · rw [show (if J 166 (b + u) < 0 then 1 else 0 : Int) = 0 from if_neg hw_5]
      refine tz_if_neF (pc := 5) (tgt := 16) (by decide) dX12_isShape_5 (by decide) (by decide) ?_
      refine tz_aload_n (pc := 8) dX12_isShape_8 rfl rfl ?_
      refine tz_iload_n (pc := 9) dX12_isShape_9 rfl rfl ?_
      refine tz_cV (pc := 10) (m_isVar hl n _ _ (by omega) b r d s m hM (by omega)) vl_X12_78 dX12_isShape_10 o_164 rfl rfl (Nat.le_of_ble_eq_true rfl) ⟨(show 1 + 1 ≤ 3 + 1 * (r9 + 1) by omega), (show 8 + (2 + 11) + 40 * (1) ≤ 40 * (3 + 1 * (r9 + 1)) by omega)⟩ rfl rfl (Nat.le_of_ble_eq_true rfl) (Nat.le_of_ble_eq_true rfl) (fun r9 J_10 hq9 => ?_)
      obtain ⟨z_10, rfl, hz_10, rfl, rfl⟩ := hq9
      by_cases hw_13 : J 166 (b + t) < 0
      · rw [show (if J 166 (b + t) < 0 then 1 else 0 : Int) = 1 from if_pos hw_13]
        refine tz_if_eqF (pc := 13) (tgt := 38) (by decide) dX12_isShape_13 (by decide) (by decide) ?_
        refine tz_aload_n (pc := 16) dX12_isShape_16 rfl rfl ?_
        refine tz_iload_n (pc := 17) dX12_isShape_17 rfl rfl ?_
        refine tz_cV (pc := 18) (m_isVar hl n _ _ (by omega) b r d s m hM (by omega)) vl_X12_78 dX12_isShape_18 o_164 rfl rfl (Nat.le_of_ble_eq_true rfl) ⟨(show 1 + 1 ≤ 3 + 1 * (r9 + 1) by omega), (show 8 + (2 + 11) + 40 * (1) ≤ 40 * (3 + 1 * (r9 + 1)) by omega)⟩ rfl rfl (Nat.le_of_ble_eq_true rfl) (Nat.le_of_ble_eq_true rfl) (fun r9 J_18 hq9 => ?_)
        obtain ⟨z_18, rfl, hz_18, rfl, rfl⟩ := hq9
        by_cases hw_21 : J 166 (b + u) < 0
        · rw [show (if J 166 (b + u) < 0 then 1 else 0 : Int) = 1 from if_pos hw_21]
          refine tz_if_eqF (pc := 21) (tgt := 36) (by decide) dX12_isShape_21 (by decide) (by decide) ?_
          refine tz_aload_n (pc := 24) dX12_isShape_24 rfl rfl ?_
          refine tz_iload_n (pc := 25) dX12_isShape_25 rfl rfl ?_
          refine tz_cV (pc := 26) (m_isVar hl n _ _ (by omega) b r d s m hM (by omega)) vl_X12_78 dX12_isShape_26 o_164 rfl rfl (Nat.le_of_ble_eq_true rfl) ⟨(show 1 + 1 ≤ 3 + 1 * (r9 + 1) by omega), (show 8 + (2 + 11) + 40 * (1) ≤ 40 * (3 + 1 * (r9 + 1)) by omega)⟩ rfl rfl (Nat.le_of_ble_eq_true rfl) (Nat.le_of_ble_eq_true rfl) (fun r9 J_26 hq9 => ?_)
          obtain ⟨z_26, rfl, hz_26, rfl, rfl⟩ := hq9
          by_cases hw_29 : J 166 (b + t) < 0
          · rw [show (if J 166 (b + t) < 0 then 1 else 0 : Int) = 1 from if_pos hw_29]
            refine tz_if_eqF (pc := 29) (tgt := 36) (by decide) dX12_isShape_29 (by decide) (by decide) ?_
            refine tz_iconst (pc := 32) dX12_isShape_32 ?_
            refine tz_goto (pc := 33) (tgt := 37) dX12_isShape_33 (by decide) ?_
            exact tz_zret (pc := 37) (z := 1) dX12_isShape_37 rfl (Or.inr rfl) (Nat.le_of_ble_eq_true rfl) (Nat.le_of_ble_eq_true rfl) ⟨Nat.le_refl _, Nat.le_add_right _ _⟩ ⟨_, rfl, (by decide), ⟨rfl, fun k9 h9 => by obtain ⟨k8, rfl⟩ : ∃ k8, k9 = k8 + 1 := ⟨k9 - 1, by have := ha.2.2.1; omega⟩; first | exact Or.inl ⟨rfl, shP_s.2 (Or.inl ⟨by show J 166 (b + u) < 0; omega, by show J 166 (b + t) < 0; omega⟩)⟩ | exact Or.inr ⟨rfl, fun w9 => by rcases shP_s.1 w9 with ⟨a8, b8⟩ | ⟨a8, b8, _⟩; exact absurd (show J 166 (b + u) < 0 from a8) (by have : J 166 (b + t) < 0 := b8; omega); exact absurd (show 0 ≤ J 166 (b + u) from a8) (by have : J 166 (b + u) = J 166 (b + t) := b8; omega)⟩ | exact Or.inr ⟨rfl, fun w9 => by rcases shP_s.1 w9 with ⟨a8, b8⟩ | ⟨a8, b8, c8⟩; exact absurd (show J 166 (b + u) < 0 from a8) (by omega); exact or_r (hz1 k8 (by have := hg.2; omega)) (by omega) (c8 i (by omega) (by omega))⟩ | exact Or.inl ⟨rfl, shP_s.2 (Or.inr ⟨by show 0 ≤ J 166 (b + u); omega, by show J 166 (b + u) = J 166 (b + t); omega, fun j x y => hn k8 h9 j x (by omega)⟩)⟩⟩⟩
          · rw [show (if J 166 (b + t) < 0 then 1 else 0 : Int) = 0 from if_neg hw_29]
            refine tz_if_eqT (pc := 29) (tgt := 36) (by decide) dX12_isShape_29 (by decide) (by decide) ?_
            refine tz_iconst (pc := 36) dX12_isShape_36 ?_
            exact tz_zret (pc := 37) (z := 0) dX12_isShape_37 rfl (Or.inl rfl) (Nat.le_of_ble_eq_true rfl) (Nat.le_of_ble_eq_true rfl) ⟨Nat.le_refl _, Nat.le_add_right _ _⟩ ⟨_, rfl, (by decide), ⟨rfl, fun k9 h9 => by obtain ⟨k8, rfl⟩ : ∃ k8, k9 = k8 + 1 := ⟨k9 - 1, by have := ha.2.2.1; omega⟩; first | exact Or.inl ⟨rfl, shP_s.2 (Or.inl ⟨by show J 166 (b + u) < 0; omega, by show J 166 (b + t) < 0; omega⟩)⟩ | exact Or.inr ⟨rfl, fun w9 => by rcases shP_s.1 w9 with ⟨a8, b8⟩ | ⟨a8, b8, _⟩; exact absurd (show J 166 (b + u) < 0 from a8) (by have : J 166 (b + t) < 0 := b8; omega); exact absurd (show 0 ≤ J 166 (b + u) from a8) (by have : J 166 (b + u) = J 166 (b + t) := b8; omega)⟩ | exact Or.inr ⟨rfl, fun w9 => by rcases shP_s.1 w9 with ⟨a8, b8⟩ | ⟨a8, b8, c8⟩; exact absurd (show J 166 (b + u) < 0 from a8) (by omega); exact or_r (hz1 k8 (by have := hg.2; omega)) (by omega) (c8 i (by omega) (by omega))⟩ | exact Or.inl ⟨rfl, shP_s.2 (Or.inr ⟨by show 0 ≤ J 166 (b + u); omega, by show J 166 (b + u) = J 166 (b + t); omega, fun j x y => hn k8 h9 j x (by omega)⟩)⟩⟩⟩
        · rw [show (if J 166 (b + u) < 0 then 1 else 0 : Int) = 0 from if_neg hw_21]
          refine tz_if_eqT (pc := 21) (tgt := 36) (by decide) dX12_isShape_21 (by decide) (by decide) ?_
          refine tz_iconst (pc := 36) dX12_isShape_36 ?_
          exact tz_zret (pc := 37) (z := 0) dX12_isShape_37 rfl (Or.inl rfl) (Nat.le_of_ble_eq_true rfl) (Nat.le_of_ble_eq_true rfl) ⟨Nat.le_refl _, Nat.le_add_right _ _⟩ ⟨_, rfl, (by decide), ⟨rfl, fun k9 h9 => by obtain ⟨k8, rfl⟩ : ∃ k8, k9 = k8 + 1 := ⟨k9 - 1, by have := ha.2.2.1; omega⟩; first | exact Or.inl ⟨rfl, shP_s.2 (Or.inl ⟨by show J 166 (b + u) < 0; omega, by show J 166 (b + t) < 0; omega⟩)⟩ | exact Or.inr ⟨rfl, fun w9 => by rcases shP_s.1 w9 with ⟨a8, b8⟩ | ⟨a8, b8, _⟩; exact absurd (show J 166 (b + u) < 0 from a8) (by have : J 166 (b + t) < 0 := b8; omega); exact absurd (show 0 ≤ J 166 (b + u) from a8) (by have : J 166 (b + u) = J 166 (b + t) := b8; omega)⟩ | exact Or.inr ⟨rfl, fun w9 => by rcases shP_s.1 w9 with ⟨a8, b8⟩ | ⟨a8, b8, c8⟩; exact absurd (show J 166 (b + u) < 0 from a8) (by omega); exact or_r (hz1 k8 (by have := hg.2; omega)) (by omega) (c8 i (by omega) (by omega))⟩ | exact Or.inl ⟨rfl, shP_s.2 (Or.inr ⟨by show 0 ≤ J 166 (b + u); omega, by show J 166 (b + u) = J 166 (b + t); omega, fun j x y => hn k8 h9 j x (by omega)⟩)⟩⟩⟩
      · rw [show (if J 166 (b + t) < 0 then 1 else 0 : Int) = 0 from if_neg hw_13]
        refine tz_if_eqT (pc := 13) (tgt := 38) (by decide) dX12_isShape_13 (by decide) (by decide) ?_
        refine tz_aload_n (pc := 38) dX12_isShape_38 rfl rfl ?_
        refine tz_iload_n (pc := 39) dX12_isShape_39 rfl rfl ?_
        refine tz_cV (pc := 40) (m_head hl n _ _ (by omega) b r d s m hM (by omega)) vl_X12_74 dX12_isShape_40 o_164 rfl rfl (Nat.le_of_ble_eq_true rfl) ⟨(show 0 + 1 ≤ 3 + 1 * (r9 + 1) by omega), (show 8 + (2 + 11) + 40 * (0) ≤ 40 * (3 + 1 * (r9 + 1)) by omega)⟩ rfl rfl (Nat.le_of_ble_eq_true rfl) (Nat.le_of_ble_eq_true rfl) (fun r9 J_40 hq9 => ?_)
        obtain ⟨z_40, rfl, hz_40, rfl, rfl⟩ := hq9
        refine tz_aload_n (pc := 43) dX12_isShape_43 rfl rfl ?_
        refine tz_iload_n (pc := 44) dX12_isShape_44 rfl rfl ?_
        refine tz_cV (pc := 45) (m_head hl n _ _ (by omega) b r d s m hM (by omega)) vl_X12_74 dX12_isShape_45 o_164 rfl rfl (Nat.le_of_ble_eq_true rfl) ⟨(show 0 + 1 ≤ 3 + 1 * (r9 + 1) by omega), (show 8 + (2 + 11) + 40 * (0) ≤ 40 * (3 + 1 * (r9 + 1)) by omega)⟩ rfl rfl (Nat.le_of_ble_eq_true rfl) (Nat.le_of_ble_eq_true rfl) (fun r9 J_45 hq9 => ?_)
        obtain ⟨z_45, rfl, hz_45, rfl, rfl⟩ := hq9
        refine tz_icmp_eq (pc := 48) (tgt := 53) dX12_isShape_48 (by decide) (by omega) (by omega) (fun h_48 => ?_) (fun h_48 => ?_)
        · refine tz_iconst (pc := 53) dX12_isShape_53 ?_
          refine tz_istore_n (pc := 54) (L2 := [_, _, _, _]) dX12_isShape_54 rfl (by decide) rfl ?_
          have loop55 : ∀ (f9 : Nat) (i : Int), ((3 - i).toNat) < f9 → (0 ≤ i ∧ i ≤ mar J b d u) → (∀ k9 : Nat, J 168 (b + u) ≤ ((k9 + 1 : Nat) : Int) → ∀ j, 0 ≤ j → j < i → shP (fun q => J 166 (b + q)) (mar J b d) (mag J b) k9 (J 167 (3 * (b + u) + j)) (J 167 (3 * (b + t) + j))) → tz_At l G M_X12_isShape (tb_rm (3 + 1 * (r9 + 1)) 0 0) none (tb_ZM G 0 0 (zQ n 0 (zqi (fun z J' => J = J' ∧ ∀ k9 : Nat, J 168 (b + u) ≤ k9 → ((z = 1 ∧ shP (fun q => J 166 (b + q)) (mar J b d) (mag J b) k9 u t) ∨ (z = 0 ∧ ¬ shP (fun q => J 166 (b + q)) (mar J b d) (mag J b) k9 u t))))) (zX n 0 zN)) 0 0 n J 55 [some (.ref 164), some (zi u), some (zi t), some (zi i)] [] := by
            intro f9
            induction f9 with
            | zero => intro i hm9; exact absurd hm9 (Nat.not_lt_zero _)
            | succ f9 ih55 =>
              intro i hm55 hi hn
              have he := MS.hd8 (J := J) (b := b) (d := d) (t := u) (u := t) (by omega)
              refine tz_iload_n (pc := 55) dX12_isShape_55 rfl rfl ?_
              refine tz_aload_n (pc := 56) dX12_isShape_56 rfl rfl ?_
              refine tz_iload_n (pc := 57) dX12_isShape_57 rfl rfl ?_
              refine tz_cV (pc := 58) (m_arity hl n _ _ (by omega) b r d s m hM (by omega)) vl_X12_111 dX12_isShape_58 o_164 rfl rfl (Nat.le_of_ble_eq_true rfl) ⟨(show 2 + 1 ≤ 3 + 1 * (r9 + 1) by omega), (show 8 + (2 + 11) + 40 * (2) ≤ 40 * (3 + 1 * (r9 + 1)) by omega)⟩ rfl rfl (Nat.le_of_ble_eq_true rfl) (Nat.le_of_ble_eq_true rfl) (fun r9 J_58 hq9 => ?_)
              obtain ⟨z_58, rfl, hz_58, rfl, rfl⟩ := hq9
              refine tz_icmp_ge (pc := 61) (tgt := 91) dX12_isShape_61 (by decide) (by omega) (by omega) (fun h_61 => ?_) (fun h_61 => ?_)
              · refine tz_iconst (pc := 91) dX12_isShape_91 ?_
                exact tz_zret (pc := 92) (z := 1) dX12_isShape_92 rfl (Or.inr rfl) (Nat.le_of_ble_eq_true rfl) (Nat.le_of_ble_eq_true rfl) ⟨Nat.le_refl _, Nat.le_add_right _ _⟩ ⟨_, rfl, (by decide), ⟨rfl, fun k9 h9 => by obtain ⟨k8, rfl⟩ : ∃ k8, k9 = k8 + 1 := ⟨k9 - 1, by have := ha.2.2.1; omega⟩; first | exact Or.inl ⟨rfl, shP_s.2 (Or.inl ⟨by show J 166 (b + u) < 0; omega, by show J 166 (b + t) < 0; omega⟩)⟩ | exact Or.inr ⟨rfl, fun w9 => by rcases shP_s.1 w9 with ⟨a8, b8⟩ | ⟨a8, b8, _⟩; exact absurd (show J 166 (b + u) < 0 from a8) (by have : J 166 (b + t) < 0 := b8; omega); exact absurd (show 0 ≤ J 166 (b + u) from a8) (by have : J 166 (b + u) = J 166 (b + t) := b8; omega)⟩ | exact Or.inr ⟨rfl, fun w9 => by rcases shP_s.1 w9 with ⟨a8, b8⟩ | ⟨a8, b8, c8⟩; exact absurd (show J 166 (b + u) < 0 from a8) (by omega); exact or_r (hz1 k8 (by have := hg.2; omega)) (by omega) (c8 i (by omega) (by omega))⟩ | exact Or.inl ⟨rfl, shP_s.2 (Or.inr ⟨by show 0 ≤ J 166 (b + u); omega, by show J 166 (b + u) = J 166 (b + t); omega, fun j x y => hn k8 h9 j x (by omega)⟩)⟩⟩⟩
              · refine tz_aload_n (pc := 64) dX12_isShape_64 rfl rfl ?_
                refine tz_aload_n (pc := 65) dX12_isShape_65 rfl rfl ?_
                refine tz_iload_n (pc := 66) dX12_isShape_66 rfl rfl ?_
                refine tz_iload_n (pc := 67) dX12_isShape_67 rfl rfl ?_
                refine tz_cV (pc := 68) (m_arg hl n _ _ _ (by omega) (by omega) b r d s m hM (by omega) (by omega)) vl_X12_88 dX12_isShape_68 o_164 rfl rfl (Nat.le_of_ble_eq_true rfl) ⟨(show 0 + 1 ≤ 3 + 1 * (r9 + 1) by omega), (show 8 + (3 + 11) + 40 * (0) ≤ 40 * (3 + 1 * (r9 + 1)) by omega)⟩ rfl rfl (Nat.le_of_ble_eq_true rfl) (Nat.le_of_ble_eq_true rfl) (fun r9 J_68 hq9 => ?_)
                obtain ⟨z_68, rfl, hz_68, rfl, rfl⟩ := hq9
                refine tz_aload_n (pc := 71) dX12_isShape_71 rfl rfl ?_
                refine tz_iload_n (pc := 72) dX12_isShape_72 rfl rfl ?_
                refine tz_iload_n (pc := 73) dX12_isShape_73 rfl rfl ?_
                refine tz_cV (pc := 74) (m_arg hl n _ _ _ (by omega) (by omega) b r d s m hM (by omega) (by omega)) vl_X12_88 dX12_isShape_74 o_164 rfl rfl (Nat.le_of_ble_eq_true rfl) ⟨(show 0 + 1 ≤ 3 + 1 * (r9 + 1) by omega), (show 8 + (3 + 11) + 40 * (0) ≤ 40 * (3 + 1 * (r9 + 1)) by omega)⟩ rfl rfl (Nat.le_of_ble_eq_true rfl) (Nat.le_of_ble_eq_true rfl) (fun r9 J_74 hq9 => ?_)
                obtain ⟨z_74, rfl, hz_74, rfl, rfl⟩ := hq9
                have hg := hM.arg (t := u) (i := i) hs (by omega)
                have hg2 := hM.arg (t := t) (i := i) ht (by omega)
                refine tz_cV (pc := 77) (ih _ _ _ (by omega) (by omega) b r d s m hM (by omega) (by omega) (by omega)) vl_X12_136 dX12_isShape_77 o_164 rfl rfl (Nat.le_of_ble_eq_true rfl) ⟨(show (3 + 1 * r9) + 1 ≤ 3 + 1 * (r9 + 1) by omega), (show 8 + (4 + 11) + 40 * ((3 + 1 * r9)) ≤ 40 * (3 + 1 * (r9 + 1)) by omega)⟩ rfl rfl (Nat.le_of_ble_eq_true rfl) (Nat.le_of_ble_eq_true rfl) (fun r9 J_77 hq9 => ?_)
                obtain ⟨z_77, rfl, hz_77, rfl, hz1⟩ := hq9
                have hz0 := (hz1 6 (by have := (hM.ar (t := J 167 (3 * (b + u) + i)) (by omega)).2.2.1; omega)).elim (fun w9 => Or.inr w9.1) (fun w9 => (Or.inl w9.1 : z_77 = 0 ∨ z_77 = 1))
                refine tz_if_ne (pc := 80) (tgt := 85) dX12_isShape_80 (by decide) (by omega) (fun h_80 => ?_) (fun h_80 => ?_)
                · refine tz_iinc (pc := 85) (z := i + 1) (L2 := [_, _, _, _]) dX12_isShape_85 rfl (by omega) rfl ?_
                  refine tz_goto (pc := 88) (tgt := 55) dX12_isShape_88 (by decide) ?_
                  exact ih55 (i + 1) (by omega) (by omega) (fun k9 h9 j a b9 => (Decidable.em (j = i)).elim (fun e => by rw [e]; exact or_l (hz1 k9 (by have := hg.2; omega)) (by omega)) (fun e => hn k9 h9 j a (by omega)))
                · refine tz_iconst (pc := 83) dX12_isShape_83 ?_
                  exact tz_zret (pc := 84) (z := 0) dX12_isShape_84 rfl (Or.inl rfl) (Nat.le_of_ble_eq_true rfl) (Nat.le_of_ble_eq_true rfl) ⟨Nat.le_refl _, Nat.le_add_right _ _⟩ ⟨_, rfl, (by decide), ⟨rfl, fun k9 h9 => by obtain ⟨k8, rfl⟩ : ∃ k8, k9 = k8 + 1 := ⟨k9 - 1, by have := ha.2.2.1; omega⟩; first | exact Or.inl ⟨rfl, shP_s.2 (Or.inl ⟨by show J 166 (b + u) < 0; omega, by show J 166 (b + t) < 0; omega⟩)⟩ | exact Or.inr ⟨rfl, fun w9 => by rcases shP_s.1 w9 with ⟨a8, b8⟩ | ⟨a8, b8, _⟩; exact absurd (show J 166 (b + u) < 0 from a8) (by have : J 166 (b + t) < 0 := b8; omega); exact absurd (show 0 ≤ J 166 (b + u) from a8) (by have : J 166 (b + u) = J 166 (b + t) := b8; omega)⟩ | exact Or.inr ⟨rfl, fun w9 => by rcases shP_s.1 w9 with ⟨a8, b8⟩ | ⟨a8, b8, c8⟩; exact absurd (show J 166 (b + u) < 0 from a8) (by omega); exact or_r (hz1 k8 (by have := hg.2; omega)) (by omega) (c8 i (by omega) (by omega))⟩ | exact Or.inl ⟨rfl, shP_s.2 (Or.inr ⟨by show 0 ≤ J 166 (b + u); omega, by show J 166 (b + u) = J 166 (b + t); omega, fun j x y => hn k8 h9 j x (by omega)⟩)⟩⟩⟩
          exact loop55 _ 0 (Nat.lt_succ_self _) (by omega) (fun _ _ j a b9 => absurd a (by omega))
        · refine tz_iconst (pc := 51) dX12_isShape_51 ?_
          exact tz_zret (pc := 52) (z := 0) dX12_isShape_52 rfl (Or.inl rfl) (Nat.le_of_ble_eq_true rfl) (Nat.le_of_ble_eq_true rfl) ⟨Nat.le_refl _, Nat.le_add_right _ _⟩ ⟨_, rfl, (by decide), ⟨rfl, fun k9 h9 => by obtain ⟨k8, rfl⟩ : ∃ k8, k9 = k8 + 1 := ⟨k9 - 1, by have := ha.2.2.1; omega⟩; first | exact Or.inl ⟨rfl, shP_s.2 (Or.inl ⟨by show J 166 (b + u) < 0; omega, by show J 166 (b + t) < 0; omega⟩)⟩ | exact Or.inr ⟨rfl, fun w9 => by rcases shP_s.1 w9 with ⟨a8, b8⟩ | ⟨a8, b8, _⟩; exact absurd (show J 166 (b + u) < 0 from a8) (by have : J 166 (b + t) < 0 := b8; omega); exact absurd (show 0 ≤ J 166 (b + u) from a8) (by have : J 166 (b + u) = J 166 (b + t) := b8; omega)⟩ | exact Or.inr ⟨rfl, fun w9 => by rcases shP_s.1 w9 with ⟨a8, b8⟩ | ⟨a8, b8, c8⟩; exact absurd (show J 166 (b + u) < 0 from a8) (by omega); exact or_r (hz1 k8 (by have := hg.2; omega)) (by omega) (c8 i (by omega) (by omega))⟩ | exact Or.inl ⟨rfl, shP_s.2 (Or.inr ⟨by show 0 ≤ J 166 (b + u); omega, by show J 166 (b + u) = J 166 (b + t); omega, fun j x y => hn k8 h9 j x (by omega)⟩)⟩⟩⟩

theorem e_qshape {l : Launch} {G : tb_G} (hl : l.stackTraces = false) (n : Nat) (J : zJ) (u t : Int) (hr_u : -2147483648 ≤ u ∧ u < 2147483648) (hr_t : -2147483648 ≤ t ∧ t < 2147483648) (b r d s m : Int) (hM : MS J b r d s m) (hs : 0 ≤ u ∧ u < m) (ht : 0 ≤ t ∧ t < m) : tz_Ok l G M_X12_isShape 10 0 0 [.ref 164, zi u, zi t] n J (zqi (fun z J' => J = J' ∧ ∀ k9 : Nat, J 168 (b + u) ≤ k9 → ((z = 1 ∧ shP (fun q => J 166 (b + q)) (mar J b d) (mag J b) k9 u t) ∨ (z = 0 ∧ ¬ shP (fun q => J 166 (b + q)) (mar J b d) (mag J b) k9 u t)))) zN := e_qshapeR hl n 7 J u t hr_u hr_t b r d s m hM hs ht (by have := (hM.ar hs).2.2.1; omega)
set_option maxHeartbeats 4000000 in
set_option maxRecDepth 100000 in
theorem e_canBe {l : Launch} {G : tb_G} (hl : l.stackTraces = false) (n : Nat) (J : zJ) (x : Int) (y : Int) (hr_x : -2147483648 ≤ x ∧ x < 2147483648) (hr_y : -2147483648 ≤ y ∧ y < 2147483648) (s m : Int) (hM : MS J 0 0 0 s m) (hx : 0 ≤ x ∧ x < m) (hy : 0 ≤ y ∧ y < m) : tz_Ok l G M_X12_canBeAlike 808 0 0 [.ref 164, zi x, zi y] n J (zqi (fun z J' => ((z = 1 ∧ UA8 J m x (y + 400)) ∨ (z = 0 ∧ ¬ UA8 J m x (y + 400))) ∧ zOf (zbut [164, 177, 178, 179, 180]) J' J ∧ ∀ k, ¬ k = 30 → J' 164 k = J 164 k)) zN := by
  refine tz_Ok.of hl (by decide +kernel) rfl (tb_c1 rfl) (Nat.le_of_ble_eq_true rfl) ?_
  show tz_At l G M_X12_canBeAlike (tb_rm 808 0 0) none (tb_ZM G 0 0 (zQ n 0 (zqi (fun z J' => ((z = 1 ∧ UA8 J m x (y + 400)) ∨ (z = 0 ∧ ¬ UA8 J m x (y + 400))) ∧ zOf (zbut [164, 177, 178, 179, 180]) J' J ∧ ∀ k, ¬ k = 30 → J' 164 k = J 164 k))) (zX n 0 zN)) 0 0 n J 0 [some (.ref 164), some (zi x), some (zi y)] []
  have hT := hM.told
  refine tz_aload_n (pc := 0) dX12_canBeAlike_0 rfl rfl ?_
  refine tz_iload_n (pc := 1) dX12_canBeAlike_1 rfl rfl ?_
  refine tz_sipush (pc := 2) dX12_canBeAlike_2 (by decide) ?_
  refine tz_iload_n (pc := 5) dX12_canBeAlike_5 rfl rfl ?_
  refine tz_iadd (pc := 6) (v := 400 + y) dX12_canBeAlike_6 rfl ?_
  refine tz_cV (pc := 7) (x_unifies hl n _ _ _ (by omega) (by omega) 0 0 0 s m 800 hM (Or.inr rfl) ⟨by omega, by omega⟩ ⟨by omega, by omega⟩) vl_X12_189 dX12_canBeAlike_7 o_164 rfl rfl (Nat.le_of_ble_eq_true rfl) ⟨(Nat.le_of_ble_eq_true rfl), (Nat.le_of_ble_eq_true rfl)⟩ rfl rfl (Nat.le_of_ble_eq_true rfl) (Nat.le_of_ble_eq_true rfl) (fun r9 J_7 hq9 => ?_)
  obtain ⟨z_7, rfl, hz_7, ⟨-, b1, g1, g2⟩, qu⟩ := hq9
  rw [show 400 + y = y + 400 from Int.add_comm _ _] at qu
  refine tz_iconst (pc := 10) dX12_canBeAlike_10 ?_
  refine tz_icmp_ne (pc := 11) (tgt := 18) dX12_canBeAlike_11 (by decide) (by omega) (by decide) (fun h_11 => ?_) (fun h_11 => ?_)
  · refine tz_iconst (pc := 18) dX12_canBeAlike_18 ?_
    exact tz_zret (pc := 19) (z := 0) dX12_canBeAlike_19 rfl (Or.inl rfl) (Nat.le_of_ble_eq_true rfl) (Nat.le_of_ble_eq_true rfl) ⟨Nat.le_refl _, Nat.le_add_right _ _⟩ ⟨_, rfl, (by decide), (by first | exact ⟨Or.inl ⟨rfl, ((upo8 qu).resolve_right (fun w => w.1 (by omega))).2⟩, g1, g2⟩ | exact ⟨Or.inr ⟨rfl, ((upo8 qu).resolve_left (fun v => by have := v.1; omega)).2⟩, g1, g2⟩)⟩
  · refine tz_iconst (pc := 14) dX12_canBeAlike_14 ?_
    refine tz_goto (pc := 15) (tgt := 19) dX12_canBeAlike_15 (by decide) ?_
    exact tz_zret (pc := 19) (z := 1) dX12_canBeAlike_19 rfl (Or.inr rfl) (Nat.le_of_ble_eq_true rfl) (Nat.le_of_ble_eq_true rfl) ⟨Nat.le_refl _, Nat.le_add_right _ _⟩ ⟨_, rfl, (by decide), (by first | exact ⟨Or.inl ⟨rfl, ((upo8 qu).resolve_right (fun w => w.1 (by omega))).2⟩, g1, g2⟩ | exact ⟨Or.inr ⟨rfl, ((upo8 qu).resolve_left (fun v => by have := v.1; omega)).2⟩, g1, g2⟩)⟩

theorem tbz_m {J' J : zJ} (f : MZ J' J) : tbz J' = tbz J := tbz_z f
set_option maxHeartbeats 4000000 in
set_option maxRecDepth 100000 in
theorem e_qisFound {l : Launch} {G : tb_G} (hl : l.stackTraces = false) (n : Nat) (J : zJ) (u : Int) (t : Int) (w : Int) (hr_u : -2147483648 ≤ u ∧ u < 2147483648) (hr_t : -2147483648 ≤ t ∧ t < 2147483648) (hr_w : -2147483648 ≤ w ∧ w < 2147483648) (s m : Int) (hM : MS J 0 0 0 s m) (hu : 0 ≤ u ∧ u < m) (ht : 0 ≤ t ∧ t < m) (hw : 0 ≤ w ∧ w ≤ 3) : tz_Ok l G M_X12_isFound 809 0 0 [.ref 164, zi u, zi t, zi w] n J (zqi (fun z J' => ((z = 1 ∧ FD (tbz J) (fun a9 b9 => shP (fun q => J 166 (0 + q)) (mar J 0 0) (mag J 0) 6 a9 b9) m w u t) ∨ (z = 0 ∧ ¬ FD (tbz J) (fun a9 b9 => shP (fun q => J 166 (0 + q)) (mar J 0 0) (mag J 0) 6 a9 b9) m w u t)) ∧ MZ J' J ∧ J' 164 8 = J 164 8)) zN := by
  refine tz_Ok.of hl (by decide +kernel) rfl (tb_c1 rfl) (Nat.le_of_ble_eq_true rfl) ?_
  show tz_At l G M_X12_isFound (tb_rm 809 0 0) none (tb_ZM G 0 0 (zQ n 0 (zqi (fun z J' => ((z = 1 ∧ FD (tbz J) (fun a9 b9 => shP (fun q => J 166 (0 + q)) (mar J 0 0) (mag J 0) 6 a9 b9) m w u t) ∨ (z = 0 ∧ ¬ FD (tbz J) (fun a9 b9 => shP (fun q => J 166 (0 + q)) (mar J 0 0) (mag J 0) 6 a9 b9) m w u t)) ∧ MZ J' J ∧ J' 164 8 = J 164 8))) (zX n 0 zN)) 0 0 n J 0 [some (.ref 164), some (zi u), some (zi t), some (zi w)] []
  refine tz_iload_n (pc := 0) dX12_isFound_0 rfl rfl ?_
  refine tz_if_ne (pc := 1) (tgt := 11) dX12_isFound_1 (by decide) (by omega) (fun h_1 => ?_) (fun h_1 => ?_)
  · refine tz_iload_n (pc := 11) dX12_isFound_11 rfl rfl ?_
    refine tz_iconst (pc := 12) dX12_isFound_12 ?_
    refine tz_icmp_ne (pc := 13) (tgt := 23) dX12_isFound_13 (by decide) (by omega) (by decide) (fun h_13 => ?_) (fun h_13 => ?_)
    · refine tz_iload_n (pc := 23) dX12_isFound_23 rfl rfl ?_
      refine tz_iconst (pc := 24) dX12_isFound_24 ?_
      refine tz_icmp_ne (pc := 25) (tgt := 37) dX12_isFound_25 (by decide) (by omega) (by decide) (fun h_25 => ?_) (fun h_25 => ?_)
      · refine tz_aload_n (pc := 37) dX12_isFound_37 rfl rfl ?_
        refine tz_iload_n (pc := 38) dX12_isFound_38 rfl rfl ?_
        refine tz_iload_n (pc := 39) dX12_isFound_39 rfl rfl ?_
        refine tz_cV (pc := 40) (e_qshape hl n _ _ _ (by omega) (by omega) 0 0 0 s m hM (by omega) (by omega)) vl_X12_136 dX12_isFound_40 o_164 rfl rfl (Nat.le_of_ble_eq_true rfl) ⟨(Nat.le_of_ble_eq_true rfl), (Nat.le_of_ble_eq_true rfl)⟩ rfl rfl (Nat.le_of_ble_eq_true rfl) (Nat.le_of_ble_eq_true rfl) (fun r9 J_40 hq9 => ?_)
        obtain ⟨z_40, rfl, hz_40, rfl, q6⟩ := hq9
        have q1 := q6 6 (by have := (hM.ar (t := u) (by omega)).2.2.1; omega)
        exact tz_zret (pc := 43) (z := z_40) dX12_isFound_43 rfl (by omega) (Nat.le_of_ble_eq_true rfl) (Nat.le_of_ble_eq_true rfl) ⟨Nat.le_refl _, Nat.le_add_right _ _⟩ ⟨_, rfl, (by omega), (by first | exact ⟨fd0 q1.1 mz9.1 (FD.u0 (by omega)), MZ.rf, congrFun (f2 164 rfl) 8⟩ | exact ⟨fd0 q1.1 mz9.1 (FD.u1 (by omega)), MZ.rf, congrFun (f2 164 rfl) 8⟩ | exact ⟨q1.imp (fun w9 => ⟨w9.1, (FD.u2 (by omega)).2 w9.2⟩) (fun w9 => ⟨w9.1, fun v9 => w9.2 ((FD.u2 (by omega)).1 v9)⟩), MZ.rf, f2.2 8 (by decide)⟩ | exact ⟨q1.imp (fun w9 => ⟨w9.1, (FD.u3 (by omega)).2 w9.2⟩) (fun w9 => ⟨w9.1, fun v9 => w9.2 ((FD.u3 (by omega)).1 v9)⟩), MZ.rf, rfl⟩)⟩
      · refine tz_aload_n (pc := 28) dX12_isFound_28 rfl rfl ?_
        refine tz_iload_n (pc := 29) dX12_isFound_29 rfl rfl ?_
        refine tz_iload_n (pc := 30) dX12_isFound_30 rfl rfl ?_
        refine tz_cV (pc := 31) (e_canBe hl n _ _ _ (by omega) (by omega) s m hM (by omega) (by omega)) vl_X12_359 dX12_isFound_31 o_164 rfl rfl (Nat.le_of_ble_eq_true rfl) ⟨(Nat.le_of_ble_eq_true rfl), (Nat.le_of_ble_eq_true rfl)⟩ rfl rfl (Nat.le_of_ble_eq_true rfl) (Nat.le_of_ble_eq_true rfl) (fun r9 J_31 hq9 => ?_)
        obtain ⟨z_31, rfl, hz_31, q1, f2⟩ := hq9
        have x_31 : MZ J_31 J := MZ.f f2 (by decide) (by decide)
        have y_31 := MZ.tr MZ.rf x_31
        rw [ua8_z hM] at q1
        refine tz_goto (pc := 34) (tgt := 43) dX12_isFound_34 (by decide) ?_
        exact tz_zret (pc := 43) (z := z_31) dX12_isFound_43 rfl (by omega) (Nat.le_of_ble_eq_true rfl) (Nat.le_of_ble_eq_true rfl) ⟨Nat.le_refl _, Nat.le_add_right _ _⟩ ⟨_, rfl, (by omega), (by first | exact ⟨fd0 q1.1 mz9.1 (FD.u0 (by omega)), y_31, congrFun (f2 164 rfl) 8⟩ | exact ⟨fd0 q1.1 mz9.1 (FD.u1 (by omega)), y_31, congrFun (f2 164 rfl) 8⟩ | exact ⟨q1.imp (fun w9 => ⟨w9.1, (FD.u2 (by omega)).2 w9.2⟩) (fun w9 => ⟨w9.1, fun v9 => w9.2 ((FD.u2 (by omega)).1 v9)⟩), y_31, f2.2 8 (by decide)⟩ | exact ⟨q1.imp (fun w9 => ⟨w9.1, (FD.u3 (by omega)).2 w9.2⟩) (fun w9 => ⟨w9.1, fun v9 => w9.2 ((FD.u3 (by omega)).1 v9)⟩), y_31, rfl⟩)⟩
    · refine tz_aload_n (pc := 16) dX12_isFound_16 rfl rfl ?_
      refine tz_iload_n (pc := 17) dX12_isFound_17 rfl rfl ?_
      refine tz_iload_n (pc := 18) dX12_isFound_18 rfl rfl ?_
      refine tz_cV (pc := 19) (x_doesMatch hl n _ _ _ (by omega) (by omega) 0 0 0 s m hM (by omega) (by omega)) vl_X12_227 dX12_isFound_19 o_164 rfl rfl (Nat.le_of_ble_eq_true rfl) ⟨(Nat.le_of_ble_eq_true rfl), (Nat.le_of_ble_eq_true rfl)⟩ rfl rfl (Nat.le_of_ble_eq_true rfl) (Nat.le_of_ble_eq_true rfl) (fun r9 J_19 hq9 => ?_)
      obtain ⟨z_19, rfl, hz_19, ⟨σ9, qs, q1⟩, f2, g2⟩ := hq9
      have x_19 : MZ J_19 J := MZ.c f2 (by decide)
      have y_19 := MZ.tr MZ.rf x_19
      have mz9 := mmt_z hM (σ := σ9) (p := t) (t := u) (by omega) (by omega) qs
      have c0_19 : z_19 = 0 ∨ z_19 = 1 := q1.1.elim (fun w9 => Or.inr w9.2) (fun w9 => Or.inl w9.2)
      exact tz_zret (pc := 22) (z := z_19) dX12_isFound_22 rfl (by omega) (Nat.le_of_ble_eq_true rfl) (Nat.le_of_ble_eq_true rfl) ⟨Nat.le_refl _, Nat.le_add_right _ _⟩ ⟨_, rfl, (by omega), (by first | exact ⟨fd0 q1.1 mz9.1 (FD.u0 (by omega)), y_19, congrFun (f2 164 rfl) 8⟩ | exact ⟨fd0 q1.1 mz9.1 (FD.u1 (by omega)), y_19, congrFun (f2 164 rfl) 8⟩ | exact ⟨q1.imp (fun w9 => ⟨w9.1, (FD.u2 (by omega)).2 w9.2⟩) (fun w9 => ⟨w9.1, fun v9 => w9.2 ((FD.u2 (by omega)).1 v9)⟩), y_19, f2.2 8 (by decide)⟩ | exact ⟨q1.imp (fun w9 => ⟨w9.1, (FD.u3 (by omega)).2 w9.2⟩) (fun w9 => ⟨w9.1, fun v9 => w9.2 ((FD.u3 (by omega)).1 v9)⟩), y_19, rfl⟩)⟩
  · refine tz_aload_n (pc := 4) dX12_isFound_4 rfl rfl ?_
    refine tz_iload_n (pc := 5) dX12_isFound_5 rfl rfl ?_
    refine tz_iload_n (pc := 6) dX12_isFound_6 rfl rfl ?_
    refine tz_cV (pc := 7) (x_doesMatch hl n _ _ _ (by omega) (by omega) 0 0 0 s m hM (by omega) (by omega)) vl_X12_227 dX12_isFound_7 o_164 rfl rfl (Nat.le_of_ble_eq_true rfl) ⟨(Nat.le_of_ble_eq_true rfl), (Nat.le_of_ble_eq_true rfl)⟩ rfl rfl (Nat.le_of_ble_eq_true rfl) (Nat.le_of_ble_eq_true rfl) (fun r9 J_7 hq9 => ?_)
    obtain ⟨z_7, rfl, hz_7, ⟨σ9, qs, q1⟩, f2, g2⟩ := hq9
    have x_7 : MZ J_7 J := MZ.c f2 (by decide)
    have y_7 := MZ.tr MZ.rf x_7
    have mz9 := mmt_z hM (σ := σ9) (p := u) (t := t) (by omega) (by omega) qs
    have c0_7 : z_7 = 0 ∨ z_7 = 1 := q1.1.elim (fun w9 => Or.inr w9.2) (fun w9 => Or.inl w9.2)
    exact tz_zret (pc := 10) (z := z_7) dX12_isFound_10 rfl (by omega) (Nat.le_of_ble_eq_true rfl) (Nat.le_of_ble_eq_true rfl) ⟨Nat.le_refl _, Nat.le_add_right _ _⟩ ⟨_, rfl, (by omega), (by first | exact ⟨fd0 q1.1 mz9.1 (FD.u0 (by omega)), y_7, congrFun (f2 164 rfl) 8⟩ | exact ⟨fd0 q1.1 mz9.1 (FD.u1 (by omega)), y_7, congrFun (f2 164 rfl) 8⟩ | exact ⟨q1.imp (fun w9 => ⟨w9.1, (FD.u2 (by omega)).2 w9.2⟩) (fun w9 => ⟨w9.1, fun v9 => w9.2 ((FD.u2 (by omega)).1 v9)⟩), y_7, f2.2 8 (by decide)⟩ | exact ⟨q1.imp (fun w9 => ⟨w9.1, (FD.u3 (by omega)).2 w9.2⟩) (fun w9 => ⟨w9.1, fun v9 => w9.2 ((FD.u3 (by omega)).1 v9)⟩), y_7, rfl⟩)⟩

theorem FD.z {J' J : zJ} {m w e t : Int} (f : MZ J' J) : FD (tbz J') (fun a9 b9 => shP (fun q => J' 166 (0 + q)) (mar J' 0 0) (mag J' 0) 6 a9 b9) m w e t = FD (tbz J) (fun a9 b9 => shP (fun q => J 166 (0 + q)) (mar J 0 0) (mag J 0) 6 a9 b9) m w e t := by
  rw [mar_z f, mag_z f, tbz_m f, f.1 166 rfl]
set_option maxHeartbeats 4000000 in
set_option maxRecDepth 100000 in
theorem e_qfind {l : Launch} {G : tb_G} (hl : l.stackTraces = false) (n : Nat) (J : zJ) (x : Int) (y : Int) (hr_x : -2147483648 ≤ x ∧ x < 2147483648) (hr_y : -2147483648 ≤ y ∧ y < 2147483648) (m : Int) (pn : Int) (RR : Int → Int → Int) (hI : MI J m) (u9 : MUr J pn RR) : tz_Ok l G M_X12_find 810 0 0 [.ref 164, zi x, zi y] n J (zqi (fun z J' => MQr J' J ∧ MFI J' J ∧ MBT J' (tbz J) ∧ MUr J' pn RR ∧ J' 183 = J 183 ∧ ((J' 164 8 = 0 ∧ ((0 ≤ x ∧ x < J 165 0) ∧ 0 ≤ y ∧ y ≤ 3) ∧ z = fdF (fun i9 => FD (tbz J) (fun a9 b9 => shP (fun q => J 166 (0 + q)) (mar J 0 0) (mag J 0) 6 a9 b9) (J 165 0) y (J 165 (27 + i9)) x) (J 165 26).toNat) ∨ (J' 164 8 = 1 ∧ ¬ ((0 ≤ x ∧ x < J 165 0) ∧ 0 ≤ y ∧ y ≤ 3))))) zN := by
  refine tz_Ok.of hl (by decide +kernel) rfl (tb_c1 rfl) (Nat.le_of_ble_eq_true rfl) ?_
  show tz_At l G M_X12_find (tb_rm 810 0 0) none (tb_ZM G 0 0 (zQ n 0 (zqi (fun z J' => MQr J' J ∧ MFI J' J ∧ MBT J' (tbz J) ∧ MUr J' pn RR ∧ J' 183 = J 183 ∧ ((J' 164 8 = 0 ∧ ((0 ≤ x ∧ x < J 165 0) ∧ 0 ≤ y ∧ y ≤ 3) ∧ z = fdF (fun i9 => FD (tbz J) (fun a9 b9 => shP (fun q => J 166 (0 + q)) (mar J 0 0) (mag J 0) 6 a9 b9) (J 165 0) y (J 165 (27 + i9)) x) (J 165 26).toNat) ∨ (J' 164 8 = 1 ∧ ¬ ((0 ≤ x ∧ x < J 165 0) ∧ 0 ≤ y ∧ y ≤ 3)))))) (zX n 0 zN)) 0 0 n J 0 [some (.ref 164), some (zi x), some (zi y), none, none] []
  have hT := hI.told
  have hW := hI.row
  have hM := hI.1
  have hL := hI.2.1
  refine tz_aload_n (pc := 0) dX12_find_0 rfl rfl ?_
  refine tz_iconst (pc := 1) dX12_find_1 ?_
  refine tz_pI (pc := 2) (kz := 8) dX12_find_2 fl_X12_68 i_164_8 rfl rfl (by decide) ?_
  refine tz_aload_n (pc := 5) dX12_find_5 rfl rfl ?_
  refine tz_iload_n (pc := 6) dX12_find_6 rfl rfl ?_
  refine tz_cV (pc := 7) (m_isTermNow4 hl n _ _ (by omega) (by rw [(show ((zup J 164 8 0) : zJ) 165 0 = (J 165 0) from rfl)]; omega)) vl_X12_379 dX12_find_7 o_164 rfl rfl (Nat.le_of_ble_eq_true rfl) ⟨(Nat.le_of_ble_eq_true rfl), (Nat.le_of_ble_eq_true rfl)⟩ rfl rfl (Nat.le_of_ble_eq_true rfl) (Nat.le_of_ble_eq_true rfl) (fun r9 J_7 hq9 => ?_)
  obtain ⟨z_7, rfl, hz_7, f_7, b_7, c_7, w_7⟩ := hq9
  have v_7 := w_7 zup_at
  have x_7 : MZ J_7 (zup J 164 8 0) := MZ.f f_7 (by decide) (by decide)
  have y_7 := MZ.tr (MZ.up (k := 8) MZ.rf (by decide)) x_7
  rw [(show ((zup J 164 8 0) : zJ) 165 0 = (J 165 0) from rfl)] at c_7
  rw [(show ((zup J 164 8 0) : zJ) 165 0 = (J 165 0) from rfl)] at v_7
  refine tz_if_eq (pc := 10) (tgt := 27) dX12_find_10 (by decide) (by omega) (fun h_10 => ?_) (fun h_10 => ?_)
  · refine tz_iconst (pc := 27) dX12_find_27 ?_
    exact tz_iret (pc := 28) (z := 0) dX12_find_28 rfl (Nat.le_of_ble_eq_true rfl) (Nat.le_of_ble_eq_true rfl) ⟨Nat.le_refl _, Nat.le_add_right _ _⟩ ⟨_, rfl, (by decide), ⟨MQr.z hI y_7, MFI.z y_7, MBT.z hI y_7, u9.z y_7, y_7.1 183 rfl, by first | exact Or.inr ⟨(v_7.1 (by omega)).1, by omega⟩⟩⟩
  · refine tz_aload_n (pc := 13) dX12_find_13 rfl rfl ?_
    refine tz_iload_n (pc := 14) dX12_find_14 rfl rfl ?_
    refine tz_iconst (pc := 15) dX12_find_15 ?_
    refine tz_iconst (pc := 16) dX12_find_16 ?_
    refine tz_cS (pc := 17) (m_within hl n _ _ _ _ (by omega) (by decide) (by decide)) sl_X12_283 dX12_find_17 rfl rfl (Nat.le_of_ble_eq_true rfl) ⟨(Nat.le_of_ble_eq_true rfl), (Nat.le_of_ble_eq_true rfl)⟩ rfl rfl (Nat.le_of_ble_eq_true rfl) (Nat.le_of_ble_eq_true rfl) (fun r9 J_17 hq9 => ?_)
    obtain ⟨z_17, rfl, hz_17, rfl, hw_17⟩ := hq9
    refine tz_iconst (pc := 20) dX12_find_20 ?_
    refine tz_cV (pc := 21) (m_right4 hl n _ _ _ (by omega) (by decide) (by decide)) vl_X12_334 dX12_find_21 o_164 rfl rfl (Nat.le_of_ble_eq_true rfl) ⟨(Nat.le_of_ble_eq_true rfl), (Nat.le_of_ble_eq_true rfl)⟩ rfl rfl (Nat.le_of_ble_eq_true rfl) (Nat.le_of_ble_eq_true rfl) (fun r9 J_21 hq9 => ?_)
    obtain ⟨z_21, rfl, hz_21, f_21, b_21, c_21, w_21⟩ := hq9
    have v_21 := w_21 ((v_7.2 (by omega)).1)
    have x_21 : MZ J_21 J_7 := MZ.f f_21 (by decide) (by decide)
    have y_21 := MZ.tr y_7 x_21
    have e_21 : z_21 = 1 → ¬ z_17 = 0 := fun q9 => (c_21 q9).2.2.resolve_right (by decide)
    refine tz_if_ne (pc := 24) (tgt := 29) dX12_find_24 (by decide) (by omega) (fun h_24 => ?_) (fun h_24 => ?_)
    · refine tz_iconst (pc := 29) dX12_find_29 ?_
      refine tz_istore_n (pc := 30) (L2 := [_, _, _, _, _]) dX12_find_30 rfl (by decide) rfl ?_
      refine tz_iconst (pc := 31) dX12_find_31 ?_
      refine tz_istore (pc := 32) (L2 := [_, _, _, _, _]) dX12_find_32 (by decide) rfl ?_
      have loop34 : ∀ (f9 : Nat) (q : Int) (k : Int) (J1 : zJ), ((12 - k).toNat) < f9 → (-2147483648 ≤ q ∧ q < 2147483648) → (0 ≤ k ∧ k ≤ J 165 26) → (MZ J1 J) → (q = fdF (fun i9 => FD (tbz J) (fun a9 b9 => shP (fun q => J 166 (0 + q)) (mar J 0 0) (mag J 0) 6 a9 b9) m y (J 165 (27 + i9)) x) k.toNat) → (J1 164 8 = 0) → tz_At l G M_X12_find (tb_rm 810 0 0) none (tb_ZM G 0 0 (zQ n 0 (zqi (fun z J' => MQr J' J ∧ MFI J' J ∧ MBT J' (tbz J) ∧ MUr J' pn RR ∧ J' 183 = J 183 ∧ ((J' 164 8 = 0 ∧ ((0 ≤ x ∧ x < J 165 0) ∧ 0 ≤ y ∧ y ≤ 3) ∧ z = fdF (fun i9 => FD (tbz J) (fun a9 b9 => shP (fun q => J 166 (0 + q)) (mar J 0 0) (mag J 0) 6 a9 b9) (J 165 0) y (J 165 (27 + i9)) x) (J 165 26).toNat) ∨ (J' 164 8 = 1 ∧ ¬ ((0 ≤ x ∧ x < J 165 0) ∧ 0 ≤ y ∧ y ≤ 3)))))) (zX n 0 zN)) 0 0 n J1 34 [some (.ref 164), some (zi x), some (zi y), some (zi q), some (zi k)] [] := by
        intro f9
        induction f9 with
        | zero => intro q k J1 hm9; exact absurd hm9 (Nat.not_lt_zero _)
        | succ f9 ih34 =>
          intro q k J1 hm34 hq hk zf hq9 h8
          refine tz_iload (pc := 34) dX12_find_34 rfl ?_
          refine tz_aload_n (pc := 36) dX12_find_36 rfl rfl ?_
          refine tz_fR (pc := 37) dX12_find_37 fl_X12_9 r_164_0 ?_
          refine tz_bipush (pc := 40) dX12_find_40 (by decide) ?_
          refine tz_aL (pc := 42) (z := 26) (v := (J 165 26)) dX12_find_42 a_165 rfl (by decide) (Eq.trans (congrFun (zf.1 165 rfl) 26) rfl) (fun r_42 => ?_)
          refine tz_icmp_ge (pc := 43) (tgt := 78) dX12_find_43 (by decide) (by omega) (by omega) (fun h_43 => ?_) (fun h_43 => ?_)
          · refine tz_iload_n (pc := 78) dX12_find_78 rfl rfl ?_
            exact tz_iret (pc := 79) (z := q) dX12_find_79 rfl (Nat.le_of_ble_eq_true rfl) (Nat.le_of_ble_eq_true rfl) ⟨Nat.le_refl _, Nat.le_add_right _ _⟩ ⟨_, rfl, (by omega), ⟨MQr.z hI zf, MFI.z zf, MBT.z hI zf, u9.z zf, zf.1 183 rfl, Or.inl ⟨h8, by omega, by rw [hq9, show k = J 165 26 from by omega, hT.2.2.1]⟩⟩⟩
          · refine tz_aload_n (pc := 46) dX12_find_46 rfl rfl ?_
            refine tz_aload_n (pc := 47) dX12_find_47 rfl rfl ?_
            refine tz_fR (pc := 48) dX12_find_48 fl_X12_9 r_164_0 ?_
            refine tz_bipush (pc := 51) dX12_find_51 (by decide) ?_
            refine tz_iload (pc := 53) dX12_find_53 rfl ?_
            refine tz_iadd (pc := 55) (v := 27 + k) dX12_find_55 rfl ?_
            refine tz_aL (pc := 56) (z := (27 + k)) (v := (J 165 (27 + k))) dX12_find_56 a_165 rfl (by omega) (Eq.trans (congrFun (zf.1 165 rfl) (27 + k)) rfl) (fun r_56 => ?_)
            refine tz_iload_n (pc := 57) dX12_find_57 rfl rfl ?_
            refine tz_iload_n (pc := 58) dX12_find_58 rfl rfl ?_
            have hE := hL.2.2.1.2 k (by omega) (by omega)
            refine tz_cV (pc := 59) (e_qisFound hl n _ _ _ _ (by omega) (by omega) (by omega) (J 164 9) m (hM.z zf) (by omega) (by omega) (by omega)) vl_X12_388 dX12_find_59 o_164 rfl rfl (Nat.le_of_ble_eq_true rfl) ⟨(Nat.le_of_ble_eq_true rfl), (Nat.le_of_ble_eq_true rfl)⟩ rfl rfl (Nat.le_of_ble_eq_true rfl) (Nat.le_of_ble_eq_true rfl) (fun r9 J_59 hq9 => ?_)
            obtain ⟨z_59, rfl, hz_59, b_59, x_59, t8_59⟩ := hq9
            rw [FD.z zf] at b_59
            have c_59 : _ ∨ _ := b_59.elim (fun w9 => Or.inr w9.1) (fun w9 => Or.inl w9.1)
            have y_59 := MZ.tr zf x_59
            refine tz_if_eq (pc := 62) (tgt := 72) dX12_find_62 (by decide) (by omega) (fun h_62 => ?_) (fun h_62 => ?_)
            · refine tz_iinc (pc := 72) (z := k + 1) (L2 := [_, _, _, _, _]) dX12_find_72 rfl (by omega) rfl ?_
              refine tz_goto (pc := 75) (tgt := 34) dX12_find_75 (by decide) ?_
              exact ih34 _ (k + 1) _ (by omega) (by omega) (by omega) y_59 (by first | exact (by rw [fdF_y (p := (fun i9 => FD (tbz J) (fun a9 b9 => shP (fun q => J 166 (0 + q)) (mar J 0 0) (mag J 0) 6 a9 b9) m y (J 165 (27 + i9)) x)) (i := k) (by omega) (or_l b_59 (by omega)), ← hq9]) | exact (by rw [fdF_n (p := (fun i9 => FD (tbz J) (fun a9 b9 => shP (fun q => J 166 (0 + q)) (mar J 0 0) (mag J 0) 6 a9 b9) m y (J 165 (27 + i9)) x)) (i := k) (by omega) (or_r b_59 (by omega)), ← hq9])) (t8_59.trans h8)
            · refine tz_iload_n (pc := 65) dX12_find_65 rfl rfl ?_
              refine tz_iconst (pc := 66) dX12_find_66 ?_
              refine tz_iload (pc := 67) dX12_find_67 rfl ?_
              refine tz_ishl (pc := 69) (v := zshl 1 k) dX12_find_69 rfl ?_
              have r_69 := zshl_rg 1 k
              refine tz_ior (pc := 70) (v := zor q (zshl 1 k)) dX12_find_70 rfl ?_
              have r_70 := zor_rg q (zshl 1 k)
              refine tz_istore_n (pc := 71) (L2 := [_, _, _, _, _]) dX12_find_71 rfl (by decide) rfl ?_
              refine tz_iinc (pc := 72) (z := k + 1) (L2 := [_, _, _, _, _]) dX12_find_72 rfl (by omega) rfl ?_
              refine tz_goto (pc := 75) (tgt := 34) dX12_find_75 (by decide) ?_
              exact ih34 _ (k + 1) _ (by omega) (by omega) (by omega) y_59 (by first | exact (by rw [fdF_y (p := (fun i9 => FD (tbz J) (fun a9 b9 => shP (fun q => J 166 (0 + q)) (mar J 0 0) (mag J 0) 6 a9 b9) m y (J 165 (27 + i9)) x)) (i := k) (by omega) (or_l b_59 (by omega)), ← hq9]) | exact (by rw [fdF_n (p := (fun i9 => FD (tbz J) (fun a9 b9 => shP (fun q => J 166 (0 + q)) (mar J 0 0) (mag J 0) 6 a9 b9) m y (J 165 (27 + i9)) x)) (i := k) (by omega) (or_r b_59 (by omega)), ← hq9])) (t8_59.trans h8)
      exact loop34 _ 0 0 _ (Nat.lt_succ_self _) (by omega) (by omega) y_21 rfl (v_21.2 (by omega)).1
    · refine tz_iconst (pc := 27) dX12_find_27 ?_
      exact tz_iret (pc := 28) (z := 0) dX12_find_28 rfl (Nat.le_of_ble_eq_true rfl) (Nat.le_of_ble_eq_true rfl) ⟨Nat.le_refl _, Nat.le_add_right _ _⟩ ⟨_, rfl, (by decide), ⟨MQr.z hI y_21, MFI.z y_21, MBT.z hI y_21, u9.z y_21, y_21.1 183 rfl, by first | exact Or.inr ⟨(v_21.1 (by omega)).1, by omega⟩⟩⟩

theorem ask_find {J J1 : zJ} {n m a b : Int} {R : Int → Int → Int} (c0 : CAL J (tbz J) n R) (hI : CI J m) (f : ∀ q, 164 ≤ q → q < 183 → J1 q = J q) : (((0 ≤ a ∧ a < J 6 12) ∧ 0 ≤ b ∧ b ≤ 3) ↔ ((0 ≤ a ∧ a < J1 165 0) ∧ 0 ≤ b ∧ b ≤ 3)) ∧ (((0 ≤ a ∧ a < J 6 12) ∧ 0 ≤ b ∧ b ≤ 3) → fdF (fun i9 => FD (tbz J) (fun a9 b9 => J 14 a9 = J 14 b9) (J 6 12) b (J 19 (31 + i9)) a) (J 19 5).toNat = fdF (fun i9 => FD (tbz J1) (fun a9 b9 => shP (fun q => J1 166 (0 + q)) (mar J1 0 0) (mag J1 0) 6 a9 b9) (J1 165 0) b (J1 165 (27 + i9)) a) (J1 165 26).toNat) := by
  obtain ⟨E13, E6, E39, E9, E26, E40, Eb, Ea, Em⟩ := al_eq c0 hI
  have C := hI.1.1.1
  have hm := hI.1.1.2.1
  obtain ⟨g1, g2, g3⟩ := mtb_hi f
  obtain ⟨m1, m2⟩ := ma_all c0.1 C hm
  rw [g1, g2, tbz_hi f, f 165 (by decide) (by decide), f 166 (by decide) (by decide)]
  refine ⟨by omega, fun q => ?_⟩
  rw [E26, E6]
  have w5 := c0.2.1.2.2.1
  have l5 := hI.1.1.2.2.1.2.2.1
  have le := hI.1.1.2.2.2.2.2.1
  have z5 : ∀ k, 0 ≤ k → k < 63 → tbz J 165 k = J 165 k := fun k a b => if_pos ⟨a, b⟩
  refine fdF_cg _ (fun i x y => ?_)
  have e : J 19 (31 + i) = J 165 (27 + i) := (w5.2 i x (by rw [z5 26 (by decide) (by decide)]; omega)).trans (z5 (27 + i) (by omega) (by omega))
  have l := le i x (by omega)
  rw [← e]
  refine FD.cg ?_
  show J 14 (J 19 (31 + i)) = J 14 a ↔ _
  rw [sh_c C 6 (J 19 (31 + i)) a l (by omega) (by have := (C.nums l.1 l.2).2.2; omega)]
  exact (shP_cg (hd := J 7) (hd' := fun q => J 166 (0 + q)) (fun x i a b c d => (C.arg a b c d).1) (fun x a b => (m1 x a b).1) (fun x a b => (m1 x a b).2.1) m2 (fun x y a b c d e => C.ar1 a b c d (Or.inl e)) 6 _ _ l (by omega)).symm
