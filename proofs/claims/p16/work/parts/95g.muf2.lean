/-! ===== rings of classes ===== -/
def WTu (V : Int → Prop) (hd ar : Int → Int) (ag : Int → Int → Int) (R : Int → Int → Prop) (rk : Int → Nat) (P : Int → Prop) : Prop := (∀ x y, V x → V y → R x y → P x → P y ∧ rk x = rk y) ∧ ∀ x, V x → P x → 0 ≤ hd x → ∀ i, 0 ≤ i → i < ar x → P (ag x i) ∧ rk (ag x i) < rk x
def NRu (V : Int → Prop) (hd ar : Int → Int) (ag : Int → Int → Int) (R : Int → Int → Prop) (s : Int) : Prop := ∃ (rk : Int → Nat) (P : Int → Prop), P s ∧ WTu V hd ar ag R rk P
theorem WTu.cg {V : Int → Prop} {hd ar : Int → Int} {ag : Int → Int → Int} {R R' : Int → Int → Prop} {rk : Int → Nat} {P : Int → Prop} (e : ∀ x y, V x → V y → (R' x y → R x y)) (h : WTu V hd ar ag R rk P) : WTu V hd ar ag R' rk P := ⟨fun x y hx hy r => h.1 x y hx hy (e x y hx hy r), h.2⟩
theorem NRu.cg {V : Int → Prop} {hd ar : Int → Int} {ag : Int → Int → Int} {R R' : Int → Int → Prop} {s : Int} (e : ∀ x y, V x → V y → (R' x y → R x y)) (h : NRu V hd ar ag R s) : NRu V hd ar ag R' s := by
  obtain ⟨rk, P, h1, h2⟩ := h
  exact ⟨rk, P, h1, h2.cg e⟩
/-- what must be alike, if s and t are -/
def LCu (V : Int → Prop) (hd ar : Int → Int) (ag : Int → Int → Int) (s t u v : Int) : Prop := ∀ f, CGm V hd ar ag f → f s = f t → f u = f v
/-- classes that are done: none has itself in itself -/
def BLK (c m b d : Int) (H : zJ) (p sh col : Int → Int) : Prop := ∃ bk : Int → Nat, ∀ g, VN c m g → p g = g → col g = 2 → ¬ sh g = -1 ∧ ∀ i, 0 ≤ i → i < arN H b d (sh g) → (col (tp p (agN H b (sh g) i)) = 2 ∧ bk (tp p (agN H b (sh g) i)) < bk g) ∨ sh (tp p (agN H b (sh g) i)) = -1
theorem BLK.gray {c m b d z : Int} {H : zJ} {p sh col col' : Int → Int} (h : BLK c m b d H p sh col) (hz : ¬ col z = 2) (e : ∀ k, col' k = if k = z then 1 else col k) : BLK c m b d H p sh col' := by
  obtain ⟨bk, h⟩ := h
  refine ⟨bk, fun g hg r q => ?_⟩
  rw [e] at q
  by_cases w : g = z
  · rw [if_pos w] at q; omega
  · rw [if_neg w] at q
    obtain ⟨a, k⟩ := h g hg r q
    refine ⟨a, fun i a c => (k i a c).imp (fun u => ⟨?_, u.2⟩) id⟩
    rw [e, if_neg (fun y => hz (by rw [← y]; exact u.1))]
    exact u.1
theorem BLK.black {c m b d z : Int} {H : zJ} {p sh col col' : Int → Int} (h : BLK c m b d H p sh col) (hz : col z = 1) (hs : ¬ sh z = -1) (h3 : arN H b d (sh z) ≤ 3) (hc : ∀ j, 0 ≤ j → j < arN H b d (sh z) → col (tp p (agN H b (sh z) j)) = 2 ∨ sh (tp p (agN H b (sh z) j)) = -1) (e : ∀ k, col' k = if k = z then 2 else col k) : BLK c m b d H p sh col' := by
  obtain ⟨bk, h⟩ := h
  have up : ∀ k, col k = 2 → ¬ k = z ∧ col' k = 2 := fun k q => by
    have n : ¬ k = z := fun y => by rw [y] at q; omega
    exact ⟨n, by rw [e, if_neg n]; exact q⟩
  refine ⟨fun g => if g = z then 1 + bk (tp p (agN H b (sh z) 0)) + bk (tp p (agN H b (sh z) 1)) + bk (tp p (agN H b (sh z) 2)) else bk g, fun g hg r q => ?_⟩
  by_cases w : g = z
  · rw [w]
    refine ⟨hs, fun i a k => (hc i a k).imp (fun u => ⟨(up _ u).2, ?_⟩) id⟩
    have n := (up _ u).1
    show (if tp p (agN H b (sh z) i) = z then _ else _) < (if z = z then _ else _)
    rw [if_neg n, if_pos rfl]
    have : i = 0 ∨ i = 1 ∨ i = 2 := by omega
    rcases this with i0 | i0 | i0 <;> (rw [i0]; omega)
  · rw [e, if_neg w] at q
    obtain ⟨a, k⟩ := h g hg r q
    refine ⟨a, fun i a k9 => (k i a k9).imp (fun u => ⟨(up _ u.1).2, ?_⟩) id⟩
    show (if tp p (agN H b (sh g) i) = z then _ else _) < (if g = z then _ else _)
    rw [if_neg (up _ u.1).1, if_neg w]
    exact u.2
/-- a witness that there is no ring -/
theorem BLK.nr {c m b d x : Int} {H : zJ} {p sh lv col : Int → Int} (h : BLK c m b d H p sh col) (U : UFp (VN c m) p) (S : SHp (VN c m) (hdN H b) p sh lv) (g : CGm (VN c m) (hdN H b) (arN H b d) (agN H b) (tp p)) (hV : ∀ x i, VN c m x → 0 ≤ hdN H b x → 0 ≤ i → i < arN H b d x → VN c m (agN H b x i)) (hx : VN c m x) (q : col (tp p x) = 2 ∨ sh (tp p x) = -1) : NRu (VN c m) (hdN H b) (arN H b d) (agN H b) (fun u v => tp p u = tp p v) x := by
  obtain ⟨bk, h⟩ := h
  refine ⟨fun u => if col (tp p u) = 2 then bk (tp p u) + 1 else 0, fun u => VN c m u ∧ (col (tp p u) = 2 ∨ sh (tp p u) = -1), ⟨hx, q⟩, fun u v _ hv e w => ⟨⟨hv, by rw [← e]; exact w.2⟩, ?_⟩, fun u hu w h0 i a k => ?_⟩
  · show (if col (tp p u) = 2 then _ else _) = (if col (tp p v) = 2 then _ else _)
    rw [e]
  · obtain ⟨r1, r2⟩ := U.root hu
    have ns : ¬ sh (tp p u) = -1 := fun y => by
      have := (((S _ r2 r1).2 y).1 u hu rfl).1
      omega
    have cb := w.2.resolve_right ns
    obtain ⟨_, k2⟩ := h _ r2 r1 cb
    obtain ⟨x1, x2, x3⟩ := (S _ r2 r1).1.resolve_left ns
    obtain ⟨g1, g2⟩ := g u _ hu x1 x3.symm h0 x2
    have ea : arN H b d u = arN H b d (sh (tp p u)) := by
      unfold arN mar
      unfold hdN at g1
      rw [g1]
    have e9 := g2 i a k
    have va := hV u i hu h0 a k
    rcases k2 i a (by rw [← ea]; exact k) with ⟨c1, c2⟩ | c1
    · rw [← e9] at c1 c2
      refine ⟨⟨va, Or.inl c1⟩, ?_⟩
      show (if col (tp p (agN H b u i)) = 2 then _ else _) < (if col (tp p u) = 2 then _ else _)
      rw [if_pos c1, if_pos cb]
      omega
    · rw [← e9] at c1
      refine ⟨⟨va, Or.inr c1⟩, ?_⟩
      have nc : ¬ col (tp p (agN H b u i)) = 2 := fun y => by
        obtain ⟨s1, s2⟩ := U.root va
        exact (h _ s2 s1 y).1 c1
      show (if col (tp p (agN H b u i)) = 2 then _ else _) < (if col (tp p u) = 2 then _ else _)
      rw [if_neg nc, if_pos cb]
      omega
/-- what turns tells -/
def TPO (c m b d : Int) (H : zJ) (p sh : Int → Int) (x : Int) (J J' : zJ) (z : Int) : Prop := (z = 0 ∨ z = 1) ∧ (z = 0 → BLK c m b d H p sh (J' 180) ∧ (∀ k, J' 180 k = 1 ↔ J 180 k = 1) ∧ (∀ k, J 180 k = 2 → J' 180 k = 2) ∧ (J' 180 (tp p x) = 2 ∨ sh (tp p x) = -1)) ∧ (z = 1 → ∀ (rk : Int → Nat) (P : Int → Prop), WTu (VN c m) (hdN H b) (arN H b d) (agN H b) (fun u v => tp p u = tp p v) rk P → P x → ¬ ∀ g, VN c m g → p g = g → J 180 g = 1 → rk x < rk g)
def TPL (c m b d : Int) (H : zJ) (p sh : Int → Int) (z : Int) (J : zJ) (k : Int) (J1 : zJ) : Prop := BLK c m b d H p sh (J1 180) ∧ (∀ q, J1 180 q = 1 ↔ (q = z ∨ J 180 q = 1)) ∧ (∀ q, J 180 q = 2 → J1 180 q = 2) ∧ ∀ j, 0 ≤ j → j < k → (J1 180 (tp p (agN H b (sh z) j)) = 2 ∨ sh (tp p (agN H b (sh z) j)) = -1)
theorem TPO.r0 {c m b d x : Int} {H J : zJ} {p sh : Int → Int} (h : BLK c m b d H p sh (J 180)) (q : J 180 (tp p x) = 2 ∨ sh (tp p x) = -1) : TPO c m b d H p sh x J J 0 := ⟨Or.inl rfl, fun _ => ⟨h, fun _ => Iff.rfl, fun _ => id, q⟩, fun q => absurd q (by decide)⟩
theorem TPO.r1 {c m b d x : Int} {H J : zJ} {p sh : Int → Int} (U : UFp (VN c m) p) (hx : VN c m x) (q : J 180 (tp p x) = 1) : TPO c m b d H p sh x J J 1 := ⟨Or.inr rfl, fun q => absurd q (by decide), fun _ rk P w px g => by
  obtain ⟨r1, r2⟩ := U.root hx
  have := (w.1 x _ hx r2 (tp_r r1).symm px).2
  have := g _ r2 r1 q
  omega⟩
theorem TPL.start {c m b d z : Int} {H J J1 : zJ} {p sh : Int → Int} (h : BLK c m b d H p sh (J 180)) (hz : ¬ J 180 z = 2) (e : ∀ k, J1 180 k = if k = z then 1 else J 180 k) : TPL c m b d H p sh z J 0 J1 := ⟨h.gray hz e, fun q => by
  rw [e]
  by_cases w : q = z
  · rw [if_pos w]; exact ⟨fun _ => Or.inl w, fun _ => rfl⟩
  · rw [if_neg w]; exact ⟨Or.inr, fun y => y.resolve_left w⟩, fun q y => by
  rw [e, if_neg (fun w => hz (by rw [← w]; exact y))]
  exact y, fun j a k => by omega⟩
theorem TPL.step {c m b d z k : Int} {H J J1 J2 : zJ} {p sh : Int → Int} (l : TPL c m b d H p sh z J k J1) (q : TPO c m b d H p sh (agN H b (sh z) k) J1 J2 0) : TPL c m b d H p sh z J (k + 1) J2 := by
  obtain ⟨q1, q2, q3, q4⟩ := q.2.1 rfl
  obtain ⟨l1, l2, l3, l4⟩ := l
  refine ⟨q1, fun y => (q2 y).trans (l2 y), fun y w => q3 y (l3 y w), fun j a w => ?_⟩
  by_cases e : j = k
  · rw [e]; exact q4
  · exact (l4 j a (by omega)).imp (q3 _) id
theorem TPO.up {c m b d x z k : Int} {H J J1 J2 : zJ} {p sh lv : Int → Int} (U : UFp (VN c m) p) (S : SHp (VN c m) (hdN H b) p sh lv) (hx : VN c m x) (ez : tp p x = z) (ns : ¬ sh z = -1) (hk : 0 ≤ k ∧ k < arN H b d (sh z)) (l : TPL c m b d H p sh z J k J1) (q : TPO c m b d H p sh (agN H b (sh z) k) J1 J2 1) : TPO c m b d H p sh x J J2 1 := ⟨Or.inr rfl, fun q => absurd q (by decide), fun _ rk P w px g => by
  obtain ⟨r1, r2⟩ := U.root hx
  rw [ez] at r1 r2
  obtain ⟨x1, x2, x3⟩ := (S _ r2 r1).1.resolve_left ns
  obtain ⟨a1, a2⟩ := w.1 x _ hx x1 (ez.trans x3.symm) px
  obtain ⟨b1, b2⟩ := w.2 _ x1 a1 x2 k hk.1 hk.2
  have a3 := (w.1 x z hx r2 (ez.trans (tp_r r1).symm) px).2
  refine q.2.2 rfl rk P w b1 (fun y hy ry cy => ?_)
  rcases (l.2.1 y).1 cy with e | e
  · rw [e]; omega
  · have := g y hy ry e; omega⟩
theorem TPO.fin {c m b d x z k : Int} {H J J1 J2 : zJ} {p sh : Int → Int} (ez : tp p x = z) (hz : ¬ J 180 z = 1) (ns : ¬ sh z = -1) (h3 : arN H b d (sh z) ≤ 3) (hk : arN H b d (sh z) ≤ k) (l : TPL c m b d H p sh z J k J1) (e : ∀ k, J2 180 k = if k = z then 2 else J1 180 k) : TPO c m b d H p sh x J J2 0 := by
  obtain ⟨l1, l2, l3, l4⟩ := l
  have z1 : J1 180 z = 1 := (l2 z).2 (Or.inl rfl)
  refine ⟨Or.inl rfl, fun _ => ⟨l1.black z1 ns h3 (fun j a w => l4 j a (by omega)) e, fun q => ?_, fun q y => ?_, Or.inl (by rw [ez, e, if_pos rfl])⟩, fun q => absurd q (by decide)⟩
  · rw [e]
    by_cases w : q = z
    · rw [if_pos w, w]
      exact ⟨fun y => by omega, fun y => absurd y hz⟩
    · rw [if_neg w, l2]
      exact ⟨fun y => y.resolve_left w, Or.inr⟩
  · rw [e]
    split
    · rfl
    · exact l3 q y
set_option maxHeartbeats 4000000 in
set_option maxRecDepth 100000 in
theorem x_turnsR {l : Launch} {G : tb_G} (hl : l.stackTraces = false) (n : Nat) : ∀ (r9 : Nat) (J : zJ) (x : Int) (hr_x : -2147483648 ≤ x ∧ x < 2147483648) (b r d s m : Int) (c : Int) (H : zJ) (p sh lv : Int → Int) (hM : MS J b r d s m) (hU : UF J c m) (hx : VN c m x) (e6 : J 166 = H 166) (e7 : J 167 = H 167) (e0 : J 170 = H 170) (ep : J 177 = p) (es : J 178 = sh) (hS : SHp (VN c m) (hdN H b) p sh lv) (hB : BLK c m b d H p sh (J 180)), (wc J) < r9 → tz_Ok l G M_X12_turns (5 + 1 * r9) 0 0 [.ref 164, zi x] n J (zqi (fun z J' => wc J' ≤ wc J ∧ zOf (zbut [180]) J' J ∧ TPO c m b d H p sh x J J' z)) zN := by
  intro r9
  induction r9 with
  | zero => intro J x hr_x b r d s m c H p sh lv hM hU hx e6 e7 e0 ep es hS hB hm9; exact absurd hm9 (Nat.not_lt_zero _)
  | succ r9 ih =>
    intro J x hr_x b r d s m c H p sh lv hM hU hx e6 e7 e0 ep es hS hB hm9
    refine tz_Ok.of hl (by decide +kernel) rfl (tb_c1 rfl) (Nat.le_of_ble_eq_true rfl) ?_
    show tz_At l G M_X12_turns (tb_rm (5 + 1 * (r9 + 1)) 0 0) none (tb_ZM G 0 0 (zQ n 0 (zqi (fun z J' => wc J' ≤ wc J ∧ zOf (zbut [180]) J' J ∧ TPO c m b d H p sh x J J' z))) (zX n 0 zN)) 0 0 n J 0 [some (.ref 164), some (zi x), none, none] []
    obtain ⟨hM1, hM2, hM3, hM4, hM5, hM6⟩ := id hM
    have hT := hM.told
    have hc9 := hU.1
    have hP : UFp (VN c m) p := by rw [← ep]; exact hU.p
    have hx1 := hx.1
    have hx2 := hx.2
    refine tz_aload_n (pc := 0) dX12_turns_0 rfl rfl ?_
    refine tz_iload_n (pc := 1) dX12_turns_1 rfl rfl ?_
    refine tz_cV (pc := 2) (x_top hl n _ _ (by omega) c m hU hx) vl_X12_164 dX12_turns_2 o_164 rfl rfl (Nat.le_of_ble_eq_true rfl) ⟨(show 0 + 1 ≤ 5 + 1 * (r9 + 1) by omega), (show 8 + (3 + 11) + 40 * (0) ≤ 40 * (5 + 1 * (r9 + 1)) by omega)⟩ rfl rfl (Nat.le_of_ble_eq_true rfl) (Nat.le_of_ble_eq_true rfl) (fun r9 J_2 hq9 => ?_)
    obtain ⟨z_2, rfl, hz_2, rfl, v_2, b_2, t_2⟩ := hq9
    have a_2 := v_2.1
    have c_2 := v_2.2
    have tt : tp p x = z_2 := by rw [← ep]; exact t_2
    have es2 : J 178 z_2 = sh z_2 := by rw [es]
    refine tz_istore_n (pc := 5) (L2 := [_, _, _, _]) dX12_turns_5 rfl (by decide) rfl ?_
    have ua := (hU.at a_2).2
    have va := c_2
    refine tz_aload_n (pc := 6) dX12_turns_6 rfl rfl ?_
    refine tz_fR (pc := 7) dX12_turns_7 fl_X12_59 r_164_28 ?_
    refine tz_iload_n (pc := 10) dX12_turns_10 rfl rfl ?_
    refine tz_aL (pc := 11) (z := z_2) (v := (J 180 z_2)) dX12_turns_11 a_180 rfl (by omega) rfl (fun r_11 => ?_)
    refine tz_iconst (pc := 12) dX12_turns_12 ?_
    refine tz_icmp_eq (pc := 13) (tgt := 26) dX12_turns_13 (by decide) (by omega) (by decide) (fun h_13 => ?_) (fun h_13 => ?_)
    · refine tz_iconst (pc := 26) dX12_turns_26 ?_
      exact tz_zret (pc := 27) (z := 0) dX12_turns_27 rfl (Or.inl rfl) (Nat.le_of_ble_eq_true rfl) (Nat.le_of_ble_eq_true rfl) ⟨Nat.le_refl _, Nat.le_add_right _ _⟩ ⟨_, rfl, (by decide), ⟨Nat.le_refl _, zOf.rf, TPO.r0 hB (by rw [tt, ← es]; omega)⟩⟩
    · refine tz_aload_n (pc := 16) dX12_turns_16 rfl rfl ?_
      refine tz_fR (pc := 17) dX12_turns_17 fl_X12_53 r_164_26 ?_
      refine tz_iload_n (pc := 20) dX12_turns_20 rfl rfl ?_
      refine tz_aL (pc := 21) (z := z_2) (v := (J 178 z_2)) dX12_turns_21 a_178 rfl (by omega) rfl (fun r_21 => ?_)
      refine tz_iconst (pc := 22) dX12_turns_22 ?_
      refine tz_icmp_ne (pc := 23) (tgt := 28) dX12_turns_23 (by decide) (by omega) (by decide) (fun h_23 => ?_) (fun h_23 => ?_)
      · refine tz_aload_n (pc := 28) dX12_turns_28 rfl rfl ?_
        refine tz_fR (pc := 29) dX12_turns_29 fl_X12_59 r_164_28 ?_
        refine tz_iload_n (pc := 32) dX12_turns_32 rfl rfl ?_
        refine tz_aL (pc := 33) (z := z_2) (v := (J 180 z_2)) dX12_turns_33 a_180 rfl (by omega) rfl (fun r_33 => ?_)
        refine tz_iconst (pc := 34) dX12_turns_34 ?_
        refine tz_icmp_ne (pc := 35) (tgt := 40) dX12_turns_35 (by decide) (by omega) (by decide) (fun h_35 => ?_) (fun h_35 => ?_)
        · refine tz_aload_n (pc := 40) dX12_turns_40 rfl rfl ?_
          refine tz_fR (pc := 41) dX12_turns_41 fl_X12_59 r_164_28 ?_
          refine tz_iload_n (pc := 44) dX12_turns_44 rfl rfl ?_
          refine tz_iconst (pc := 45) dX12_turns_45 ?_
          refine tz_aS (pc := 46) (z := z_2) dX12_turns_46 a_180 rfl (by omega) (by decide) ?_
          have hw47 := wc_up1 (J := J) (a := z_2) (v := 1) (Or.inl rfl) (by omega) (by omega)
          refine tz_iconst (pc := 47) dX12_turns_47 ?_
          refine tz_istore_n (pc := 48) (L2 := [_, _, _, _]) dX12_turns_48 rfl (by decide) rfl ?_
          have loop49 : ∀ (f9 : Nat) (k : Int) (J1 : zJ), ((3 - k).toNat) < f9 → (0 ≤ k ∧ k ≤ 3) → (wc J1 < wc J) → (zOf (zbut [180]) J1 J) → (TPL c m b d H p sh z_2 J k J1) → tz_At l G M_X12_turns (tb_rm (5 + 1 * (r9 + 1)) 0 0) none (tb_ZM G 0 0 (zQ n 0 (zqi (fun z J' => wc J' ≤ wc J ∧ zOf (zbut [180]) J' J ∧ TPO c m b d H p sh x J J' z))) (zX n 0 zN)) 0 0 n J1 49 [some (.ref 164), some (zi x), some (zi z_2), some (zi k)] [] := by
            intro f9
            induction f9 with
            | zero => intro k J1 hm9; exact absurd hm9 (Nat.not_lt_zero _)
            | succ f9 ih49 =>
              intro k J1 hm49 hk hw1 f1 tl
              have hA := hM.ar (t := (J 178 z_2) % 400) (by omega)
              have maH : mar J b d ((J 178 z_2) % 400) = mar H b d ((sh z_2) % 400) := by rw [es2]; unfold mar; rw [e6, e0]
              refine tz_iload_n (pc := 49) dX12_turns_49 rfl rfl ?_
              refine tz_aload_n (pc := 50) dX12_turns_50 rfl rfl ?_
              refine tz_aload_n (pc := 51) dX12_turns_51 rfl rfl ?_
              refine tz_fR (pc := 52) dX12_turns_52 fl_X12_53 r_164_26 ?_
              refine tz_iload_n (pc := 55) dX12_turns_55 rfl rfl ?_
              refine tz_aL (pc := 56) (z := z_2) (v := (J 178 z_2)) dX12_turns_56 a_178 rfl (by omega) (Eq.trans (congrFun (f1 178 rfl) z_2) rfl) (fun r_56 => ?_)
              refine tz_sipush (pc := 57) dX12_turns_57 (by decide) ?_
              refine tz_irem (pc := 60) (a := (J 178 z_2)) (b := 400) (v := ((J 178 z_2) % 400)) dX12_turns_60 (by omega) (by omega) rfl ?_
              refine tz_cV (pc := 61) (m_arity hl n _ _ (by omega) b r d s m (hM.c180 f1) (by omega)) vl_X12_111 dX12_turns_61 o_164 rfl rfl (Nat.le_of_ble_eq_true rfl) ⟨(show 2 + 1 ≤ 5 + 1 * (r9 + 1) by omega), (show 8 + (2 + 11) + 40 * (2) ≤ 40 * (5 + 1 * (r9 + 1)) by omega)⟩ rfl rfl (Nat.le_of_ble_eq_true rfl) (Nat.le_of_ble_eq_true rfl) (fun r9 J_61 hq9 => ?_)
              obtain ⟨za, rfl, hz_61, rfl, hv⟩ := hq9
              rw [mar_180 (J := J) f1] at hv
              refine tz_icmp_ge (pc := 64) (tgt := 93) dX12_turns_64 (by decide) (by omega) (by omega) (fun h_64 => ?_) (fun h_64 => ?_)
              · refine tz_aload_n (pc := 93) dX12_turns_93 rfl rfl ?_
                refine tz_fR (pc := 94) dX12_turns_94 fl_X12_59 r_164_28 ?_
                refine tz_iload_n (pc := 97) dX12_turns_97 rfl rfl ?_
                refine tz_iconst (pc := 98) dX12_turns_98 ?_
                refine tz_aS (pc := 99) (z := z_2) dX12_turns_99 a_180 rfl (by omega) (by decide) ?_
                refine tz_iconst (pc := 100) dX12_turns_100 ?_
                exact tz_zret (pc := 101) (z := 0) dX12_turns_101 rfl (Or.inl rfl) (Nat.le_of_ble_eq_true rfl) (Nat.le_of_ble_eq_true rfl) ⟨Nat.le_refl _, Nat.le_add_right _ _⟩ ⟨_, rfl, (by decide), ⟨by have := wc_up (J := J1) (a := z_2) (v := 2) (Or.inr rfl); omega, zOf.up rfl f1, TPO.fin tt (by omega) (by omega) (by unfold arN; rw [← maH]; omega) (by unfold arN; rw [← maH]; omega) tl (fun _ => rfl)⟩⟩
              · refine tz_aload_n (pc := 67) dX12_turns_67 rfl rfl ?_
                refine tz_aload_n (pc := 68) dX12_turns_68 rfl rfl ?_
                refine tz_aload_n (pc := 69) dX12_turns_69 rfl rfl ?_
                refine tz_fR (pc := 70) dX12_turns_70 fl_X12_53 r_164_26 ?_
                refine tz_iload_n (pc := 73) dX12_turns_73 rfl rfl ?_
                refine tz_aL (pc := 74) (z := z_2) (v := (J 178 z_2)) dX12_turns_74 a_178 rfl (by omega) (Eq.trans (congrFun (f1 178 rfl) z_2) rfl) (fun r_74 => ?_)
                refine tz_iload_n (pc := 75) dX12_turns_75 rfl rfl ?_
                refine tz_cV (pc := 76) (x_argOf hl n _ _ _ (by omega) (by omega) b r d s m c (hM.c180 f1) hU.1 ⟨by omega, by omega⟩ (by rw [mar_180 (J := J) f1]; omega)) vl_X12_167 dX12_turns_76 o_164 rfl rfl (Nat.le_of_ble_eq_true rfl) ⟨(show 1 + 1 ≤ 5 + 1 * (r9 + 1) by omega), (show 8 + (3 + 11) + 40 * (1) ≤ 40 * (5 + 1 * (r9 + 1)) by omega)⟩ rfl rfl (Nat.le_of_ble_eq_true rfl) (Nat.le_of_ble_eq_true rfl) (fun r9 J_76 hq9 => ?_)
                obtain ⟨zg, rfl, hz_76, rfl, hg, hh⟩ := hq9
                have ag : zg = agN H b (sh z_2) k := by rw [hh]; unfold agN; rw [f1 167 rfl, e7, es2]
                refine tz_cV (pc := 79) (ih _ _ (by omega) b r d s m c H p sh lv (hM.c180 f1) (hU.c180 f1) hg ((f1 166 rfl).trans e6) ((f1 167 rfl).trans e7) ((f1 170 rfl).trans e0) ((f1 177 rfl).trans ep) ((f1 178 rfl).trans es) hS tl.1 (by omega)) vl_X12_174 dX12_turns_79 o_164 rfl rfl (Nat.le_of_ble_eq_true rfl) ⟨(show (5 + 1 * r9) + 1 ≤ 5 + 1 * (r9 + 1) by omega), (show 8 + (4 + 11) + 40 * ((5 + 1 * r9)) ≤ 40 * (5 + 1 * (r9 + 1)) by omega)⟩ rfl rfl (Nat.le_of_ble_eq_true rfl) (Nat.le_of_ble_eq_true rfl) (fun r9 J_79 hq9 => ?_)
                obtain ⟨zt, rfl, hz_79, w2, f2, to2⟩ := hq9
                rw [ag] at to2
                have zt01 := to2.1
                refine tz_if_eq (pc := 82) (tgt := 87) dX12_turns_82 (by decide) (by omega) (fun h_82 => ?_) (fun h_82 => ?_)
                · refine tz_iinc (pc := 87) (z := k + 1) (L2 := [_, _, _, _]) dX12_turns_87 rfl (by omega) rfl ?_
                  refine tz_goto (pc := 90) (tgt := 49) dX12_turns_90 (by decide) ?_
                  exact ih49 (k + 1) _ (by omega) (by omega) (by omega) (f2.tr f1) (tl.step (by have e9 : zt = 0 := (by omega); rw [e9] at to2; exact to2))
                · refine tz_iconst (pc := 85) dX12_turns_85 ?_
                  exact tz_zret (pc := 86) (z := 1) dX12_turns_86 rfl (Or.inr rfl) (Nat.le_of_ble_eq_true rfl) (Nat.le_of_ble_eq_true rfl) ⟨Nat.le_refl _, Nat.le_add_right _ _⟩ ⟨_, rfl, (by decide), ⟨by omega, f2.tr f1, TPO.up hP hS hx tt (by omega) ⟨by omega, by unfold arN; rw [← maH]; omega⟩ tl (by have e9 : zt = 1 := (by have := to2.1; omega); rw [e9] at to2; exact to2)⟩⟩
          exact loop49 _ 0 _ (Nat.lt_succ_self _) (by omega) hw47 (zOf.up rfl zOf.rf) (TPL.start hB (by omega) (fun _ => rfl))
        · refine tz_iconst (pc := 38) dX12_turns_38 ?_
          exact tz_zret (pc := 39) (z := 1) dX12_turns_39 rfl (Or.inr rfl) (Nat.le_of_ble_eq_true rfl) (Nat.le_of_ble_eq_true rfl) ⟨Nat.le_refl _, Nat.le_add_right _ _⟩ ⟨_, rfl, (by decide), ⟨Nat.le_refl _, zOf.rf, TPO.r1 hP hx (by rw [tt]; omega)⟩⟩
      · refine tz_iconst (pc := 26) dX12_turns_26 ?_
        exact tz_zret (pc := 27) (z := 0) dX12_turns_27 rfl (Or.inl rfl) (Nat.le_of_ble_eq_true rfl) (Nat.le_of_ble_eq_true rfl) ⟨Nat.le_refl _, Nat.le_add_right _ _⟩ ⟨_, rfl, (by decide), ⟨Nat.le_refl _, zOf.rf, TPO.r0 hB (by rw [tt, ← es]; omega)⟩⟩

theorem x_turns {l : Launch} {G : tb_G} (hl : l.stackTraces = false) (n : Nat) (J : zJ) (x : Int) (hr_x : -2147483648 ≤ x ∧ x < 2147483648) (b r d s m : Int) (c : Int) (H : zJ) (p sh lv : Int → Int) (hM : MS J b r d s m) (hU : UF J c m) (hx : VN c m x) (e6 : J 166 = H 166) (e7 : J 167 = H 167) (e0 : J 170 = H 170) (ep : J 177 = p) (es : J 178 = sh) (hS : SHp (VN c m) (hdN H b) p sh lv) (hB : BLK c m b d H p sh (J 180)) : tz_Ok l G M_X12_turns 806 0 0 [.ref 164, zi x] n J (zqi (fun z J' => wc J' ≤ wc J ∧ zOf (zbut [180]) J' J ∧ TPO c m b d H p sh x J J' z)) zN := x_turnsR hl n 801 J x hr_x b r d s m c H p sh lv hM hU hx e6 e7 e0 ep es hS hB (by have := cnt_n (p := fun k => decide (¬ J 180 k = 1 ∧ ¬ J 180 k = 2)) 800; unfold wc; omega)
/-- what unifying tells -/
def UPO (c m b d : Int) (H : zJ) (x y : Int) (p sh lv : Int → Int) (z : Int) : Prop := (z = 0 ∧ ¬ ∃ f, CGm (VN c m) (hdN H b) (arN H b d) (agN H b) f ∧ f x = f y) ∨ ((∃ f, CGm (VN c m) (hdN H b) (arN H b d) (agN H b) f ∧ f x = f y) ∧ UFp (VN c m) p ∧ SHp (VN c m) (hdN H b) p sh lv ∧ (∀ u v, VN c m u → VN c m v → (tp p u = tp p v ↔ LCu (VN c m) (hdN H b) (arN H b d) (agN H b) x y u v)) ∧ ((z = 1 ∧ NRu (VN c m) (hdN H b) (arN H b d) (agN H b) (LCu (VN c m) (hdN H b) (arN H b d) (agN H b) x y) x) ∨ (z = 2 ∧ ¬ NRu (VN c m) (hdN H b) (arN H b d) (agN H b) (LCu (VN c m) (hdN H b) (arN H b d) (agN H b) x y) x)))
theorem un_init {c m b : Int} {J J1 : zJ} (hc : c = 400 ∨ c = 800) (h : ∀ q, 0 ≤ q → q < 800 → J1 177 q = q ∧ J1 180 q = 0 ∧ (q % 400 < m → ((J 166 (b + q % 400) < 0 ∧ J1 178 q = -1 ∧ J1 179 q = -1 - J 166 (b + q % 400)) ∨ (0 ≤ J 166 (b + q % 400) ∧ J1 178 q = q)))) : SHp (VN c m) (hdN J b) (J1 177) (J1 178) (J1 179) ∧ (∀ u, VN c m u → J1 177 u = u) := by
  have e : ∀ u, VN c m u → J1 177 u = u := fun u hu => (h u hu.1.1 (by have := hu.1.2; omega)).1
  have et : ∀ u, VN c m u → tp (J1 177) u = u := fun u hu => tp_r (e u hu)
  refine ⟨fun a ha _ => ?_, e⟩
  have q := (h a ha.1.1 (by have := ha.1.2; omega)).2.2 ha.2
  refine ⟨?_, fun w => ?_⟩
  · rcases q with ⟨_, q, _⟩ | ⟨q1, q2⟩
    · exact Or.inl q
    · rw [q2]; exact Or.inr ⟨ha, q1, et a ha⟩
  · have n : J 166 (b + a % 400) < 0 ∧ J1 179 a = -1 - J 166 (b + a % 400) := by
      rcases q with ⟨q1, q2, q3⟩ | ⟨q1, q2⟩
      · exact ⟨q1, q3⟩
      · have := ha.1.1; omega
    refine ⟨fun u hu eu => ?_, a, ha, et a ha, n.2⟩
    rw [et u hu] at eu
    subst eu
    unfold hdN
    omega
theorem up_0 {c m b d x y z : Int} {H J J1 : zJ} {sh lv : Int → Int} (hz : z = 0) (e : ∀ u, VN c m u → J 177 u = u) (h30 : J 164 30 = 0) (j : JOP c m b d H J x y J1) (n : ¬ J1 164 30 = 0) : UPO c m b d H x y (J1 177) sh lv z := Or.inl ⟨hz, fun ⟨f, g, q⟩ => (j.1 f g (fun u hu => by rw [e u hu]) q).2 n h30⟩
theorem up_k {c m b d x y : Int} {H J J1 : zJ} (hx : VN c m x) (hy : VN c m y) (e : ∀ u, VN c m u → J 177 u = u) (j : JOP c m b d H J x y J1) (n : J1 164 30 = 0) (U : UFp (VN c m) (J1 177)) : CGm (VN c m) (hdN H b) (arN H b d) (agN H b) (tp (J1 177)) ∧ tp (J1 177) x = tp (J1 177) y ∧ ∀ u v, VN c m u → VN c m v → (tp (J1 177) u = tp (J1 177) v ↔ LCu (VN c m) (hdN H b) (arN H b d) (agN H b) x y u v) := by
  obtain ⟨_, j2, j3⟩ := j.2 n
  have cl : CLp (VN c m) (hdN H b) (arN H b d) (agN H b) (J 177) (fun f => True ∧ f x = f y) := fun u v hu hv k h1 h2 => by
    have : u = v := by rw [← tp_r (e u hu), ← tp_r (e v hv)]; exact k
    rw [this]
    exact ⟨rfl, fun _ _ _ _ _ _ => rfl⟩
  have g := (j3 _ cl).cg U
  have t := (j2 _ U.p).2
  exact ⟨g, t, fun u v hu hv => ⟨fun q f g q2 => U.eq (j.1 f g (fun u hu => by rw [e u hu]) q2).1 hu hv q, fun q => q _ g t⟩⟩
set_option maxHeartbeats 4000000 in
set_option maxRecDepth 100000 in
theorem x_unifies {l : Launch} {G : tb_G} (hl : l.stackTraces = false) (n : Nat) (J : zJ) (x : Int) (y : Int) (hr_x : -2147483648 ≤ x ∧ x < 2147483648) (hr_y : -2147483648 ≤ y ∧ y < 2147483648) (b r d s m : Int) (c : Int) (hM : MS J b r d s m) (hc : c = 400 ∨ c = 800) (hx : VN c m x) (hy : VN c m y) : tz_Ok l G M_X12_unifies 807 0 0 [.ref 164, zi x, zi y] n J (zqi (fun z J' => (UF J' c m ∧ (0 ≤ z ∧ z ≤ 2) ∧ zOf (zbut [164, 177, 178, 179, 180]) J' J ∧ ∀ k, ¬ k = 30 → J' 164 k = J 164 k) ∧ UPO c m b d J x y (J' 177) (J' 178) (J' 179) z)) zN := by
  refine tz_Ok.of hl (by decide +kernel) rfl (tb_c1 rfl) (Nat.le_of_ble_eq_true rfl) ?_
  show tz_At l G M_X12_unifies (tb_rm 807 0 0) none (tb_ZM G 0 0 (zQ n 0 (zqi (fun z J' => (UF J' c m ∧ (0 ≤ z ∧ z ≤ 2) ∧ zOf (zbut [164, 177, 178, 179, 180]) J' J ∧ ∀ k, ¬ k = 30 → J' 164 k = J 164 k) ∧ UPO c m b d J x y (J' 177) (J' 178) (J' 179) z))) (zX n 0 zN)) 0 0 n J 0 [some (.ref 164), some (zi x), some (zi y)] []
  obtain ⟨hM1, hM2, hM3, hM4, hM5, hM6⟩ := id hM
  have hT := hM.told
  have hx1 := hx.1
  have hy1 := hy.1
  have hx2 := hx.2
  have hy2 := hy.2
  have hV9 : ∀ u i, VN c m u → 0 ≤ hdN J b u → 0 ≤ i → i < arN J b d u → VN c m (agN J b u i) := fun u i hu _ a k => by have h1 := hu.1; have h2 := hu.2; have g9 := (hM.arg (t := u % 400) (i := i) (by omega) ⟨a, k⟩).1; have t9 := hM.told; unfold agN VN; omega
  refine tz_aload_n (pc := 0) dX12_unifies_0 rfl rfl ?_
  refine tz_cV (pc := 1) (x_begCl hl n _ b r d s m hM) vl_X12_177 dX12_unifies_1 o_164 rfl rfl (Nat.le_of_ble_eq_true rfl) ⟨(Nat.le_of_ble_eq_true rfl), (Nat.le_of_ble_eq_true rfl)⟩ rfl rfl (Nat.le_of_ble_eq_true rfl) (Nat.le_of_ble_eq_true rfl) (fun r9 J_1 hq9 => ?_)
  obtain ⟨rfl, ⟨u8, u4, i30, f_1, g_1⟩, ix⟩ := hq9
  have f_1 := And.intro f_1 g_1
  have hU : UF J_1 c m := by rcases hc with e | e <;> (subst e; assumption)
  obtain ⟨iS, ei⟩ := un_init (c := c) (b := b) (J := J) hc ix
  refine tz_aload_n (pc := 4) dX12_unifies_4 rfl rfl ?_
  refine tz_iload_n (pc := 5) dX12_unifies_5 rfl rfl ?_
  refine tz_iload_n (pc := 6) dX12_unifies_6 rfl rfl ?_
  refine tz_cV (pc := 7) (x_joins hl n _ _ _ (by omega) (by omega) b r d s m c J (hM.cl f_1.1 f_1.2) hU hx hy (f_1.1 166 rfl) (f_1.1 167 rfl) (f_1.1 170 rfl) iS) vl_X12_170 dX12_unifies_7 o_164 rfl rfl (Nat.le_of_ble_eq_true rfl) ⟨(Nat.le_of_ble_eq_true rfl), (Nat.le_of_ble_eq_true rfl)⟩ rfl rfl (Nat.le_of_ble_eq_true rfl) (Nat.le_of_ble_eq_true rfl) (fun r9 J_7 hq9 => ?_)
  obtain ⟨rfl, u7, -, ⟨f_7, g_7⟩, s7, j7, n7⟩ := hq9
  have f_7 : zOf (zbut [164, 177, 178, 179, 180]) J_7 J ∧ ∀ k, ¬ k = 30 → J_7 164 k = J 164 k := ⟨f_7.tr f_1.1, fun k hk => (g_7 k hk).trans (f_1.2 k hk)⟩
  refine tz_aload_n (pc := 10) dX12_unifies_10 rfl rfl ?_
  refine tz_fI (pc := 11) (kz := 30) (v := (J_7 164 30)) dX12_unifies_11 fl_X12_161 i_164_30 rfl rfl (fun r_11 => ?_)
  refine tz_if_eq (pc := 14) (tgt := 21) dX12_unifies_14 (by decide) (by omega) (fun h_14 => ?_) (fun h_14 => ?_)
  · refine tz_aload_n (pc := 21) dX12_unifies_21 rfl rfl ?_
    refine tz_iload_n (pc := 22) dX12_unifies_22 rfl rfl ?_
    have no9 : ∀ g, VN c m g → ¬ J_7 180 g = 1 := fun g hg => by rw [n7, (ix g hg.1.1 (by have := hg.1.2; omega)).2.1]; decide
    obtain ⟨kg, kt, kk⟩ := up_k (H := J) hx hy ei j7 (by omega) u7.p
    have B7 : BLK c m b d J (J_7 177) (J_7 178) (J_7 180) := ⟨fun _ => 0, fun g hg _ q => by rw [n7, (ix g hg.1.1 (by have := hg.1.2; omega)).2.1] at q; exact absurd q (by decide)⟩
    refine tz_cV (pc := 23) (x_turns hl n _ _ (by omega) b r d s m c J (J_7 177) (J_7 178) (J_7 179) (hM.cl f_7.1 f_7.2) u7 hx (f_7.1 166 rfl) (f_7.1 167 rfl) (f_7.1 170 rfl) rfl rfl s7 B7) vl_X12_174 dX12_unifies_23 o_164 rfl rfl (Nat.le_of_ble_eq_true rfl) ⟨(Nat.le_of_ble_eq_true rfl), (Nat.le_of_ble_eq_true rfl)⟩ rfl rfl (Nat.le_of_ble_eq_true rfl) (Nat.le_of_ble_eq_true rfl) (fun r9 J_23 hq9 => ?_)
    obtain ⟨z_23, rfl, hz_23, -, t_23, o_23⟩ := hq9
    have f_23 : zOf (zbut [164, 177, 178, 179, 180]) J_23 J ∧ ∀ k, ¬ k = 30 → J_23 164 k = J 164 k := ⟨(t_23.mono (zbut_sub (fun c hc => by simp at hc ⊢; omega))).tr f_7.1, fun k hk => (congrFun (t_23 164 rfl) k).trans (f_7.2 k hk)⟩
    have u23 : UF J_23 c m := u7.c180 t_23
    refine tz_if_ne (pc := 26) (tgt := 37) dX12_unifies_26 (by decide) (by omega) (fun h_26 => ?_) (fun h_26 => ?_)
    · refine tz_iconst (pc := 37) dX12_unifies_37 ?_
      refine tz_goto (pc := 38) (tgt := 42) dX12_unifies_38 (by decide) ?_
      exact tz_iret (pc := 42) (z := 2) dX12_unifies_42 rfl (Nat.le_of_ble_eq_true rfl) (Nat.le_of_ble_eq_true rfl) ⟨Nat.le_refl _, Nat.le_add_right _ _⟩ ⟨_, rfl, (by decide), ⟨⟨u23, by omega, f_23⟩, Or.inr ⟨⟨_, kg, kt⟩, u23.p, by rw [t_23 177 rfl, t_23 178 rfl, t_23 179 rfl]; exact s7, by rw [t_23 177 rfl]; exact kk, Or.inr ⟨rfl, fun q9 => by obtain ⟨rk9, P9, p9, w9⟩ := q9; exact o_23.2.2 (by have := o_23.1; omega) rk9 P9 (w9.cg (fun u v hu hv => (kk u v hu hv).1)) p9 (fun g hg _ q8 => absurd q8 (no9 g hg))⟩⟩⟩⟩
    · refine tz_aload_n (pc := 29) dX12_unifies_29 rfl rfl ?_
      refine tz_iload_n (pc := 30) dX12_unifies_30 rfl rfl ?_
      obtain ⟨o1, o2, o3, o4⟩ := o_23.2.1 (by have := o_23.1; omega)
      have nr9 := o1.nr u7.p s7 kg hV9 hx o4
      refine tz_cV (pc := 31) (x_turns hl n _ _ (by omega) b r d s m c J (J_7 177) (J_7 178) (J_7 179) (hM.cl f_23.1 f_23.2) u23 hy (f_23.1 166 rfl) (f_23.1 167 rfl) (f_23.1 170 rfl) (t_23 177 rfl) (t_23 178 rfl) s7 o1) vl_X12_174 dX12_unifies_31 o_164 rfl rfl (Nat.le_of_ble_eq_true rfl) ⟨(Nat.le_of_ble_eq_true rfl), (Nat.le_of_ble_eq_true rfl)⟩ rfl rfl (Nat.le_of_ble_eq_true rfl) (Nat.le_of_ble_eq_true rfl) (fun r9 J_31 hq9 => ?_)
      obtain ⟨z_31, rfl, hz_31, -, t_31, o_31⟩ := hq9
      have f_31 : zOf (zbut [164, 177, 178, 179, 180]) J_31 J ∧ ∀ k, ¬ k = 30 → J_31 164 k = J 164 k := ⟨(t_31.mono (zbut_sub (fun c hc => by simp at hc ⊢; omega))).tr f_23.1, fun k hk => (congrFun (t_31 164 rfl) k).trans (f_23.2 k hk)⟩
      have u31 : UF J_31 c m := u23.c180 t_31
      have zz31 : z_31 = 0 := o_31.1.resolve_right (fun q9 => by obtain ⟨rk9, P9, p9, w9⟩ := nr9; exact o_31.2.2 q9 rk9 P9 w9 (w9.1 x y hx hy kt p9).1 (fun g hg _ q8 => absurd ((o2 g).1 q8) (no9 g hg)))
      refine tz_if_eq (pc := 34) (tgt := 41) dX12_unifies_34 (by decide) (by omega) (fun h_34 => ?_) (fun h_34 => ?_)
      · refine tz_iconst (pc := 41) dX12_unifies_41 ?_
        exact tz_iret (pc := 42) (z := 1) dX12_unifies_42 rfl (Nat.le_of_ble_eq_true rfl) (Nat.le_of_ble_eq_true rfl) ⟨Nat.le_refl _, Nat.le_add_right _ _⟩ ⟨_, rfl, (by decide), ⟨⟨u31, by omega, f_31⟩, Or.inr ⟨⟨_, kg, kt⟩, u31.p, by rw [t_31 177 rfl, t_31 178 rfl, t_31 179 rfl, t_23 177 rfl, t_23 178 rfl, t_23 179 rfl]; exact s7, by rw [t_31 177 rfl, t_23 177 rfl]; exact kk, Or.inl ⟨rfl, nr9.cg (fun u v hu hv => (kk u v hu hv).2)⟩⟩⟩⟩
      · refine tz_iconst (pc := 37) dX12_unifies_37 ?_
        refine tz_goto (pc := 38) (tgt := 42) dX12_unifies_38 (by decide) ?_
        exact tz_iret (pc := 42) (z := 2) dX12_unifies_42 rfl (Nat.le_of_ble_eq_true rfl) (Nat.le_of_ble_eq_true rfl) ⟨Nat.le_refl _, Nat.le_add_right _ _⟩ ⟨_, rfl, (by decide), (absurd zz31 (by omega))⟩
  · refine tz_iconst (pc := 17) dX12_unifies_17 ?_
    refine tz_goto (pc := 18) (tgt := 42) dX12_unifies_18 (by decide) ?_
    exact tz_iret (pc := 42) (z := 0) dX12_unifies_42 rfl (Nat.le_of_ble_eq_true rfl) (Nat.le_of_ble_eq_true rfl) ⟨Nat.le_refl _, Nat.le_add_right _ _⟩ ⟨_, rfl, (by decide), ⟨⟨u7, by omega, f_7⟩, up_0 rfl ei i30 j7 (by omega)⟩⟩

