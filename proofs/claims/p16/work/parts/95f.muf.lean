/-! ===== classes of the reference, exact ===== -/
def VN (c m : Int) (k : Int) : Prop := (0 ≤ k ∧ k < c) ∧ k % 400 < m
def hdN (H : zJ) (b k : Int) : Int := H 166 (b + k % 400)
def arN (H : zJ) (b d k : Int) : Int := mar H b d (k % 400)
def agN (H : zJ) (b k i : Int) : Int := k / 400 * 400 + H 167 (3 * (b + k % 400) + i)
theorem UF.p {J : zJ} {c m : Int} (h : UF J c m) : UFp (VN c m) (J 177) := by
  obtain ⟨_, rk, h⟩ := h
  refine ⟨rk, fun x hx => ?_⟩
  obtain ⟨⟨h1, h2⟩, _, h4⟩ := h x hx.1.1 hx.1.2
  exact ⟨⟨h1, (h4 hx.2).1⟩, h2⟩
/-- what joining two nodes does -/
def JOP (c m b d : Int) (H J : zJ) (x y : Int) (J' : zJ) : Prop := (∀ f, CGm (VN c m) (hdN H b) (arN H b d) (agN H b) f → Rsp (VN c m) (J 177) f → f x = f y → Rsp (VN c m) (J' 177) f ∧ (¬ J' 164 30 = 0 → ¬ J 164 30 = 0)) ∧ (J' 164 30 = 0 → J 164 30 = 0 ∧ (∀ f, Rsp (VN c m) (J' 177) f → Rsp (VN c m) (J 177) f ∧ f x = f y) ∧ ∀ Q : (Int → Int) → Prop, CLp (VN c m) (hdN H b) (arN H b d) (agN H b) (J 177) (fun f => Q f ∧ f x = f y) → CLp (VN c m) (hdN H b) (arN H b d) (agN H b) (J' 177) Q)
/-- where it is, behind k arguments -/
def JOL (c m b d : Int) (H J : zJ) (x y x0 y0 k : Int) (J' : zJ) : Prop := (∀ f, CGm (VN c m) (hdN H b) (arN H b d) (agN H b) f → Rsp (VN c m) (J 177) f → f x = f y → Rsp (VN c m) (J' 177) f ∧ (¬ J' 164 30 = 0 → ¬ J 164 30 = 0)) ∧ (J' 164 30 = 0 → J 164 30 = 0 ∧ (∀ f, Rsp (VN c m) (J' 177) f → Rsp (VN c m) (J 177) f ∧ f x = f y) ∧ ∀ Q : (Int → Int) → Prop, CLp (VN c m) (hdN H b) (arN H b d) (agN H b) (J 177) (fun f => Q f ∧ f x = f y) → CLp (VN c m) (hdN H b) (arN H b d) (agN H b) (J' 177) (fun f => Q f ∧ ∀ i, k ≤ i → i < arN H b d x0 → f (agN H b x0 i) = f (agN H b y0 i)))
theorem JOP.same {c m b d x y : Int} {H J : zJ} (U : UFp (VN c m) (J 177)) (hx : VN c m x) (hy : VN c m y) (e : tp (J 177) x = tp (J 177) y) : JOP c m b d H J x y J := ⟨fun _ _ r _ => ⟨r, id⟩, fun h => ⟨h, fun _ r => ⟨r, U.eq r hx hy e⟩, fun _ q => q.same U hx hy e⟩⟩
theorem jo_A {c m x y a1 b1 : Int} {J J' : zJ} (U : UFp (VN c m) (J 177)) (hx : VN c m x) (hy : VN c m y) (ea : tp (J 177) x = a1) (eb : tp (J 177) y = b1) (hab : ¬ a1 = b1) (e : ∀ k, VN c m k → J' 177 k = if k = b1 then a1 else J 177 k) : ∀ f, Rsp (VN c m) (J' 177) f ↔ Rsp (VN c m) (J 177) f ∧ f x = f y := fun f => by
  have ra := U.root hx
  have rb := U.root hy
  rw [ea] at ra
  rw [eb] at rb
  obtain ⟨_, _, l3⟩ := U.link ⟨ra.2, ra.1⟩ ⟨rb.2, rb.1⟩ hab e
  rw [l3]
  constructor
  · rintro ⟨r1, r2⟩
    exact ⟨r1, by rw [← U.f r1 hx, ← U.f r1 hy, ea, eb]; exact r2⟩
  · rintro ⟨r1, r2⟩
    exact ⟨r1, by rw [← U.f r1 hx, ← U.f r1 hy, ea, eb] at r2; exact r2⟩
theorem JOP.one {c m b d x y a1 b1 : Int} {H J J' : zJ} {sh lv : Int → Int} (U : UFp (VN c m) (J 177)) (hx : VN c m x) (hy : VN c m y) (ea : tp (J 177) x = a1) (eb : tp (J 177) y = b1) (hab : ¬ a1 = b1) (e : ∀ k, VN c m k → J' 177 k = if k = b1 then a1 else J 177 k) (S : SHp (VN c m) (hdN H b) (J 177) sh lv) (n : sh a1 = -1 ∨ sh b1 = -1) (e3 : J' 164 30 = J 164 30) : JOP c m b d H J x y J' := by
  have ra := U.root hx
  have rb := U.root hy
  rw [ea] at ra
  rw [eb] at rb
  have rs := jo_A U hx hy ea eb hab e
  refine ⟨fun f _ r q => ⟨(rs f).2 ⟨r, q⟩, by rw [e3]; exact id⟩, fun h => ⟨by rw [← e3]; exact h, fun f r => (rs f).1 r, fun Q q => q.one U hx hy ea eb hab e ?_⟩⟩
  rcases n with n | n
  · exact Or.inl (fun u hu eu => (((S a1 ra.2 ra.1).2 n).1 u hu eu).1)
  · exact Or.inr (fun u hu eu => (((S b1 rb.2 rb.1).2 n).1 u hu eu).1)
theorem JOP.clash {c m b d x y a1 b1 : Int} {H J J' : zJ} {sh lv : Int → Int} (U : UFp (VN c m) (J 177)) (hx : VN c m x) (hy : VN c m y) (ea : tp (J 177) x = a1) (eb : tp (J 177) y = b1) (S : SHp (VN c m) (hdN H b) (J 177) sh lv) (na : ¬ sh a1 = -1) (nb : ¬ sh b1 = -1) (ne : ¬ hdN H b (sh a1) = hdN H b (sh b1)) (e3 : ¬ J' 164 30 = 0) : JOP c m b d H J x y J' := by
  have ra := U.root hx
  have rb := U.root hy
  rw [ea] at ra
  rw [eb] at rb
  obtain ⟨x1, x2, x3⟩ := (S a1 ra.2 ra.1).1.resolve_left na
  obtain ⟨y1, y2, y3⟩ := (S b1 rb.2 rb.1).1.resolve_left nb
  refine ⟨fun f g r q => absurd (g _ _ x1 y1 ?_ x2 y2).1 ne, fun h => absurd h e3⟩
  rw [U.eq r x1 hx (x3.trans ea.symm), U.eq r y1 hy (y3.trans eb.symm)]
  exact q
theorem JOL.start {c m b d x y a1 b1 : Int} {H J J' : zJ} {sh lv : Int → Int} (U : UFp (VN c m) (J 177)) (hx : VN c m x) (hy : VN c m y) (ea : tp (J 177) x = a1) (eb : tp (J 177) y = b1) (hab : ¬ a1 = b1) (e : ∀ k, VN c m k → J' 177 k = if k = b1 then a1 else J 177 k) (S : SHp (VN c m) (hdN H b) (J 177) sh lv) (na : ¬ sh a1 = -1) (nb : ¬ sh b1 = -1) (ne : hdN H b (sh a1) = hdN H b (sh b1)) (e3 : J' 164 30 = J 164 30) : JOL c m b d H J x y (sh a1) (sh b1) 0 J' := by
  have ra := U.root hx
  have rb := U.root hy
  rw [ea] at ra
  rw [eb] at rb
  have rs := jo_A U hx hy ea eb hab e
  obtain ⟨x1, x2, x3⟩ := (S a1 ra.2 ra.1).1.resolve_left na
  obtain ⟨y1, y2, y3⟩ := (S b1 rb.2 rb.1).1.resolve_left nb
  refine ⟨fun f _ r q => ⟨(rs f).2 ⟨r, q⟩, by rw [e3]; exact id⟩, fun h => ⟨by rw [← e3]; exact h, fun f r => (rs f).1 r, fun Q q => ?_⟩⟩
  refine q.two (fun u v _ _ _ k => ?_) U hx hy ea eb hab e ⟨x1, x2, x3⟩ ⟨y1, y2, y3⟩ ne
  unfold arN mar
  unfold hdN at k
  rw [k]
theorem JOL.step {c m b d x y x0 y0 k : Int} {H J J1 J2 : zJ} (l : JOL c m b d H J x y x0 y0 k J1) (q : JOP c m b d H J1 (agN H b x0 k) (agN H b y0 k) J2) (hk : 0 ≤ k ∧ k < arN H b d x0) (h0 : VN c m x0 ∧ 0 ≤ hdN H b x0) (h1 : VN c m y0 ∧ 0 ≤ hdN H b y0) (hl : ∀ f, Rsp (VN c m) (J 177) f → f x = f y → f x0 = f y0) : JOL c m b d H J x y x0 y0 (k + 1) J2 := by
  refine ⟨fun f g r w => ?_, fun h => ?_⟩
  · obtain ⟨u1, u2⟩ := l.1 f g r w
    obtain ⟨v1, v2⟩ := q.1 f g u1 ((g _ _ h0.1 h1.1 (hl f r w) h0.2 h1.2).2 k hk.1 hk.2)
    exact ⟨v1, fun z => u2 (v2 z)⟩
  · obtain ⟨a1, a2, a3⟩ := q.2 h
    obtain ⟨b1, b2, b3⟩ := l.2 a1
    refine ⟨b1, fun f r => b2 f (a2 f r).1, fun Q w => ?_⟩
    refine a3 _ ((b3 Q w).mono (fun f _ z => ⟨z.1.1, fun i p1 p2 => ?_⟩))
    by_cases e : i = k
    · rw [e]; exact z.2
    · exact z.1.2 i (by omega) p2
theorem JOL.fin {c m b d x y x0 y0 k : Int} {H J J1 : zJ} (l : JOL c m b d H J x y x0 y0 k J1) (hk : arN H b d x0 ≤ k) : JOP c m b d H J x y J1 := ⟨l.1, fun h => by
  obtain ⟨b1, b2, b3⟩ := l.2 h
  exact ⟨b1, b2, fun Q w => (b3 Q w).mono (fun f _ z => ⟨z, fun i p1 p2 => by omega⟩)⟩⟩
set_option maxHeartbeats 4000000 in
set_option maxRecDepth 100000 in
theorem x_top {l : Launch} {G : tb_G} (hl : l.stackTraces = false) (n : Nat) (J : zJ) (x : Int) (hr_x : -2147483648 ≤ x ∧ x < 2147483648) (c m : Int) (hU : UF J c m) (hx : VN c m x) : tz_Ok l G M_X12_top 0 0 0 [.ref 164, zi x] n J (zqi (fun z J' => J = J' ∧ VN c m z ∧ J 177 z = z ∧ tp (J 177) x = z)) zN := by
  refine tz_Ok.of hl (by decide +kernel) rfl (tb_c1 rfl) (Nat.le_of_ble_eq_true rfl) ?_
  show tz_At l G M_X12_top (tb_rm 0 0 0) none (tb_ZM G 0 0 (zQ n 0 (zqi (fun z J' => J = J' ∧ VN c m z ∧ J 177 z = z ∧ tp (J 177) x = z))) (zX n 0 zN)) 0 0 n J 0 [some (.ref 164), some (zi x), none] []
  have hP := hU.p
  obtain ⟨hc, rk, hu⟩ := hU
  have hx1 := hx.1
  refine tz_iload_n (pc := 0) dX12_top_0 rfl rfl ?_
  refine tz_istore_n (pc := 1) (L2 := [_, _, _]) dX12_top_1 rfl (by decide) rfl ?_
  have loop2 : ∀ (f9 : Nat) (k : Int), (rk k) < f9 → (0 ≤ k ∧ k < c) → (VN c m k) → (tp (J 177) k = tp (J 177) x) → tz_At l G M_X12_top (tb_rm 0 0 0) none (tb_ZM G 0 0 (zQ n 0 (zqi (fun z J' => J = J' ∧ VN c m z ∧ J 177 z = z ∧ tp (J 177) x = z))) (zX n 0 zN)) 0 0 n J 2 [some (.ref 164), some (zi x), some (zi k)] [] := by
    intro f9
    induction f9 with
    | zero => intro k hm9; exact absurd hm9 (Nat.not_lt_zero _)
    | succ f9 ih2 =>
      intro k hm2 hk hv ht
      obtain ⟨h1, h2, h3⟩ := hu k hk.1 hk.2
      refine tz_aload_n (pc := 2) dX12_top_2 rfl rfl ?_
      refine tz_fR (pc := 3) dX12_top_3 fl_X12_50 r_164_25 ?_
      refine tz_iload_n (pc := 6) dX12_top_6 rfl rfl ?_
      refine tz_aL (pc := 7) (z := k) (v := (J 177 k)) dX12_top_7 a_177 rfl (by omega) rfl (fun r_7 => ?_)
      refine tz_iload_n (pc := 8) dX12_top_8 rfl rfl ?_
      refine tz_icmp_eq (pc := 9) (tgt := 22) dX12_top_9 (by decide) (by omega) (by omega) (fun h_9 => ?_) (fun h_9 => ?_)
      · refine tz_iload_n (pc := 22) dX12_top_22 rfl rfl ?_
        exact tz_iret (pc := 23) (z := k) dX12_top_23 rfl (Nat.le_of_ble_eq_true rfl) (Nat.le_of_ble_eq_true rfl) ⟨Nat.le_refl _, Nat.le_add_right _ _⟩ ⟨_, rfl, (by omega), ⟨rfl, hv, by omega, by rw [← ht]; exact tp_r (by omega)⟩⟩
      · refine tz_aload_n (pc := 12) dX12_top_12 rfl rfl ?_
        refine tz_fR (pc := 13) dX12_top_13 fl_X12_50 r_164_25 ?_
        refine tz_iload_n (pc := 16) dX12_top_16 rfl rfl ?_
        refine tz_aL (pc := 17) (z := k) (v := (J 177 k)) dX12_top_17 a_177 rfl (by omega) rfl (fun r_17 => ?_)
        refine tz_istore_n (pc := 18) (L2 := [_, _, _]) dX12_top_18 rfl (by decide) rfl ?_
        refine tz_goto (pc := 19) (tgt := 2) dX12_top_19 (by decide) ?_
        exact ih2 _ (by have := h1.2.resolve_left (by omega); omega) h1.1 (hP.V hv) ((hP.p k hv).trans ht)
  exact loop2 _ _ (Nat.lt_succ_self _) hx1 hx rfl

set_option maxHeartbeats 4000000 in
set_option maxRecDepth 100000 in
theorem x_argOf {l : Launch} {G : tb_G} (hl : l.stackTraces = false) (n : Nat) (J : zJ) (x : Int) (i : Int) (hr_x : -2147483648 ≤ x ∧ x < 2147483648) (hr_i : -2147483648 ≤ i ∧ i < 2147483648) (b r d s m : Int) (c : Int) (hM : MS J b r d s m) (hc : c = 400 ∨ c = 800) (hx : VN c m x) (hi : 0 ≤ i ∧ i < mar J b d (x % 400)) : tz_Ok l G M_X12_argumentOf 1 0 0 [.ref 164, zi x, zi i] n J (zqi (fun z J' => J = J' ∧ VN c m z ∧ z = agN J b x i)) zN := by
  refine tz_Ok.of hl (by decide +kernel) rfl (tb_c1 rfl) (Nat.le_of_ble_eq_true rfl) ?_
  show tz_At l G M_X12_argumentOf (tb_rm 1 0 0) none (tb_ZM G 0 0 (zQ n 0 (zqi (fun z J' => J = J' ∧ VN c m z ∧ z = agN J b x i))) (zX n 0 zN)) 0 0 n J 0 [some (.ref 164), some (zi x), some (zi i)] []
  obtain ⟨hM1, hM2, hM3, hM4, hM5, hM6⟩ := id hM
  have hT := hM.told
  have hx1 := hx.1
  have hx2 := hx.2
  have ha := hM.ar (t := x % 400) (by omega)
  have hg := hM.arg (t := x % 400) (i := i) (by omega) hi
  refine tz_iload_n (pc := 0) dX12_argumentOf_0 rfl rfl ?_
  refine tz_sipush (pc := 1) dX12_argumentOf_1 (by decide) ?_
  refine tz_idiv (pc := 4) (a := x) (b := 400) (v := (x / 400)) dX12_argumentOf_4 (by omega) (by omega) rfl ?_
  refine tz_sipush (pc := 5) dX12_argumentOf_5 (by decide) ?_
  refine tz_imul (pc := 8) (v := (x / 400) * 400) dX12_argumentOf_8 rfl ?_
  refine tz_aload_n (pc := 9) dX12_argumentOf_9 rfl rfl ?_
  refine tz_iload_n (pc := 10) dX12_argumentOf_10 rfl rfl ?_
  refine tz_sipush (pc := 11) dX12_argumentOf_11 (by decide) ?_
  refine tz_irem (pc := 14) (a := x) (b := 400) (v := (x % 400)) dX12_argumentOf_14 (by omega) (by omega) rfl ?_
  refine tz_iload_n (pc := 15) dX12_argumentOf_15 rfl rfl ?_
  refine tz_cV (pc := 16) (m_arg hl n _ _ _ (by omega) (by omega) b r d s m hM (by omega) (by omega)) vl_X12_88 dX12_argumentOf_16 o_164 rfl rfl (Nat.le_of_ble_eq_true rfl) ⟨(Nat.le_of_ble_eq_true rfl), (Nat.le_of_ble_eq_true rfl)⟩ rfl rfl (Nat.le_of_ble_eq_true rfl) (Nat.le_of_ble_eq_true rfl) (fun r9 J_16 hq9 => ?_)
  obtain ⟨z_16, rfl, hz_16, rfl, rfl⟩ := hq9
  refine tz_iadd (pc := 19) (v := ((x / 400) * 400) + (J 167 (3 * (b + (x % 400)) + i))) dX12_argumentOf_19 rfl ?_
  exact tz_iret (pc := 20) (z := (((x / 400) * 400) + (J 167 (3 * (b + (x % 400)) + i)))) dX12_argumentOf_20 rfl (Nat.le_of_ble_eq_true rfl) (Nat.le_of_ble_eq_true rfl) ⟨Nat.le_refl _, Nat.le_add_right _ _⟩ ⟨_, rfl, (by omega), ⟨rfl, ⟨by omega, by omega⟩, by unfold agN; omega⟩⟩

theorem inx_s {J J1 : zJ} {b k m v8 v9 : Int} (h : ∀ q, 0 ≤ q → q < k → J1 177 q = q ∧ J1 180 q = 0 ∧ (q % 400 < m → ((J 166 (b + q % 400) < 0 ∧ J1 178 q = -1 ∧ J1 179 q = -1 - J 166 (b + q % 400)) ∨ (0 ≤ J 166 (b + q % 400) ∧ J1 178 q = q)))) (h8 : k % 400 < m → ((J 166 (b + k % 400) < 0 ∧ v8 = -1 ∧ v9 = -1 - J 166 (b + k % 400)) ∨ (0 ≤ J 166 (b + k % 400) ∧ v8 = k))) : ∀ q, 0 ≤ q → q < k + 1 → (zup (zup (zup (zup J1 177 k k) 178 k v8) 179 k v9) 180 k 0) 177 q = q ∧ (zup (zup (zup (zup J1 177 k k) 178 k v8) 179 k v9) 180 k 0) 180 q = 0 ∧ (q % 400 < m → ((J 166 (b + q % 400) < 0 ∧ (zup (zup (zup (zup J1 177 k k) 178 k v8) 179 k v9) 180 k 0) 178 q = -1 ∧ (zup (zup (zup (zup J1 177 k k) 178 k v8) 179 k v9) 180 k 0) 179 q = -1 - J 166 (b + q % 400)) ∨ (0 ≤ J 166 (b + q % 400) ∧ (zup (zup (zup (zup J1 177 k k) 178 k v8) 179 k v9) 180 k 0) 178 q = q))) := by
  intro q a c
  have e7 : (zup (zup (zup (zup J1 177 k k) 178 k v8) 179 k v9) 180 k 0) 177 q = if q = k then k else J1 177 q := rfl
  have e8 : (zup (zup (zup (zup J1 177 k k) 178 k v8) 179 k v9) 180 k 0) 178 q = if q = k then v8 else J1 178 q := rfl
  have e9 : (zup (zup (zup (zup J1 177 k k) 178 k v8) 179 k v9) 180 k 0) 179 q = if q = k then v9 else J1 179 q := rfl
  have e0 : (zup (zup (zup (zup J1 177 k k) 178 k v8) 179 k v9) 180 k 0) 180 q = if q = k then 0 else J1 180 q := rfl
  rw [e7, e8, e9, e0]
  by_cases e : q = k
  · rw [if_pos e, if_pos e, if_pos e, if_pos e, e]
    exact ⟨rfl, rfl, h8⟩
  · rw [if_neg e, if_neg e, if_neg e, if_neg e]
    exact h q a (by omega)
set_option maxHeartbeats 4000000 in
set_option maxRecDepth 100000 in
theorem x_begCl {l : Launch} {G : tb_G} (hl : l.stackTraces = false) (n : Nat) (J : zJ)   (b r d s m : Int) (hM : MS J b r d s m)  : tz_Ok l G M_X12_beginsClasses 2 0 0 [.ref 164] n J (zqv (fun J' => (UF J' 800 m ∧ UF J' 400 m ∧ J' 164 30 = 0 ∧ zOf (zbut [164, 177, 178, 179, 180]) J' J ∧ ∀ k, ¬ k = 30 → J' 164 k = J 164 k) ∧ ∀ q, 0 ≤ q → q < 800 → J' 177 q = q ∧ J' 180 q = 0 ∧ (q % 400 < m → ((J 166 (b + q % 400) < 0 ∧ J' 178 q = -1 ∧ J' 179 q = -1 - J 166 (b + q % 400)) ∨ (0 ≤ J 166 (b + q % 400) ∧ J' 178 q = q))))) zN := by
  refine tz_Ok.of hl (by decide +kernel) rfl (tb_c1 rfl) (Nat.le_of_ble_eq_true rfl) ?_
  show tz_At l G M_X12_beginsClasses (tb_rm 2 0 0) none (tb_ZM G 0 0 (zQ n 0 (zqv (fun J' => (UF J' 800 m ∧ UF J' 400 m ∧ J' 164 30 = 0 ∧ zOf (zbut [164, 177, 178, 179, 180]) J' J ∧ ∀ k, ¬ k = 30 → J' 164 k = J 164 k) ∧ ∀ q, 0 ≤ q → q < 800 → J' 177 q = q ∧ J' 180 q = 0 ∧ (q % 400 < m → ((J 166 (b + q % 400) < 0 ∧ J' 178 q = -1 ∧ J' 179 q = -1 - J 166 (b + q % 400)) ∨ (0 ≤ J 166 (b + q % 400) ∧ J' 178 q = q)))))) (zX n 0 zN)) 0 0 n J 0 [some (.ref 164), none, none, none] []
  obtain ⟨hM1, hM2, hM3, hM4, hM5, hM6⟩ := id hM
  have hT := hM.told
  refine tz_iconst (pc := 0) dX12_beginsClasses_0 ?_
  refine tz_istore_n (pc := 1) (L2 := [_, _, _, _]) dX12_beginsClasses_1 rfl (by decide) rfl ?_
  have loop2 : ∀ (f9 : Nat) (k : Int) (d2 : Option Value) (d3 : Option Value) (J1 : zJ), ((800 - k).toNat) < f9 → (0 ≤ k ∧ k ≤ 800) → (zOf (zbut [164, 177, 178, 179, 180]) J1 J ∧ ∀ k, ¬ k = 30 → J1 164 k = J 164 k) → (∀ q, 0 ≤ q → q < k → J1 177 q = q ∧ (J1 178 q = -1 ∨ (J1 178 q = q ∧ q % 400 < m)) ∧ (q % 400 < m → J1 178 q = -1 → 0 ≤ J1 179 q ∧ J1 179 q < 8)) → (∀ q, 0 ≤ q → q < k → J1 177 q = q ∧ J1 180 q = 0 ∧ (q % 400 < m → ((J 166 (b + q % 400) < 0 ∧ J1 178 q = -1 ∧ J1 179 q = -1 - J 166 (b + q % 400)) ∨ (0 ≤ J 166 (b + q % 400) ∧ J1 178 q = q)))) → tz_At l G M_X12_beginsClasses (tb_rm 2 0 0) none (tb_ZM G 0 0 (zQ n 0 (zqv (fun J' => (UF J' 800 m ∧ UF J' 400 m ∧ J' 164 30 = 0 ∧ zOf (zbut [164, 177, 178, 179, 180]) J' J ∧ ∀ k, ¬ k = 30 → J' 164 k = J 164 k) ∧ ∀ q, 0 ≤ q → q < 800 → J' 177 q = q ∧ J' 180 q = 0 ∧ (q % 400 < m → ((J 166 (b + q % 400) < 0 ∧ J' 178 q = -1 ∧ J' 179 q = -1 - J 166 (b + q % 400)) ∨ (0 ≤ J 166 (b + q % 400) ∧ J' 178 q = q)))))) (zX n 0 zN)) 0 0 n J1 2 [some (.ref 164), some (zi k), d2, d3] [] := by
    intro f9
    induction f9 with
    | zero => intro k d2 d3 J1 hm9; exact absurd hm9 (Nat.not_lt_zero _)
    | succ f9 ih2 =>
      intro k d2 d3 J1 hm2 hk f1 h1 h2
      refine tz_iload_n (pc := 2) dX12_beginsClasses_2 rfl rfl ?_
      refine tz_sipush (pc := 3) dX12_beginsClasses_3 (by decide) ?_
      refine tz_icmp_ge (pc := 6) (tgt := 100) dX12_beginsClasses_6 (by decide) (by omega) (by decide) (fun h_6 => ?_) (fun h_6 => ?_)
      · refine tz_aload_n (pc := 100) dX12_beginsClasses_100 rfl rfl ?_
        refine tz_iconst (pc := 101) dX12_beginsClasses_101 ?_
        refine tz_pZ (pc := 102) (kz := 30) dX12_beginsClasses_102 fl_X12_161 i_164_30 rfl rfl (Or.inl rfl) ?_
        exact tz_vret (pc := 105) dX12_beginsClasses_105 rfl (Nat.le_of_ble_eq_true rfl) (Nat.le_of_ble_eq_true rfl) ⟨Nat.le_refl _, Nat.le_add_right _ _⟩ ⟨rfl, ⟨⟨⟨Or.inr rfl, fun _ => 0, fun q a c => by obtain ⟨i1, i2, i3⟩ := h1 q a (by omega); refine ⟨⟨by show 0 ≤ J1 177 q ∧ J1 177 q < 800; omega, Or.inl i1⟩, by show J1 178 q = -1 ∨ (0 ≤ J1 178 q ∧ J1 178 q < 800 ∧ J1 178 q % 400 < m); (rcases i2 with i2 | i2 <;> first | exact Or.inl i2 | (rw [i2.1]; exact Or.inr ⟨a, c, i2.2⟩)), fun hq => ⟨by show J1 177 q % 400 < m; rw [i1]; exact hq, i3 hq⟩⟩⟩, ⟨Or.inl rfl, fun _ => 0, fun q a c => by obtain ⟨i1, i2, i3⟩ := h1 q a (by omega); refine ⟨⟨by show 0 ≤ J1 177 q ∧ J1 177 q < 400; omega, Or.inl i1⟩, by show J1 178 q = -1 ∨ (0 ≤ J1 178 q ∧ J1 178 q < 400 ∧ J1 178 q % 400 < m); (rcases i2 with i2 | i2 <;> first | exact Or.inl i2 | (rw [i2.1]; exact Or.inr ⟨a, c, i2.2⟩)), fun hq => ⟨by show J1 177 q % 400 < m; rw [i1]; exact hq, i3 hq⟩⟩⟩, zup_at, zOf.up rfl f1.1, fun q hq => (zup_ne hq).trans (f1.2 q hq)⟩, fun q a c => h2 q a (by omega)⟩⟩
      · refine tz_iload_n (pc := 9) dX12_beginsClasses_9 rfl rfl ?_
        refine tz_sipush (pc := 10) dX12_beginsClasses_10 (by decide) ?_
        refine tz_irem (pc := 13) (a := k) (b := 400) (v := (k % 400)) dX12_beginsClasses_13 (by omega) (by omega) rfl ?_
        have hk9 : 0 ≤ k % 400 ∧ k % 400 < 400 := by omega
        refine tz_istore_n (pc := 14) (L2 := [_, _, _, _]) dX12_beginsClasses_14 rfl (by decide) rfl ?_
        refine tz_iload_n (pc := 15) dX12_beginsClasses_15 rfl rfl ?_
        refine tz_aload_n (pc := 16) dX12_beginsClasses_16 rfl rfl ?_
        refine tz_cV (pc := 17) (m_many hl n _ b r d s m (hM.cl f1.1 f1.2)) vl_X12_96 dX12_beginsClasses_17 o_164 rfl rfl (Nat.le_of_ble_eq_true rfl) ⟨(Nat.le_of_ble_eq_true rfl), (Nat.le_of_ble_eq_true rfl)⟩ rfl rfl (Nat.le_of_ble_eq_true rfl) (Nat.le_of_ble_eq_true rfl) (fun r9 J_17 hq9 => ?_)
        obtain ⟨z_17, rfl, hz_17, rfl, rfl⟩ := hq9
        refine tz_icmp_ge (pc := 20) (tgt := 27) dX12_beginsClasses_20 (by decide) (by omega) (by omega) (fun h_20 => ?_) (fun h_20 => ?_)
        · refine tz_iconst (pc := 27) dX12_beginsClasses_27 ?_
          refine tz_istore_n (pc := 28) (L2 := [_, _, _, _]) dX12_beginsClasses_28 rfl (by decide) rfl ?_
          refine tz_aload_n (pc := 29) dX12_beginsClasses_29 rfl rfl ?_
          refine tz_fR (pc := 30) dX12_beginsClasses_30 fl_X12_50 r_164_25 ?_
          refine tz_iload_n (pc := 33) dX12_beginsClasses_33 rfl rfl ?_
          refine tz_iload_n (pc := 34) dX12_beginsClasses_34 rfl rfl ?_
          refine tz_aS (pc := 35) (z := k) dX12_beginsClasses_35 a_177 rfl (by omega) (by omega) ?_
          refine tz_aload_n (pc := 36) dX12_beginsClasses_36 rfl rfl ?_
          refine tz_fR (pc := 37) dX12_beginsClasses_37 fl_X12_53 r_164_26 ?_
          refine tz_iload_n (pc := 40) dX12_beginsClasses_40 rfl rfl ?_
          refine tz_iload_n (pc := 41) dX12_beginsClasses_41 rfl rfl ?_
          refine tz_if_eqT (pc := 42) (tgt := 57) (by decide) dX12_beginsClasses_42 (by decide) (by decide) ?_
          refine tz_iconst (pc := 57) dX12_beginsClasses_57 ?_
          refine tz_aS (pc := 58) (z := k) dX12_beginsClasses_58 a_178 rfl (by omega) (by decide) ?_
          refine tz_aload_n (pc := 59) dX12_beginsClasses_59 rfl rfl ?_
          refine tz_fR (pc := 60) dX12_beginsClasses_60 fl_X12_56 r_164_27 ?_
          refine tz_iload_n (pc := 63) dX12_beginsClasses_63 rfl rfl ?_
          refine tz_iload_n (pc := 64) dX12_beginsClasses_64 rfl rfl ?_
          refine tz_if_eqT (pc := 65) (tgt := 84) (by decide) dX12_beginsClasses_65 (by decide) (by decide) ?_
          refine tz_bipush (pc := 84) dX12_beginsClasses_84 (by decide) ?_
          refine tz_aS (pc := 86) (z := k) dX12_beginsClasses_86 a_179 rfl (by omega) (by decide) ?_
          refine tz_aload_n (pc := 87) dX12_beginsClasses_87 rfl rfl ?_
          refine tz_fR (pc := 88) dX12_beginsClasses_88 fl_X12_59 r_164_28 ?_
          refine tz_iload_n (pc := 91) dX12_beginsClasses_91 rfl rfl ?_
          refine tz_iconst (pc := 92) dX12_beginsClasses_92 ?_
          refine tz_aS (pc := 93) (z := k) dX12_beginsClasses_93 a_180 rfl (by omega) (by decide) ?_
          refine tz_iinc (pc := 94) (z := k + 1) (L2 := [_, _, _, _]) dX12_beginsClasses_94 rfl (by omega) rfl ?_
          refine tz_goto (pc := 97) (tgt := 2) dX12_beginsClasses_97 (by decide) ?_
          exact ih2 (k + 1) _ _ _ (by omega) (by omega) ⟨zOf.up rfl (zOf.up rfl (zOf.up rfl (zOf.up rfl f1.1))), f1.2⟩ (ini_s h1 (by omega) (by omega)) (inx_s h2 (by omega))
        · refine tz_iconst (pc := 23) dX12_beginsClasses_23 ?_
          refine tz_goto (pc := 24) (tgt := 28) dX12_beginsClasses_24 (by decide) ?_
          refine tz_istore_n (pc := 28) (L2 := [_, _, _, _]) dX12_beginsClasses_28 rfl (by decide) rfl ?_
          refine tz_aload_n (pc := 29) dX12_beginsClasses_29 rfl rfl ?_
          refine tz_fR (pc := 30) dX12_beginsClasses_30 fl_X12_50 r_164_25 ?_
          refine tz_iload_n (pc := 33) dX12_beginsClasses_33 rfl rfl ?_
          refine tz_iload_n (pc := 34) dX12_beginsClasses_34 rfl rfl ?_
          refine tz_aS (pc := 35) (z := k) dX12_beginsClasses_35 a_177 rfl (by omega) (by omega) ?_
          refine tz_aload_n (pc := 36) dX12_beginsClasses_36 rfl rfl ?_
          refine tz_fR (pc := 37) dX12_beginsClasses_37 fl_X12_53 r_164_26 ?_
          refine tz_iload_n (pc := 40) dX12_beginsClasses_40 rfl rfl ?_
          refine tz_iload_n (pc := 41) dX12_beginsClasses_41 rfl rfl ?_
          refine tz_if_eqF (pc := 42) (tgt := 57) (by decide) dX12_beginsClasses_42 (by decide) (by decide) ?_
          refine tz_aload_n (pc := 45) dX12_beginsClasses_45 rfl rfl ?_
          refine tz_iload_n (pc := 46) dX12_beginsClasses_46 rfl rfl ?_
          have ha47 := hM.ar (t := k % 400) (by omega)
          refine tz_cV (pc := 47) (m_isVar hl n _ _ (by omega) b r d s m (hM.cl (zOf.up rfl f1.1) f1.2) (by omega)) vl_X12_78 dX12_beginsClasses_47 o_164 rfl rfl (Nat.le_of_ble_eq_true rfl) ⟨(Nat.le_of_ble_eq_true rfl), (Nat.le_of_ble_eq_true rfl)⟩ rfl rfl (Nat.le_of_ble_eq_true rfl) (Nat.le_of_ble_eq_true rfl) (fun r9 J_47 hq9 => ?_)
          obtain ⟨z_47, rfl, hz_47, rfl, hv_47⟩ := hq9
          have he_47 : ((zup J1 177 k k) : zJ) 166 = J 166 := (zOf.up rfl f1.1) 166 rfl
          rw [he_47] at hv_47
          have hw_47 : (z_47 = 1 ∧ J 166 (b + (k % 400)) < 0) ∨ (z_47 = 0 ∧ ¬ J 166 (b + (k % 400)) < 0) := by rw [← hv_47]; split <;> omega
          refine tz_if_ne (pc := 50) (tgt := 57) dX12_beginsClasses_50 (by decide) (by omega) (fun h_50 => ?_) (fun h_50 => ?_)
          · refine tz_iconst (pc := 57) dX12_beginsClasses_57 ?_
            refine tz_aS (pc := 58) (z := k) dX12_beginsClasses_58 a_178 rfl (by omega) (by decide) ?_
            refine tz_aload_n (pc := 59) dX12_beginsClasses_59 rfl rfl ?_
            refine tz_fR (pc := 60) dX12_beginsClasses_60 fl_X12_56 r_164_27 ?_
            refine tz_iload_n (pc := 63) dX12_beginsClasses_63 rfl rfl ?_
            refine tz_iload_n (pc := 64) dX12_beginsClasses_64 rfl rfl ?_
            refine tz_if_eqF (pc := 65) (tgt := 84) (by decide) dX12_beginsClasses_65 (by decide) (by decide) ?_
            refine tz_aload_n (pc := 68) dX12_beginsClasses_68 rfl rfl ?_
            refine tz_iload_n (pc := 69) dX12_beginsClasses_69 rfl rfl ?_
            have ha70 := hM.ar (t := k % 400) (by omega)
            refine tz_cV (pc := 70) (m_isVar hl n _ _ (by omega) b r d s m (hM.cl (zOf.up rfl (zOf.up rfl f1.1)) f1.2) (by omega)) vl_X12_78 dX12_beginsClasses_70 o_164 rfl rfl (Nat.le_of_ble_eq_true rfl) ⟨(Nat.le_of_ble_eq_true rfl), (Nat.le_of_ble_eq_true rfl)⟩ rfl rfl (Nat.le_of_ble_eq_true rfl) (Nat.le_of_ble_eq_true rfl) (fun r9 J_70 hq9 => ?_)
            obtain ⟨z_70, rfl, hz_70, rfl, hv_70⟩ := hq9
            have he_70 : ((zup (zup J1 177 k k) 178 k (-1)) : zJ) 166 = J 166 := (zOf.up rfl (zOf.up rfl f1.1)) 166 rfl
            rw [he_70] at hv_70
            have hw_70 : (z_70 = 1 ∧ J 166 (b + (k % 400)) < 0) ∨ (z_70 = 0 ∧ ¬ J 166 (b + (k % 400)) < 0) := by rw [← hv_70]; split <;> omega
            refine tz_if_eq (pc := 73) (tgt := 84) dX12_beginsClasses_73 (by decide) (by omega) (fun h_73 => ?_) (fun h_73 => ?_)
            · refine tz_bipush (pc := 84) dX12_beginsClasses_84 (by decide) ?_
              refine tz_aS (pc := 86) (z := k) dX12_beginsClasses_86 a_179 rfl (by omega) (by decide) ?_
              refine tz_aload_n (pc := 87) dX12_beginsClasses_87 rfl rfl ?_
              refine tz_fR (pc := 88) dX12_beginsClasses_88 fl_X12_59 r_164_28 ?_
              refine tz_iload_n (pc := 91) dX12_beginsClasses_91 rfl rfl ?_
              refine tz_iconst (pc := 92) dX12_beginsClasses_92 ?_
              refine tz_aS (pc := 93) (z := k) dX12_beginsClasses_93 a_180 rfl (by omega) (by decide) ?_
              refine tz_iinc (pc := 94) (z := k + 1) (L2 := [_, _, _, _]) dX12_beginsClasses_94 rfl (by omega) rfl ?_
              refine tz_goto (pc := 97) (tgt := 2) dX12_beginsClasses_97 (by decide) ?_
              exact ih2 (k + 1) _ _ _ (by omega) (by omega) ⟨zOf.up rfl (zOf.up rfl (zOf.up rfl (zOf.up rfl f1.1))), f1.2⟩ (ini_s h1 (by omega) (by omega)) (inx_s h2 (by omega))
            · refine tz_aload_n (pc := 76) dX12_beginsClasses_76 rfl rfl ?_
              refine tz_iload_n (pc := 77) dX12_beginsClasses_77 rfl rfl ?_
              refine tz_cV (pc := 78) (m_varOf hl n _ _ (by omega) b r d s m (hM.cl (zOf.up rfl (zOf.up rfl f1.1)) f1.2) (by omega)) vl_X12_123 dX12_beginsClasses_78 o_164 rfl rfl (Nat.le_of_ble_eq_true rfl) ⟨(Nat.le_of_ble_eq_true rfl), (Nat.le_of_ble_eq_true rfl)⟩ rfl rfl (Nat.le_of_ble_eq_true rfl) (Nat.le_of_ble_eq_true rfl) (fun r9 J_78 hq9 => ?_)
              obtain ⟨z_78, rfl, hz_78, rfl, hv_78⟩ := hq9
              have he_78 : ((zup (zup J1 177 k k) 178 k (-1)) : zJ) 166 = J 166 := (zOf.up rfl (zOf.up rfl f1.1)) 166 rfl
              rw [he_78] at hv_78
              refine tz_goto (pc := 81) (tgt := 86) dX12_beginsClasses_81 (by decide) ?_
              refine tz_aS (pc := 86) (z := k) dX12_beginsClasses_86 a_179 rfl (by omega) (by omega) ?_
              refine tz_aload_n (pc := 87) dX12_beginsClasses_87 rfl rfl ?_
              refine tz_fR (pc := 88) dX12_beginsClasses_88 fl_X12_59 r_164_28 ?_
              refine tz_iload_n (pc := 91) dX12_beginsClasses_91 rfl rfl ?_
              refine tz_iconst (pc := 92) dX12_beginsClasses_92 ?_
              refine tz_aS (pc := 93) (z := k) dX12_beginsClasses_93 a_180 rfl (by omega) (by decide) ?_
              refine tz_iinc (pc := 94) (z := k + 1) (L2 := [_, _, _, _]) dX12_beginsClasses_94 rfl (by omega) rfl ?_
              refine tz_goto (pc := 97) (tgt := 2) dX12_beginsClasses_97 (by decide) ?_
              exact ih2 (k + 1) _ _ _ (by omega) (by omega) ⟨zOf.up rfl (zOf.up rfl (zOf.up rfl (zOf.up rfl f1.1))), f1.2⟩ (ini_s h1 (by omega) (by omega)) (inx_s h2 (by omega))
          · refine tz_iload_n (pc := 53) dX12_beginsClasses_53 rfl rfl ?_
            refine tz_goto (pc := 54) (tgt := 58) dX12_beginsClasses_54 (by decide) ?_
            refine tz_aS (pc := 58) (z := k) dX12_beginsClasses_58 a_178 rfl (by omega) (by omega) ?_
            refine tz_aload_n (pc := 59) dX12_beginsClasses_59 rfl rfl ?_
            refine tz_fR (pc := 60) dX12_beginsClasses_60 fl_X12_56 r_164_27 ?_
            refine tz_iload_n (pc := 63) dX12_beginsClasses_63 rfl rfl ?_
            refine tz_iload_n (pc := 64) dX12_beginsClasses_64 rfl rfl ?_
            refine tz_if_eqF (pc := 65) (tgt := 84) (by decide) dX12_beginsClasses_65 (by decide) (by decide) ?_
            refine tz_aload_n (pc := 68) dX12_beginsClasses_68 rfl rfl ?_
            refine tz_iload_n (pc := 69) dX12_beginsClasses_69 rfl rfl ?_
            have ha70 := hM.ar (t := k % 400) (by omega)
            refine tz_cV (pc := 70) (m_isVar hl n _ _ (by omega) b r d s m (hM.cl (zOf.up rfl (zOf.up rfl f1.1)) f1.2) (by omega)) vl_X12_78 dX12_beginsClasses_70 o_164 rfl rfl (Nat.le_of_ble_eq_true rfl) ⟨(Nat.le_of_ble_eq_true rfl), (Nat.le_of_ble_eq_true rfl)⟩ rfl rfl (Nat.le_of_ble_eq_true rfl) (Nat.le_of_ble_eq_true rfl) (fun r9 J_70 hq9 => ?_)
            obtain ⟨z_70, rfl, hz_70, rfl, hv_70⟩ := hq9
            have he_70 : ((zup (zup J1 177 k k) 178 k k) : zJ) 166 = J 166 := (zOf.up rfl (zOf.up rfl f1.1)) 166 rfl
            rw [he_70] at hv_70
            have hw_70 : (z_70 = 1 ∧ J 166 (b + (k % 400)) < 0) ∨ (z_70 = 0 ∧ ¬ J 166 (b + (k % 400)) < 0) := by rw [← hv_70]; split <;> omega
            refine tz_if_eq (pc := 73) (tgt := 84) dX12_beginsClasses_73 (by decide) (by omega) (fun h_73 => ?_) (fun h_73 => ?_)
            · refine tz_bipush (pc := 84) dX12_beginsClasses_84 (by decide) ?_
              refine tz_aS (pc := 86) (z := k) dX12_beginsClasses_86 a_179 rfl (by omega) (by decide) ?_
              refine tz_aload_n (pc := 87) dX12_beginsClasses_87 rfl rfl ?_
              refine tz_fR (pc := 88) dX12_beginsClasses_88 fl_X12_59 r_164_28 ?_
              refine tz_iload_n (pc := 91) dX12_beginsClasses_91 rfl rfl ?_
              refine tz_iconst (pc := 92) dX12_beginsClasses_92 ?_
              refine tz_aS (pc := 93) (z := k) dX12_beginsClasses_93 a_180 rfl (by omega) (by decide) ?_
              refine tz_iinc (pc := 94) (z := k + 1) (L2 := [_, _, _, _]) dX12_beginsClasses_94 rfl (by omega) rfl ?_
              refine tz_goto (pc := 97) (tgt := 2) dX12_beginsClasses_97 (by decide) ?_
              exact ih2 (k + 1) _ _ _ (by omega) (by omega) ⟨zOf.up rfl (zOf.up rfl (zOf.up rfl (zOf.up rfl f1.1))), f1.2⟩ (ini_s h1 (by omega) (by omega)) (inx_s h2 (by omega))
            · refine tz_aload_n (pc := 76) dX12_beginsClasses_76 rfl rfl ?_
              refine tz_iload_n (pc := 77) dX12_beginsClasses_77 rfl rfl ?_
              refine tz_cV (pc := 78) (m_varOf hl n _ _ (by omega) b r d s m (hM.cl (zOf.up rfl (zOf.up rfl f1.1)) f1.2) (by omega)) vl_X12_123 dX12_beginsClasses_78 o_164 rfl rfl (Nat.le_of_ble_eq_true rfl) ⟨(Nat.le_of_ble_eq_true rfl), (Nat.le_of_ble_eq_true rfl)⟩ rfl rfl (Nat.le_of_ble_eq_true rfl) (Nat.le_of_ble_eq_true rfl) (fun r9 J_78 hq9 => ?_)
              obtain ⟨z_78, rfl, hz_78, rfl, hv_78⟩ := hq9
              have he_78 : ((zup (zup J1 177 k k) 178 k k) : zJ) 166 = J 166 := (zOf.up rfl (zOf.up rfl f1.1)) 166 rfl
              rw [he_78] at hv_78
              refine tz_goto (pc := 81) (tgt := 86) dX12_beginsClasses_81 (by decide) ?_
              refine tz_aS (pc := 86) (z := k) dX12_beginsClasses_86 a_179 rfl (by omega) (by omega) ?_
              refine tz_aload_n (pc := 87) dX12_beginsClasses_87 rfl rfl ?_
              refine tz_fR (pc := 88) dX12_beginsClasses_88 fl_X12_59 r_164_28 ?_
              refine tz_iload_n (pc := 91) dX12_beginsClasses_91 rfl rfl ?_
              refine tz_iconst (pc := 92) dX12_beginsClasses_92 ?_
              refine tz_aS (pc := 93) (z := k) dX12_beginsClasses_93 a_180 rfl (by omega) (by decide) ?_
              refine tz_iinc (pc := 94) (z := k + 1) (L2 := [_, _, _, _]) dX12_beginsClasses_94 rfl (by omega) rfl ?_
              refine tz_goto (pc := 97) (tgt := 2) dX12_beginsClasses_97 (by decide) ?_
              exact ih2 (k + 1) _ _ _ (by omega) (by omega) ⟨zOf.up rfl (zOf.up rfl (zOf.up rfl (zOf.up rfl f1.1))), f1.2⟩ (ini_s h1 (by omega) (by omega)) (inx_s h2 (by omega))
  exact loop2 _ 0 none none _ (Nat.lt_succ_self _) (by omega) ⟨zOf.rf, fun _ _ => rfl⟩ (fun q a b => by omega) (fun q a b => by omega)

set_option maxHeartbeats 4000000 in
set_option maxRecDepth 100000 in
theorem x_joinsR {l : Launch} {G : tb_G} (hl : l.stackTraces = false) (n : Nat) : ∀ (r9 : Nat) (J : zJ) (x : Int) (y : Int) (hr_x : -2147483648 ≤ x ∧ x < 2147483648) (hr_y : -2147483648 ≤ y ∧ y < 2147483648) (b r d s m : Int) (c : Int) (H : zJ) (hM : MS J b r d s m) (hU : UF J c m) (hx : VN c m x) (hy : VN c m y) (e6 : J 166 = H 166) (e7 : J 167 = H 167) (e0 : J 170 = H 170) (hS : SHp (VN c m) (hdN H b) (J 177) (J 178) (J 179)), (rc J) < r9 → tz_Ok l G M_X12_joins (5 + 1 * r9) 0 0 [.ref 164, zi x, zi y] n J (zqv (fun J' => UF J' c m ∧ rc J' ≤ rc J ∧ (zOf (zbut [164, 177, 178, 179, 180]) J' J ∧ ∀ k, ¬ k = 30 → J' 164 k = J 164 k) ∧ SHp (VN c m) (hdN H b) (J' 177) (J' 178) (J' 179) ∧ JOP c m b d H J x y J' ∧ J' 180 = J 180)) zN := by
  intro r9
  induction r9 with
  | zero => intro J x y hr_x hr_y b r d s m c H hM hU hx hy e6 e7 e0 hS hm9; exact absurd hm9 (Nat.not_lt_zero _)
  | succ r9 ih =>
    intro J x y hr_x hr_y b r d s m c H hM hU hx hy e6 e7 e0 hS hm9
    refine tz_Ok.of hl (by decide +kernel) rfl (tb_c1 rfl) (Nat.le_of_ble_eq_true rfl) ?_
    show tz_At l G M_X12_joins (tb_rm (5 + 1 * (r9 + 1)) 0 0) none (tb_ZM G 0 0 (zQ n 0 (zqv (fun J' => UF J' c m ∧ rc J' ≤ rc J ∧ (zOf (zbut [164, 177, 178, 179, 180]) J' J ∧ ∀ k, ¬ k = 30 → J' 164 k = J 164 k) ∧ SHp (VN c m) (hdN H b) (J' 177) (J' 178) (J' 179) ∧ JOP c m b d H J x y J' ∧ J' 180 = J 180))) (zX n 0 zN)) 0 0 n J 0 [some (.ref 164), some (zi x), some (zi y), none, none, none, none, none] []
    obtain ⟨hM1, hM2, hM3, hM4, hM5, hM6⟩ := id hM
    have hT := hM.told
    have hc9 := hU.1
    have hP := hU.p
    have hx1 := hx.1
    have hy1 := hy.1
    have hx2 := hx.2
    have hy2 := hy.2
    refine tz_aload_n (pc := 0) dX12_joins_0 rfl rfl ?_
    refine tz_iload_n (pc := 1) dX12_joins_1 rfl rfl ?_
    refine tz_cV (pc := 2) (x_top hl n _ _ (by omega) c m hU hx) vl_X12_164 dX12_joins_2 o_164 rfl rfl (Nat.le_of_ble_eq_true rfl) ⟨(show 0 + 1 ≤ 5 + 1 * (r9 + 1) by omega), (show 8 + (3 + 11) + 40 * (0) ≤ 40 * (5 + 1 * (r9 + 1)) by omega)⟩ rfl rfl (Nat.le_of_ble_eq_true rfl) (Nat.le_of_ble_eq_true rfl) (fun r9 J_2 hq9 => ?_)
    obtain ⟨z_2, rfl, hz_2, rfl, v_2, b_2, t_2⟩ := hq9
    have a_2 := v_2.1
    have c_2 := v_2.2
    refine tz_istore_n (pc := 5) (L2 := [_, _, _, _, _, _, _, _]) dX12_joins_5 rfl (by decide) rfl ?_
    refine tz_aload_n (pc := 6) dX12_joins_6 rfl rfl ?_
    refine tz_iload_n (pc := 7) dX12_joins_7 rfl rfl ?_
    refine tz_cV (pc := 8) (x_top hl n _ _ (by omega) c m hU hy) vl_X12_164 dX12_joins_8 o_164 rfl rfl (Nat.le_of_ble_eq_true rfl) ⟨(show 0 + 1 ≤ 5 + 1 * (r9 + 1) by omega), (show 8 + (3 + 11) + 40 * (0) ≤ 40 * (5 + 1 * (r9 + 1)) by omega)⟩ rfl rfl (Nat.le_of_ble_eq_true rfl) (Nat.le_of_ble_eq_true rfl) (fun r9 J_8 hq9 => ?_)
    obtain ⟨z_8, rfl, hz_8, rfl, v_8, b_8, t_8⟩ := hq9
    have a_8 := v_8.1
    have c_8 := v_8.2
    refine tz_istore (pc := 11) (L2 := [_, _, _, _, _, _, _, _]) dX12_joins_11 (by decide) rfl ?_
    refine tz_iload_n (pc := 13) dX12_joins_13 rfl rfl ?_
    refine tz_iload (pc := 14) dX12_joins_14 rfl ?_
    refine tz_icmp_ne (pc := 16) (tgt := 20) dX12_joins_16 (by decide) (by omega) (by omega) (fun h_16 => ?_) (fun h_16 => ?_)
    · have ua := (hU.at a_2).2
      have ub := (hU.at a_8).2
      have va := c_2
      have vb := c_8
      refine tz_aload_n (pc := 20) dX12_joins_20 rfl rfl ?_
      refine tz_fR (pc := 21) dX12_joins_21 fl_X12_53 r_164_26 ?_
      refine tz_iload_n (pc := 24) dX12_joins_24 rfl rfl ?_
      refine tz_aL (pc := 25) (z := z_2) (v := (J 178 z_2)) dX12_joins_25 a_178 rfl (by omega) rfl (fun r_25 => ?_)
      refine tz_istore (pc := 26) (L2 := [_, _, _, _, _, _, _, _]) dX12_joins_26 (by decide) rfl ?_
      refine tz_aload_n (pc := 28) dX12_joins_28 rfl rfl ?_
      refine tz_fR (pc := 29) dX12_joins_29 fl_X12_53 r_164_26 ?_
      refine tz_iload (pc := 32) dX12_joins_32 rfl ?_
      refine tz_aL (pc := 34) (z := z_8) (v := (J 178 z_8)) dX12_joins_34 a_178 rfl (by omega) rfl (fun r_34 => ?_)
      refine tz_istore (pc := 35) (L2 := [_, _, _, _, _, _, _, _]) dX12_joins_35 (by decide) rfl ?_
      refine tz_aload_n (pc := 37) dX12_joins_37 rfl rfl ?_
      refine tz_fR (pc := 38) dX12_joins_38 fl_X12_50 r_164_25 ?_
      refine tz_iload (pc := 41) dX12_joins_41 rfl ?_
      refine tz_iload_n (pc := 43) dX12_joins_43 rfl rfl ?_
      refine tz_aS (pc := 44) (z := z_8) dX12_joins_44 a_177 rfl (by omega) (by omega) ?_
      refine tz_iload (pc := 45) dX12_joins_45 rfl ?_
      refine tz_iconst (pc := 47) dX12_joins_47 ?_
      refine tz_icmp_ne (pc := 48) (tgt := 59) dX12_joins_48 (by decide) (by omega) (by decide) (fun h_48 => ?_) (fun h_48 => ?_)
      · refine tz_aload_n (pc := 59) dX12_joins_59 rfl rfl ?_
        refine tz_fR (pc := 60) dX12_joins_60 fl_X12_56 r_164_27 ?_
        refine tz_iload (pc := 63) dX12_joins_63 rfl ?_
        refine tz_aL (pc := 65) (z := z_8) (v := (J 179 z_8)) dX12_joins_65 a_179 rfl (by omega) rfl (fun r_65 => ?_)
        refine tz_aload_n (pc := 66) dX12_joins_66 rfl rfl ?_
        refine tz_fR (pc := 67) dX12_joins_67 fl_X12_56 r_164_27 ?_
        refine tz_iload_n (pc := 70) dX12_joins_70 rfl rfl ?_
        refine tz_aL (pc := 71) (z := z_2) (v := (J 179 z_2)) dX12_joins_71 a_179 rfl (by omega) rfl (fun r_71 => ?_)
        refine tz_icmp_ge (pc := 72) (tgt := 88) dX12_joins_72 (by decide) (by omega) (by omega) (fun h_72 => ?_) (fun h_72 => ?_)
        · have hu := UF.joinP (J := J) (J' := (zup J 177 z_8 z_2)) (c := c) (m := m) (a := z_2) (b := z_8) (v := J 178 z_2) (w := J 179 z_2) hU ⟨a_2, c_2, b_2⟩ ⟨a_8, c_8, b_8⟩ (by omega) (by omega) (by omega) (fun _ => rfl) (zsel (f := J 178)) (zsel (f := J 179))
          have hs := hS.link (p' := ((zup J 177 z_8 z_2) : zJ) 177) (sh' := ((zup J 177 z_8 z_2) : zJ) 178) (lv' := ((zup J 177 z_8 z_2) : zJ) 179) hP ⟨v_2, b_2⟩ ⟨v_8, b_8⟩ (by omega) (fun _ _ => rfl) (fun k _ => by show J 178 k = _; rw [if_neg (show ¬ J 178 z_2 = -1 by omega)]; split; (next e => rw [e]); rfl) (fun _ _ _ => rfl) (fun _ _ => by show J 179 z_2 = _; rw [if_neg (by omega)]) (fun k hk => by have := hk.1; omega)
          refine tz_iload (pc := 88) dX12_joins_88 rfl ?_
          refine tz_iconst (pc := 90) dX12_joins_90 ?_
          refine tz_icmp_eq (pc := 91) (tgt := 100) dX12_joins_91 (by decide) (by omega) (by decide) (fun h_91 => ?_) (fun h_91 => ?_)
          · exact tz_vret (pc := 100) dX12_joins_100 rfl (Nat.le_of_ble_eq_true rfl) (Nat.le_of_ble_eq_true rfl) ⟨Nat.le_refl _, Nat.le_add_right _ _⟩ ⟨rfl, ⟨hu.1, Nat.le_of_lt hu.2, ⟨(zOf.up rfl zOf.rf), (fun _ _ => rfl)⟩, hs, JOP.one hP hx hy t_2 t_8 (by omega) (fun _ _ => rfl) hS (by omega) rfl, rfl⟩⟩
          · refine tz_iload (pc := 94) dX12_joins_94 rfl ?_
            refine tz_iconst (pc := 96) dX12_joins_96 ?_
            refine tz_icmp_ne (pc := 97) (tgt := 101) dX12_joins_97 (by decide) (by omega) (by decide) (fun h_97 => ?_) (fun h_97 => ?_)
            · refine tz_aload_n (pc := 101) dX12_joins_101 rfl rfl ?_
              refine tz_iload (pc := 102) dX12_joins_102 rfl ?_
              refine tz_sipush (pc := 104) dX12_joins_104 (by decide) ?_
              refine tz_irem (pc := 107) (a := (J 178 z_2)) (b := 400) (v := ((J 178 z_2) % 400)) dX12_joins_107 (by omega) (by omega) rfl ?_
              refine tz_cV (pc := 108) (m_head hl n _ _ (by omega) b r d s m (hM.cl (zOf.up rfl zOf.rf) (fun _ _ => rfl)) (by omega)) vl_X12_74 dX12_joins_108 o_164 rfl rfl (Nat.le_of_ble_eq_true rfl) ⟨(show 0 + 1 ≤ 5 + 1 * (r9 + 1) by omega), (show 8 + (2 + 11) + 40 * (0) ≤ 40 * (5 + 1 * (r9 + 1)) by omega)⟩ rfl rfl (Nat.le_of_ble_eq_true rfl) (Nat.le_of_ble_eq_true rfl) (fun r9 J_108 hq9 => ?_)
              obtain ⟨z_108, rfl, hz_108, rfl, hv_108⟩ := hq9
              have he_108 : ((zup J 177 z_8 z_2) : zJ) 166 = J 166 := rfl
              rw [he_108] at hv_108
              refine tz_aload_n (pc := 111) dX12_joins_111 rfl rfl ?_
              refine tz_iload (pc := 112) dX12_joins_112 rfl ?_
              refine tz_sipush (pc := 114) dX12_joins_114 (by decide) ?_
              refine tz_irem (pc := 117) (a := (J 178 z_8)) (b := 400) (v := ((J 178 z_8) % 400)) dX12_joins_117 (by omega) (by omega) rfl ?_
              refine tz_cV (pc := 118) (m_head hl n _ _ (by omega) b r d s m (hM.cl (zOf.up rfl zOf.rf) (fun _ _ => rfl)) (by omega)) vl_X12_74 dX12_joins_118 o_164 rfl rfl (Nat.le_of_ble_eq_true rfl) ⟨(show 0 + 1 ≤ 5 + 1 * (r9 + 1) by omega), (show 8 + (2 + 11) + 40 * (0) ≤ 40 * (5 + 1 * (r9 + 1)) by omega)⟩ rfl rfl (Nat.le_of_ble_eq_true rfl) (Nat.le_of_ble_eq_true rfl) (fun r9 J_118 hq9 => ?_)
              obtain ⟨z_118, rfl, hz_118, rfl, hv_118⟩ := hq9
              have he_118 : ((zup J 177 z_8 z_2) : zJ) 166 = J 166 := rfl
              rw [he_118] at hv_118
              have ha121 := hM.ar (t := (J 178 z_2) % 400) (by omega)
              refine tz_icmp_eq (pc := 121) (tgt := 130) dX12_joins_121 (by decide) (by omega) (by omega) (fun h_121 => ?_) (fun h_121 => ?_)
              · refine tz_iconst (pc := 130) dX12_joins_130 ?_
                refine tz_istore (pc := 131) (L2 := [_, _, _, _, _, _, _, _]) dX12_joins_131 (by decide) rfl ?_
                have loop133 : ∀ (f9 : Nat) (k : Int) (J1 : zJ), ((3 - k).toNat) < f9 → (0 ≤ k ∧ k ≤ 3) → (UF J1 c m) → (rc J1 < rc J) → (zOf (zbut [164, 177, 178, 179, 180]) J1 J ∧ ∀ k, ¬ k = 30 → J1 164 k = J 164 k) → (SHp (VN c m) (hdN H b) (J1 177) (J1 178) (J1 179)) → (JOL c m b d H J x y (J 178 z_2) (J 178 z_8) k J1) → (J1 180 = J 180) → tz_At l G M_X12_joins (tb_rm (5 + 1 * (r9 + 1)) 0 0) none (tb_ZM G 0 0 (zQ n 0 (zqv (fun J' => UF J' c m ∧ rc J' ≤ rc J ∧ (zOf (zbut [164, 177, 178, 179, 180]) J' J ∧ ∀ k, ¬ k = 30 → J' 164 k = J 164 k) ∧ SHp (VN c m) (hdN H b) (J' 177) (J' 178) (J' 179) ∧ JOP c m b d H J x y J' ∧ J' 180 = J 180))) (zX n 0 zN)) 0 0 n J1 133 [some (.ref 164), some (zi x), some (zi y), some (zi z_2), some (zi z_8), some (zi (J 178 z_2)), some (zi (J 178 z_8)), some (zi k)] [] := by
                  intro f9
                  induction f9 with
                  | zero => intro k J1 hm9; exact absurd hm9 (Nat.not_lt_zero _)
                  | succ f9 ih133 =>
                    intro k J1 hm133 hk hU1 hr1 f_J1 hs1 jl hc01
                    have e9 := MS.hd8 (J := J) (b := b) (d := d) (t := (J 178 z_2) % 400) (u := (J 178 z_8) % 400) (by omega)
                    have hA := hM.ar (t := (J 178 z_2) % 400) (by omega)
                    have maH : mar J b d ((J 178 z_2) % 400) = mar H b d ((J 178 z_2) % 400) := by unfold mar; rw [e6, e0]
                    have sa9 := (hS z_2 v_2 b_2).1.resolve_left (by omega)
                    have sb9 := (hS z_8 v_8 b_8).1.resolve_left (by omega)
                    have hl9 : ∀ f, Rsp (VN c m) (J 177) f → f x = f y → f (J 178 z_2) = f (J 178 z_8) := fun f r9 w9 => by rw [hP.eq r9 sa9.1 hx (sa9.2.2.trans t_2.symm), hP.eq r9 sb9.1 hy (sb9.2.2.trans t_8.symm)]; exact w9
                    refine tz_iload (pc := 133) dX12_joins_133 rfl ?_
                    refine tz_aload_n (pc := 135) dX12_joins_135 rfl rfl ?_
                    refine tz_iload (pc := 136) dX12_joins_136 rfl ?_
                    refine tz_sipush (pc := 138) dX12_joins_138 (by decide) ?_
                    refine tz_irem (pc := 141) (a := (J 178 z_2)) (b := 400) (v := ((J 178 z_2) % 400)) dX12_joins_141 (by omega) (by omega) rfl ?_
                    refine tz_cV (pc := 142) (m_arity hl n _ _ (by omega) b r d s m (hM.cl f_J1.1 f_J1.2) (by omega)) vl_X12_111 dX12_joins_142 o_164 rfl rfl (Nat.le_of_ble_eq_true rfl) ⟨(show 2 + 1 ≤ 5 + 1 * (r9 + 1) by omega), (show 8 + (2 + 11) + 40 * (2) ≤ 40 * (5 + 1 * (r9 + 1)) by omega)⟩ rfl rfl (Nat.le_of_ble_eq_true rfl) (Nat.le_of_ble_eq_true rfl) (fun r9 J_142 hq9 => ?_)
                    obtain ⟨z_142, rfl, hz_142, rfl, hv_142⟩ := hq9
                    rw [mar_cl (J := J) f_J1.1] at hv_142
                    refine tz_icmp_ge (pc := 145) (tgt := 174) dX12_joins_145 (by decide) (by omega) (by omega) (fun h_145 => ?_) (fun h_145 => ?_)
                    · exact tz_vret (pc := 174) dX12_joins_174 rfl (Nat.le_of_ble_eq_true rfl) (Nat.le_of_ble_eq_true rfl) ⟨Nat.le_refl _, Nat.le_add_right _ _⟩ ⟨rfl, ⟨hU1, by omega, f_J1, hs1, jl.fin (by unfold arN; rw [← maH]; omega), hc01⟩⟩
                    · refine tz_aload_n (pc := 148) dX12_joins_148 rfl rfl ?_
                      refine tz_aload_n (pc := 149) dX12_joins_149 rfl rfl ?_
                      refine tz_iload (pc := 150) dX12_joins_150 rfl ?_
                      refine tz_iload (pc := 152) dX12_joins_152 rfl ?_
                      refine tz_cV (pc := 154) (x_argOf hl n _ _ _ (by omega) (by omega) b r d s m c (hM.cl f_J1.1 f_J1.2) hU.1 ⟨by omega, by omega⟩ (by rw [mar_cl (J := J) f_J1.1]; omega)) vl_X12_167 dX12_joins_154 o_164 rfl rfl (Nat.le_of_ble_eq_true rfl) ⟨(show 1 + 1 ≤ 5 + 1 * (r9 + 1) by omega), (show 8 + (3 + 11) + 40 * (1) ≤ 40 * (5 + 1 * (r9 + 1)) by omega)⟩ rfl rfl (Nat.le_of_ble_eq_true rfl) (Nat.le_of_ble_eq_true rfl) (fun r9 J_154 hq9 => ?_)
                      obtain ⟨z_154, rfl, hz_154, rfl, hg_154, hh_154⟩ := hq9
                      have ag_154 : z_154 = agN H b ((J 178 z_2)) k := by rw [hh_154]; unfold agN; rw [f_J1.1 167 rfl, e7]
                      refine tz_aload_n (pc := 157) dX12_joins_157 rfl rfl ?_
                      refine tz_iload (pc := 158) dX12_joins_158 rfl ?_
                      refine tz_iload (pc := 160) dX12_joins_160 rfl ?_
                      refine tz_cV (pc := 162) (x_argOf hl n _ _ _ (by omega) (by omega) b r d s m c (hM.cl f_J1.1 f_J1.2) hU.1 ⟨by omega, by omega⟩ (by rw [mar_cl (J := J) f_J1.1]; omega)) vl_X12_167 dX12_joins_162 o_164 rfl rfl (Nat.le_of_ble_eq_true rfl) ⟨(show 1 + 1 ≤ 5 + 1 * (r9 + 1) by omega), (show 8 + (3 + 11) + 40 * (1) ≤ 40 * (5 + 1 * (r9 + 1)) by omega)⟩ rfl rfl (Nat.le_of_ble_eq_true rfl) (Nat.le_of_ble_eq_true rfl) (fun r9 J_162 hq9 => ?_)
                      obtain ⟨z_162, rfl, hz_162, rfl, hg_162, hh_162⟩ := hq9
                      have ag_162 : z_162 = agN H b ((J 178 z_8)) k := by rw [hh_162]; unfold agN; rw [f_J1.1 167 rfl, e7]
                      refine tz_cV (pc := 165) (ih _ _ _ (by omega) (by omega) b r d s m c H (hM.cl f_J1.1 f_J1.2) hU1 hg_154 hg_162 ((f_J1.1 166 rfl).trans e6) ((f_J1.1 167 rfl).trans e7) ((f_J1.1 170 rfl).trans e0) hs1 (by omega)) vl_X12_170 dX12_joins_165 o_164 rfl rfl (Nat.le_of_ble_eq_true rfl) ⟨(show (5 + 1 * r9) + 1 ≤ 5 + 1 * (r9 + 1) by omega), (show 8 + (8 + 11) + 40 * ((5 + 1 * r9)) ≤ 40 * (5 + 1 * (r9 + 1)) by omega)⟩ rfl rfl (Nat.le_of_ble_eq_true rfl) (Nat.le_of_ble_eq_true rfl) (fun r9 J_165 hq9 => ?_)
                      obtain ⟨rfl, u_2, r_2, ⟨g_2, k_2⟩, s_2, j_2, n_2⟩ := hq9
                      rw [ag_154, ag_162] at j_2
                      refine tz_iinc (pc := 168) (z := k + 1) (L2 := [_, _, _, _, _, _, _, _]) dX12_joins_168 rfl (by omega) rfl ?_
                      refine tz_goto (pc := 171) (tgt := 133) dX12_joins_171 (by decide) ?_
                      exact ih133 (k + 1) _ (by omega) (by omega) u_2 (by omega) ⟨g_2.tr f_J1.1, fun k hk => (k_2 k hk).trans (f_J1.2 k hk)⟩ s_2 (jl.step j_2 ⟨by omega, by unfold arN; rw [← maH]; omega⟩ ⟨sa9.1, sa9.2.1⟩ ⟨sb9.1, sb9.2.1⟩ hl9) (n_2.trans hc01)
                exact loop133 _ 0 _ (Nat.lt_succ_self _) (by omega) hu.1 hu.2 ⟨(zOf.up rfl zOf.rf), (fun _ _ => rfl)⟩ hs (JOL.start hP hx hy t_2 t_8 (by omega) (fun _ _ => rfl) hS (by omega) (by omega) (by unfold hdN; rw [← e6]; omega) rfl) rfl
              · refine tz_aload_n (pc := 124) dX12_joins_124 rfl rfl ?_
                refine tz_iconst (pc := 125) dX12_joins_125 ?_
                refine tz_pZ (pc := 126) (kz := 30) dX12_joins_126 fl_X12_161 i_164_30 rfl rfl (Or.inr rfl) ?_
                exact tz_vret (pc := 129) dX12_joins_129 rfl (Nat.le_of_ble_eq_true rfl) (Nat.le_of_ble_eq_true rfl) ⟨Nat.le_refl _, Nat.le_add_right _ _⟩ ⟨rfl, ⟨hu.1.of rfl rfl rfl, Nat.le_of_lt hu.2, ⟨(zOf.up rfl (zOf.up rfl zOf.rf)), (fun k hk => (zup_ne hk).trans ((fun _ _ => rfl) k hk))⟩, hs, JOP.clash hP hx hy t_2 t_8 hS (by omega) (by omega) (by unfold hdN; rw [← e6]; omega) (by rw [zup_at]; decide), rfl⟩⟩
            · exact tz_vret (pc := 100) dX12_joins_100 rfl (Nat.le_of_ble_eq_true rfl) (Nat.le_of_ble_eq_true rfl) ⟨Nat.le_refl _, Nat.le_add_right _ _⟩ ⟨rfl, ⟨hu.1, Nat.le_of_lt hu.2, ⟨(zOf.up rfl zOf.rf), (fun _ _ => rfl)⟩, hs, JOP.one hP hx hy t_2 t_8 (by omega) (fun _ _ => rfl) hS (by omega) rfl, rfl⟩⟩
        · refine tz_aload_n (pc := 75) dX12_joins_75 rfl rfl ?_
          refine tz_fR (pc := 76) dX12_joins_76 fl_X12_56 r_164_27 ?_
          refine tz_iload_n (pc := 79) dX12_joins_79 rfl rfl ?_
          refine tz_aload_n (pc := 80) dX12_joins_80 rfl rfl ?_
          refine tz_fR (pc := 81) dX12_joins_81 fl_X12_56 r_164_27 ?_
          refine tz_iload (pc := 84) dX12_joins_84 rfl ?_
          refine tz_aL (pc := 86) (z := z_8) (v := (J 179 z_8)) dX12_joins_86 a_179 rfl (by omega) rfl (fun r_86 => ?_)
          refine tz_aS (pc := 87) (z := z_2) dX12_joins_87 a_179 rfl (by omega) (by omega) ?_
          have hu := UF.joinP (J := J) (J' := (zup (zup J 177 z_8 z_2) 179 z_2 (J 179 z_8))) (c := c) (m := m) (a := z_2) (b := z_8) (v := J 178 z_2) (w := J 179 z_8) hU ⟨a_2, c_2, b_2⟩ ⟨a_8, c_8, b_8⟩ (by omega) (by omega) (by omega) (fun _ => rfl) (zsel (f := J 178)) (fun _ => rfl)
          have hs := hS.link (p' := ((zup (zup J 177 z_8 z_2) 179 z_2 (J 179 z_8)) : zJ) 177) (sh' := ((zup (zup J 177 z_8 z_2) 179 z_2 (J 179 z_8)) : zJ) 178) (lv' := ((zup (zup J 177 z_8 z_2) 179 z_2 (J 179 z_8)) : zJ) 179) hP ⟨v_2, b_2⟩ ⟨v_8, b_8⟩ (by omega) (fun _ _ => rfl) (fun k _ => by show J 178 k = _; rw [if_neg (show ¬ J 178 z_2 = -1 by omega)]; split; (next e => rw [e]); rfl) (fun k _ q => by show (if k = z_2 then J 179 z_8 else J 179 k) = _; rw [if_neg q]) (fun _ _ => by show (if z_2 = z_2 then J 179 z_8 else J 179 z_2) = _; rw [if_pos rfl, if_pos (by omega)]) (fun k hk => by have := hk.1; omega)
          refine tz_iload (pc := 88) dX12_joins_88 rfl ?_
          refine tz_iconst (pc := 90) dX12_joins_90 ?_
          refine tz_icmp_eq (pc := 91) (tgt := 100) dX12_joins_91 (by decide) (by omega) (by decide) (fun h_91 => ?_) (fun h_91 => ?_)
          · exact tz_vret (pc := 100) dX12_joins_100 rfl (Nat.le_of_ble_eq_true rfl) (Nat.le_of_ble_eq_true rfl) ⟨Nat.le_refl _, Nat.le_add_right _ _⟩ ⟨rfl, ⟨hu.1, Nat.le_of_lt hu.2, ⟨(zOf.up rfl (zOf.up rfl zOf.rf)), (fun _ _ => rfl)⟩, hs, JOP.one hP hx hy t_2 t_8 (by omega) (fun _ _ => rfl) hS (by omega) rfl, rfl⟩⟩
          · refine tz_iload (pc := 94) dX12_joins_94 rfl ?_
            refine tz_iconst (pc := 96) dX12_joins_96 ?_
            refine tz_icmp_ne (pc := 97) (tgt := 101) dX12_joins_97 (by decide) (by omega) (by decide) (fun h_97 => ?_) (fun h_97 => ?_)
            · refine tz_aload_n (pc := 101) dX12_joins_101 rfl rfl ?_
              refine tz_iload (pc := 102) dX12_joins_102 rfl ?_
              refine tz_sipush (pc := 104) dX12_joins_104 (by decide) ?_
              refine tz_irem (pc := 107) (a := (J 178 z_2)) (b := 400) (v := ((J 178 z_2) % 400)) dX12_joins_107 (by omega) (by omega) rfl ?_
              refine tz_cV (pc := 108) (m_head hl n _ _ (by omega) b r d s m (hM.cl (zOf.up rfl (zOf.up rfl zOf.rf)) (fun _ _ => rfl)) (by omega)) vl_X12_74 dX12_joins_108 o_164 rfl rfl (Nat.le_of_ble_eq_true rfl) ⟨(show 0 + 1 ≤ 5 + 1 * (r9 + 1) by omega), (show 8 + (2 + 11) + 40 * (0) ≤ 40 * (5 + 1 * (r9 + 1)) by omega)⟩ rfl rfl (Nat.le_of_ble_eq_true rfl) (Nat.le_of_ble_eq_true rfl) (fun r9 J_108 hq9 => ?_)
              obtain ⟨z_108, rfl, hz_108, rfl, hv_108⟩ := hq9
              have he_108 : ((zup (zup J 177 z_8 z_2) 179 z_2 (J 179 z_8)) : zJ) 166 = J 166 := rfl
              rw [he_108] at hv_108
              refine tz_aload_n (pc := 111) dX12_joins_111 rfl rfl ?_
              refine tz_iload (pc := 112) dX12_joins_112 rfl ?_
              refine tz_sipush (pc := 114) dX12_joins_114 (by decide) ?_
              refine tz_irem (pc := 117) (a := (J 178 z_8)) (b := 400) (v := ((J 178 z_8) % 400)) dX12_joins_117 (by omega) (by omega) rfl ?_
              refine tz_cV (pc := 118) (m_head hl n _ _ (by omega) b r d s m (hM.cl (zOf.up rfl (zOf.up rfl zOf.rf)) (fun _ _ => rfl)) (by omega)) vl_X12_74 dX12_joins_118 o_164 rfl rfl (Nat.le_of_ble_eq_true rfl) ⟨(show 0 + 1 ≤ 5 + 1 * (r9 + 1) by omega), (show 8 + (2 + 11) + 40 * (0) ≤ 40 * (5 + 1 * (r9 + 1)) by omega)⟩ rfl rfl (Nat.le_of_ble_eq_true rfl) (Nat.le_of_ble_eq_true rfl) (fun r9 J_118 hq9 => ?_)
              obtain ⟨z_118, rfl, hz_118, rfl, hv_118⟩ := hq9
              have he_118 : ((zup (zup J 177 z_8 z_2) 179 z_2 (J 179 z_8)) : zJ) 166 = J 166 := rfl
              rw [he_118] at hv_118
              have ha121 := hM.ar (t := (J 178 z_2) % 400) (by omega)
              refine tz_icmp_eq (pc := 121) (tgt := 130) dX12_joins_121 (by decide) (by omega) (by omega) (fun h_121 => ?_) (fun h_121 => ?_)
              · refine tz_iconst (pc := 130) dX12_joins_130 ?_
                refine tz_istore (pc := 131) (L2 := [_, _, _, _, _, _, _, _]) dX12_joins_131 (by decide) rfl ?_
                have loop133 : ∀ (f9 : Nat) (k : Int) (J1 : zJ), ((3 - k).toNat) < f9 → (0 ≤ k ∧ k ≤ 3) → (UF J1 c m) → (rc J1 < rc J) → (zOf (zbut [164, 177, 178, 179, 180]) J1 J ∧ ∀ k, ¬ k = 30 → J1 164 k = J 164 k) → (SHp (VN c m) (hdN H b) (J1 177) (J1 178) (J1 179)) → (JOL c m b d H J x y (J 178 z_2) (J 178 z_8) k J1) → (J1 180 = J 180) → tz_At l G M_X12_joins (tb_rm (5 + 1 * (r9 + 1)) 0 0) none (tb_ZM G 0 0 (zQ n 0 (zqv (fun J' => UF J' c m ∧ rc J' ≤ rc J ∧ (zOf (zbut [164, 177, 178, 179, 180]) J' J ∧ ∀ k, ¬ k = 30 → J' 164 k = J 164 k) ∧ SHp (VN c m) (hdN H b) (J' 177) (J' 178) (J' 179) ∧ JOP c m b d H J x y J' ∧ J' 180 = J 180))) (zX n 0 zN)) 0 0 n J1 133 [some (.ref 164), some (zi x), some (zi y), some (zi z_2), some (zi z_8), some (zi (J 178 z_2)), some (zi (J 178 z_8)), some (zi k)] [] := by
                  intro f9
                  induction f9 with
                  | zero => intro k J1 hm9; exact absurd hm9 (Nat.not_lt_zero _)
                  | succ f9 ih133 =>
                    intro k J1 hm133 hk hU1 hr1 f_J1 hs1 jl hc01
                    have e9 := MS.hd8 (J := J) (b := b) (d := d) (t := (J 178 z_2) % 400) (u := (J 178 z_8) % 400) (by omega)
                    have hA := hM.ar (t := (J 178 z_2) % 400) (by omega)
                    have maH : mar J b d ((J 178 z_2) % 400) = mar H b d ((J 178 z_2) % 400) := by unfold mar; rw [e6, e0]
                    have sa9 := (hS z_2 v_2 b_2).1.resolve_left (by omega)
                    have sb9 := (hS z_8 v_8 b_8).1.resolve_left (by omega)
                    have hl9 : ∀ f, Rsp (VN c m) (J 177) f → f x = f y → f (J 178 z_2) = f (J 178 z_8) := fun f r9 w9 => by rw [hP.eq r9 sa9.1 hx (sa9.2.2.trans t_2.symm), hP.eq r9 sb9.1 hy (sb9.2.2.trans t_8.symm)]; exact w9
                    refine tz_iload (pc := 133) dX12_joins_133 rfl ?_
                    refine tz_aload_n (pc := 135) dX12_joins_135 rfl rfl ?_
                    refine tz_iload (pc := 136) dX12_joins_136 rfl ?_
                    refine tz_sipush (pc := 138) dX12_joins_138 (by decide) ?_
                    refine tz_irem (pc := 141) (a := (J 178 z_2)) (b := 400) (v := ((J 178 z_2) % 400)) dX12_joins_141 (by omega) (by omega) rfl ?_
                    refine tz_cV (pc := 142) (m_arity hl n _ _ (by omega) b r d s m (hM.cl f_J1.1 f_J1.2) (by omega)) vl_X12_111 dX12_joins_142 o_164 rfl rfl (Nat.le_of_ble_eq_true rfl) ⟨(show 2 + 1 ≤ 5 + 1 * (r9 + 1) by omega), (show 8 + (2 + 11) + 40 * (2) ≤ 40 * (5 + 1 * (r9 + 1)) by omega)⟩ rfl rfl (Nat.le_of_ble_eq_true rfl) (Nat.le_of_ble_eq_true rfl) (fun r9 J_142 hq9 => ?_)
                    obtain ⟨z_142, rfl, hz_142, rfl, hv_142⟩ := hq9
                    rw [mar_cl (J := J) f_J1.1] at hv_142
                    refine tz_icmp_ge (pc := 145) (tgt := 174) dX12_joins_145 (by decide) (by omega) (by omega) (fun h_145 => ?_) (fun h_145 => ?_)
                    · exact tz_vret (pc := 174) dX12_joins_174 rfl (Nat.le_of_ble_eq_true rfl) (Nat.le_of_ble_eq_true rfl) ⟨Nat.le_refl _, Nat.le_add_right _ _⟩ ⟨rfl, ⟨hU1, by omega, f_J1, hs1, jl.fin (by unfold arN; rw [← maH]; omega), hc01⟩⟩
                    · refine tz_aload_n (pc := 148) dX12_joins_148 rfl rfl ?_
                      refine tz_aload_n (pc := 149) dX12_joins_149 rfl rfl ?_
                      refine tz_iload (pc := 150) dX12_joins_150 rfl ?_
                      refine tz_iload (pc := 152) dX12_joins_152 rfl ?_
                      refine tz_cV (pc := 154) (x_argOf hl n _ _ _ (by omega) (by omega) b r d s m c (hM.cl f_J1.1 f_J1.2) hU.1 ⟨by omega, by omega⟩ (by rw [mar_cl (J := J) f_J1.1]; omega)) vl_X12_167 dX12_joins_154 o_164 rfl rfl (Nat.le_of_ble_eq_true rfl) ⟨(show 1 + 1 ≤ 5 + 1 * (r9 + 1) by omega), (show 8 + (3 + 11) + 40 * (1) ≤ 40 * (5 + 1 * (r9 + 1)) by omega)⟩ rfl rfl (Nat.le_of_ble_eq_true rfl) (Nat.le_of_ble_eq_true rfl) (fun r9 J_154 hq9 => ?_)
                      obtain ⟨z_154, rfl, hz_154, rfl, hg_154, hh_154⟩ := hq9
                      have ag_154 : z_154 = agN H b ((J 178 z_2)) k := by rw [hh_154]; unfold agN; rw [f_J1.1 167 rfl, e7]
                      refine tz_aload_n (pc := 157) dX12_joins_157 rfl rfl ?_
                      refine tz_iload (pc := 158) dX12_joins_158 rfl ?_
                      refine tz_iload (pc := 160) dX12_joins_160 rfl ?_
                      refine tz_cV (pc := 162) (x_argOf hl n _ _ _ (by omega) (by omega) b r d s m c (hM.cl f_J1.1 f_J1.2) hU.1 ⟨by omega, by omega⟩ (by rw [mar_cl (J := J) f_J1.1]; omega)) vl_X12_167 dX12_joins_162 o_164 rfl rfl (Nat.le_of_ble_eq_true rfl) ⟨(show 1 + 1 ≤ 5 + 1 * (r9 + 1) by omega), (show 8 + (3 + 11) + 40 * (1) ≤ 40 * (5 + 1 * (r9 + 1)) by omega)⟩ rfl rfl (Nat.le_of_ble_eq_true rfl) (Nat.le_of_ble_eq_true rfl) (fun r9 J_162 hq9 => ?_)
                      obtain ⟨z_162, rfl, hz_162, rfl, hg_162, hh_162⟩ := hq9
                      have ag_162 : z_162 = agN H b ((J 178 z_8)) k := by rw [hh_162]; unfold agN; rw [f_J1.1 167 rfl, e7]
                      refine tz_cV (pc := 165) (ih _ _ _ (by omega) (by omega) b r d s m c H (hM.cl f_J1.1 f_J1.2) hU1 hg_154 hg_162 ((f_J1.1 166 rfl).trans e6) ((f_J1.1 167 rfl).trans e7) ((f_J1.1 170 rfl).trans e0) hs1 (by omega)) vl_X12_170 dX12_joins_165 o_164 rfl rfl (Nat.le_of_ble_eq_true rfl) ⟨(show (5 + 1 * r9) + 1 ≤ 5 + 1 * (r9 + 1) by omega), (show 8 + (8 + 11) + 40 * ((5 + 1 * r9)) ≤ 40 * (5 + 1 * (r9 + 1)) by omega)⟩ rfl rfl (Nat.le_of_ble_eq_true rfl) (Nat.le_of_ble_eq_true rfl) (fun r9 J_165 hq9 => ?_)
                      obtain ⟨rfl, u_2, r_2, ⟨g_2, k_2⟩, s_2, j_2, n_2⟩ := hq9
                      rw [ag_154, ag_162] at j_2
                      refine tz_iinc (pc := 168) (z := k + 1) (L2 := [_, _, _, _, _, _, _, _]) dX12_joins_168 rfl (by omega) rfl ?_
                      refine tz_goto (pc := 171) (tgt := 133) dX12_joins_171 (by decide) ?_
                      exact ih133 (k + 1) _ (by omega) (by omega) u_2 (by omega) ⟨g_2.tr f_J1.1, fun k hk => (k_2 k hk).trans (f_J1.2 k hk)⟩ s_2 (jl.step j_2 ⟨by omega, by unfold arN; rw [← maH]; omega⟩ ⟨sa9.1, sa9.2.1⟩ ⟨sb9.1, sb9.2.1⟩ hl9) (n_2.trans hc01)
                exact loop133 _ 0 _ (Nat.lt_succ_self _) (by omega) hu.1 hu.2 ⟨(zOf.up rfl (zOf.up rfl zOf.rf)), (fun _ _ => rfl)⟩ hs (JOL.start hP hx hy t_2 t_8 (by omega) (fun _ _ => rfl) hS (by omega) (by omega) (by unfold hdN; rw [← e6]; omega) rfl) rfl
              · refine tz_aload_n (pc := 124) dX12_joins_124 rfl rfl ?_
                refine tz_iconst (pc := 125) dX12_joins_125 ?_
                refine tz_pZ (pc := 126) (kz := 30) dX12_joins_126 fl_X12_161 i_164_30 rfl rfl (Or.inr rfl) ?_
                exact tz_vret (pc := 129) dX12_joins_129 rfl (Nat.le_of_ble_eq_true rfl) (Nat.le_of_ble_eq_true rfl) ⟨Nat.le_refl _, Nat.le_add_right _ _⟩ ⟨rfl, ⟨hu.1.of rfl rfl rfl, Nat.le_of_lt hu.2, ⟨(zOf.up rfl (zOf.up rfl (zOf.up rfl zOf.rf))), (fun k hk => (zup_ne hk).trans ((fun _ _ => rfl) k hk))⟩, hs, JOP.clash hP hx hy t_2 t_8 hS (by omega) (by omega) (by unfold hdN; rw [← e6]; omega) (by rw [zup_at]; decide), rfl⟩⟩
            · exact tz_vret (pc := 100) dX12_joins_100 rfl (Nat.le_of_ble_eq_true rfl) (Nat.le_of_ble_eq_true rfl) ⟨Nat.le_refl _, Nat.le_add_right _ _⟩ ⟨rfl, ⟨hu.1, Nat.le_of_lt hu.2, ⟨(zOf.up rfl (zOf.up rfl zOf.rf)), (fun _ _ => rfl)⟩, hs, JOP.one hP hx hy t_2 t_8 (by omega) (fun _ _ => rfl) hS (by omega) rfl, rfl⟩⟩
      · refine tz_aload_n (pc := 51) dX12_joins_51 rfl rfl ?_
        refine tz_fR (pc := 52) dX12_joins_52 fl_X12_53 r_164_26 ?_
        refine tz_iload_n (pc := 55) dX12_joins_55 rfl rfl ?_
        refine tz_iload (pc := 56) dX12_joins_56 rfl ?_
        refine tz_aS (pc := 58) (z := z_2) dX12_joins_58 a_178 rfl (by omega) (by omega) ?_
        refine tz_aload_n (pc := 59) dX12_joins_59 rfl rfl ?_
        refine tz_fR (pc := 60) dX12_joins_60 fl_X12_56 r_164_27 ?_
        refine tz_iload (pc := 63) dX12_joins_63 rfl ?_
        refine tz_aL (pc := 65) (z := z_8) (v := (J 179 z_8)) dX12_joins_65 a_179 rfl (by omega) rfl (fun r_65 => ?_)
        refine tz_aload_n (pc := 66) dX12_joins_66 rfl rfl ?_
        refine tz_fR (pc := 67) dX12_joins_67 fl_X12_56 r_164_27 ?_
        refine tz_iload_n (pc := 70) dX12_joins_70 rfl rfl ?_
        refine tz_aL (pc := 71) (z := z_2) (v := (J 179 z_2)) dX12_joins_71 a_179 rfl (by omega) rfl (fun r_71 => ?_)
        refine tz_icmp_ge (pc := 72) (tgt := 88) dX12_joins_72 (by decide) (by omega) (by omega) (fun h_72 => ?_) (fun h_72 => ?_)
        · have hu := UF.joinP (J := J) (J' := (zup (zup J 177 z_8 z_2) 178 z_2 (J 178 z_8))) (c := c) (m := m) (a := z_2) (b := z_8) (v := J 178 z_8) (w := J 179 z_2) hU ⟨a_2, c_2, b_2⟩ ⟨a_8, c_8, b_8⟩ (by omega) (by omega) (by omega) (fun _ => rfl) (fun _ => rfl) (zsel (f := J 179))
          have hs := hS.link (p' := ((zup (zup J 177 z_8 z_2) 178 z_2 (J 178 z_8)) : zJ) 177) (sh' := ((zup (zup J 177 z_8 z_2) 178 z_2 (J 178 z_8)) : zJ) 178) (lv' := ((zup (zup J 177 z_8 z_2) 178 z_2 (J 178 z_8)) : zJ) 179) hP ⟨v_2, b_2⟩ ⟨v_8, b_8⟩ (by omega) (fun _ _ => rfl) (fun k _ => by show (if k = z_2 then J 178 z_8 else J 178 k) = _; rw [if_pos (show J 178 z_2 = -1 by omega)]) (fun _ _ _ => rfl) (fun _ _ => by show J 179 z_2 = _; rw [if_neg (by omega)]) (fun k hk => by have := hk.1; omega)
          refine tz_iload (pc := 88) dX12_joins_88 rfl ?_
          refine tz_iconst (pc := 90) dX12_joins_90 ?_
          refine tz_icmp_eq (pc := 91) (tgt := 100) dX12_joins_91 (by decide) (by omega) (by decide) (fun h_91 => ?_) (fun h_91 => ?_)
          · exact tz_vret (pc := 100) dX12_joins_100 rfl (Nat.le_of_ble_eq_true rfl) (Nat.le_of_ble_eq_true rfl) ⟨Nat.le_refl _, Nat.le_add_right _ _⟩ ⟨rfl, ⟨hu.1, Nat.le_of_lt hu.2, ⟨(zOf.up rfl (zOf.up rfl zOf.rf)), (fun _ _ => rfl)⟩, hs, JOP.one hP hx hy t_2 t_8 (by omega) (fun _ _ => rfl) hS (by omega) rfl, rfl⟩⟩
          · refine tz_iload (pc := 94) dX12_joins_94 rfl ?_
            refine tz_iconst (pc := 96) dX12_joins_96 ?_
            refine tz_icmp_ne (pc := 97) (tgt := 101) dX12_joins_97 (by decide) (by omega) (by decide) (fun h_97 => ?_) (fun h_97 => ?_)
            · refine tz_aload_n (pc := 101) dX12_joins_101 rfl rfl ?_
              refine tz_iload (pc := 102) dX12_joins_102 rfl ?_
              refine tz_sipush (pc := 104) dX12_joins_104 (by decide) ?_
              refine tz_irem (pc := 107) (a := (J 178 z_2)) (b := 400) (v := ((J 178 z_2) % 400)) dX12_joins_107 (by omega) (by omega) rfl ?_
              refine tz_cV (pc := 108) (m_head hl n _ _ (by omega) b r d s m (hM.cl (zOf.up rfl (zOf.up rfl zOf.rf)) (fun _ _ => rfl)) (by omega)) vl_X12_74 dX12_joins_108 o_164 rfl rfl (Nat.le_of_ble_eq_true rfl) ⟨(show 0 + 1 ≤ 5 + 1 * (r9 + 1) by omega), (show 8 + (2 + 11) + 40 * (0) ≤ 40 * (5 + 1 * (r9 + 1)) by omega)⟩ rfl rfl (Nat.le_of_ble_eq_true rfl) (Nat.le_of_ble_eq_true rfl) (fun r9 J_108 hq9 => ?_)
              obtain ⟨z_108, rfl, hz_108, rfl, hv_108⟩ := hq9
              have he_108 : ((zup (zup J 177 z_8 z_2) 178 z_2 (J 178 z_8)) : zJ) 166 = J 166 := rfl
              rw [he_108] at hv_108
              refine tz_aload_n (pc := 111) dX12_joins_111 rfl rfl ?_
              refine tz_iload (pc := 112) dX12_joins_112 rfl ?_
              refine tz_sipush (pc := 114) dX12_joins_114 (by decide) ?_
              refine tz_irem (pc := 117) (a := (J 178 z_8)) (b := 400) (v := ((J 178 z_8) % 400)) dX12_joins_117 (by omega) (by omega) rfl ?_
              refine tz_cV (pc := 118) (m_head hl n _ _ (by omega) b r d s m (hM.cl (zOf.up rfl (zOf.up rfl zOf.rf)) (fun _ _ => rfl)) (by omega)) vl_X12_74 dX12_joins_118 o_164 rfl rfl (Nat.le_of_ble_eq_true rfl) ⟨(show 0 + 1 ≤ 5 + 1 * (r9 + 1) by omega), (show 8 + (2 + 11) + 40 * (0) ≤ 40 * (5 + 1 * (r9 + 1)) by omega)⟩ rfl rfl (Nat.le_of_ble_eq_true rfl) (Nat.le_of_ble_eq_true rfl) (fun r9 J_118 hq9 => ?_)
              obtain ⟨z_118, rfl, hz_118, rfl, hv_118⟩ := hq9
              have he_118 : ((zup (zup J 177 z_8 z_2) 178 z_2 (J 178 z_8)) : zJ) 166 = J 166 := rfl
              rw [he_118] at hv_118
              have ha121 := hM.ar (t := (J 178 z_2) % 400) (by omega)
              refine tz_icmp_eq (pc := 121) (tgt := 130) dX12_joins_121 (by decide) (by omega) (by omega) (fun h_121 => ?_) (fun h_121 => ?_)
              · refine tz_iconst (pc := 130) dX12_joins_130 ?_
                refine tz_istore (pc := 131) (L2 := [_, _, _, _, _, _, _, _]) dX12_joins_131 (by decide) rfl ?_
                have loop133 : ∀ (f9 : Nat) (k : Int) (J1 : zJ), ((3 - k).toNat) < f9 → (0 ≤ k ∧ k ≤ 3) → (UF J1 c m) → (rc J1 < rc J) → (zOf (zbut [164, 177, 178, 179, 180]) J1 J ∧ ∀ k, ¬ k = 30 → J1 164 k = J 164 k) → (SHp (VN c m) (hdN H b) (J1 177) (J1 178) (J1 179)) → (JOL c m b d H J x y (J 178 z_2) (J 178 z_8) k J1) → (J1 180 = J 180) → tz_At l G M_X12_joins (tb_rm (5 + 1 * (r9 + 1)) 0 0) none (tb_ZM G 0 0 (zQ n 0 (zqv (fun J' => UF J' c m ∧ rc J' ≤ rc J ∧ (zOf (zbut [164, 177, 178, 179, 180]) J' J ∧ ∀ k, ¬ k = 30 → J' 164 k = J 164 k) ∧ SHp (VN c m) (hdN H b) (J' 177) (J' 178) (J' 179) ∧ JOP c m b d H J x y J' ∧ J' 180 = J 180))) (zX n 0 zN)) 0 0 n J1 133 [some (.ref 164), some (zi x), some (zi y), some (zi z_2), some (zi z_8), some (zi (J 178 z_2)), some (zi (J 178 z_8)), some (zi k)] [] := by
                  intro f9
                  induction f9 with
                  | zero => intro k J1 hm9; exact absurd hm9 (Nat.not_lt_zero _)
                  | succ f9 ih133 =>
                    intro k J1 hm133 hk hU1 hr1 f_J1 hs1 jl hc01
                    have e9 := MS.hd8 (J := J) (b := b) (d := d) (t := (J 178 z_2) % 400) (u := (J 178 z_8) % 400) (by omega)
                    have hA := hM.ar (t := (J 178 z_2) % 400) (by omega)
                    have maH : mar J b d ((J 178 z_2) % 400) = mar H b d ((J 178 z_2) % 400) := by unfold mar; rw [e6, e0]
                    have sa9 := (hS z_2 v_2 b_2).1.resolve_left (by omega)
                    have sb9 := (hS z_8 v_8 b_8).1.resolve_left (by omega)
                    have hl9 : ∀ f, Rsp (VN c m) (J 177) f → f x = f y → f (J 178 z_2) = f (J 178 z_8) := fun f r9 w9 => by rw [hP.eq r9 sa9.1 hx (sa9.2.2.trans t_2.symm), hP.eq r9 sb9.1 hy (sb9.2.2.trans t_8.symm)]; exact w9
                    refine tz_iload (pc := 133) dX12_joins_133 rfl ?_
                    refine tz_aload_n (pc := 135) dX12_joins_135 rfl rfl ?_
                    refine tz_iload (pc := 136) dX12_joins_136 rfl ?_
                    refine tz_sipush (pc := 138) dX12_joins_138 (by decide) ?_
                    refine tz_irem (pc := 141) (a := (J 178 z_2)) (b := 400) (v := ((J 178 z_2) % 400)) dX12_joins_141 (by omega) (by omega) rfl ?_
                    refine tz_cV (pc := 142) (m_arity hl n _ _ (by omega) b r d s m (hM.cl f_J1.1 f_J1.2) (by omega)) vl_X12_111 dX12_joins_142 o_164 rfl rfl (Nat.le_of_ble_eq_true rfl) ⟨(show 2 + 1 ≤ 5 + 1 * (r9 + 1) by omega), (show 8 + (2 + 11) + 40 * (2) ≤ 40 * (5 + 1 * (r9 + 1)) by omega)⟩ rfl rfl (Nat.le_of_ble_eq_true rfl) (Nat.le_of_ble_eq_true rfl) (fun r9 J_142 hq9 => ?_)
                    obtain ⟨z_142, rfl, hz_142, rfl, hv_142⟩ := hq9
                    rw [mar_cl (J := J) f_J1.1] at hv_142
                    refine tz_icmp_ge (pc := 145) (tgt := 174) dX12_joins_145 (by decide) (by omega) (by omega) (fun h_145 => ?_) (fun h_145 => ?_)
                    · exact tz_vret (pc := 174) dX12_joins_174 rfl (Nat.le_of_ble_eq_true rfl) (Nat.le_of_ble_eq_true rfl) ⟨Nat.le_refl _, Nat.le_add_right _ _⟩ ⟨rfl, ⟨hU1, by omega, f_J1, hs1, jl.fin (by unfold arN; rw [← maH]; omega), hc01⟩⟩
                    · refine tz_aload_n (pc := 148) dX12_joins_148 rfl rfl ?_
                      refine tz_aload_n (pc := 149) dX12_joins_149 rfl rfl ?_
                      refine tz_iload (pc := 150) dX12_joins_150 rfl ?_
                      refine tz_iload (pc := 152) dX12_joins_152 rfl ?_
                      refine tz_cV (pc := 154) (x_argOf hl n _ _ _ (by omega) (by omega) b r d s m c (hM.cl f_J1.1 f_J1.2) hU.1 ⟨by omega, by omega⟩ (by rw [mar_cl (J := J) f_J1.1]; omega)) vl_X12_167 dX12_joins_154 o_164 rfl rfl (Nat.le_of_ble_eq_true rfl) ⟨(show 1 + 1 ≤ 5 + 1 * (r9 + 1) by omega), (show 8 + (3 + 11) + 40 * (1) ≤ 40 * (5 + 1 * (r9 + 1)) by omega)⟩ rfl rfl (Nat.le_of_ble_eq_true rfl) (Nat.le_of_ble_eq_true rfl) (fun r9 J_154 hq9 => ?_)
                      obtain ⟨z_154, rfl, hz_154, rfl, hg_154, hh_154⟩ := hq9
                      have ag_154 : z_154 = agN H b ((J 178 z_2)) k := by rw [hh_154]; unfold agN; rw [f_J1.1 167 rfl, e7]
                      refine tz_aload_n (pc := 157) dX12_joins_157 rfl rfl ?_
                      refine tz_iload (pc := 158) dX12_joins_158 rfl ?_
                      refine tz_iload (pc := 160) dX12_joins_160 rfl ?_
                      refine tz_cV (pc := 162) (x_argOf hl n _ _ _ (by omega) (by omega) b r d s m c (hM.cl f_J1.1 f_J1.2) hU.1 ⟨by omega, by omega⟩ (by rw [mar_cl (J := J) f_J1.1]; omega)) vl_X12_167 dX12_joins_162 o_164 rfl rfl (Nat.le_of_ble_eq_true rfl) ⟨(show 1 + 1 ≤ 5 + 1 * (r9 + 1) by omega), (show 8 + (3 + 11) + 40 * (1) ≤ 40 * (5 + 1 * (r9 + 1)) by omega)⟩ rfl rfl (Nat.le_of_ble_eq_true rfl) (Nat.le_of_ble_eq_true rfl) (fun r9 J_162 hq9 => ?_)
                      obtain ⟨z_162, rfl, hz_162, rfl, hg_162, hh_162⟩ := hq9
                      have ag_162 : z_162 = agN H b ((J 178 z_8)) k := by rw [hh_162]; unfold agN; rw [f_J1.1 167 rfl, e7]
                      refine tz_cV (pc := 165) (ih _ _ _ (by omega) (by omega) b r d s m c H (hM.cl f_J1.1 f_J1.2) hU1 hg_154 hg_162 ((f_J1.1 166 rfl).trans e6) ((f_J1.1 167 rfl).trans e7) ((f_J1.1 170 rfl).trans e0) hs1 (by omega)) vl_X12_170 dX12_joins_165 o_164 rfl rfl (Nat.le_of_ble_eq_true rfl) ⟨(show (5 + 1 * r9) + 1 ≤ 5 + 1 * (r9 + 1) by omega), (show 8 + (8 + 11) + 40 * ((5 + 1 * r9)) ≤ 40 * (5 + 1 * (r9 + 1)) by omega)⟩ rfl rfl (Nat.le_of_ble_eq_true rfl) (Nat.le_of_ble_eq_true rfl) (fun r9 J_165 hq9 => ?_)
                      obtain ⟨rfl, u_2, r_2, ⟨g_2, k_2⟩, s_2, j_2, n_2⟩ := hq9
                      rw [ag_154, ag_162] at j_2
                      refine tz_iinc (pc := 168) (z := k + 1) (L2 := [_, _, _, _, _, _, _, _]) dX12_joins_168 rfl (by omega) rfl ?_
                      refine tz_goto (pc := 171) (tgt := 133) dX12_joins_171 (by decide) ?_
                      exact ih133 (k + 1) _ (by omega) (by omega) u_2 (by omega) ⟨g_2.tr f_J1.1, fun k hk => (k_2 k hk).trans (f_J1.2 k hk)⟩ s_2 (jl.step j_2 ⟨by omega, by unfold arN; rw [← maH]; omega⟩ ⟨sa9.1, sa9.2.1⟩ ⟨sb9.1, sb9.2.1⟩ hl9) (n_2.trans hc01)
                exact loop133 _ 0 _ (Nat.lt_succ_self _) (by omega) hu.1 hu.2 ⟨(zOf.up rfl (zOf.up rfl zOf.rf)), (fun _ _ => rfl)⟩ hs (JOL.start hP hx hy t_2 t_8 (by omega) (fun _ _ => rfl) hS (by omega) (by omega) (by unfold hdN; rw [← e6]; omega) rfl) rfl
              · refine tz_aload_n (pc := 124) dX12_joins_124 rfl rfl ?_
                refine tz_iconst (pc := 125) dX12_joins_125 ?_
                refine tz_pZ (pc := 126) (kz := 30) dX12_joins_126 fl_X12_161 i_164_30 rfl rfl (Or.inr rfl) ?_
                exact tz_vret (pc := 129) dX12_joins_129 rfl (Nat.le_of_ble_eq_true rfl) (Nat.le_of_ble_eq_true rfl) ⟨Nat.le_refl _, Nat.le_add_right _ _⟩ ⟨rfl, ⟨hu.1.of rfl rfl rfl, Nat.le_of_lt hu.2, ⟨(zOf.up rfl (zOf.up rfl (zOf.up rfl zOf.rf))), (fun k hk => (zup_ne hk).trans ((fun _ _ => rfl) k hk))⟩, hs, JOP.clash hP hx hy t_2 t_8 hS (by omega) (by omega) (by unfold hdN; rw [← e6]; omega) (by rw [zup_at]; decide), rfl⟩⟩
            · exact tz_vret (pc := 100) dX12_joins_100 rfl (Nat.le_of_ble_eq_true rfl) (Nat.le_of_ble_eq_true rfl) ⟨Nat.le_refl _, Nat.le_add_right _ _⟩ ⟨rfl, ⟨hu.1, Nat.le_of_lt hu.2, ⟨(zOf.up rfl (zOf.up rfl zOf.rf)), (fun _ _ => rfl)⟩, hs, JOP.one hP hx hy t_2 t_8 (by omega) (fun _ _ => rfl) hS (by omega) rfl, rfl⟩⟩
        · refine tz_aload_n (pc := 75) dX12_joins_75 rfl rfl ?_
          refine tz_fR (pc := 76) dX12_joins_76 fl_X12_56 r_164_27 ?_
          refine tz_iload_n (pc := 79) dX12_joins_79 rfl rfl ?_
          refine tz_aload_n (pc := 80) dX12_joins_80 rfl rfl ?_
          refine tz_fR (pc := 81) dX12_joins_81 fl_X12_56 r_164_27 ?_
          refine tz_iload (pc := 84) dX12_joins_84 rfl ?_
          refine tz_aL (pc := 86) (z := z_8) (v := (J 179 z_8)) dX12_joins_86 a_179 rfl (by omega) rfl (fun r_86 => ?_)
          refine tz_aS (pc := 87) (z := z_2) dX12_joins_87 a_179 rfl (by omega) (by omega) ?_
          have hu := UF.joinP (J := J) (J' := (zup (zup (zup J 177 z_8 z_2) 178 z_2 (J 178 z_8)) 179 z_2 (J 179 z_8))) (c := c) (m := m) (a := z_2) (b := z_8) (v := J 178 z_8) (w := J 179 z_8) hU ⟨a_2, c_2, b_2⟩ ⟨a_8, c_8, b_8⟩ (by omega) (by omega) (by omega) (fun _ => rfl) (fun _ => rfl) (fun _ => rfl)
          have hs := hS.link (p' := ((zup (zup (zup J 177 z_8 z_2) 178 z_2 (J 178 z_8)) 179 z_2 (J 179 z_8)) : zJ) 177) (sh' := ((zup (zup (zup J 177 z_8 z_2) 178 z_2 (J 178 z_8)) 179 z_2 (J 179 z_8)) : zJ) 178) (lv' := ((zup (zup (zup J 177 z_8 z_2) 178 z_2 (J 178 z_8)) 179 z_2 (J 179 z_8)) : zJ) 179) hP ⟨v_2, b_2⟩ ⟨v_8, b_8⟩ (by omega) (fun _ _ => rfl) (fun k _ => by show (if k = z_2 then J 178 z_8 else J 178 k) = _; rw [if_pos (show J 178 z_2 = -1 by omega)]) (fun k _ q => by show (if k = z_2 then J 179 z_8 else J 179 k) = _; rw [if_neg q]) (fun _ _ => by show (if z_2 = z_2 then J 179 z_8 else J 179 z_2) = _; rw [if_pos rfl, if_pos (by omega)]) (fun k hk => by have := hk.1; omega)
          refine tz_iload (pc := 88) dX12_joins_88 rfl ?_
          refine tz_iconst (pc := 90) dX12_joins_90 ?_
          refine tz_icmp_eq (pc := 91) (tgt := 100) dX12_joins_91 (by decide) (by omega) (by decide) (fun h_91 => ?_) (fun h_91 => ?_)
          · exact tz_vret (pc := 100) dX12_joins_100 rfl (Nat.le_of_ble_eq_true rfl) (Nat.le_of_ble_eq_true rfl) ⟨Nat.le_refl _, Nat.le_add_right _ _⟩ ⟨rfl, ⟨hu.1, Nat.le_of_lt hu.2, ⟨(zOf.up rfl (zOf.up rfl (zOf.up rfl zOf.rf))), (fun _ _ => rfl)⟩, hs, JOP.one hP hx hy t_2 t_8 (by omega) (fun _ _ => rfl) hS (by omega) rfl, rfl⟩⟩
          · refine tz_iload (pc := 94) dX12_joins_94 rfl ?_
            refine tz_iconst (pc := 96) dX12_joins_96 ?_
            refine tz_icmp_ne (pc := 97) (tgt := 101) dX12_joins_97 (by decide) (by omega) (by decide) (fun h_97 => ?_) (fun h_97 => ?_)
            · refine tz_aload_n (pc := 101) dX12_joins_101 rfl rfl ?_
              refine tz_iload (pc := 102) dX12_joins_102 rfl ?_
              refine tz_sipush (pc := 104) dX12_joins_104 (by decide) ?_
              refine tz_irem (pc := 107) (a := (J 178 z_2)) (b := 400) (v := ((J 178 z_2) % 400)) dX12_joins_107 (by omega) (by omega) rfl ?_
              refine tz_cV (pc := 108) (m_head hl n _ _ (by omega) b r d s m (hM.cl (zOf.up rfl (zOf.up rfl (zOf.up rfl zOf.rf))) (fun _ _ => rfl)) (by omega)) vl_X12_74 dX12_joins_108 o_164 rfl rfl (Nat.le_of_ble_eq_true rfl) ⟨(show 0 + 1 ≤ 5 + 1 * (r9 + 1) by omega), (show 8 + (2 + 11) + 40 * (0) ≤ 40 * (5 + 1 * (r9 + 1)) by omega)⟩ rfl rfl (Nat.le_of_ble_eq_true rfl) (Nat.le_of_ble_eq_true rfl) (fun r9 J_108 hq9 => ?_)
              obtain ⟨z_108, rfl, hz_108, rfl, hv_108⟩ := hq9
              have he_108 : ((zup (zup (zup J 177 z_8 z_2) 178 z_2 (J 178 z_8)) 179 z_2 (J 179 z_8)) : zJ) 166 = J 166 := rfl
              rw [he_108] at hv_108
              refine tz_aload_n (pc := 111) dX12_joins_111 rfl rfl ?_
              refine tz_iload (pc := 112) dX12_joins_112 rfl ?_
              refine tz_sipush (pc := 114) dX12_joins_114 (by decide) ?_
              refine tz_irem (pc := 117) (a := (J 178 z_8)) (b := 400) (v := ((J 178 z_8) % 400)) dX12_joins_117 (by omega) (by omega) rfl ?_
              refine tz_cV (pc := 118) (m_head hl n _ _ (by omega) b r d s m (hM.cl (zOf.up rfl (zOf.up rfl (zOf.up rfl zOf.rf))) (fun _ _ => rfl)) (by omega)) vl_X12_74 dX12_joins_118 o_164 rfl rfl (Nat.le_of_ble_eq_true rfl) ⟨(show 0 + 1 ≤ 5 + 1 * (r9 + 1) by omega), (show 8 + (2 + 11) + 40 * (0) ≤ 40 * (5 + 1 * (r9 + 1)) by omega)⟩ rfl rfl (Nat.le_of_ble_eq_true rfl) (Nat.le_of_ble_eq_true rfl) (fun r9 J_118 hq9 => ?_)
              obtain ⟨z_118, rfl, hz_118, rfl, hv_118⟩ := hq9
              have he_118 : ((zup (zup (zup J 177 z_8 z_2) 178 z_2 (J 178 z_8)) 179 z_2 (J 179 z_8)) : zJ) 166 = J 166 := rfl
              rw [he_118] at hv_118
              have ha121 := hM.ar (t := (J 178 z_2) % 400) (by omega)
              refine tz_icmp_eq (pc := 121) (tgt := 130) dX12_joins_121 (by decide) (by omega) (by omega) (fun h_121 => ?_) (fun h_121 => ?_)
              · refine tz_iconst (pc := 130) dX12_joins_130 ?_
                refine tz_istore (pc := 131) (L2 := [_, _, _, _, _, _, _, _]) dX12_joins_131 (by decide) rfl ?_
                have loop133 : ∀ (f9 : Nat) (k : Int) (J1 : zJ), ((3 - k).toNat) < f9 → (0 ≤ k ∧ k ≤ 3) → (UF J1 c m) → (rc J1 < rc J) → (zOf (zbut [164, 177, 178, 179, 180]) J1 J ∧ ∀ k, ¬ k = 30 → J1 164 k = J 164 k) → (SHp (VN c m) (hdN H b) (J1 177) (J1 178) (J1 179)) → (JOL c m b d H J x y (J 178 z_2) (J 178 z_8) k J1) → (J1 180 = J 180) → tz_At l G M_X12_joins (tb_rm (5 + 1 * (r9 + 1)) 0 0) none (tb_ZM G 0 0 (zQ n 0 (zqv (fun J' => UF J' c m ∧ rc J' ≤ rc J ∧ (zOf (zbut [164, 177, 178, 179, 180]) J' J ∧ ∀ k, ¬ k = 30 → J' 164 k = J 164 k) ∧ SHp (VN c m) (hdN H b) (J' 177) (J' 178) (J' 179) ∧ JOP c m b d H J x y J' ∧ J' 180 = J 180))) (zX n 0 zN)) 0 0 n J1 133 [some (.ref 164), some (zi x), some (zi y), some (zi z_2), some (zi z_8), some (zi (J 178 z_2)), some (zi (J 178 z_8)), some (zi k)] [] := by
                  intro f9
                  induction f9 with
                  | zero => intro k J1 hm9; exact absurd hm9 (Nat.not_lt_zero _)
                  | succ f9 ih133 =>
                    intro k J1 hm133 hk hU1 hr1 f_J1 hs1 jl hc01
                    have e9 := MS.hd8 (J := J) (b := b) (d := d) (t := (J 178 z_2) % 400) (u := (J 178 z_8) % 400) (by omega)
                    have hA := hM.ar (t := (J 178 z_2) % 400) (by omega)
                    have maH : mar J b d ((J 178 z_2) % 400) = mar H b d ((J 178 z_2) % 400) := by unfold mar; rw [e6, e0]
                    have sa9 := (hS z_2 v_2 b_2).1.resolve_left (by omega)
                    have sb9 := (hS z_8 v_8 b_8).1.resolve_left (by omega)
                    have hl9 : ∀ f, Rsp (VN c m) (J 177) f → f x = f y → f (J 178 z_2) = f (J 178 z_8) := fun f r9 w9 => by rw [hP.eq r9 sa9.1 hx (sa9.2.2.trans t_2.symm), hP.eq r9 sb9.1 hy (sb9.2.2.trans t_8.symm)]; exact w9
                    refine tz_iload (pc := 133) dX12_joins_133 rfl ?_
                    refine tz_aload_n (pc := 135) dX12_joins_135 rfl rfl ?_
                    refine tz_iload (pc := 136) dX12_joins_136 rfl ?_
                    refine tz_sipush (pc := 138) dX12_joins_138 (by decide) ?_
                    refine tz_irem (pc := 141) (a := (J 178 z_2)) (b := 400) (v := ((J 178 z_2) % 400)) dX12_joins_141 (by omega) (by omega) rfl ?_
                    refine tz_cV (pc := 142) (m_arity hl n _ _ (by omega) b r d s m (hM.cl f_J1.1 f_J1.2) (by omega)) vl_X12_111 dX12_joins_142 o_164 rfl rfl (Nat.le_of_ble_eq_true rfl) ⟨(show 2 + 1 ≤ 5 + 1 * (r9 + 1) by omega), (show 8 + (2 + 11) + 40 * (2) ≤ 40 * (5 + 1 * (r9 + 1)) by omega)⟩ rfl rfl (Nat.le_of_ble_eq_true rfl) (Nat.le_of_ble_eq_true rfl) (fun r9 J_142 hq9 => ?_)
                    obtain ⟨z_142, rfl, hz_142, rfl, hv_142⟩ := hq9
                    rw [mar_cl (J := J) f_J1.1] at hv_142
                    refine tz_icmp_ge (pc := 145) (tgt := 174) dX12_joins_145 (by decide) (by omega) (by omega) (fun h_145 => ?_) (fun h_145 => ?_)
                    · exact tz_vret (pc := 174) dX12_joins_174 rfl (Nat.le_of_ble_eq_true rfl) (Nat.le_of_ble_eq_true rfl) ⟨Nat.le_refl _, Nat.le_add_right _ _⟩ ⟨rfl, ⟨hU1, by omega, f_J1, hs1, jl.fin (by unfold arN; rw [← maH]; omega), hc01⟩⟩
                    · refine tz_aload_n (pc := 148) dX12_joins_148 rfl rfl ?_
                      refine tz_aload_n (pc := 149) dX12_joins_149 rfl rfl ?_
                      refine tz_iload (pc := 150) dX12_joins_150 rfl ?_
                      refine tz_iload (pc := 152) dX12_joins_152 rfl ?_
                      refine tz_cV (pc := 154) (x_argOf hl n _ _ _ (by omega) (by omega) b r d s m c (hM.cl f_J1.1 f_J1.2) hU.1 ⟨by omega, by omega⟩ (by rw [mar_cl (J := J) f_J1.1]; omega)) vl_X12_167 dX12_joins_154 o_164 rfl rfl (Nat.le_of_ble_eq_true rfl) ⟨(show 1 + 1 ≤ 5 + 1 * (r9 + 1) by omega), (show 8 + (3 + 11) + 40 * (1) ≤ 40 * (5 + 1 * (r9 + 1)) by omega)⟩ rfl rfl (Nat.le_of_ble_eq_true rfl) (Nat.le_of_ble_eq_true rfl) (fun r9 J_154 hq9 => ?_)
                      obtain ⟨z_154, rfl, hz_154, rfl, hg_154, hh_154⟩ := hq9
                      have ag_154 : z_154 = agN H b ((J 178 z_2)) k := by rw [hh_154]; unfold agN; rw [f_J1.1 167 rfl, e7]
                      refine tz_aload_n (pc := 157) dX12_joins_157 rfl rfl ?_
                      refine tz_iload (pc := 158) dX12_joins_158 rfl ?_
                      refine tz_iload (pc := 160) dX12_joins_160 rfl ?_
                      refine tz_cV (pc := 162) (x_argOf hl n _ _ _ (by omega) (by omega) b r d s m c (hM.cl f_J1.1 f_J1.2) hU.1 ⟨by omega, by omega⟩ (by rw [mar_cl (J := J) f_J1.1]; omega)) vl_X12_167 dX12_joins_162 o_164 rfl rfl (Nat.le_of_ble_eq_true rfl) ⟨(show 1 + 1 ≤ 5 + 1 * (r9 + 1) by omega), (show 8 + (3 + 11) + 40 * (1) ≤ 40 * (5 + 1 * (r9 + 1)) by omega)⟩ rfl rfl (Nat.le_of_ble_eq_true rfl) (Nat.le_of_ble_eq_true rfl) (fun r9 J_162 hq9 => ?_)
                      obtain ⟨z_162, rfl, hz_162, rfl, hg_162, hh_162⟩ := hq9
                      have ag_162 : z_162 = agN H b ((J 178 z_8)) k := by rw [hh_162]; unfold agN; rw [f_J1.1 167 rfl, e7]
                      refine tz_cV (pc := 165) (ih _ _ _ (by omega) (by omega) b r d s m c H (hM.cl f_J1.1 f_J1.2) hU1 hg_154 hg_162 ((f_J1.1 166 rfl).trans e6) ((f_J1.1 167 rfl).trans e7) ((f_J1.1 170 rfl).trans e0) hs1 (by omega)) vl_X12_170 dX12_joins_165 o_164 rfl rfl (Nat.le_of_ble_eq_true rfl) ⟨(show (5 + 1 * r9) + 1 ≤ 5 + 1 * (r9 + 1) by omega), (show 8 + (8 + 11) + 40 * ((5 + 1 * r9)) ≤ 40 * (5 + 1 * (r9 + 1)) by omega)⟩ rfl rfl (Nat.le_of_ble_eq_true rfl) (Nat.le_of_ble_eq_true rfl) (fun r9 J_165 hq9 => ?_)
                      obtain ⟨rfl, u_2, r_2, ⟨g_2, k_2⟩, s_2, j_2, n_2⟩ := hq9
                      rw [ag_154, ag_162] at j_2
                      refine tz_iinc (pc := 168) (z := k + 1) (L2 := [_, _, _, _, _, _, _, _]) dX12_joins_168 rfl (by omega) rfl ?_
                      refine tz_goto (pc := 171) (tgt := 133) dX12_joins_171 (by decide) ?_
                      exact ih133 (k + 1) _ (by omega) (by omega) u_2 (by omega) ⟨g_2.tr f_J1.1, fun k hk => (k_2 k hk).trans (f_J1.2 k hk)⟩ s_2 (jl.step j_2 ⟨by omega, by unfold arN; rw [← maH]; omega⟩ ⟨sa9.1, sa9.2.1⟩ ⟨sb9.1, sb9.2.1⟩ hl9) (n_2.trans hc01)
                exact loop133 _ 0 _ (Nat.lt_succ_self _) (by omega) hu.1 hu.2 ⟨(zOf.up rfl (zOf.up rfl (zOf.up rfl zOf.rf))), (fun _ _ => rfl)⟩ hs (JOL.start hP hx hy t_2 t_8 (by omega) (fun _ _ => rfl) hS (by omega) (by omega) (by unfold hdN; rw [← e6]; omega) rfl) rfl
              · refine tz_aload_n (pc := 124) dX12_joins_124 rfl rfl ?_
                refine tz_iconst (pc := 125) dX12_joins_125 ?_
                refine tz_pZ (pc := 126) (kz := 30) dX12_joins_126 fl_X12_161 i_164_30 rfl rfl (Or.inr rfl) ?_
                exact tz_vret (pc := 129) dX12_joins_129 rfl (Nat.le_of_ble_eq_true rfl) (Nat.le_of_ble_eq_true rfl) ⟨Nat.le_refl _, Nat.le_add_right _ _⟩ ⟨rfl, ⟨hu.1.of rfl rfl rfl, Nat.le_of_lt hu.2, ⟨(zOf.up rfl (zOf.up rfl (zOf.up rfl (zOf.up rfl zOf.rf)))), (fun k hk => (zup_ne hk).trans ((fun _ _ => rfl) k hk))⟩, hs, JOP.clash hP hx hy t_2 t_8 hS (by omega) (by omega) (by unfold hdN; rw [← e6]; omega) (by rw [zup_at]; decide), rfl⟩⟩
            · exact tz_vret (pc := 100) dX12_joins_100 rfl (Nat.le_of_ble_eq_true rfl) (Nat.le_of_ble_eq_true rfl) ⟨Nat.le_refl _, Nat.le_add_right _ _⟩ ⟨rfl, ⟨hu.1, Nat.le_of_lt hu.2, ⟨(zOf.up rfl (zOf.up rfl (zOf.up rfl zOf.rf))), (fun _ _ => rfl)⟩, hs, JOP.one hP hx hy t_2 t_8 (by omega) (fun _ _ => rfl) hS (by omega) rfl, rfl⟩⟩
    · exact tz_vret (pc := 19) dX12_joins_19 rfl (Nat.le_of_ble_eq_true rfl) (Nat.le_of_ble_eq_true rfl) ⟨Nat.le_refl _, Nat.le_add_right _ _⟩ ⟨rfl, ⟨hU, Nat.le_refl _, ⟨zOf.rf, fun _ _ => rfl⟩, hS, JOP.same hP hx hy (by omega), rfl⟩⟩

theorem x_joins {l : Launch} {G : tb_G} (hl : l.stackTraces = false) (n : Nat) (J : zJ) (x y : Int) (hr_x : -2147483648 ≤ x ∧ x < 2147483648) (hr_y : -2147483648 ≤ y ∧ y < 2147483648) (b r d s m : Int) (c : Int) (H : zJ) (hM : MS J b r d s m) (hU : UF J c m) (hx : VN c m x) (hy : VN c m y) (e6 : J 166 = H 166) (e7 : J 167 = H 167) (e0 : J 170 = H 170) (hS : SHp (VN c m) (hdN H b) (J 177) (J 178) (J 179)) : tz_Ok l G M_X12_joins 806 0 0 [.ref 164, zi x, zi y] n J (zqv (fun J' => UF J' c m ∧ rc J' ≤ rc J ∧ (zOf (zbut [164, 177, 178, 179, 180]) J' J ∧ ∀ k, ¬ k = 30 → J' 164 k = J 164 k) ∧ SHp (VN c m) (hdN H b) (J' 177) (J' 178) (J' 179) ∧ JOP c m b d H J x y J' ∧ J' 180 = J 180)) zN := x_joinsR hl n 801 J x y hr_x hr_y b r d s m c H hM hU hx hy e6 e7 e0 hS (by have := cnt_n (p := fun k => decide (J 177 k = k)) 800; unfold rc; omega)
