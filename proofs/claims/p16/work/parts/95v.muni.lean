/-! ===== unify of the reference, the call ===== -/
theorem MOP.mgb {Jo Jb : zJ} {s m m' : Int} (g : MG [] [] rB Jo Jb 0 0 0 s m m') : MOP Jo Jb m := by
  obtain ⟨g1, g2, ⟨f1, f2, f3, f4⟩, g4⟩ := g
  have rb : ∀ k, 63 ≤ k → rB k = false := fun k a => by unfold rB; exact decide_eq_false (by omega)
  refine ⟨⟨fun k a => f2 k (by omega) (rb k (by omega)), fun k a b => f1.1 k (by omega), fun k a b => f1.2 k (by omega), f3 12 rfl, f3 13 rfl⟩, fun k a => f2 k (by omega) (rb k a), ⟨f3 9 rfl, f3 10 rfl, f3 11 rfl⟩, fun t a b => ?_, fun k a b => ?_, fun k _ _ => ⟨by rw [f4 169 rfl], by rw [f4 170 rfl], by rw [f4 171 rfl]⟩⟩
  · have := (g2 t a b).1
    rw [Int.zero_add] at this
    exact this
  · have := (g2 (k / 3) (by omega) (by omega)).2 (k % 3) (by omega) (by omega)
    rw [show 3 * (0 + k / 3) + k % 3 = k from by omega] at this
    exact this
/-- two tables, alike where one looks -/
def ALK (V : Int → Prop) (hd hd' ar ar' : Int → Int) (ag ag' : Int → Int → Int) : Prop := ∀ x, V x → hd' x = hd x ∧ ar' x = ar x ∧ ar x ≤ 3 ∧ ∀ i, 0 ≤ i → i < 3 → ag' x i = ag x i
theorem ALK.sy {V : Int → Prop} {hd hd' ar ar' : Int → Int} {ag ag' : Int → Int → Int} (e : ALK V hd hd' ar ar' ag ag') : ALK V hd' hd ar' ar ag' ag := fun x hx => by
  obtain ⟨a, b, c, d⟩ := e x hx
  exact ⟨a.symm, b.symm, by omega, fun i p q => (d i p q).symm⟩
theorem ALK.cg {V : Int → Prop} {hd hd' ar ar' : Int → Int} {ag ag' : Int → Int → Int} {f : Int → Int} (e : ALK V hd hd' ar ar' ag ag') (h : CGm V hd ar ag f) : CGm V hd' ar' ag' f := fun x y hx hy q h1 h2 => by
  obtain ⟨a1, b1, c1, d1⟩ := e x hx
  obtain ⟨a2, b2, c2, d2⟩ := e y hy
  rw [a1] at h1 ⊢
  rw [a2] at h2 ⊢
  rw [b1]
  obtain ⟨p, r⟩ := h x y hx hy q h1 h2
  exact ⟨p, fun i i0 iA => by rw [d1 i i0 (by omega), d2 i i0 (by omega)]; exact r i i0 iA⟩
theorem ALK.lc {V : Int → Prop} {hd hd' ar ar' : Int → Int} {ag ag' : Int → Int → Int} {s t u v : Int} (e : ALK V hd hd' ar ar' ag ag') : LCu V hd ar ag s t u v ↔ LCu V hd' ar' ag' s t u v := ⟨fun h f g q => h f (e.sy.cg g) q, fun h f g q => h f (e.cg g) q⟩
theorem ALK.nr {V : Int → Prop} {hd hd' ar ar' : Int → Int} {ag ag' : Int → Int → Int} {s t : Int} (e : ALK V hd hd' ar ar' ag ag') (h : NRu V hd ar ag (LCu V hd ar ag s t) s) : NRu V hd' ar' ag' (LCu V hd' ar' ag' s t) s := by
  obtain ⟨rk, P, p, w1, w2⟩ := h
  refine ⟨rk, P, p, fun x y hx hy r q => w1 x y hx hy (e.lc.2 r) q, fun x hx q hh i i0 iA => ?_⟩
  obtain ⟨a, b, c, d⟩ := e x hx
  rw [a] at hh
  rw [b] at iA
  rw [d i i0 (by omega)]
  exact w2 x hx q hh i i0 iA
theorem ALK.up {H S : zJ} {m s t z : Int} {p sh lv : Int → Int} (e : ALK (VN 400 m) (hdN H 0) (hdN S 0) (arN H 0 0) (arN S 0 0) (agN H 0) (agN S 0)) (h : UPO 400 m 0 0 H s t p sh lv z) : UPO 400 m 0 0 S s t p sh lv z := by
  rcases h with ⟨a, b⟩ | ⟨⟨f, g, q⟩, U, hS, K, b⟩
  · exact Or.inl ⟨a, fun ⟨f, g, q⟩ => b ⟨f, e.sy.cg g, q⟩⟩
  · refine Or.inr ⟨⟨f, e.cg g, q⟩, U, fun a ha r => ?_, fun u v hu hv => (K u v hu hv).trans e.lc, b.imp (fun ⟨y, n⟩ => ⟨y, e.nr n⟩) (fun ⟨y, n⟩ => ⟨y, fun k => n (e.sy.nr k)⟩)⟩
    obtain ⟨k1, k2⟩ := hS a ha r
    refine ⟨k1.imp id (fun k => ⟨k.1, by rw [(e _ k.1).1]; exact k.2.1, k.2.2⟩), fun n => ?_⟩
    obtain ⟨x1, u, hu, e1, e2⟩ := k2 n
    exact ⟨fun u hu q => by rw [(e u hu).1]; exact x1 u hu q, u, hu, e1, by rw [(e u hu).1]; exact e2⟩
theorem alk_z {H J : zJ} {s m : Int} (hM : MS J 0 0 0 s m) (e6 : H 166 = J 166) (e7 : H 167 = J 167) (e0 : H 170 = J 170) : ALK (VN 400 m) (hdN H 0) (hdN (tbz J) 0) (arN H 0 0) (arN (tbz J) 0 0) (agN H 0) (agN (tbz J) 0) := fun x hx => by
  have hT := hM.told
  have z := hx.z
  obtain ⟨a1, b1, c1⟩ := hdN_4 (S := H) hx
  obtain ⟨a2, b2, c2⟩ := hdN_4 (S := tbz J) hx
  have oa := hM.oa z
  have oa2 : mar (tbz J) 0 0 x = mar J 0 0 x := oa.2
  have a3 := (hM.ar z).1
  have eH : mar H 0 0 x = mar J 0 0 x := by unfold mar; rw [e6, e0]
  refine ⟨?_, ?_, by rw [b1, eH]; omega, fun i p q => ?_⟩
  · rw [a1, a2, e6]; exact oa.1
  · rw [b1, b2, eH]; exact oa2
  · rw [c1, c2, e7]
    show (if 0 ≤ 3 * (0 + x) + i ∧ 3 * (0 + x) + i < 1200 then J 167 (3 * (0 + x) + i) else 0) = _
    rw [if_pos (by omega)]
theorem mrho_mk {J J2 : zJ} {m : Int} {p sh lv ρ : Int → Int} (hm : m ≤ 400) (H : SHp (VN 400 m) (hdN (tbz J) 0) p sh lv) (U : UFp (VN 400 m) p) (R : RHO (tbz J) m (tp p) sh lv ρ) (e6 : J2 166 = J 166) (e1 : J2 177 = p) (e2 : J2 178 = sh) (e3 : J2 179 = lv) : mRHO J2 m ρ := fun t ht => by
  obtain ⟨a, b, c⟩ := R t ht
  have r := U.root ht
  obtain ⟨l1, l2⟩ := sol_lv H r.2 r.1
  rw [e1, e2, e3, e6]
  have za := a.z
  refine ⟨a, fun n => ?_, fun n => ⟨c n, ?_⟩⟩
  · rw [← b n]; exact (tbz_6 (by omega)).symm
  · obtain ⟨y1, y2⟩ := l2 n
    have zy := y1.z
    rw [tbz_6 (by omega)] at y2
    rw [c n]; exact y2
theorem ref_bt {J2 J : zJ} {m s x y a b : Int} (hM : MS J2 0 0 0 s m) (e : tb0 J2 = tbz J) (hx : 0 ≤ x ∧ x < m) (hy : 0 ≤ y ∧ y < m) (ha : ∀ v, (0 ≤ v ∧ v < 8) → (bt a v ↔ Occ J2 0 0 x v)) (hb : ∀ v, (0 ≤ v ∧ v < 8) → (bt b v ↔ Occ J2 0 0 y v)) : (∀ v, 0 ≤ v → v < 8 → (bt (zor a b) v ↔ Occ (tbz J) 0 0 x v ∨ Occ (tbz J) 0 0 y v)) ∧ ∀ v, 0 ≤ v → v < 8 → bt (zor a b) v → ∃ t, (0 ≤ t ∧ t < m) ∧ J2 166 (0 + t) = -1 - v := by
  refine ⟨fun v p q => ?_, fun v p q w => ?_⟩
  · rw [bt_or, ha v ⟨p, q⟩, hb v ⟨p, q⟩, ← e, hM.oc hx, hM.oc hy]
  · rw [bt_or, ha v ⟨p, q⟩, hb v ⟨p, q⟩] at w
    rcases w with ⟨k, o⟩ | ⟨k, o⟩
    · exact hM.ond k x v hx o
    · exact hM.ond k y v hy o
theorem uni_end {Jb Jo J' S : zJ} {ρ : Int → Int} {bs n m s m' z : Int} {R : Int → Int → Int} (hb : tb0 Jb = S) (hS : S 165 0 = m) (hm : m ≤ 400) (hA : ∀ q, 0 ≤ q → q < 63 → Jb 165 (63 + q) = S 165 q) (u : MUr Jb n R) (hn : 0 ≤ n ∧ n ≤ 40) (h11 : 0 ≤ Jb 164 11 ∧ Jb 164 11 < 40) (g : MG [] [] rB Jo Jb 0 0 0 s m m') (x : WKB ρ bs Jb Jo 8) (k : (¬ Jo 164 21 = 0 ∧ -3 = z ∧ zOf (zbut [172]) J' (zmv Jo 165 63 0 63)) ∨ (Jo 164 21 = 0 ∧ 1 = z ∧ ((¬ Jo 164 10 = 40 ∧ zkL Jo = J') ∨ (Jo 164 10 = 40 ∧ zkF Jo = J')))) : MED S n R (bnO ρ bs S 8, 1) J' z ∧ MFI J' Jb := by
  have p := MOP.mgb g
  by_cases f : Jo 164 21 = 0
  · have e := x.1 f
    rw [hb] at e
    refine mact_end (F := (bnO ρ bs S 8, 1)) hb hS hm hA u hn h11 p e ?_ (fun _ => rfl) k
    show bnO ρ bs S 8 165 0 ≤ 400
    rw [← e]
    show Jo 165 0 ≤ 400
    have t9 := g.1.1.told
    have s9 := g.1.1.2.2.2.2.1
    omega
  · have e := x.2 f
    rw [hb] at e
    rcases k with ⟨_, k2, k3⟩ | ⟨k1, _⟩
    · obtain ⟨w1, w2⟩ := mact_fail hb hS hm hA u hn h11 p k3
      exact ⟨Or.inl ⟨e, k2.symm, w1.1, w1.2⟩, w2⟩
    · exact absurd k1 f
theorem AE5 {J' Jb J S : zJ} {n z x y m : Int} {ρ : Int → Int} {bs : Int} {R : Int → Int → Int} {P Q : Prop} (q : MQr J' J) (b : MFI Jb J) (e : MED S n R (bnO ρ bs S 8, 1) J' z ∧ MFI J' Jb) (p : P) (u : UEX S m x y) (r : NRQ S m x y) (g : GSOL S m x y ρ) (w : ∀ v, 0 ≤ v → v < 8 → (bt bs v ↔ Occ S 0 0 x v ∨ Occ S 0 0 y v)) : MQr J' J ∧ MFI J' J ∧ ((P ∧ UEX S m x y ∧ NRQ S m x y ∧ ∃ ρ bs, GSOL S m x y ρ ∧ (∀ v, 0 ≤ v → v < 8 → (bt bs v ↔ Occ S 0 0 x v ∨ Occ S 0 0 y v)) ∧ MED S n R (bnO ρ bs S 8, 1) J' z) ∨ Q) := ⟨q, b.tr e.2, Or.inl ⟨p, u, r, ρ, bs, g, w, e.1⟩⟩
set_option maxHeartbeats 4000000 in
set_option maxRecDepth 100000 in
theorem v_qunify {l : Launch} {G : tb_G} (hl : l.stackTraces = false) (n : Nat) (J : zJ) (x : Int) (y : Int) (hr_x : -2147483648 ≤ x ∧ x < 2147483648) (hr_y : -2147483648 ≤ y ∧ y < 2147483648) (m : Int) (pn : Int) (RR : Int → Int → Int) (hI : MI J m) (u9 : MUr J pn RR) : tz_Ok l G M_X12_unify 808 0 0 [.ref 164, zi x, zi y] n J (zqi (fun z J' => MQr J' J ∧ MFI J' J ∧ ((((0 ≤ x ∧ x < J 165 0) ∧ (0 ≤ y ∧ y < J 165 0)) ∧ UEX (tbz J) m x y ∧ NRQ (tbz J) m x y ∧ ∃ ρ bs, GSOL (tbz J) m x y ρ ∧ (∀ v, 0 ≤ v → v < 8 → (bt bs v ↔ Occ (tbz J) 0 0 x v ∨ Occ (tbz J) 0 0 y v)) ∧ MED (tbz J) pn RR (bnO ρ bs (tbz J) 8, 1) J' z) ∨ (((0 ≤ x ∧ x < J 165 0) ∧ (0 ≤ y ∧ y < J 165 0)) ∧ ¬ UEX (tbz J) m x y ∧ z = 0 ∧ MBT J' (tbz J) ∧ MUr J' pn RR) ∨ (((0 ≤ x ∧ x < J 165 0) ∧ (0 ≤ y ∧ y < J 165 0)) ∧ UEX (tbz J) m x y ∧ ¬ NRQ (tbz J) m x y ∧ z = 2 ∧ MBT J' (tbz J) ∧ MUr J' pn RR) ∨ (¬ ((0 ≤ x ∧ x < J 165 0) ∧ (0 ≤ y ∧ y < J 165 0)) ∧ z = -1 ∧ MBT J' (tbz J) ∧ MUr J' pn RR)))) zN := by
  refine tz_Ok.of hl (by decide +kernel) rfl (tb_c1 rfl) (Nat.le_of_ble_eq_true rfl) ?_
  show tz_At l G M_X12_unify (tb_rm 808 0 0) none (tb_ZM G 0 0 (zQ n 0 (zqi (fun z J' => MQr J' J ∧ MFI J' J ∧ ((((0 ≤ x ∧ x < J 165 0) ∧ (0 ≤ y ∧ y < J 165 0)) ∧ UEX (tbz J) m x y ∧ NRQ (tbz J) m x y ∧ ∃ ρ bs, GSOL (tbz J) m x y ρ ∧ (∀ v, 0 ≤ v → v < 8 → (bt bs v ↔ Occ (tbz J) 0 0 x v ∨ Occ (tbz J) 0 0 y v)) ∧ MED (tbz J) pn RR (bnO ρ bs (tbz J) 8, 1) J' z) ∨ (((0 ≤ x ∧ x < J 165 0) ∧ (0 ≤ y ∧ y < J 165 0)) ∧ ¬ UEX (tbz J) m x y ∧ z = 0 ∧ MBT J' (tbz J) ∧ MUr J' pn RR) ∨ (((0 ≤ x ∧ x < J 165 0) ∧ (0 ≤ y ∧ y < J 165 0)) ∧ UEX (tbz J) m x y ∧ ¬ NRQ (tbz J) m x y ∧ z = 2 ∧ MBT J' (tbz J) ∧ MUr J' pn RR) ∨ (¬ ((0 ≤ x ∧ x < J 165 0) ∧ (0 ≤ y ∧ y < J 165 0)) ∧ z = -1 ∧ MBT J' (tbz J) ∧ MUr J' pn RR))))) (zX n 0 zN)) 0 0 n J 0 [some (.ref 164), some (zi x), some (zi y), none] []
  have hT := hI.told
  have hW := hI.row
  have hM := hI.1
  have hL := hI.2.1
  refine tz_aload_n (pc := 0) dX12_unify_0 rfl rfl ?_
  refine tz_iconst (pc := 1) dX12_unify_1 ?_
  refine tz_pI (pc := 2) (kz := 8) dX12_unify_2 fl_X12_68 i_164_8 rfl rfl (by decide) ?_
  refine tz_aload_n (pc := 5) dX12_unify_5 rfl rfl ?_
  refine tz_iload_n (pc := 6) dX12_unify_6 rfl rfl ?_
  refine tz_cV (pc := 7) (m_isTerm hl n _ _ (by omega) (by rw [(show ((zup J 164 8 0) : zJ) 165 0 = (J 165 0) from rfl)]; omega)) vl_X12_376 dX12_unify_7 o_164 rfl rfl (Nat.le_of_ble_eq_true rfl) ⟨(Nat.le_of_ble_eq_true rfl), (Nat.le_of_ble_eq_true rfl)⟩ rfl rfl (Nat.le_of_ble_eq_true rfl) (Nat.le_of_ble_eq_true rfl) (fun r9 J_7 hq9 => ?_)
  obtain ⟨z_7, rfl, hz_7, rfl, ht_7⟩ := hq9
  rw [(show ((zup J 164 8 0) : zJ) 165 0 = (J 165 0) from rfl)] at ht_7
  refine tz_if_eq (pc := 10) (tgt := 21) dX12_unify_10 (by decide) (by omega) (fun h_10 => ?_) (fun h_10 => ?_)
  · refine tz_aload_n (pc := 21) dX12_unify_21 rfl rfl ?_
    refine tz_iconst (pc := 22) dX12_unify_22 ?_
    refine tz_iconst (pc := 23) dX12_unify_23 ?_
    refine tz_cV (pc := 24) (m_refuses hl n _ _ _ (by decide) (by decide) (by decide)) vl_X12_391 dX12_unify_24 o_164 rfl rfl (Nat.le_of_ble_eq_true rfl) ⟨(Nat.le_of_ble_eq_true rfl), (Nat.le_of_ble_eq_true rfl)⟩ rfl rfl (Nat.le_of_ble_eq_true rfl) (Nat.le_of_ble_eq_true rfl) (fun r9 J_24 hq9 => ?_)
    obtain ⟨z_24, rfl, hz_24, rfl, f_24⟩ := hq9
    have y_24 : MZ J_24 J := MZ.tr (MZ.up (k := 8) MZ.rf (by decide)) (MZ.c f_24 (by decide))
    exact tz_iret (pc := 27) (z := (-1)) dX12_unify_27 rfl (Nat.le_of_ble_eq_true rfl) (Nat.le_of_ble_eq_true rfl) ⟨Nat.le_refl _, Nat.le_add_right _ _⟩ ⟨_, rfl, (by decide), ⟨MQr.z hI y_24, MFI.z y_24, Or.inr (Or.inr (Or.inr ⟨by omega, rfl, MBT.z hI y_24, u9.z y_24⟩))⟩⟩
  · refine tz_aload_n (pc := 13) dX12_unify_13 rfl rfl ?_
    refine tz_iload_n (pc := 14) dX12_unify_14 rfl rfl ?_
    refine tz_cV (pc := 15) (m_isTerm hl n _ _ (by omega) (by rw [(show ((zup J 164 8 0) : zJ) 165 0 = (J 165 0) from rfl)]; omega)) vl_X12_376 dX12_unify_15 o_164 rfl rfl (Nat.le_of_ble_eq_true rfl) ⟨(Nat.le_of_ble_eq_true rfl), (Nat.le_of_ble_eq_true rfl)⟩ rfl rfl (Nat.le_of_ble_eq_true rfl) (Nat.le_of_ble_eq_true rfl) (fun r9 J_15 hq9 => ?_)
    obtain ⟨z_15, rfl, hz_15, rfl, ht_15⟩ := hq9
    rw [(show ((zup J 164 8 0) : zJ) 165 0 = (J 165 0) from rfl)] at ht_15
    refine tz_if_ne (pc := 18) (tgt := 28) dX12_unify_18 (by decide) (by omega) (fun h_18 => ?_) (fun h_18 => ?_)
    · refine tz_aload_n (pc := 28) dX12_unify_28 rfl rfl ?_
      refine tz_iload_n (pc := 29) dX12_unify_29 rfl rfl ?_
      refine tz_iload_n (pc := 30) dX12_unify_30 rfl rfl ?_
      refine tz_cV (pc := 31) (x_unifies hl n _ _ _ (by omega) (by omega) 0 0 0 (J 164 9) m 400 (hM.z (MZ.up (k := 8) MZ.rf (by decide))) (Or.inl rfl) ⟨by omega, by omega⟩ ⟨by omega, by omega⟩) vl_X12_189 dX12_unify_31 o_164 rfl rfl (Nat.le_of_ble_eq_true rfl) ⟨(Nat.le_of_ble_eq_true rfl), (Nat.le_of_ble_eq_true rfl)⟩ rfl rfl (Nat.le_of_ble_eq_true rfl) (Nat.le_of_ble_eq_true rfl) (fun r9 J_31 hq9 => ?_)
      obtain ⟨z_31, rfl, hz_31, ⟨u_31, b_31, f_31, l_31⟩, v_31⟩ := hq9
      have x_31 : MZ J_31 (zup J 164 8 0) := MZ.f ⟨f_31, l_31⟩ (by decide) (by decide)
      have y_31 := MZ.tr (MZ.up (k := 8) MZ.rf (by decide)) x_31
      have z_318 := (alk_z (H := (zup J 164 8 0)) hM ((MZ.up (k := 8) MZ.rf (by decide)).1 166 rfl) ((MZ.up (k := 8) MZ.rf (by decide)).1 167 rfl) ((MZ.up (k := 8) MZ.rf (by decide)).1 170 rfl)).up v_31
      refine tz_istore_n (pc := 34) (L2 := [_, _, _, _]) dX12_unify_34 rfl (by decide) rfl ?_
      refine tz_iload_n (pc := 35) dX12_unify_35 rfl rfl ?_
      refine tz_iconst (pc := 36) dX12_unify_36 ?_
      refine tz_icmp_eq (pc := 37) (tgt := 47) dX12_unify_37 (by decide) (by omega) (by decide) (fun h_37 => ?_) (fun h_37 => ?_)
      · refine tz_aload_n (pc := 47) dX12_unify_47 rfl rfl ?_
        refine tz_cV (pc := 48) (m_begins hl n _) vl_X12_400 dX12_unify_48 o_164 rfl rfl (Nat.le_of_ble_eq_true rfl) ⟨(Nat.le_of_ble_eq_true rfl), (Nat.le_of_ble_eq_true rfl)⟩ rfl rfl (Nat.le_of_ble_eq_true rfl) (Nat.le_of_ble_eq_true rfl) (fun r9 J_48 hq9 => ?_)
        obtain ⟨rfl, hj_48⟩ := hq9
        have a_48 : AM J_48 J m m := by rw [← hj_48]; exact AM.begin (hI.z y_31) ⟨MZ.lo y_31, SC.z y_31⟩
        have br_48 : ∀ k, (k < 63 ∨ 126 ≤ k) → J_48 165 k = (J_31 : zJ) 165 k := fun k hk => by rw [← hj_48]; exact zbg_r hk
        have bl_48 : ∀ k, ¬ k = 34 → ¬ k = 33 → ¬ k = 21 → J_48 164 k = (J_31 : zJ) 164 k := fun k u v w => by rw [← hj_48]; exact zbg_f u v w
        have bo_48 : zOf (zbut [164, 165]) J_48 J_31 := by rw [← hj_48]; exact zbg_of
        have b3_48 : J_48 164 21 = 0 ∧ J_48 164 33 = 0 ∧ J_48 164 34 = 0 := by rw [← hj_48]; exact ⟨rfl, rfl, rfl⟩
        have s9_48 : J_48 164 9 = J 164 9 := (bl_48 9 (by decide) (by decide) (by decide)).trans (y_31.2 9 (by decide) (by decide))
        obtain ⟨⟨bt_48, bs_48, bm_48, ba_48⟩, bu_48, bn_48, bf_48, bi_48⟩ := mbeg hI y_31 hj_48 u9
        refine tz_aload_n (pc := 51) dX12_unify_51 rfl rfl ?_
        refine tz_aload_n (pc := 52) dX12_unify_52 rfl rfl ?_
        refine tz_iload_n (pc := 53) dX12_unify_53 rfl rfl ?_
        refine tz_cV (pc := 54) (m_varsX hl n _ _ (by omega) 0 0 0 (J_48 164 9) m a_48.1.1 (by omega)) vl_X12_126 dX12_unify_54 o_164 rfl rfl (Nat.le_of_ble_eq_true rfl) ⟨(Nat.le_of_ble_eq_true rfl), (Nat.le_of_ble_eq_true rfl)⟩ rfl rfl (Nat.le_of_ble_eq_true rfl) (Nat.le_of_ble_eq_true rfl) (fun r9 J_54 hq9 => ?_)
        obtain ⟨zv_54, rfl, hz_54, rfl, hv_54⟩ := hq9
        have hw_54 := hv_54
        refine tz_aload_n (pc := 57) dX12_unify_57 rfl rfl ?_
        refine tz_iload_n (pc := 58) dX12_unify_58 rfl rfl ?_
        refine tz_cV (pc := 59) (m_varsX hl n _ _ (by omega) 0 0 0 (J_48 164 9) m a_48.1.1 (by omega)) vl_X12_126 dX12_unify_59 o_164 rfl rfl (Nat.le_of_ble_eq_true rfl) ⟨(Nat.le_of_ble_eq_true rfl), (Nat.le_of_ble_eq_true rfl)⟩ rfl rfl (Nat.le_of_ble_eq_true rfl) (Nat.le_of_ble_eq_true rfl) (fun r9 J_59 hq9 => ?_)
        obtain ⟨zv_59, rfl, hz_59, rfl, hv_59⟩ := hq9
        have hw_59 := hv_59
        refine tz_ior (pc := 62) (v := zor zv_54 zv_59) dX12_unify_62 rfl ?_
        obtain ⟨ue9, nr9, U9, S9, K9⟩ := uni_yes z_318 (by omega)
        obtain ⟨ρ9, R9, q9⟩ := sol_mk U9 S9
        have mr9 := mrho_mk (J2 := J_48) (by have := hM.told; omega) S9 U9 R9 ((bo_48 166 rfl).trans (y_31.1 166 rfl)) (bo_48 177 rfl) (bo_48 178 rfl) (bo_48 179 rfl)
        obtain ⟨bt9, nd9⟩ := ref_bt a_48.1.1 bt_48 (by omega) (by omega) hv_54 hv_59
        refine tz_cV (pc := 63) (x_binds hl n _ _ (zor_rg _ _) (J_48 164 9) m ρ9 a_48.1.1 rfl (u_31.of (bo_48 177 rfl) (bo_48 178 rfl) (bo_48 179 rfl)) mr9 nd9) vl_X12_412 dX12_unify_63 o_164 rfl rfl (Nat.le_of_ble_eq_true rfl) ⟨(Nat.le_of_ble_eq_true rfl), (Nat.le_of_ble_eq_true rfl)⟩ rfl rfl (Nat.le_of_ble_eq_true rfl) (Nat.le_of_ble_eq_true rfl) (fun r9 J_63 hq9 => ?_)
        obtain ⟨rfl, ⟨m_63, g_63, h_63⟩, x_63⟩ := hq9
        have a_63 := AM.binds a_48 g_63 h_63 rfl
        have lm_63 := a_63.1.2.2
        refine tz_aload_n (pc := 66) dX12_unify_66 rfl rfl ?_
        refine tz_iconst (pc := 67) dX12_unify_67 ?_
        refine tz_cV (pc := 68) (m_keeps hl n _ _ (by decide) (a_63).2.2.2.1.1.1 (a_63).2.2.2.1.1.2) vl_X12_403 dX12_unify_68 o_164 rfl rfl (Nat.le_of_ble_eq_true rfl) ⟨(Nat.le_of_ble_eq_true rfl), (Nat.le_of_ble_eq_true rfl)⟩ rfl rfl (Nat.le_of_ble_eq_true rfl) (Nat.le_of_ble_eq_true rfl) (fun r9 J_68 hq9 => ?_)
        obtain ⟨z_68, rfl, hz_68, k_68⟩ := hq9
        exact tz_iret (pc := 71) (z := z_68) dX12_unify_71 rfl (Nat.le_of_ble_eq_true rfl) (Nat.le_of_ble_eq_true rfl) ⟨Nat.le_refl _, Nat.le_add_right _ _⟩ ⟨_, rfl, (by omega), (AE5 (AM.keep a_63 k_68) bi_48 (uni_end bt_48 bs_48 bm_48 ba_48 bu_48 bn_48 bf_48 g_63 x_63 k_68) (by omega) ue9 nr9 ⟨_, _, _, U9, S9, K9, R9⟩ bt9)⟩
      · refine tz_aload_n (pc := 40) dX12_unify_40 rfl rfl ?_
        refine tz_iconst (pc := 41) dX12_unify_41 ?_
        refine tz_iload_n (pc := 42) dX12_unify_42 rfl rfl ?_
        refine tz_cV (pc := 43) (m_refuses hl n _ _ _ (by decide) (by omega) (by decide)) vl_X12_391 dX12_unify_43 o_164 rfl rfl (Nat.le_of_ble_eq_true rfl) ⟨(Nat.le_of_ble_eq_true rfl), (Nat.le_of_ble_eq_true rfl)⟩ rfl rfl (Nat.le_of_ble_eq_true rfl) (Nat.le_of_ble_eq_true rfl) (fun r9 J_43 hq9 => ?_)
        obtain ⟨z_43, rfl, hz_43, rfl, f_43⟩ := hq9
        have y_43 : MZ J_43 J := MZ.tr y_31 (MZ.c f_43 (by decide))
        exact tz_iret (pc := 46) (z := z_31) dX12_unify_46 rfl (Nat.le_of_ble_eq_true rfl) (Nat.le_of_ble_eq_true rfl) ⟨Nat.le_refl _, Nat.le_add_right _ _⟩ ⟨_, rfl, (by omega), ⟨MQr.z hI y_43, MFI.z y_43, Or.inr ((uni_no z_318 (by omega)).elim (fun q => Or.inl ⟨by omega, q.1, q.2, MBT.z hI y_43, u9.z y_43⟩) (fun q => Or.inr (Or.inl ⟨by omega, q.1, q.2.1, q.2.2, MBT.z hI y_43, u9.z y_43⟩)))⟩⟩
    · refine tz_aload_n (pc := 21) dX12_unify_21 rfl rfl ?_
      refine tz_iconst (pc := 22) dX12_unify_22 ?_
      refine tz_iconst (pc := 23) dX12_unify_23 ?_
      refine tz_cV (pc := 24) (m_refuses hl n _ _ _ (by decide) (by decide) (by decide)) vl_X12_391 dX12_unify_24 o_164 rfl rfl (Nat.le_of_ble_eq_true rfl) ⟨(Nat.le_of_ble_eq_true rfl), (Nat.le_of_ble_eq_true rfl)⟩ rfl rfl (Nat.le_of_ble_eq_true rfl) (Nat.le_of_ble_eq_true rfl) (fun r9 J_24 hq9 => ?_)
      obtain ⟨z_24, rfl, hz_24, rfl, f_24⟩ := hq9
      have y_24 : MZ J_24 J := MZ.tr (MZ.up (k := 8) MZ.rf (by decide)) (MZ.c f_24 (by decide))
      exact tz_iret (pc := 27) (z := (-1)) dX12_unify_27 rfl (Nat.le_of_ble_eq_true rfl) (Nat.le_of_ble_eq_true rfl) ⟨Nat.le_refl _, Nat.le_add_right _ _⟩ ⟨_, rfl, (by decide), ⟨MQr.z hI y_24, MFI.z y_24, Or.inr (Or.inr (Or.inr ⟨by omega, rfl, MBT.z hI y_24, u9.z y_24⟩))⟩⟩

