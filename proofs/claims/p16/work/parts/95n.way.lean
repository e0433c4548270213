/-! ===== wayOf of the class, exact ===== -/
theorem WAY.lst {c m s t k a : Int} {S J : zJ} (h : WAY c m S s t J k) (hv : VN c m a) (ra : upV J a = a) (aw : J 146 a = J 145 10) (h8 : ∀ u, VN c m u → -8 ≤ hdN S 0 u) (w : J 148 a = -1) : -8 ≤ J 7 (tm (J 149 a)) ∧ J 7 (tm (J 149 a)) < 0 := by
  have e1 : usV J a = -1 := by unfold usV; rw [if_pos aw]; exact w
  have e2 : ulV J a = -1 - J 7 (tm (J 149 a)) := by unfold ulV; rw [if_pos aw]
  obtain ⟨x1, u, hu, eu, el⟩ := (h.2.1 a hv ra).2 e1
  have := (x1 u hu eu).1
  have := h8 u hu
  omega
/-- the class's nodes are those of the functions -/
def NDE (c m : Int) (S J : zJ) : Prop := ∀ u, VN c m u → hdN S 0 u = J 7 (tm u) ∧ arN S 0 0 u = J 8 (tm u) ∧ (0 ≤ J 8 (tm u) ∧ J 8 (tm u) ≤ 3) ∧ ∀ i, 0 ≤ i → i < J 8 (tm u) → agN S 0 u i = J 9 (tm u * 3 + i) + sd u
theorem NDE.of {c m : Int} {S J' J : zJ} (h : NDE c m S J) (e7 : J' 7 = J 7) (e8 : J' 8 = J 8) (e9 : J' 9 = J 9) : NDE c m S J' := by
  unfold NDE
  rw [e7, e8, e9]
  exact h
theorem nde_mk {b c m : Int} {J S : zJ} (E : A0 J S) (C : CT J m) (hm : J 6 12 = m) (hbc : (b = 0 ∧ c = 400) ∨ (b = 400 ∧ c = 800)) : NDE c m S J := fun u hu => by
  have t := C.told.2
  have n := (nd.vn hbc t).2 hu
  have i := n.ix t
  have w := a0_nd E C hm n
  exact ⟨w.2.1, w.1, (C.ar i.1 i.2).1, w.2.2⟩
theorem way_next {c m s t k a b1 z : Int} {S J J' : zJ} (hc : c = 400 ∨ c = 800) (h : WAY c m S s t J k) (hk : 0 ≤ k ∧ k < J 145 11) (v1 : VN c m (J 151 k)) (v2 : VN c m (J 152 k)) (ea : tp (upV J) (J 151 k) = a) (eb : tp (upV J) (J 152 k) = b1) (aa : J 146 a = J 145 10) (ab : J 146 b1 = J 145 10) (N : NDE c m S J) (q : UJN c m J J' a b1 z) (hz : z = 1) : WAY c m S s t J' (k + 1) := by
  have sa : usV J a = J 148 a := by unfold usV; rw [if_pos aa]
  have sb : usV J b1 = J 148 b1 := by unfold usV; rw [if_pos ab]
  have ra := h.1.root v1
  have rb := h.1.root v2
  rw [ea] at ra
  rw [eb] at rb
  rcases q with ⟨q1, _, q3⟩ | ⟨q1, q2, q3⟩
  · rw [← q3]
    exact h.same v1 v2 (by rw [ea, eb]; exact q1)
  · refine h.join hc hk v1 v2 ea eb q1 q2 ?_
    rw [sa, sb]
    rcases q3 with ⟨u1, _, u3, u4, u5⟩ | ⟨u1, u2, u3⟩
    · exact Or.inl ⟨u1, u3, u4, u5⟩
    · have na := (h.2.1 a ra.2 ra.1).1.resolve_left (by rw [sa]; exact u1)
      have nb := (h.2.1 b1 rb.2 rb.1).1.resolve_left (by rw [sb]; exact u2)
      rw [sa] at na
      rw [sb] at nb
      obtain ⟨n1, n2, n3, n4⟩ := N _ na.1
      obtain ⟨o1, o2, o3, o4⟩ := N _ nb.1
      rcases u3 with ⟨w, _⟩ | ⟨_, w2, w3⟩
      · omega
      · have ha : J 8 (tm (J 148 b1)) = J 8 (tm (J 148 a)) := by
          rw [← o2, ← n2]
          unfold arN mar
          have e : hdN S 0 (J 148 b1) = hdN S 0 (J 148 a) := by rw [n1, o1]; exact w2.symm
          unfold hdN at e
          rw [e]
        refine Or.inr ⟨u1, u2, by rw [n1, o1]; exact w2, fun l => ⟨_, ⟨n2, n3⟩, (w3 l).1, (w3 l).2.1, fun i i0 i1 => ?_⟩⟩
        rw [n4 i i0 i1, o4 i i0 (by omega)]
        exact (w3 l).2.2 i i0 i1
theorem way_clash {c m s t k a b1 z : Int} {S J J' : zJ} (h : WAY c m S s t J k) (hk : 0 ≤ k ∧ k < J 145 11) (v1 : VN c m (J 151 k)) (v2 : VN c m (J 152 k)) (ea : tp (upV J) (J 151 k) = a) (eb : tp (upV J) (J 152 k) = b1) (aa : J 146 a = J 145 10) (ab : J 146 b1 = J 145 10) (N : NDE c m S J) (q : UJN c m J J' a b1 z) (hz : z = 0) : ¬ ∃ f, CGm (VN c m) (hdN S 0) (arN S 0 0) (agN S 0) f ∧ f s = f t := by
  have sa : usV J a = J 148 a := by unfold usV; rw [if_pos aa]
  have sb : usV J b1 = J 148 b1 := by unfold usV; rw [if_pos ab]
  have ra := h.1.root v1
  have rb := h.1.root v2
  rw [ea] at ra
  rw [eb] at rb
  rcases q with ⟨_, q2, _⟩ | ⟨q1, q2, q3⟩
  · omega
  · rcases q3 with ⟨u1, u2, _⟩ | ⟨u1, u2, u3⟩
    · omega
    · have na := (h.2.1 a ra.2 ra.1).1.resolve_left (by rw [sa]; exact u1)
      have nb := (h.2.1 b1 rb.2 rb.1).1.resolve_left (by rw [sb]; exact u2)
      rw [sa] at na
      rw [sb] at nb
      rcases u3 with ⟨_, w⟩ | ⟨w, _⟩
      · refine h.no hk v1 v2 ea eb (by rw [sa]; exact u1) (by rw [sb]; exact u2) ?_
        rw [sa, sb, (N _ na.1).1, (N _ nb.1).1]
        exact w
      · omega
/-- the end of it -/
theorem way_end {c m s t k x z f g : Int} {S J J' : zJ} (h : WAY c m S s t J k) (hk : J 145 11 ≤ k) (hs : VN c m s) (ex : tp (upV J) s = x) (v : vF c m J' J) (q1 : g < f → ¬ NRu (VN c m) (hdN S 0) (arN S 0 0) (agN S 0) (fun u v => tp (upV J) u = tp (upV J) v) x) (q2 : (∀ u, VN c m u → 0 ≤ hdN S 0 u → ¬ usV J (tp (upV J) u) = -1) → CGm (VN c m) (hdN S 0) (arN S 0 0) (agN S 0) (tp (upV J)) → f ≤ g → NRu (VN c m) (hdN S 0) (arN S 0 0) (agN S 0) (fun u v => tp (upV J) u = tp (upV J) v) x) (hz : (g < f ∧ z = 2) ∨ (f ≤ g ∧ z = 1)) : UPO c m 0 0 S s t (upV J') (usV J') (ulV J') z := by
  obtain ⟨g1, g2, g3⟩ := h.fin hk
  have U := h.1
  have rx := U.root hs
  rw [ex] at rx
  have sx : tp (upV J) s = tp (upV J) x := by rw [tp_r rx.1]; exact ex
  refine Or.inr ⟨⟨_, g1, g2⟩, v.1, h.2.1.eqt U v.2.1 (fun y hy => (v.2.2 y hy).1) (fun y hy => (v.2.2 y hy).2.1), fun u w hu hw => by rw [v.2.1 u hu, v.2.1 w hw]; exact g3 u w hu hw, ?_⟩
  rcases hz with ⟨hz, e⟩ | ⟨hz, e⟩
  · refine Or.inr ⟨e, fun ⟨rk, P, p, w⟩ => q1 hz ?_⟩
    exact ⟨rk, P, (w.1 s x hs rx.2 ((g3 s x hs rx.2).1 sx) p).1, w.cg (fun u y hu hy => (g3 u y hu hy).1)⟩
  · refine Or.inl ⟨e, ?_⟩
    have hN : ∀ u, VN c m u → 0 ≤ hdN S 0 u → ¬ usV J (tp (upV J) u) = -1 := fun u hu h0 n => by
      have r := U.root hu
      have := (((h.2.1 _ r.2 r.1).2 n).1 u hu rfl).1
      omega
    obtain ⟨rk, P, p, w⟩ := q2 hN g1 hz
    exact ⟨rk, P, (w.1 x s rx.2 hs sx.symm p).1, w.cg (fun u y hu hy => (g3 u y hu hy).2)⟩
set_option maxHeartbeats 4000000 in
set_option maxRecDepth 100000 in
theorem u_wayOf {l : Launch} {G : tb_G} (hl : l.stackTraces = false) (n : Nat) (J : zJ) (s : Int) (t : Int) (b : Int) (hr_s : -2147483648 ≤ s ∧ s < 2147483648) (hr_t : -2147483648 ≤ t ∧ t < 2147483648) (hr_b : -2147483648 ≤ b ∧ b < 2147483648) (m c : Int) (S : zJ) (C : CT J m) (hm6 : J 6 12 = m) (E : A0 J S) (hs : 0 ≤ s ∧ s < m) (ht : 0 ≤ t ∧ t < m) (hb : b = 0 ∨ b = 400) (hR : RU J) (h9 : J 145 10 < 2000000000) (hbc : (b = 0 ∧ c = 400) ∨ (b = 400 ∧ c = 800)) : tz_Ok l G M_X10_wayOf 4 0 0 [.ref 145, zi s, zi t, zi b] n J (zqi (fun z J' => ((z = 0 ∨ z = 1 ∨ z = 2) ∧ UI J' b m ∧ J' 145 10 = J 145 10 + 1 ∧ zOf (zbut [145, 146, 147, 148, 149, 150, 151, 152, 153, 154]) J' J) ∧ UPO c m 0 0 S s (t + b) (upV J') (usV J') (ulV J') z ∧ (¬ z = 0 → ∀ y, VN c m y → uoV J' y = -1))) zN := by
  refine tz_Ok.of hl (by decide +kernel) rfl (tb_c1 rfl) (Nat.le_of_ble_eq_true rfl) ?_
  show tz_At l G M_X10_wayOf (tb_rm 4 0 0) none (tb_ZM G 0 0 (zQ n 0 (zqi (fun z J' => ((z = 0 ∨ z = 1 ∨ z = 2) ∧ UI J' b m ∧ J' 145 10 = J 145 10 + 1 ∧ zOf (zbut [145, 146, 147, 148, 149, 150, 151, 152, 153, 154]) J' J) ∧ UPO c m 0 0 S s (t + b) (upV J') (usV J') (ulV J') z ∧ (¬ z = 0 → ∀ y, VN c m y → uoV J' y = -1)))) (zX n 0 zN)) 0 0 n J 0 [some (.ref 145), some (zi s), some (zi t), some (zi b), none, none] []
  have hm := C.told.2
  have h0 := hR.1
  have hc9 : c = 400 ∨ c = 800 := by omega
  have N0 : NDE c m S J := nde_mk E C hm6 hbc
  have vs9 : VN c m s := (nd.vn hbc hm).1 (Or.inl hs)
  have h89 : ∀ u, VN c m u → -8 ≤ hdN S 0 u := fun u hu => by have i9 := ((nd.vn hbc hm).2 hu).ix hm; rw [(N0 u hu).1]; exact (C.ar i9.1 i9.2).2.2.1
  refine tz_aload_n (pc := 0) dX10_wayOf_0 rfl rfl ?_
  refine tz_dup (pc := 1) dX10_wayOf_1 rfl ?_
  refine tz_fI (pc := 2) (kz := 10) (v := (J 145 10)) dX10_wayOf_2 fl_X10_39 i_145_10 rfl rfl (fun r_2 => ?_)
  refine tz_iconst (pc := 5) dX10_wayOf_5 ?_
  refine tz_iadd (pc := 6) (v := (J 145 10) + 1) dX10_wayOf_6 rfl ?_
  refine tz_pI (pc := 7) (kz := 10) dX10_wayOf_7 fl_X10_39 i_145_10 rfl rfl (by omega) ?_
  refine tz_aload_n (pc := 10) dX10_wayOf_10 rfl rfl ?_
  refine tz_iconst (pc := 11) dX10_wayOf_11 ?_
  refine tz_pI (pc := 12) (kz := 11) dX10_wayOf_12 fl_X10_43 i_145_11 rfl rfl (by decide) ?_
  refine tz_aload_n (pc := 15) dX10_wayOf_15 rfl rfl ?_
  refine tz_iload_n (pc := 16) dX10_wayOf_16 rfl rfl ?_
  refine tz_iload_n (pc := 17) dX10_wayOf_17 rfl rfl ?_
  refine tz_iload_n (pc := 18) dX10_wayOf_18 rfl rfl ?_
  refine tz_iadd (pc := 19) (v := t + b) dX10_wayOf_19 rfl ?_
  refine tz_cV (pc := 20) (u_addPair hl n _ _ _ (by omega) (by omega) b m ⟨⟨Int.le_refl 0, (by decide : (0 : Int) ≤ 2401)⟩, fun k a c => absurd c (by show ¬ k < 0; omega)⟩ (Or.inl hs) (by unfold nd; omega)) vl_X10_50 dX10_wayOf_20 o_145 rfl rfl (Nat.le_of_ble_eq_true rfl) ⟨(Nat.le_of_ble_eq_true rfl), (Nat.le_of_ble_eq_true rfl)⟩ rfl rfl (Nat.le_of_ble_eq_true rfl) (Nat.le_of_ble_eq_true rfl) (fun r9 J_20 hq9 => ?_)
  obtain ⟨rfl, ⟨k1, k2, k3⟩, k4⟩ := hq9
  have u0 : UI J_20 b m := hR.start (by rw [k2]; rfl) (k3 146 rfl)
  have f0 : zOf (zbut [145, 146, 147, 148, 149, 150, 151, 152, 153, 154]) J_20 J := (k3.mono (fun c hc => by simp [zbut] at hc ⊢; omega)).tr (zOf.up rfl (zOf.up rfl zOf.rf))
  have e0 : J_20 145 10 = J 145 10 + 1 := k2
  have kk9 := k4 (by show (0 : Int) < 2401; decide)
  have wy0 : WAY c m S s (t + b) J_20 0 := WAY.start hc9 (fun u hu q9 => by have r9 := hR.2 u (hu.b hc9).1 (hu.b hc9).2; rw [e0, k3 146 rfl] at q9; have q8 : J 146 u = J 145 10 + 1 := q9; omega) (fun u hu => by rw [k3 7 rfl]; exact (N0 u hu).1) (by rw [← kk9]; rfl) (by rw [← kk9]; rfl) (by rw [← kk9]; rfl)
  refine tz_iconst (pc := 23) dX10_wayOf_23 ?_
  refine tz_istore (pc := 24) (L2 := [_, _, _, _, _, _]) dX10_wayOf_24 (by decide) rfl ?_
  have loop26 : ∀ (f9 : Nat) (k : Int) (J1 : zJ), ((2401 - k).toNat) < f9 → (0 ≤ k ∧ k ≤ 2401) → (UI J1 b m) → (J1 145 10 = J 145 10 + 1) → (PI J1 b m) → (zOf (zbut [145, 146, 147, 148, 149, 150, 151, 152, 153, 154]) J1 J) → (WAY c m S s (t + b) J1 k) → tz_At l G M_X10_wayOf (tb_rm 4 0 0) none (tb_ZM G 0 0 (zQ n 0 (zqi (fun z J' => ((z = 0 ∨ z = 1 ∨ z = 2) ∧ UI J' b m ∧ J' 145 10 = J 145 10 + 1 ∧ zOf (zbut [145, 146, 147, 148, 149, 150, 151, 152, 153, 154]) J' J) ∧ UPO c m 0 0 S s (t + b) (upV J') (usV J') (ulV J') z ∧ (¬ z = 0 → ∀ y, VN c m y → uoV J' y = -1)))) (zX n 0 zN)) 0 0 n J1 26 [some (.ref 145), some (zi s), some (zi t), some (zi b), some (zi k), none] [] := by
    intro f9
    induction f9 with
    | zero => intro k J1 hm9; exact absurd hm9 (Nat.not_lt_zero _)
    | succ f9 ih26 =>
      intro k J1 hm26 hk hu e1 hP1 fr wy
      have pr9 := hP1.1
      refine tz_iload (pc := 26) dX10_wayOf_26 rfl ?_
      refine tz_aload_n (pc := 28) dX10_wayOf_28 rfl rfl ?_
      refine tz_fI (pc := 29) (kz := 11) (v := (J1 145 11)) dX10_wayOf_29 fl_X10_43 i_145_11 rfl rfl (fun r_29 => ?_)
      refine tz_icmp_ge (pc := 32) (tgt := 82) dX10_wayOf_32 (by decide) (by omega) (by omega) (fun h_32 => ?_) (fun h_32 => ?_)
      · refine tz_aload_n (pc := 82) dX10_wayOf_82 rfl rfl ?_
        refine tz_iload_n (pc := 83) dX10_wayOf_83 rfl rfl ?_
        have n_84 : nd b m _ := (Or.inl hs)
        have nr_84 := n_84.rg hm
        refine tz_cV (pc := 84) (u_top hl n _ _ (by omega) b m c hm n_84 hu wy.1 hbc) vl_X10_54 dX10_wayOf_84 o_145 rfl rfl (Nat.le_of_ble_eq_true rfl) ⟨(Nat.le_of_ble_eq_true rfl), (Nat.le_of_ble_eq_true rfl)⟩ rfl rfl (Nat.le_of_ble_eq_true rfl) (Nat.le_of_ble_eq_true rfl) (fun r9 J_84 hq9 => ?_)
        obtain ⟨z_84, rfl, hz_84, ⟨u_84, ⟨v_84, w_84⟩, f_84⟩, ve_84, tz_84⟩ := hq9
        have vr_84 := v_84.rg hm
        have wy84 := wy.e ve_84 (congrFun (f_84 145 rfl) 11) (f_84 151 rfl) (f_84 152 rfl)
        have vn_84 := (nd.vn hbc hm).1 n_84
        have vz_84 := (nd.vn hbc hm).1 v_84
        refine tz_istore (pc := 87) (L2 := [_, _, _, _, _, _]) dX10_wayOf_87 (by decide) rfl ?_
        refine tz_aload_n (pc := 89) dX10_wayOf_89 rfl rfl ?_
        refine tz_iload (pc := 90) dX10_wayOf_90 rfl ?_
        have rx9 : upV J_84 z_84 = z_84 := by rw [tz_84, ← ve_84.2.1 _ vn_84]; exact (wy84.1.root vn_84).1
        have E84 : A0 J_84 S := E.f (fun c hc => (f_84 c (by simp [zbut]; omega)).trans (fr c (by simp [zbut]; omega)))
        have m84 : J_84 6 12 = m := by rw [f_84 6 rfl, fr 6 rfl]; exact hm6
        have C84 : CT J_84 m := (C.of (fun c hc => ((f_84 c (by simp [zbut]; omega)).trans (fr c (by simp [zbut]; omega)))))
        refine tz_cV (pc := 92) (u_listAll hl n _ _ (by omega) b m c S (tp (upV J_84)) (usV J_84) C84 m84 E84 u_84.1 v_84 (by rw [w_84, u_84.2.1]) wy84.1 wy84.2.1 rx9 (fun _ _ => rfl) (fun _ _ => rfl) hbc (fun y hy => (wy84.2.2.1 y hy).1)) vl_X10_62 dX10_wayOf_92 o_145 rfl rfl (Nat.le_of_ble_eq_true rfl) ⟨(Nat.le_of_ble_eq_true rfl), (Nat.le_of_ble_eq_true rfl)⟩ rfl rfl (Nat.le_of_ble_eq_true rfl) (Nat.le_of_ble_eq_true rfl) (fun r9 J_92 hq9 => ?_)
        obtain ⟨z_92, rfl, hz_92, ⟨l1, l2⟩, ⟨L9, hE9⟩, lv9⟩ := hq9
        refine tz_istore (pc := 95) (L2 := [_, _, _, _, _, _]) dX10_wayOf_95 (by decide) rfl ?_
        refine tz_aload_n (pc := 97) dX10_wayOf_97 rfl rfl ?_
        refine tz_iload (pc := 98) dX10_wayOf_98 rfl ?_
        have rx8 : upV J_92 z_84 = z_84 := by have q9 := (lv9.1.root vz_84).1; rw [lv9.2.1 _ vz_84, tp_r rx9] at q9; exact q9
        have m92 : J_92 6 12 = m := by rw [l2 6 rfl]; exact m84
        have E92 : A0 J_92 S := E84.f (fun c hc => l2 c (by simp [zbut]; omega))
        refine tz_cV (pc := 100) (u_taken hl n _ _ (by omega) b m c S (tp (upV J_84)) (usV J_84) L9 z_92 (C84.of (fun c hc => l2 c (by simp [zbut]; omega))) m92 E92 l1.1 v_84 (by have := l1.2.2 z_84 (by rw [w_84, u_84.2.1]); rw [this, l1.2.1]) lv9.1 (wy84.2.1.eqt wy84.1 lv9.2.1 (fun y hy => (lv9.2.2 y hy).1) (fun y hy => (lv9.2.2 y hy).2.1)) rx8 lv9.2.1 (fun y hy => (lv9.2.2 y hy).1) hbc hE9) vl_X10_65 dX10_wayOf_100 o_145 rfl rfl (Nat.le_of_ble_eq_true rfl) ⟨(Nat.le_of_ble_eq_true rfl), (Nat.le_of_ble_eq_true rfl)⟩ rfl rfl (Nat.le_of_ble_eq_true rfl) (Nat.le_of_ble_eq_true rfl) (fun r9 J_100 hq9 => ?_)
        obtain ⟨z_100, rfl, hz_100, ⟨t1, t2⟩, ⟨tn9, ty9⟩, tv9⟩ := hq9
        have hfr4 : zOf (zbut [145, 146, 147, 148, 149, 150, 151, 152, 153, 154]) J_100 J := (t2.mono (fun c hc => by simp [zbut] at hc ⊢; omega)).tr ((l2.mono (fun c hc => by simp [zbut] at hc ⊢; omega)).tr ((f_84.mono (fun c hc => by simp [zbut] at hc ⊢; omega)).tr fr))
        have vf9 : vF c m J_100 J_84 := ⟨tv9.1, fun y hy => (tv9.2.1 y hy).trans (lv9.2.1 y hy), fun y hy => ⟨(tv9.2.2 y hy).1.trans (lv9.2.2 y hy).1, (tv9.2.2 y hy).2.1.trans (lv9.2.2 y hy).2.1, (tv9.2.2 y hy).2.2.trans (lv9.2.2 y hy).2.2⟩⟩
        refine tz_iload (pc := 103) dX10_wayOf_103 rfl ?_
        refine tz_icmp_ge (pc := 105) (tgt := 112) dX10_wayOf_105 (by decide) (by omega) (by omega) (fun h_105 => ?_) (fun h_105 => ?_)
        · refine tz_iconst (pc := 112) dX10_wayOf_112 ?_
          exact tz_iret (pc := 113) (z := 1) dX10_wayOf_113 rfl (Nat.le_of_ble_eq_true rfl) (Nat.le_of_ble_eq_true rfl) ⟨Nat.le_refl _, Nat.le_add_right _ _⟩ ⟨_, rfl, (by decide), ⟨⟨by omega, t1.1, by rw [t1.2.1, l1.2.1, u_84.2.1, e1], hfr4⟩, way_end (k := k) wy84 (by rw [congrFun (f_84 145 rfl) 11]; omega) vs9 (by rw [ve_84.2.1 _ vn_84]; exact tz_84.symm) vf9 tn9 ty9 (by omega), fun _ y hy => (vf9.2.2 y hy).2.2.trans (wy84.2.2.1 y hy).2⟩⟩
        · refine tz_iconst (pc := 108) dX10_wayOf_108 ?_
          refine tz_goto (pc := 109) (tgt := 113) dX10_wayOf_109 (by decide) ?_
          exact tz_iret (pc := 113) (z := 2) dX10_wayOf_113 rfl (Nat.le_of_ble_eq_true rfl) (Nat.le_of_ble_eq_true rfl) ⟨Nat.le_refl _, Nat.le_add_right _ _⟩ ⟨_, rfl, (by decide), ⟨⟨by omega, t1.1, by rw [t1.2.1, l1.2.1, u_84.2.1, e1], hfr4⟩, way_end (k := k) wy84 (by rw [congrFun (f_84 145 rfl) 11]; omega) vs9 (by rw [ve_84.2.1 _ vn_84]; exact tz_84.symm) vf9 tn9 ty9 (by omega), fun _ y hy => (vf9.2.2 y hy).2.2.trans (wy84.2.2.1 y hy).2⟩⟩
      · refine tz_iload (pc := 35) dX10_wayOf_35 rfl ?_
        refine tz_aload_n (pc := 37) dX10_wayOf_37 rfl rfl ?_
        refine tz_fR (pc := 38) dX10_wayOf_38 fl_X10_27 r_145_6 ?_
        refine tz_aN (pc := 41) (lz := 2401) dX10_wayOf_41 a_151 rfl ?_
        refine tz_icmp_ge (pc := 42) (tgt := 82) dX10_wayOf_42 (by decide) (by omega) (by decide) (fun h_42 => ?_) (fun h_42 => ?_)
        · refine tz_aload_n (pc := 82) dX10_wayOf_82 rfl rfl ?_
          refine tz_iload_n (pc := 83) dX10_wayOf_83 rfl rfl ?_
          have n_84 : nd b m _ := (Or.inl hs)
          have nr_84 := n_84.rg hm
          refine tz_cV (pc := 84) (u_top hl n _ _ (by omega) b m c hm n_84 hu wy.1 hbc) vl_X10_54 dX10_wayOf_84 o_145 rfl rfl (Nat.le_of_ble_eq_true rfl) ⟨(Nat.le_of_ble_eq_true rfl), (Nat.le_of_ble_eq_true rfl)⟩ rfl rfl (Nat.le_of_ble_eq_true rfl) (Nat.le_of_ble_eq_true rfl) (fun r9 J_84 hq9 => ?_)
          obtain ⟨z_84, rfl, hz_84, ⟨u_84, ⟨v_84, w_84⟩, f_84⟩, ve_84, tz_84⟩ := hq9
          have vr_84 := v_84.rg hm
          have wy84 := wy.e ve_84 (congrFun (f_84 145 rfl) 11) (f_84 151 rfl) (f_84 152 rfl)
          have vn_84 := (nd.vn hbc hm).1 n_84
          have vz_84 := (nd.vn hbc hm).1 v_84
          refine tz_istore (pc := 87) (L2 := [_, _, _, _, _, _]) dX10_wayOf_87 (by decide) rfl ?_
          refine tz_aload_n (pc := 89) dX10_wayOf_89 rfl rfl ?_
          refine tz_iload (pc := 90) dX10_wayOf_90 rfl ?_
          have rx9 : upV J_84 z_84 = z_84 := by rw [tz_84, ← ve_84.2.1 _ vn_84]; exact (wy84.1.root vn_84).1
          have E84 : A0 J_84 S := E.f (fun c hc => (f_84 c (by simp [zbut]; omega)).trans (fr c (by simp [zbut]; omega)))
          have m84 : J_84 6 12 = m := by rw [f_84 6 rfl, fr 6 rfl]; exact hm6
          have C84 : CT J_84 m := (C.of (fun c hc => ((f_84 c (by simp [zbut]; omega)).trans (fr c (by simp [zbut]; omega)))))
          refine tz_cV (pc := 92) (u_listAll hl n _ _ (by omega) b m c S (tp (upV J_84)) (usV J_84) C84 m84 E84 u_84.1 v_84 (by rw [w_84, u_84.2.1]) wy84.1 wy84.2.1 rx9 (fun _ _ => rfl) (fun _ _ => rfl) hbc (fun y hy => (wy84.2.2.1 y hy).1)) vl_X10_62 dX10_wayOf_92 o_145 rfl rfl (Nat.le_of_ble_eq_true rfl) ⟨(Nat.le_of_ble_eq_true rfl), (Nat.le_of_ble_eq_true rfl)⟩ rfl rfl (Nat.le_of_ble_eq_true rfl) (Nat.le_of_ble_eq_true rfl) (fun r9 J_92 hq9 => ?_)
          obtain ⟨z_92, rfl, hz_92, ⟨l1, l2⟩, ⟨L9, hE9⟩, lv9⟩ := hq9
          refine tz_istore (pc := 95) (L2 := [_, _, _, _, _, _]) dX10_wayOf_95 (by decide) rfl ?_
          refine tz_aload_n (pc := 97) dX10_wayOf_97 rfl rfl ?_
          refine tz_iload (pc := 98) dX10_wayOf_98 rfl ?_
          have rx8 : upV J_92 z_84 = z_84 := by have q9 := (lv9.1.root vz_84).1; rw [lv9.2.1 _ vz_84, tp_r rx9] at q9; exact q9
          have m92 : J_92 6 12 = m := by rw [l2 6 rfl]; exact m84
          have E92 : A0 J_92 S := E84.f (fun c hc => l2 c (by simp [zbut]; omega))
          refine tz_cV (pc := 100) (u_taken hl n _ _ (by omega) b m c S (tp (upV J_84)) (usV J_84) L9 z_92 (C84.of (fun c hc => l2 c (by simp [zbut]; omega))) m92 E92 l1.1 v_84 (by have := l1.2.2 z_84 (by rw [w_84, u_84.2.1]); rw [this, l1.2.1]) lv9.1 (wy84.2.1.eqt wy84.1 lv9.2.1 (fun y hy => (lv9.2.2 y hy).1) (fun y hy => (lv9.2.2 y hy).2.1)) rx8 lv9.2.1 (fun y hy => (lv9.2.2 y hy).1) hbc hE9) vl_X10_65 dX10_wayOf_100 o_145 rfl rfl (Nat.le_of_ble_eq_true rfl) ⟨(Nat.le_of_ble_eq_true rfl), (Nat.le_of_ble_eq_true rfl)⟩ rfl rfl (Nat.le_of_ble_eq_true rfl) (Nat.le_of_ble_eq_true rfl) (fun r9 J_100 hq9 => ?_)
          obtain ⟨z_100, rfl, hz_100, ⟨t1, t2⟩, ⟨tn9, ty9⟩, tv9⟩ := hq9
          have hfr4 : zOf (zbut [145, 146, 147, 148, 149, 150, 151, 152, 153, 154]) J_100 J := (t2.mono (fun c hc => by simp [zbut] at hc ⊢; omega)).tr ((l2.mono (fun c hc => by simp [zbut] at hc ⊢; omega)).tr ((f_84.mono (fun c hc => by simp [zbut] at hc ⊢; omega)).tr fr))
          have vf9 : vF c m J_100 J_84 := ⟨tv9.1, fun y hy => (tv9.2.1 y hy).trans (lv9.2.1 y hy), fun y hy => ⟨(tv9.2.2 y hy).1.trans (lv9.2.2 y hy).1, (tv9.2.2 y hy).2.1.trans (lv9.2.2 y hy).2.1, (tv9.2.2 y hy).2.2.trans (lv9.2.2 y hy).2.2⟩⟩
          refine tz_iload (pc := 103) dX10_wayOf_103 rfl ?_
          refine tz_icmp_ge (pc := 105) (tgt := 112) dX10_wayOf_105 (by decide) (by omega) (by omega) (fun h_105 => ?_) (fun h_105 => ?_)
          · refine tz_iconst (pc := 112) dX10_wayOf_112 ?_
            exact tz_iret (pc := 113) (z := 1) dX10_wayOf_113 rfl (Nat.le_of_ble_eq_true rfl) (Nat.le_of_ble_eq_true rfl) ⟨Nat.le_refl _, Nat.le_add_right _ _⟩ ⟨_, rfl, (by decide), ⟨⟨by omega, t1.1, by rw [t1.2.1, l1.2.1, u_84.2.1, e1], hfr4⟩, way_end (k := k) wy84 (by rw [congrFun (f_84 145 rfl) 11]; omega) vs9 (by rw [ve_84.2.1 _ vn_84]; exact tz_84.symm) vf9 tn9 ty9 (by omega), fun _ y hy => (vf9.2.2 y hy).2.2.trans (wy84.2.2.1 y hy).2⟩⟩
          · refine tz_iconst (pc := 108) dX10_wayOf_108 ?_
            refine tz_goto (pc := 109) (tgt := 113) dX10_wayOf_109 (by decide) ?_
            exact tz_iret (pc := 113) (z := 2) dX10_wayOf_113 rfl (Nat.le_of_ble_eq_true rfl) (Nat.le_of_ble_eq_true rfl) ⟨Nat.le_refl _, Nat.le_add_right _ _⟩ ⟨_, rfl, (by decide), ⟨⟨by omega, t1.1, by rw [t1.2.1, l1.2.1, u_84.2.1, e1], hfr4⟩, way_end (k := k) wy84 (by rw [congrFun (f_84 145 rfl) 11]; omega) vs9 (by rw [ve_84.2.1 _ vn_84]; exact tz_84.symm) vf9 tn9 ty9 (by omega), fun _ y hy => (vf9.2.2 y hy).2.2.trans (wy84.2.2.1 y hy).2⟩⟩
        · refine tz_aload_n (pc := 45) dX10_wayOf_45 rfl rfl ?_
          refine tz_aload_n (pc := 46) dX10_wayOf_46 rfl rfl ?_
          refine tz_aload_n (pc := 47) dX10_wayOf_47 rfl rfl ?_
          refine tz_fR (pc := 48) dX10_wayOf_48 fl_X10_27 r_145_6 ?_
          refine tz_iload (pc := 51) dX10_wayOf_51 rfl ?_
          refine tz_aL (pc := 53) (z := k) (v := (J1 151 k)) dX10_wayOf_53 a_151 rfl (by omega) rfl (fun r_53 => ?_)
          have n_54 : nd b m _ := (hP1.2 k (by omega) (by omega)).1
          have nr_54 := n_54.rg hm
          refine tz_cV (pc := 54) (u_top hl n _ _ (by omega) b m c hm n_54 hu wy.1 hbc) vl_X10_54 dX10_wayOf_54 o_145 rfl rfl (Nat.le_of_ble_eq_true rfl) ⟨(Nat.le_of_ble_eq_true rfl), (Nat.le_of_ble_eq_true rfl)⟩ rfl rfl (Nat.le_of_ble_eq_true rfl) (Nat.le_of_ble_eq_true rfl) (fun r9 J_54 hq9 => ?_)
          obtain ⟨z_54, rfl, hz_54, ⟨u_54, ⟨v_54, w_54⟩, f_54⟩, ve_54, tz_54⟩ := hq9
          have vr_54 := v_54.rg hm
          have wy54 := wy.e ve_54 (congrFun (f_54 145 rfl) 11) (f_54 151 rfl) (f_54 152 rfl)
          have vn_54 := (nd.vn hbc hm).1 n_54
          have vz_54 := (nd.vn hbc hm).1 v_54
          refine tz_aload_n (pc := 57) dX10_wayOf_57 rfl rfl ?_
          refine tz_aload_n (pc := 58) dX10_wayOf_58 rfl rfl ?_
          refine tz_fR (pc := 59) dX10_wayOf_59 fl_X10_30 r_145_7 ?_
          refine tz_iload (pc := 62) dX10_wayOf_62 rfl ?_
          refine tz_aL (pc := 64) (z := k) (v := (J1 152 k)) dX10_wayOf_64 a_152 rfl (by omega) (Eq.trans (congrFun (f_54 152 rfl) k) rfl) (fun r_64 => ?_)
          have n_65 : nd b m _ := (hP1.2 k (by omega) (by omega)).2
          have nr_65 := n_65.rg hm
          refine tz_cV (pc := 65) (u_top hl n _ _ (by omega) b m c hm n_65 u_54.1 wy54.1 hbc) vl_X10_54 dX10_wayOf_65 o_145 rfl rfl (Nat.le_of_ble_eq_true rfl) ⟨(Nat.le_of_ble_eq_true rfl), (Nat.le_of_ble_eq_true rfl)⟩ rfl rfl (Nat.le_of_ble_eq_true rfl) (Nat.le_of_ble_eq_true rfl) (fun r9 J_65 hq9 => ?_)
          obtain ⟨z_65, rfl, hz_65, ⟨u_65, ⟨v_65, w_65⟩, f_65⟩, ve_65, tz_65⟩ := hq9
          have vr_65 := v_65.rg hm
          have wy65 := wy54.e ve_65 (congrFun (f_65 145 rfl) 11) (f_65 151 rfl) (f_65 152 rfl)
          have vn_65 := (nd.vn hbc hm).1 n_65
          have vz_65 := (nd.vn hbc hm).1 v_65
          have aw54 : J_65 146 z_54 = J_65 145 10 := by have := u_65.2.2 _ (w_54.trans u_54.2.1.symm); rw [this, u_65.2.1]
          have aw65 : J_65 146 z_65 = J_65 145 10 := by rw [w_65, u_65.2.1]
          have N65 : NDE c m S J_65 := N0.of ((f_65 7 rfl).trans ((f_54 7 rfl).trans (fr 7 rfl))) ((f_65 8 rfl).trans ((f_54 8 rfl).trans (fr 8 rfl))) ((f_65 9 rfl).trans ((f_54 9 rfl).trans (fr 9 rfl)))
          have e151 : J_65 151 = J1 151 := (f_65 151 rfl).trans (f_54 151 rfl)
          have e152 : J_65 152 = J1 152 := (f_65 152 rfl).trans (f_54 152 rfl)
          have e145 : J_65 145 11 = J1 145 11 := (congrFun (f_65 145 rfl) 11).trans (congrFun (f_54 145 rfl) 11)
          have ea9 : tp (upV J_65) (J_65 151 k) = z_54 := by rw [e151, ve_65.2.1 _ vn_54, ve_54.2.1 _ vn_54]; exact tz_54.symm
          have eb9 : tp (upV J_65) (J_65 152 k) = z_65 := by rw [e152, ve_65.2.1 _ vn_65]; exact tz_65.symm
          have ra9 : upV J_65 z_54 = z_54 := by rw [← ea9]; exact (wy65.1.root (by rw [e151]; exact vn_54)).1
          have rb9 : upV J_65 z_65 = z_65 := by rw [← eb9]; exact (wy65.1.root (by rw [e152]; exact vn_65)).1
          refine tz_cV (pc := 68) (u_joined hl n _ _ _ (by omega) (by omega) b m c (C.of (fun c hc => ((f_65 c (by simp [zbut]; omega)).trans ((f_54 c (by simp [zbut]; omega)).trans (fr c (by simp [zbut]; omega)))))) u_65.1 (hP1.of (by rw [congrFun (f_65 145 rfl) 11, congrFun (f_54 145 rfl) 11]) (by rw [f_65 151 rfl, f_54 151 rfl]) (by rw [f_65 152 rfl, f_54 152 rfl])) v_54 v_65 aw54 aw65 hbc (fun q9 => wy65.lst vz_54 ra9 aw54 h89 q9) (fun q9 => wy65.lst vz_65 rb9 aw65 h89 q9)) vl_X10_58 dX10_wayOf_68 o_145 rfl rfl (Nat.le_of_ble_eq_true rfl) ⟨(Nat.le_of_ble_eq_true rfl), (Nat.le_of_ble_eq_true rfl)⟩ rfl rfl (Nat.le_of_ble_eq_true rfl) (Nat.le_of_ble_eq_true rfl) (fun r9 J_68 hq9 => ?_)
          obtain ⟨z_68, rfl, hz_68, ⟨j1, j2, j3, j4⟩, jn⟩ := hq9
          have hfr3 : zOf (zbut [145, 146, 147, 148, 149, 150, 151, 152, 153, 154]) J_68 J := (j4.mono (fun c hc => by simp [zbut] at hc ⊢; omega)).tr ((f_65.mono (fun c hc => by simp [zbut] at hc ⊢; omega)).tr ((f_54.mono (fun c hc => by simp [zbut] at hc ⊢; omega)).tr fr))
          refine tz_if_ne (pc := 71) (tgt := 76) dX10_wayOf_71 (by decide) (by omega) (fun h_71 => ?_) (fun h_71 => ?_)
          · refine tz_iinc (pc := 76) (z := k + 1) (L2 := [_, _, _, _, _, _]) dX10_wayOf_76 rfl (by omega) rfl ?_
            refine tz_goto (pc := 79) (tgt := 26) dX10_wayOf_79 (by decide) ?_
            exact ih26 (k + 1) _ (by omega) (by omega) j1.1 (by rw [j1.2.1, u_65.2.1, u_54.2.1, e1]) j2 hfr3 (way_next hc9 wy65 (by omega) (by rw [e151]; exact vn_54) (by rw [e152]; exact vn_65) ea9 eb9 aw54 aw65 N65 jn (by omega))
          · refine tz_iconst (pc := 74) dX10_wayOf_74 ?_
            exact tz_iret (pc := 75) (z := 0) dX10_wayOf_75 rfl (Nat.le_of_ble_eq_true rfl) (Nat.le_of_ble_eq_true rfl) ⟨Nat.le_refl _, Nat.le_add_right _ _⟩ ⟨_, rfl, (by decide), ⟨⟨Or.inl rfl, j1.1, by rw [j1.2.1, u_65.2.1, u_54.2.1, e1], hfr3⟩, Or.inl ⟨rfl, way_clash (by exact wy65) (by omega) (by rw [e151]; exact vn_54) (by rw [e152]; exact vn_65) ea9 eb9 aw54 aw65 N65 jn (by omega)⟩, fun q9 => absurd q9 (by decide)⟩⟩
  exact loop26 _ 0 _ (Nat.lt_succ_self _) (by omega) u0 e0 k1 f0 wy0

