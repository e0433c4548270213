/-! ===== the class's acts, exact ===== -/
theorem x_keep {l : Launch} {G : tb_G} (hl : l.stackTraces = false) (n : Nat) (J : zJ) (m0 m : Int) (hA : AC J m0 m) : tz_Ok l G M_X0_keep 1 0 0 [.ref 5] n J (zqv (fun J' => (CI J' m ∧ zOf fkp J' J) ∧ KX J' J)) zN := by
  have hr := hA.2.1.1
  have fu : ∀ (J1 J2 : zJ) (i : Int), 0 ≤ i → i < 40 → zOf fkp J1 J2 → zOf fkp (zcp J1 61 (zU i) 0 0 61) J2 := fun J1 J2 i a b f => zOf.cp (decide_eq_false (by unfold zU; omega)) f
  by_cases h6 : J 5 6 = 40
  · refine (c_keepF hl n J h6 hr.1).mono (fun r J' _ h => ⟨h.1, ?_⟩) (fun E J' _ h => h)
    obtain ⟨-, rfl⟩ := h
    have h1 := (hA.drop h6).keepN (show (39 : Int) < 40 by decide)
    exact ⟨⟨h1, zOf.up rfl (fu _ _ _ (by omega) (by omega) (zOf.up rfl (zOf.up rfl zOf.rf)))⟩, Or.inr ⟨h6, rfl⟩⟩
  · refine (c_keepN hl n J (by omega) hr.1).mono (fun r J' _ h => ⟨h.1, ?_⟩) (fun E J' _ h => h)
    obtain ⟨-, rfl⟩ := h
    exact ⟨⟨hA.keepN (by omega), zOf.up rfl (fu _ _ _ (by omega) (by omega) zOf.rf)⟩, Or.inl ⟨by omega, rfl⟩⟩
set_option maxHeartbeats 4000000 in
set_option maxRecDepth 100000 in
theorem x_settled {l : Launch} {G : tb_G} (hl : l.stackTraces = false) (n : Nat) (J : zJ) (t : Int) (hr_t : -2147483648 ≤ t ∧ t < 2147483648) (m0 m : Int) (hA : AC J m0 m) : tz_Ok l G M_X11_settled 5 0 0 [.ref 0, zi t] n J (zqi (fun z J' => SQ J' J ∧ t = z ∧ ((0 ≤ t ∧ zOf fkp J' J ∧ KX J' J) ∨ (t < 0 ∧ zOf (zbut [6, 16, 19, 62]) J' J ∧ J' 19 = zcp J 61 19 0 0 61 19 ∧ J' 6 12 = J 61 0)))) zN := by
  refine tz_Ok.of hl (by decide +kernel) rfl (tb_c1 rfl) (Nat.le_of_ble_eq_true rfl) ?_
  show tz_At l G M_X11_settled (tb_rm 5 0 0) none (tb_ZM G 0 0 (zQ n 0 (zqi (fun z J' => SQ J' J ∧ t = z ∧ ((0 ≤ t ∧ zOf fkp J' J ∧ KX J' J) ∨ (t < 0 ∧ zOf (zbut [6, 16, 19, 62]) J' J ∧ J' 19 = zcp J 61 19 0 0 61 19 ∧ J' 6 12 = J 61 0))))) (zX n 0 zN)) 0 0 n J 0 [some (.ref 0), some (zi t)] []
  refine tz_iload_n (pc := 0) dX11_settled_0 rfl rfl ?_
  refine tz_if_ge (pc := 1) (tgt := 18) dX11_settled_1 (by decide) (by omega) (fun h_1 => ?_) (fun h_1 => ?_)
  · refine tz_aload_n (pc := 18) dX11_settled_18 rfl rfl ?_
    refine tz_fR (pc := 19) dX11_settled_19 fl_X11_29 r_0_1 ?_
    refine tz_cV (pc := 22) (x_keep hl n _ m0 m hA) vl_X11_305 dX11_settled_22 o_5 rfl rfl (Nat.le_of_ble_eq_true rfl) ⟨(Nat.le_of_ble_eq_true rfl), (Nat.le_of_ble_eq_true rfl)⟩ rfl rfl (Nat.le_of_ble_eq_true rfl) (Nat.le_of_ble_eq_true rfl) (fun r9 J_22 hq9 => ?_)
    obtain ⟨rfl, k9, kx⟩ := hq9
    refine tz_iload_n (pc := 25) dX11_settled_25 rfl rfl ?_
    exact tz_iret (pc := 26) (z := t) dX11_settled_26 rfl (Nat.le_of_ble_eq_true rfl) (Nat.le_of_ble_eq_true rfl) ⟨Nat.le_refl _, Nat.le_add_right _ _⟩ ⟨_, rfl, (by omega), (by first | exact ⟨⟨⟨m0, hc.st f2⟩, (f2 145 rfl).trans (b1 145 rfl), (f2 0 rfl).trans (b1 0 rfl), (f2.mono (fun c hc => by have := of_decide_eq_true hc; simp [zbut]; omega)).tr (b1.mono (fun c hc => by have := of_decide_eq_true hc; simp [zbut]; omega))⟩, rfl, Or.inr ⟨by omega, (f2.mono (zbut_sub (fun c hc => by simp at hc ⊢; omega))).tr (b1.mono (zbut_sub (fun c hc => by simp at hc ⊢; omega))), (f2 19 rfl).trans b2, (congrFun (f2 6 rfl) 12).trans b3⟩⟩ | exact ⟨⟨⟨m, k9.1⟩, k9.2 145 rfl, k9.2 0 rfl, k9.2.mono (fun c hc => by have := of_decide_eq_true hc; exact decide_eq_true (by omega))⟩, rfl, Or.inl ⟨by omega, k9.2, kx⟩⟩)⟩
  · refine tz_aload_n (pc := 4) dX11_settled_4 rfl rfl ?_
    refine tz_fR (pc := 5) dX11_settled_5 fl_X11_29 r_0_1 ?_
    refine tz_cV (pc := 8) (c_rollBack hl n _ m hA.1.1.1 hA.1.1.2.1 (by rw [hA.2.2.1.2]; exact hA.2.2.2)) vl_X11_388 dX11_settled_8 o_5 rfl rfl (Nat.le_of_ble_eq_true rfl) ⟨(Nat.le_of_ble_eq_true rfl), (Nat.le_of_ble_eq_true rfl)⟩ rfl rfl (Nat.le_of_ble_eq_true rfl) (Nat.le_of_ble_eq_true rfl) (fun r9 J_8 hq9 => ?_)
    obtain ⟨rfl, b1, b2, b3, b4⟩ := hq9
    have hc := hA.back b1 b2 b3 b4
    refine tz_aload_n (pc := 11) dX11_settled_11 rfl rfl ?_
    refine tz_iconst (pc := 12) dX11_settled_12 ?_
    refine tz_iload_n (pc := 13) dX11_settled_13 rfl rfl ?_
    refine tz_cV (pc := 14) (c_refused hl n _ _ _ (by decide) (by omega) (by decide)) vl_X11_284 dX11_settled_14 o_0 rfl rfl (Nat.le_of_ble_eq_true rfl) ⟨(Nat.le_of_ble_eq_true rfl), (Nat.le_of_ble_eq_true rfl)⟩ rfl rfl (Nat.le_of_ble_eq_true rfl) (Nat.le_of_ble_eq_true rfl) (fun r9 J_14 hq9 => ?_)
    obtain ⟨z_14, rfl, hz_14, f2, rfl⟩ := hq9
    exact tz_iret (pc := 17) (z := t) dX11_settled_17 rfl (Nat.le_of_ble_eq_true rfl) (Nat.le_of_ble_eq_true rfl) ⟨Nat.le_refl _, Nat.le_add_right _ _⟩ ⟨_, rfl, (by omega), (by first | exact ⟨⟨⟨m0, hc.st f2⟩, (f2 145 rfl).trans (b1 145 rfl), (f2 0 rfl).trans (b1 0 rfl), (f2.mono (fun c hc => by have := of_decide_eq_true hc; simp [zbut]; omega)).tr (b1.mono (fun c hc => by have := of_decide_eq_true hc; simp [zbut]; omega))⟩, rfl, Or.inr ⟨by omega, (f2.mono (zbut_sub (fun c hc => by simp at hc ⊢; omega))).tr (b1.mono (zbut_sub (fun c hc => by simp at hc ⊢; omega))), (f2 19 rfl).trans b2, (congrFun (f2 6 rfl) 12).trans b3⟩⟩ | exact ⟨⟨⟨m, k9.1⟩, k9.2 145 rfl, k9.2 0 rfl, k9.2.mono (fun c hc => by have := of_decide_eq_true hc; exact decide_eq_true (by omega))⟩, rfl, Or.inl ⟨by omega, k9.2, kx⟩⟩)⟩

theorem A0.su2 {J' J g : zJ} {m : Int} (E : A0 J g) (hm : J 6 12 = m) (hm' : J' 6 12 = m) (f : ∀ c, c = 1 ∨ c = 2 ∨ c = 3 ∨ c = 4 → J' c = J c) (s : zSU J' J m) (C : CT J m) : A0 J' g := by
  obtain ⟨E1, ⟨e6, E2, E3⟩⟩ := E
  unfold A0
  rw [f 1 (by omega), f 2 (by omega), f 3 (by omega), f 4 (by omega)]
  refine ⟨E1, ⟨by omega, fun t a b => ?_, fun t i a b x y => ?_⟩⟩
  · have q := s.1 t a (by omega)
    rw [q.1, q.2.2.2.2.1]
    exact E2 t a b
  · have q := s.1 t a (by omega)
    rw [q.2.1] at y
    have := (C.ar a (by omega)).1
    rw [s.2 (t * 3 + i) (by omega) (by omega)]
    exact E3 t i a b x y
theorem zSU.f {J2 J1 J : zJ} {m : Int} (s : zSU J1 J m) (e : ∀ c, 7 ≤ c → c ≤ 15 → J2 c = J1 c) : zSU J2 J m := by
  unfold zSU
  rw [e 7 (by decide) (by decide), e 8 (by decide) (by decide), e 9 (by decide) (by decide), e 10 (by decide) (by decide), e 11 (by decide) (by decide), e 12 (by decide) (by decide), e 13 (by decide) (by decide), e 14 (by decide) (by decide), e 15 (by decide) (by decide)]
  exact s
/-- what begin leaves, for alikeness -/
theorem CAL.begin {J Jb G : zJ} {n m : Int} {R : Int → Int → Int} (c : CAL J G n R) (hI : CI J m) (hj : zcp (zup J 19 0 (J 6 12)) 19 61 0 0 61 = Jb) : CAL Jb G n R ∧ KW (Jb 61) (G 165) ∧ LI (Jb 61) m := by
  have e : ∀ q, ¬ q = 19 → ¬ q = 61 → Jb q = J q := fun q a b => by rw [← hj, zcp_nc b, zup_nc a]
  have e19 : ∀ k, ¬ k = 0 → Jb 19 k = J 19 k := fun k a => by rw [← hj, zcp_nc (by decide), zup_ne a]
  have e61 : ∀ k, 0 ≤ k → k < 61 → Jb 61 k = zup J 19 0 (J 6 12) 19 k := fun k a b => by
    rw [← hj, zcp_in (by omega)]
    congr 1
    omega
  have hL := hI.1.1.2.2
  have hn := hI.2.1
  obtain ⟨c1, c2, c3⟩ := c
  have n40 : n ≤ 40 := by have := c3.1; omega
  refine ⟨⟨c1.f (fun q hq => e q (by omega) (by omega)), c2.of hL (fun k a _ => e19 k (by omega)), c3.of n40 (e 5 (by decide) (by decide)) (fun i a b => e _ (by unfold zU; omega) (by unfold zU; omega))⟩, ⟨c2.of hL (fun k a b => ?_), ?_⟩, ?_⟩
  · rw [e61 k (by omega) b, zup_ne (by omega)]
  · rw [e61 0 (by decide) (by decide), zup_at]
    exact c1.2.1
  · have := (hL.terms (z := J 6 12)).c61 e61
    exact this
theorem act_end {X : List Nat} {J Jb Jo J' G : zJ} {F : zJ × Int} {n m m1 t z : Int} {R : Int → Int → Int} (c : CAL J G n R) (hI : CI J m) (hj : zcp (zup J 19 0 (J 6 12)) 19 61 0 0 61 = Jb) (g1 : GX X Jo Jb m m1) (hX : (X.all fun c => decide (c = 19 ∨ 140 ≤ c)) = true) (q : (t = -3 ∧ ¬ F.1 164 21 = 0) ∨ (0 ≤ t ∧ F.1 164 21 = 0 ∧ A0 Jo F.1 ∧ t = F.2 ∧ RW (Jo 19) (F.1 165))) (s : t = z ∧ ((0 ≤ t ∧ zOf fkp J' Jo ∧ KX J' Jo) ∨ (t < 0 ∧ zOf (zbut [6, 16, 19, 62]) J' Jo ∧ J' 19 = zcp Jo 61 19 0 0 61 19 ∧ J' 6 12 = Jo 61 0))) : ED G n R F J' z := by
  obtain ⟨b1, b2, b3⟩ := c.begin hI hj
  obtain ⟨rfl, s⟩ := s
  have hn := hI.2.1
  have nn := c.2.2.1
  have ge : ∀ c, (c < 6 ∨ (17 < c ∧ ¬ c = 19 ∧ c < 140)) → Jo c = Jb c := fun c hc => g1.2.2.2.2 c (by
    simp only [zbut, Bool.not_eq_true', List.contains_eq_mem, decide_eq_false_iff_not, List.mem_cons]
    intro q
    have hx : ∀ c, c ∈ X → c = 19 ∨ 140 ≤ c := fun c hc => of_decide_eq_true (List.all_eq_true.mp hX c hc)
    rcases q with q | q | q | q | q | q | q | q | q | q | q | q | q <;> first | omega | (have := hx c q; omega))
  have eb : ∀ q, ¬ q = 19 → ¬ q = 61 → Jb q = J q := fun q a b => by rw [← hj, zcp_nc b, zup_nc a]
  have cu : CU Jo n R := b1.2.2.of (by omega) (ge 5 (by omega)) (fun i a b => ge _ (by unfold zU; omega))
  have e61 : Jo 61 = Jb 61 := ge 61 (by omega)
  have h55 : 0 ≤ Jo 5 5 ∧ Jo 5 5 < 40 := by rw [ge 5 (by omega), eb 5 (by decide) (by decide)]; exact hn.1
  rcases s with ⟨s0, s1, s2⟩ | ⟨s0, s1, s2, s3⟩
  · rcases q with ⟨q1, _⟩ | ⟨q1, q2, q3, q4, q5⟩
    · omega
    · refine Or.inr ⟨q2, q4, q3.f (fun c hc => s1 c (decide_eq_true (by omega))), by rw [s1 19 rfl]; exact q5, cu.keep (m := m) (by omega) h55 (by rw [e61]; exact b2) (by rw [e61]; exact b3) s2⟩
  · rcases q with ⟨q1, q2⟩ | ⟨q1, _⟩
    · have Cb : CT Jb m := hI.1.1.1.of (fun c hc => eb c (by omega) (by omega))
      have mb : Jb 6 12 = m := by rw [eb 6 (by decide) (by decide)]; exact hI.1.1.2.1
      have fr : ∀ c, ¬ c = 6 → ¬ c = 16 → ¬ c = 19 → ¬ c = 62 → J' c = Jo c := fun c a b d e => s1 c (by simp [zbut]; omega)
      refine Or.inl ⟨q2, q1, b1.1.su2 mb ?_ (fun c hc => (fr c (by omega) (by omega) (by omega) (by omega)).trans (ge c (by omega))) (g1.2.2.2.1.f (fun c a b => fr c (by omega) (by omega) (by omega) (by omega))) Cb, ?_, cu.of (by omega) (fr 5 (by decide) (by decide) (by decide) (by decide)) (fun i a b => fr _ (by unfold zU; omega) (by unfold zU; omega) (by unfold zU; omega) (by unfold zU; omega))⟩
      · rw [s3, e61, b2.2]
        have := b1.1.2.1
        omega
      · refine b2.1.of b3 (fun k a b => ?_)
        rw [s2, zcp_in (by omega), e61]
        congr 1
        omega
    · omega
