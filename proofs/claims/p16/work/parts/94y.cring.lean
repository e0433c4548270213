/-! ===== hasRing of the class, exact ===== -/
def ldT (J : zJ) (v u : Int) : Prop := ¬ J 19 (7 + v) = -1 ∧ bt (J 13 (J 19 (7 + v))) u
def clq (f : Int → Int → Prop) (Q : Int → Prop) : Prop := ∀ v u, (0 ≤ v ∧ v < 8) → (0 ≤ u ∧ u < 8) → Q v → f v u → Q u
def rcl (f : Int → Int → Prop) (x y : Int) : Prop := (∀ u, (0 ≤ u ∧ u < 8) → bt x u → bt y u) ∧ ∀ Q : Int → Prop, clq f Q → (∀ u, (0 ≤ u ∧ u < 8) → bt x u → Q u) → ∀ u, (0 ≤ u ∧ u < 8) → bt y u → Q u
theorem rcl.rf {f : Int → Int → Prop} {x : Int} : rcl f x x := ⟨fun _ _ q => q, fun _ _ h => h⟩
theorem rcl.tr {f : Int → Int → Prop} {x y z : Int} (h : rcl f x y) (g : rcl f y z) : rcl f x z := ⟨fun u hu q => g.1 u hu (h.1 u hu q), fun Q c q => g.2 Q c (h.2 Q c q)⟩
theorem rcl.up {f : Int → Int → Prop} {x x2 v y : Int} (h : rcl f x x2) (hv : 0 ≤ v ∧ v < 8) (b : bt x2 v) (hy : ∀ u, bt y u → f v u) : rcl f x (zor x2 y) := ⟨fun u hu q => bt_or.2 (Or.inl (h.1 u hu q)), fun Q c q u hu b2 => (bt_or.1 b2).elim (h.2 Q c q u hu) (fun b3 => c v u hv hu (h.2 Q c q v hv b) (hy u b3))⟩
def bc (x : Int) : Nat := cnt (fun k => decide (zand (zshr x k) 1 = 1)) 8
theorem bc_lt {x y : Int} (h : ∀ u, (0 ≤ u ∧ u < 8) → bt x u → bt y u) (e : ∃ u, (0 ≤ u ∧ u < 8) ∧ bt y u ∧ ¬ bt x u) : bc x < bc y := by
  obtain ⟨u, hu, e1, e2⟩ := e
  exact cnt_lt 8 (fun k a c q => decide_eq_true (p := zand (zshr y k) 1 = 1) (h k ⟨a, by omega⟩ (of_decide_eq_true (p := zand (zshr x k) 1 = 1) q))) ⟨u, ⟨hu.1, by omega⟩, decide_eq_true (p := zand (zshr y u) 1 = 1) e1, decide_eq_false (p := zand (zshr x u) 1 = 1) e2⟩
theorem bc_8 (x : Int) : bc x ≤ 8 := cnt_n 8
theorem bc_1 {f : Int → Int → Prop} {x : Int} : clq f (bt x) ∨ 1 ≤ bc x := by
  by_cases e : ∃ u, (0 ≤ u ∧ u < 8) ∧ bt x u
  · obtain ⟨u, hu, e⟩ := e
    have := cnt_lt (p := fun k => decide (zand (zshr x k) 1 = 1)) (q := fun _ => false) 8 (fun k a c q => absurd q (by decide)) ⟨u, ⟨hu.1, by omega⟩, decide_eq_true (p := zand (zshr x u) 1 = 1) e, rfl⟩
    exact Or.inr (by unfold bc; omega)
  · exact Or.inl (fun v u hv _ q => absurd ⟨v, hv, q⟩ e)
theorem rcl.go {f : Int → Int → Prop} {x x2 k : Int} (hk : 0 ≤ k) (h : rcl f x x2) (i2 : ∀ w u, (0 ≤ w ∧ w < 8) → (0 ≤ u ∧ u < 8) → bt x w → f w u → bt x2 u) (c : clq f (bt x) ∨ k + 1 ≤ bc x) : clq f (bt x2) ∨ k + 1 + 1 ≤ bc x2 := by
  by_cases q : clq f (bt x)
  · left
    intro v u hv hu b g
    exact h.1 u hu (q v u hv hu (h.2 (bt x) q (fun _ _ w => w) v hv b) g)
  · right
    have e : ∃ u, (0 ≤ u ∧ u < 8) ∧ bt x2 u ∧ ¬ bt x u := Classical.byContradiction (fun n => q (fun v u hv hu b g => Classical.byContradiction (fun m => n ⟨u, hu, i2 v u hv hu b g, m⟩)))
    have := bc_lt h.1 e
    rcases c with c | c
    · exact absurd c q
    · omega
theorem i2_s {f : Int → Int → Prop} {x x2 x3 v : Int} (h : ∀ w u, (0 ≤ w ∧ w < v) → (0 ≤ u ∧ u < 8) → bt x w → f w u → bt x2 u) (hx : ∀ u, bt x2 u → bt x3 u) (hv : ∀ u, (0 ≤ u ∧ u < 8) → bt x v → f v u → bt x3 u) : ∀ w u, (0 ≤ w ∧ w < v + 1) → (0 ≤ u ∧ u < 8) → bt x w → f w u → bt x3 u := fun w u hw hu b g => by
  by_cases e : w = v
  · subst e; exact hv u hu b g
  · exact hx u (h w u (by omega) hu b g)
theorem A0.org {J S : zJ} {m : Int} (E : A0 J S) (C : CT J m) (hm : J 6 12 = m) : ∀ (k : Nat) (t v : Int), (0 ≤ t ∧ t < m) → occ S 0 0 k t v → 0 ≤ v ∧ v < 8
  | 0, _, _, _, o => o.elim
  | k + 1, t, v, ht, o => by
    obtain ⟨e1, e2, e3⟩ := E.tm C hm ht
    have ha := C.ar ht.1 ht.2
    rcases o with ⟨o1, o2⟩ | ⟨i, hi, o⟩
    · omega
    · rw [e2] at hi
      rw [e3 i hi.1 hi.2] at o
      have := C.arg ht.1 ht.2 hi.1 hi.2
      exact A0.org E C hm k _ v ⟨this.1.1, by omega⟩ o
theorem ring_y {J S : zJ} {β : Int → Int} {m t v z0 z1 : Int} (E : A0 J S) (C : CT J m) (hm : J 6 12 = m) (hβ : ∀ v, 0 ≤ v → v < 8 → β v = J 19 (7 + v)) (hr : rOK J 19 7 m) (ht : 0 ≤ t ∧ t < m) (r0 : rcl (ldT J) (J 13 t) z0) (hv : 0 ≤ v ∧ v < 8) (b : bt z0 v) (hb : ¬ J 19 (7 + v) = -1) (r1 : rcl (ldT J) (J 13 (J 19 (7 + v))) z1) (b1 : bt z1 v) : ¬ NRb S β t := by
  rintro ⟨rk, P, h1, h2, h3⟩
  have st : ∀ w u, (0 ≤ w ∧ w < 8) → (0 ≤ u ∧ u < 8) → P w → ldT J w u → P u ∧ (¬ β u = -1 → rk u < rk w) := fun w u hw hu p g => by
    have y := hr w hw.1 hw.2
    have e := hβ w hw.1 hw.2
    have g1 := g.1
    refine h3 w hw p (by omega) u ?_
    rw [e]
    exact (E.oc C hm (by omega) hu).1 g.2
  have pv : P v := r0.2 P (fun w u hw hu p g => (st w u hw hu p g).1) (fun u hu q => h2 u ((E.oc C hm ht hu).1 q)) v hv b
  have q := r1.2 (fun u => P u ∧ (¬ β u = -1 → rk u < rk v)) (fun w u hw hu p g => by
    obtain ⟨a, c⟩ := st w u hw hu p.1 g
    have e := hβ w hw.1 hw.2
    have g1 := g.1
    exact ⟨a, fun d => Nat.lt_trans (c d) (p.2 (by omega))⟩) (fun u hu q => st v u hv hu pv ⟨hb, q⟩) v hv b1
  have e := hβ v hv.1 hv.2
  exact Nat.lt_irrefl _ (q.2 (by omega))
/-- all that a variable leads to -/
def RSv (J : zJ) (v u : Int) : Prop := ∀ Q : Int → Prop, clq (ldT J) Q → (∀ u, (0 ≤ u ∧ u < 8) → bt (J 13 (J 19 (7 + v))) u → Q u) → Q u
theorem ring_n {J S : zJ} {β : Int → Int} {m t z0 : Int} (E : A0 J S) (C : CT J m) (hm : J 6 12 = m) (hβ : ∀ v, 0 ≤ v → v < 8 → β v = J 19 (7 + v)) (hr : rOK J 19 7 m) (ht : 0 ≤ t ∧ t < m) (r0 : rcl (ldT J) (J 13 t) z0) (c0 : clq (ldT J) (bt z0)) (hn : ∀ w, 0 ≤ w → w < 8 → bt z0 w → ¬ J 19 (7 + w) = -1 → ∃ z, rcl (ldT J) (J 13 (J 19 (7 + w))) z ∧ clq (ldT J) (bt z) ∧ ¬ bt z w) : NRb S β t := by
  refine ⟨fun v => cnt (fun k => @decide (RSv J v k) (Classical.propDecidable _)) 8, fun v => (0 ≤ v ∧ v < 8) ∧ bt z0 v, fun v => cnt_n 8, fun v o => ?_, fun v hv p b u o => ?_⟩
  · have hv : 0 ≤ v ∧ v < 8 := o.elim (fun k o => E.org C hm k t v ht o)
    exact ⟨hv, r0.1 v hv ((E.oc C hm ht hv).2 o)⟩
  · have y := hr v hv.1 hv.2
    have e := hβ v hv.1 hv.2
    rw [e] at b o
    have hu : 0 ≤ u ∧ u < 8 := o.elim (fun k o => E.org C hm k _ u (by omega) o)
    have g : ldT J v u := ⟨b, (E.oc C hm (by omega) hu).2 o⟩
    have zu := c0 v u hv hu p.2 g
    refine ⟨⟨hu, zu⟩, fun bu => ?_⟩
    rw [hβ u hu.1 hu.2] at bu
    obtain ⟨z, q1, q2, q3⟩ := hn u hu.1 hu.2 zu bu
    refine cnt_lt 8 (fun k a c q => @decide_eq_true _ (Classical.propDecidable _) ?_) ⟨u, ⟨hu.1, by omega⟩, @decide_eq_true _ (Classical.propDecidable _) ?_, @decide_eq_false _ (Classical.propDecidable _) ?_⟩
    · have q' : RSv J u k := @of_decide_eq_true _ (Classical.propDecidable _) q
      intro Q c1 c2
      exact q' Q c1 (fun w hw bw => c1 u w hu hw (c2 u hu g.2) ⟨bu, bw⟩)
    · intro Q c1 c2
      exact c2 u hu g.2
    · intro q'
      exact q3 (q' (bt z) q2 q1.1)
set_option maxHeartbeats 4000000 in
set_option maxRecDepth 100000 in
theorem x_reached {l : Launch} {G : tb_G} (hl : l.stackTraces = false) (n : Nat) (J : zJ) (bs : Int) (hr_bs : -2147483648 ≤ bs ∧ bs < 2147483648) (m : Int) (C : CT J m) (hr : rOK J 19 7 m) : tz_Ok l G M_X2_reachedFrom 0 0 0 [.ref 141, zi bs, .ref 19, zi 7] n J (zqi (fun z J' => J = J' ∧ rcl (ldT J) bs z ∧ clq (ldT J) (bt z))) zN := by
  refine tz_Ok.of hl (by decide +kernel) rfl (tb_c1 rfl) (Nat.le_of_ble_eq_true rfl) ?_
  show tz_At l G M_X2_reachedFrom (tb_rm 0 0 0) none (tb_ZM G 0 0 (zQ n 0 (zqi (fun z J' => J = J' ∧ rcl (ldT J) bs z ∧ clq (ldT J) (bt z)))) (zX n 0 zN)) 0 0 n J 0 [some (.ref 141), some (zi bs), some (.ref 19), some (zi 7), none, none, none, none] []
  have hb := C.told
  refine tz_iload_n (pc := 0) dX2_reachedFrom_0 rfl rfl ?_
  refine tz_istore (pc := 1) (L2 := [_, _, _, _, _, _, _, _]) dX2_reachedFrom_1 (by decide) rfl ?_
  refine tz_iconst (pc := 3) dX2_reachedFrom_3 ?_
  refine tz_istore (pc := 4) (L2 := [_, _, _, _, _, _, _, _]) dX2_reachedFrom_4 (by decide) rfl ?_
  have loop6 : ∀ (f9 : Nat) (x : Int) (k : Int) (d6 : Option Value) (d7 : Option Value), ((8 - k).toNat) < f9 → (-2147483648 ≤ x ∧ x < 2147483648) → (0 ≤ k ∧ k ≤ 8) → (rcl (ldT J) bs x) → (clq (ldT J) (bt x) ∨ k + 1 ≤ bc x) → tz_At l G M_X2_reachedFrom (tb_rm 0 0 0) none (tb_ZM G 0 0 (zQ n 0 (zqi (fun z J' => J = J' ∧ rcl (ldT J) bs z ∧ clq (ldT J) (bt z)))) (zX n 0 zN)) 0 0 n J 6 [some (.ref 141), some (zi bs), some (.ref 19), some (zi 7), some (zi x), some (zi k), d6, d7] [] := by
    intro f9
    induction f9 with
    | zero => intro x k d6 d7 hm9; exact absurd hm9 (Nat.not_lt_zero _)
    | succ f9 ih6 =>
      intro x k d6 d7 hm6 hx hk i0 ic
      refine tz_iload (pc := 6) dX2_reachedFrom_6 rfl ?_
      refine tz_bipush (pc := 8) dX2_reachedFrom_8 (by decide) ?_
      refine tz_icmp_ge (pc := 10) (tgt := 74) dX2_reachedFrom_10 (by decide) (by omega) (by decide) (fun h_10 => ?_) (fun h_10 => ?_)
      · refine tz_iload (pc := 74) dX2_reachedFrom_74 rfl ?_
        exact tz_iret (pc := 76) (z := x) dX2_reachedFrom_76 rfl (Nat.le_of_ble_eq_true rfl) (Nat.le_of_ble_eq_true rfl) ⟨Nat.le_refl _, Nat.le_add_right _ _⟩ ⟨_, rfl, (by omega), ⟨rfl, i0, ic.elim id (fun q => by have := bc_8 x; omega)⟩⟩
      · refine tz_iconst (pc := 13) dX2_reachedFrom_13 ?_
        refine tz_istore (pc := 14) (L2 := [_, _, _, _, _, _, _, _]) dX2_reachedFrom_14 (by decide) rfl ?_
        have loop16 : ∀ (f9 : Nat) (x2 : Int) (v : Int) (e7 : Option Value), ((8 - v).toNat) < f9 → (-2147483648 ≤ x2 ∧ x2 < 2147483648) → (0 ≤ v ∧ v ≤ 8) → (rcl (ldT J) x x2) → (∀ w u, (0 ≤ w ∧ w < v) → (0 ≤ u ∧ u < 8) → bt x w → ldT J w u → bt x2 u) → tz_At l G M_X2_reachedFrom (tb_rm 0 0 0) none (tb_ZM G 0 0 (zQ n 0 (zqi (fun z J' => J = J' ∧ rcl (ldT J) bs z ∧ clq (ldT J) (bt z)))) (zX n 0 zN)) 0 0 n J 16 [some (.ref 141), some (zi bs), some (.ref 19), some (zi 7), some (zi x2), some (zi k), some (zi v), e7] [] := by
          intro f9
          induction f9 with
          | zero => intro x2 v e7 hm9; exact absurd hm9 (Nat.not_lt_zero _)
          | succ f9 ih16 =>
            intro x2 v e7 hm16 hx2 hv i1 i2
            have hq := hr v
            refine tz_iload (pc := 16) dX2_reachedFrom_16 rfl ?_
            refine tz_bipush (pc := 18) dX2_reachedFrom_18 (by decide) ?_
            refine tz_icmp_ge (pc := 20) (tgt := 68) dX2_reachedFrom_20 (by decide) (by omega) (by decide) (fun h_20 => ?_) (fun h_20 => ?_)
            · refine tz_iinc (pc := 68) (z := k + 1) (L2 := [_, _, _, _, _, _, _, _]) dX2_reachedFrom_68 rfl (by omega) rfl ?_
              refine tz_goto (pc := 71) (tgt := 6) dX2_reachedFrom_71 (by decide) ?_
              exact ih6 _ (k + 1) _ _ (by omega) hx2 (by omega) (i0.tr i1) (i1.go hk.1 (fun a u ha hu bx g => i2 a u (by omega) hu bx g) ic)
            · refine tz_aload_n (pc := 23) dX2_reachedFrom_23 rfl rfl ?_
              refine tz_iload_n (pc := 24) dX2_reachedFrom_24 rfl rfl ?_
              refine tz_iload (pc := 25) dX2_reachedFrom_25 rfl ?_
              refine tz_iadd (pc := 27) (v := 7 + v) dX2_reachedFrom_27 rfl ?_
              refine tz_aL (pc := 28) (z := (7 + v)) (v := (J 19 (7 + v))) dX2_reachedFrom_28 a_19 rfl (by omega) rfl (fun r_28 => ?_)
              refine tz_istore (pc := 29) (L2 := [_, _, _, _, _, _, _, _]) dX2_reachedFrom_29 (by decide) rfl ?_
              refine tz_iload (pc := 31) dX2_reachedFrom_31 rfl ?_
              refine tz_iload (pc := 33) dX2_reachedFrom_33 rfl ?_
              refine tz_ishr (pc := 35) (v := zshr x2 v) dX2_reachedFrom_35 rfl ?_
              refine tz_iconst (pc := 36) dX2_reachedFrom_36 ?_
              refine tz_iand (pc := 37) (v := zand (zshr x2 v) 1) dX2_reachedFrom_37 rfl ?_
              have r_37 := zand_rg (zshr x2 v) 1
              refine tz_if_eq (pc := 38) (tgt := 62) dX2_reachedFrom_38 (by decide) (zand_rg _ _) (fun h_38 => ?_) (fun h_38 => ?_)
              · refine tz_iinc (pc := 62) (z := v + 1) (L2 := [_, _, _, _, _, _, _, _]) dX2_reachedFrom_62 rfl (by omega) rfl ?_
                refine tz_goto (pc := 65) (tgt := 16) dX2_reachedFrom_65 (by decide) ?_
                exact ih16 _ (v + 1) _ (by omega) (by omega) (by omega) i1 (i2_s i2 (fun _ q => q) (fun u hu bx g => by first | exact absurd (i1.1 v (by omega) bx) (by unfold bt; omega) | exact absurd (show J 19 (7 + v) = -1 by omega) g.1))
              · refine tz_iload (pc := 41) dX2_reachedFrom_41 rfl ?_
                refine tz_iconst (pc := 43) dX2_reachedFrom_43 ?_
                refine tz_icmp_eq (pc := 44) (tgt := 62) dX2_reachedFrom_44 (by decide) (by omega) (by decide) (fun h_44 => ?_) (fun h_44 => ?_)
                · refine tz_iinc (pc := 62) (z := v + 1) (L2 := [_, _, _, _, _, _, _, _]) dX2_reachedFrom_62 rfl (by omega) rfl ?_
                  refine tz_goto (pc := 65) (tgt := 16) dX2_reachedFrom_65 (by decide) ?_
                  exact ih16 _ (v + 1) _ (by omega) (by omega) (by omega) i1 (i2_s i2 (fun _ q => q) (fun u hu bx g => by first | exact absurd (i1.1 v (by omega) bx) (by unfold bt; omega) | exact absurd (show J 19 (7 + v) = -1 by omega) g.1))
                · refine tz_iload (pc := 47) dX2_reachedFrom_47 rfl ?_
                  refine tz_aload_n (pc := 49) dX2_reachedFrom_49 rfl rfl ?_
                  refine tz_fR (pc := 50) dX2_reachedFrom_50 fl_X2_28 r_141_0 ?_
                  refine tz_fR (pc := 53) dX2_reachedFrom_53 fl_X2_56 r_6_7 ?_
                  refine tz_iload (pc := 56) dX2_reachedFrom_56 rfl ?_
                  refine tz_aL (pc := 58) (z := (J 19 (7 + v))) (v := (J 13 (J 19 (7 + v)))) dX2_reachedFrom_58 a_13 rfl (by omega) rfl (fun r_58 => ?_)
                  refine tz_ior (pc := 59) (v := zor x2 (J 13 (J 19 (7 + v)))) dX2_reachedFrom_59 rfl ?_
                  have r_59 := zor_rg x2 (J 13 (J 19 (7 + v)))
                  refine tz_istore (pc := 60) (L2 := [_, _, _, _, _, _, _, _]) dX2_reachedFrom_60 (by decide) rfl ?_
                  refine tz_iinc (pc := 62) (z := v + 1) (L2 := [_, _, _, _, _, _, _, _]) dX2_reachedFrom_62 rfl (by omega) rfl ?_
                  refine tz_goto (pc := 65) (tgt := 16) dX2_reachedFrom_65 (by decide) ?_
                  exact ih16 _ (v + 1) _ (by omega) (by omega) (by omega) (i1.up (by omega) (show zand (zshr x2 v) 1 = 1 by have := z_and (zshr x2 v) (m := 1) 1 (by decide) (by decide); omega) (fun u q => ⟨by omega, q⟩)) (i2_s i2 (fun _ q => bt_or.2 (Or.inl q)) (fun u hu bx g => bt_or.2 (Or.inr g.2)))
        exact loop16 _ _ 0 _ (Nat.lt_succ_self _) hx (by omega) rcl.rf (fun w u hw => by omega)
  exact loop6 _ _ 0 none none (Nat.lt_succ_self _) hr_bs (by omega) rcl.rf (bc_1.imp id (fun q => by omega))

set_option maxHeartbeats 4000000 in
set_option maxRecDepth 100000 in
theorem x_hasRing {l : Launch} {G : tb_G} (hl : l.stackTraces = false) (n : Nat) (J : zJ) (t : Int) (hr_t : -2147483648 ≤ t ∧ t < 2147483648) (m : Int) (C : CT J m) (hm : J 6 12 = m) (hr : rOK J 19 7 m) (ht : 0 ≤ t ∧ t < m) : tz_Ok l G M_X2_hasRing 1 0 0 [.ref 141, zi t, .ref 19, zi 7] n J (zqi (fun z J' => J = J' ∧ (z = 0 ∨ z = 1) ∧ (z = 0 → ∀ S β, A0 J S → (∀ v, 0 ≤ v → v < 8 → β v = J 19 (7 + v)) → NRb S β t) ∧ (z = 1 → ∀ S β, A0 J S → (∀ v, 0 ≤ v → v < 8 → β v = J 19 (7 + v)) → ¬ NRb S β t))) zN := by
  refine tz_Ok.of hl (by decide +kernel) rfl (tb_c1 rfl) (Nat.le_of_ble_eq_true rfl) ?_
  show tz_At l G M_X2_hasRing (tb_rm 1 0 0) none (tb_ZM G 0 0 (zQ n 0 (zqi (fun z J' => J = J' ∧ (z = 0 ∨ z = 1) ∧ (z = 0 → ∀ S β, A0 J S → (∀ v, 0 ≤ v → v < 8 → β v = J 19 (7 + v)) → NRb S β t) ∧ (z = 1 → ∀ S β, A0 J S → (∀ v, 0 ≤ v → v < 8 → β v = J 19 (7 + v)) → ¬ NRb S β t)))) (zX n 0 zN)) 0 0 n J 0 [some (.ref 141), some (zi t), some (.ref 19), some (zi 7), none, none, none] []
  have hb := C.told
  refine tz_aload_n (pc := 0) dX2_hasRing_0 rfl rfl ?_
  refine tz_aload_n (pc := 1) dX2_hasRing_1 rfl rfl ?_
  refine tz_fR (pc := 2) dX2_hasRing_2 fl_X2_28 r_141_0 ?_
  refine tz_fR (pc := 5) dX2_hasRing_5 fl_X2_56 r_6_7 ?_
  refine tz_iload_n (pc := 8) dX2_hasRing_8 rfl rfl ?_
  refine tz_aL (pc := 9) (z := t) (v := (J 13 t)) dX2_hasRing_9 a_13 rfl (by omega) rfl (fun r_9 => ?_)
  refine tz_aload_n (pc := 10) dX2_hasRing_10 rfl rfl ?_
  refine tz_iload_n (pc := 11) dX2_hasRing_11 rfl rfl ?_
  refine tz_cV (pc := 12) (x_reached hl n _ _ (by omega) m C hr) vl_X2_59 dX2_hasRing_12 o_141 rfl rfl (Nat.le_of_ble_eq_true rfl) ⟨(Nat.le_of_ble_eq_true rfl), (Nat.le_of_ble_eq_true rfl)⟩ rfl rfl (Nat.le_of_ble_eq_true rfl) (Nat.le_of_ble_eq_true rfl) (fun r9 J_12 hq9 => ?_)
  obtain ⟨z_12, rfl, hz_12, rfl, r0_12, c0_12⟩ := hq9
  refine tz_istore (pc := 15) (L2 := [_, _, _, _, _, _, _]) dX2_hasRing_15 (by decide) rfl ?_
  refine tz_iconst (pc := 17) dX2_hasRing_17 ?_
  refine tz_istore (pc := 18) (L2 := [_, _, _, _, _, _, _]) dX2_hasRing_18 (by decide) rfl ?_
  have loop20 : ∀ (f9 : Nat) (v : Int) (d6 : Option Value), ((8 - v).toNat) < f9 → (0 ≤ v ∧ v ≤ 8) → (∀ w, 0 ≤ w → w < v → bt z_12 w → ¬ J 19 (7 + w) = -1 → ∃ z, rcl (ldT J) (J 13 (J 19 (7 + w))) z ∧ clq (ldT J) (bt z) ∧ ¬ bt z w) → tz_At l G M_X2_hasRing (tb_rm 1 0 0) none (tb_ZM G 0 0 (zQ n 0 (zqi (fun z J' => J = J' ∧ (z = 0 ∨ z = 1) ∧ (z = 0 → ∀ S β, A0 J S → (∀ v, 0 ≤ v → v < 8 → β v = J 19 (7 + v)) → NRb S β t) ∧ (z = 1 → ∀ S β, A0 J S → (∀ v, 0 ≤ v → v < 8 → β v = J 19 (7 + v)) → ¬ NRb S β t)))) (zX n 0 zN)) 0 0 n J 20 [some (.ref 141), some (zi t), some (.ref 19), some (zi 7), some (zi z_12), some (zi v), d6] [] := by
    intro f9
    induction f9 with
    | zero => intro v d6 hm9; exact absurd hm9 (Nat.not_lt_zero _)
    | succ f9 ih20 =>
      intro v d6 hm20 hv hh
      have hq := hr v
      refine tz_iload (pc := 20) dX2_hasRing_20 rfl ?_
      refine tz_bipush (pc := 22) dX2_hasRing_22 (by decide) ?_
      refine tz_icmp_ge (pc := 24) (tgt := 83) dX2_hasRing_24 (by decide) (by omega) (by decide) (fun h_24 => ?_) (fun h_24 => ?_)
      · refine tz_iconst (pc := 83) dX2_hasRing_83 ?_
        exact tz_zret (pc := 84) (z := 0) dX2_hasRing_84 rfl (Or.inl rfl) (Nat.le_of_ble_eq_true rfl) (Nat.le_of_ble_eq_true rfl) ⟨Nat.le_refl _, Nat.le_add_right _ _⟩ ⟨_, rfl, (by decide), ⟨rfl, Or.inl rfl, fun _ S β E hβ => ring_n E C hm hβ hr ht r0_12 c0_12 (fun w a b => hh w a (by omega)), fun q => absurd q (by decide)⟩⟩
      · refine tz_aload_n (pc := 27) dX2_hasRing_27 rfl rfl ?_
        refine tz_iload_n (pc := 28) dX2_hasRing_28 rfl rfl ?_
        refine tz_iload (pc := 29) dX2_hasRing_29 rfl ?_
        refine tz_iadd (pc := 31) (v := 7 + v) dX2_hasRing_31 rfl ?_
        refine tz_aL (pc := 32) (z := (7 + v)) (v := (J 19 (7 + v))) dX2_hasRing_32 a_19 rfl (by omega) rfl (fun r_32 => ?_)
        refine tz_istore (pc := 33) (L2 := [_, _, _, _, _, _, _]) dX2_hasRing_33 (by decide) rfl ?_
        refine tz_iload (pc := 35) dX2_hasRing_35 rfl ?_
        refine tz_iload (pc := 37) dX2_hasRing_37 rfl ?_
        refine tz_ishr (pc := 39) (v := zshr z_12 v) dX2_hasRing_39 rfl ?_
        refine tz_iconst (pc := 40) dX2_hasRing_40 ?_
        refine tz_iand (pc := 41) (v := zand (zshr z_12 v) 1) dX2_hasRing_41 rfl ?_
        have r_41 := zand_rg (zshr z_12 v) 1
        refine tz_if_eq (pc := 42) (tgt := 77) dX2_hasRing_42 (by decide) (zand_rg _ _) (fun h_42 => ?_) (fun h_42 => ?_)
        · refine tz_iinc (pc := 77) (z := v + 1) (L2 := [_, _, _, _, _, _, _]) dX2_hasRing_77 rfl (by omega) rfl ?_
          refine tz_goto (pc := 80) (tgt := 20) dX2_hasRing_80 (by decide) ?_
          exact ih20 (v + 1) _ (by omega) (by omega) (fun w a b q1 q2 => (Decidable.em (w = v)).elim (fun e => by rw [e] at q1 q2 ⊢; first | exact ⟨z_64, r0_64, c0_64, by unfold bt; omega⟩ | exact absurd (show J 19 (7 + v) = -1 by omega) q2 | exact absurd q1 (by unfold bt; omega)) (fun e => hh w a (by omega) q1 q2))
        · refine tz_iload (pc := 45) dX2_hasRing_45 rfl ?_
          refine tz_iconst (pc := 47) dX2_hasRing_47 ?_
          refine tz_icmp_eq (pc := 48) (tgt := 77) dX2_hasRing_48 (by decide) (by omega) (by decide) (fun h_48 => ?_) (fun h_48 => ?_)
          · refine tz_iinc (pc := 77) (z := v + 1) (L2 := [_, _, _, _, _, _, _]) dX2_hasRing_77 rfl (by omega) rfl ?_
            refine tz_goto (pc := 80) (tgt := 20) dX2_hasRing_80 (by decide) ?_
            exact ih20 (v + 1) _ (by omega) (by omega) (fun w a b q1 q2 => (Decidable.em (w = v)).elim (fun e => by rw [e] at q1 q2 ⊢; first | exact ⟨z_64, r0_64, c0_64, by unfold bt; omega⟩ | exact absurd (show J 19 (7 + v) = -1 by omega) q2 | exact absurd q1 (by unfold bt; omega)) (fun e => hh w a (by omega) q1 q2))
          · refine tz_aload_n (pc := 51) dX2_hasRing_51 rfl rfl ?_
            refine tz_aload_n (pc := 52) dX2_hasRing_52 rfl rfl ?_
            refine tz_fR (pc := 53) dX2_hasRing_53 fl_X2_28 r_141_0 ?_
            refine tz_fR (pc := 56) dX2_hasRing_56 fl_X2_56 r_6_7 ?_
            refine tz_iload (pc := 59) dX2_hasRing_59 rfl ?_
            refine tz_aL (pc := 61) (z := (J 19 (7 + v))) (v := (J 13 (J 19 (7 + v)))) dX2_hasRing_61 a_13 rfl (by omega) rfl (fun r_61 => ?_)
            refine tz_aload_n (pc := 62) dX2_hasRing_62 rfl rfl ?_
            refine tz_iload_n (pc := 63) dX2_hasRing_63 rfl rfl ?_
            refine tz_cV (pc := 64) (x_reached hl n _ _ (by omega) m C hr) vl_X2_59 dX2_hasRing_64 o_141 rfl rfl (Nat.le_of_ble_eq_true rfl) ⟨(Nat.le_of_ble_eq_true rfl), (Nat.le_of_ble_eq_true rfl)⟩ rfl rfl (Nat.le_of_ble_eq_true rfl) (Nat.le_of_ble_eq_true rfl) (fun r9 J_64 hq9 => ?_)
            obtain ⟨z_64, rfl, hz_64, rfl, r0_64, c0_64⟩ := hq9
            refine tz_iload (pc := 67) dX2_hasRing_67 rfl ?_
            refine tz_ishr (pc := 69) (v := zshr z_64 v) dX2_hasRing_69 rfl ?_
            refine tz_iconst (pc := 70) dX2_hasRing_70 ?_
            refine tz_iand (pc := 71) (v := zand (zshr z_64 v) 1) dX2_hasRing_71 rfl ?_
            have r_71 := zand_rg (zshr z_64 v) 1
            refine tz_if_eq (pc := 72) (tgt := 77) dX2_hasRing_72 (by decide) (zand_rg _ _) (fun h_72 => ?_) (fun h_72 => ?_)
            · refine tz_iinc (pc := 77) (z := v + 1) (L2 := [_, _, _, _, _, _, _]) dX2_hasRing_77 rfl (by omega) rfl ?_
              refine tz_goto (pc := 80) (tgt := 20) dX2_hasRing_80 (by decide) ?_
              exact ih20 (v + 1) _ (by omega) (by omega) (fun w a b q1 q2 => (Decidable.em (w = v)).elim (fun e => by rw [e] at q1 q2 ⊢; first | exact ⟨z_64, r0_64, c0_64, by unfold bt; omega⟩ | exact absurd (show J 19 (7 + v) = -1 by omega) q2 | exact absurd q1 (by unfold bt; omega)) (fun e => hh w a (by omega) q1 q2))
            · refine tz_iconst (pc := 75) dX2_hasRing_75 ?_
              exact tz_zret (pc := 76) (z := 1) dX2_hasRing_76 rfl (Or.inr rfl) (Nat.le_of_ble_eq_true rfl) (Nat.le_of_ble_eq_true rfl) ⟨Nat.le_refl _, Nat.le_add_right _ _⟩ ⟨_, rfl, (by decide), ⟨rfl, Or.inr rfl, fun q => absurd q (by decide), fun _ S β E hβ => ring_y E C hm hβ hr ht r0_12 (v := v) (by omega) (by have := z_and (zshr z_12 v) (m := 1) 1 (by decide) (by decide); show zand (zshr z_12 v) 1 = 1; omega) (by omega) r0_64 (by have := z_and (zshr z_64 v) (m := 1) 1 (by decide) (by decide); show zand (zshr z_64 v) 1 = 1; omega)⟩⟩
  exact loop20 _ 0 none (Nat.lt_succ_self _) (by omega) (fun w a b => by omega)

