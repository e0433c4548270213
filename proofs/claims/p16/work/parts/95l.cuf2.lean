/-! ===== listAll, takenAway of the class, exact ===== -/
theorem uu_up {J2 J1 : zJ} {z v : Int} (e : ∀ k, J2 154 k = if k = z then v else J1 154 k) (e6 : J2 146 = J1 146) (e0 : J2 145 10 = J1 145 10) (az : J1 146 z = J1 145 10) : ∀ y, uuV J2 y = if y = z then v else uuV J1 y := fun y => by
  unfold uuV
  rw [e6, e0, e]
  by_cases w : y = z
  · rw [if_pos w, if_pos w, w, if_pos az]
  · rw [if_neg w, if_neg w]
theorem hw_l {c m i D x0 z : Int} {S : zJ} {T : Int → Int} (dv : VN c m D ∧ T D = D) (xs : VN c m x0 ∧ 0 ≤ hdN S 0 x0 ∧ T x0 = D) (hi : 0 ≤ i ∧ i < arN S 0 0 x0) (va : VN c m (agN S 0 x0 i)) (e : T (agN S 0 x0 i) = z) (vz : VN c m z ∧ T z = z) : ∀ (rk : Int → Nat) (P : Int → Prop), WTu (VN c m) (hdN S 0) (arN S 0 0) (agN S 0) (fun u v => T u = T v) rk P → P D → P z := fun rk P w pd => by
  have p0 := (w.1 D x0 dv.1 xs.1 (dv.2.trans xs.2.2.symm) pd).1
  have p1 := (w.2 x0 xs.1 p0 xs.2.1 i hi.1 hi.2).1
  exact (w.1 _ z va vz.1 (e.trans vz.2.symm) p1).1
theorem TKI.ub {c m g k i p : Int} {S : zJ} {T sh r u : Int → Int} {L : Int → Prop} (h : TKI c m S T sh L r u g k i 1) (lp : L p) : u p ≤ 2403 := by
  have a := h.2.2.2.1 p lp
  have b := SUd.le (S := S) (T := T) (sh := sh) (D := fun d => L d ∧ ¬ DLr r (k + 1) d) (c := p)
  have d := eP_nn (S := S) (T := T) (sh := sh) (d := r k) (c := p) (i := i)
  have e := eP_3 (S := S) (T := T) (sh := sh) (d := r k) (c := p) (i := 3)
  omega
set_option maxHeartbeats 4000000 in
set_option maxRecDepth 100000 in
theorem u_listAll {l : Launch} {G : tb_G} (hl : l.stackTraces = false) (n : Nat) (J : zJ) (x : Int) (hr_x : -2147483648 ≤ x ∧ x < 2147483648) (b m c : Int) (S : zJ) (T sh : Int → Int) (C : CT J m) (hm6 : J 6 12 = m) (E : A0 J S) (hU : UI J b m) (hx : nd b m x) (ax : J 146 x = J 145 10) (hP : UFp (VN c m) (upV J)) (hS : SHp (VN c m) (hdN S 0) (upV J) (usV J) (ulV J)) (rx : upV J x = x) (hTT : ∀ y, VN c m y → tp (upV J) y = T y) (hsh : ∀ y, VN c m y → usV J y = sh y) (hbc : (b = 0 ∧ c = 400) ∨ (b = 400 ∧ c = 800)) (hu0 : ∀ y, VN c m y → uuV J y = -1) : tz_Ok l G M_X10_listAll 3 0 0 [.ref 145, zi x] n J (zqi (fun z J' => (UW J' J b m ∧ zOf (zbut [146, 147, 148, 149, 150, 153, 154]) J' J) ∧ (∃ L, LSE c m S T sh x L (uuV J') z) ∧ vF c m J' J)) zN := by
  refine tz_Ok.of hl (by decide +kernel) rfl (tb_c1 rfl) (Nat.le_of_ble_eq_true rfl) ?_
  show tz_At l G M_X10_listAll (tb_rm 3 0 0) none (tb_ZM G 0 0 (zQ n 0 (zqi (fun z J' => (UW J' J b m ∧ zOf (zbut [146, 147, 148, 149, 150, 153, 154]) J' J) ∧ (∃ L, LSE c m S T sh x L (uuV J') z) ∧ vF c m J' J))) (zX n 0 zN)) 0 0 n J 0 [some (.ref 145), some (zi x), none, none, none, none, none] []
  have hb := C.told
  have hm := hb.2
  have hx2 := hx.rg hm
  have hL0 : lsI J J b m 0 := ⟨by decide, fun k a c => by omega⟩
  have hc9 : c = 400 ∨ c = 800 := by omega
  have hxv := (nd.vn hbc hm).1 hx
  have ux9 : uuV J x = J 154 x := by unfold uuV; rw [if_pos ax]
  refine tz_iconst (pc := 0) dX10_listAll_0 ?_
  refine tz_istore_n (pc := 1) (L2 := [_, _, _, _, _, _, _]) dX10_listAll_1 rfl (by decide) rfl ?_
  refine tz_aload_n (pc := 2) dX10_listAll_2 rfl rfl ?_
  refine tz_fR (pc := 3) dX10_listAll_3 fl_X10_33 r_145_8 ?_
  refine tz_iconst (pc := 6) dX10_listAll_6 ?_
  refine tz_iload_n (pc := 7) dX10_listAll_7 rfl rfl ?_
  refine tz_aS (pc := 8) (z := 0) dX10_listAll_8 a_153 rfl (by decide) (by omega) ?_
  refine tz_aload_n (pc := 9) dX10_listAll_9 rfl rfl ?_
  refine tz_fR (pc := 10) dX10_listAll_10 fl_X10_36 r_145_9 ?_
  refine tz_iload_n (pc := 13) dX10_listAll_13 rfl rfl ?_
  refine tz_iconst (pc := 14) dX10_listAll_14 ?_
  refine tz_aS (pc := 15) (z := x) dX10_listAll_15 a_154 rfl (by omega) (by decide) ?_
  refine tz_iconst (pc := 16) dX10_listAll_16 ?_
  refine tz_istore_n (pc := 17) (L2 := [_, _, _, _, _, _, _]) dX10_listAll_17 rfl (by decide) rfl ?_
  have loop18 : ∀ (f9 : Nat) (g : Int) (k : Int) (d4 : Option Value) (d5 : Option Value) (d6 : Option Value) (J1 : zJ), ((800 - k).toNat) < f9 → (0 ≤ k ∧ k ≤ 800) → (UW J1 J b m) → (lsI J1 J b m g) → (zOf (zbut [146, 147, 148, 149, 150, 153, 154]) J1 J) → (vF c m J1 J) → (LSI c m S T sh x (J1 153) (uuV J1) g k 0) → tz_At l G M_X10_listAll (tb_rm 3 0 0) none (tb_ZM G 0 0 (zQ n 0 (zqi (fun z J' => (UW J' J b m ∧ zOf (zbut [146, 147, 148, 149, 150, 153, 154]) J' J) ∧ (∃ L, LSE c m S T sh x L (uuV J') z) ∧ vF c m J' J))) (zX n 0 zN)) 0 0 n J1 18 [some (.ref 145), some (zi x), some (zi g), some (zi k), d4, d5, d6] [] := by
    intro f9
    induction f9 with
    | zero => intro g k d4 d5 d6 J1 hm9; exact absurd hm9 (Nat.not_lt_zero _)
    | succ f9 ih18 =>
      intro g k d4 d5 d6 J1 hm18 hk u1 l1 f1 v1 s1
      have lr := l1.1
      refine tz_iload_n (pc := 18) dX10_listAll_18 rfl rfl ?_
      refine tz_iload_n (pc := 19) dX10_listAll_19 rfl rfl ?_
      refine tz_icmp_ge (pc := 20) (tgt := 145) dX10_listAll_20 (by decide) (by omega) (by omega) (fun h_20 => ?_) (fun h_20 => ?_)
      · refine tz_iload_n (pc := 145) dX10_listAll_145 rfl rfl ?_
        exact tz_iret (pc := 146) (z := g) dX10_listAll_146 rfl (Nat.le_of_ble_eq_true rfl) (Nat.le_of_ble_eq_true rfl) ⟨Nat.le_refl _, Nat.le_add_right _ _⟩ ⟨_, rfl, (by omega), ⟨⟨u1, f1⟩, ⟨_, s1.fin (by have := s1.1.1; omega)⟩, v1⟩⟩
      · refine tz_iload_n (pc := 23) dX10_listAll_23 rfl rfl ?_
        refine tz_sipush (pc := 24) dX10_listAll_24 (by decide) ?_
        refine tz_icmp_ge (pc := 27) (tgt := 145) dX10_listAll_27 (by decide) (by omega) (by decide) (fun h_27 => ?_) (fun h_27 => ?_)
        · refine tz_iload_n (pc := 145) dX10_listAll_145 rfl rfl ?_
          exact tz_iret (pc := 146) (z := g) dX10_listAll_146 rfl (Nat.le_of_ble_eq_true rfl) (Nat.le_of_ble_eq_true rfl) ⟨Nat.le_refl _, Nat.le_add_right _ _⟩ ⟨_, rfl, (by omega), ⟨⟨u1, f1⟩, ⟨_, s1.fin (by have := s1.1.1; omega)⟩, v1⟩⟩
        · refine tz_aload_n (pc := 30) dX10_listAll_30 rfl rfl ?_
          refine tz_fR (pc := 31) dX10_listAll_31 fl_X10_18 r_145_3 ?_
          refine tz_aload_n (pc := 34) dX10_listAll_34 rfl rfl ?_
          refine tz_fR (pc := 35) dX10_listAll_35 fl_X10_33 r_145_8 ?_
          refine tz_iload_n (pc := 38) dX10_listAll_38 rfl rfl ?_
          refine tz_aL (pc := 39) (z := k) (v := (J1 153 k)) dX10_listAll_39 a_153 rfl (by omega) rfl (fun r_39 => ?_)
          have q0 := l1.2 k (by omega) (by omega)
          have q0r := q0.1.rg hm
          have q1 := (u1.at hm q0.1 q0.2).2.2.1
          have dv9 := s1.1.2.1 k (by omega) (by omega)
          have sd9 : usV J (J1 153 k) = (J1 148 (J1 153 k)) := by rw [← (v1.2.2 _ dv9.1).1]; unfold usV; rw [if_pos (q0.2.trans u1.2.1.symm)]
          have sd8 : sh (J1 153 k) = (J1 148 (J1 153 k)) := (hsh _ dv9.1).symm.trans sd9
          have nn9 : (J1 148 (J1 153 k)) = -1 → nai S sh (J1 153 k) = 0 := fun q => by unfold nai; rw [sd8, if_pos q]
          have na9 : ¬ (J1 148 (J1 153 k)) = -1 → nai S sh (J1 153 k) = J 8 (tm (J1 148 (J1 153 k))) := fun q => by unfold nai; rw [sd8, if_neg q]; exact (a0_nd E C hm6 (q1.resolve_left q)).1
          refine tz_aL (pc := 40) (z := (J1 153 k)) (v := (J1 148 (J1 153 k))) dX10_listAll_40 a_148 rfl (by omega) rfl (fun r_40 => ?_)
          refine tz_istore (pc := 41) (L2 := [_, _, _, _, _, _, _]) dX10_listAll_41 (by decide) rfl ?_
          refine tz_iconst (pc := 43) dX10_listAll_43 ?_
          refine tz_istore (pc := 44) (L2 := [_, _, _, _, _, _, _]) dX10_listAll_44 (by decide) rfl ?_
          have loop46 : ∀ (f9 : Nat) (g2 : Int) (i : Int) (e6 : Option Value) (J2 : zJ), ((3 - i).toNat) < f9 → (0 ≤ i ∧ i ≤ 3) → (UW J2 J b m) → (lsI J2 J b m g2) → (zOf (zbut [146, 147, 148, 149, 150, 153, 154]) J2 J) → (vF c m J2 J) → (LSI c m S T sh x (J2 153) (uuV J2) g2 k i) → (k < g2) → (J2 153 k = J1 153 k) → tz_At l G M_X10_listAll (tb_rm 3 0 0) none (tb_ZM G 0 0 (zQ n 0 (zqi (fun z J' => (UW J' J b m ∧ zOf (zbut [146, 147, 148, 149, 150, 153, 154]) J' J) ∧ (∃ L, LSE c m S T sh x L (uuV J') z) ∧ vF c m J' J))) (zX n 0 zN)) 0 0 n J2 46 [some (.ref 145), some (zi x), some (zi g2), some (zi k), some (zi (J1 148 (J1 153 k))), some (zi i), e6] [] := by
            intro f9
            induction f9 with
            | zero => intro g2 i e6 J2 hm9; exact absurd hm9 (Nat.not_lt_zero _)
            | succ f9 ih46 =>
              intro g2 i e6 J2 hm46 hi u2 l2 f2 v2 s2 kg e3
              have l2r := l2.1
              have e8 := f2 8 rfl
              refine tz_iload (pc := 46) dX10_listAll_46 rfl ?_
              refine tz_iconst (pc := 48) dX10_listAll_48 ?_
              refine tz_icmp_eq (pc := 49) (tgt := 139) dX10_listAll_49 (by decide) (by omega) (by decide) (fun h_49 => ?_) (fun h_49 => ?_)
              · refine tz_iinc (pc := 139) (z := k + 1) (L2 := [_, _, _, _, _, _, _]) dX10_listAll_139 rfl (by omega) rfl ?_
                refine tz_goto (pc := 142) (tgt := 18) dX10_listAll_142 (by decide) ?_
                exact ih18 _ (k + 1) _ _ _ _ (by omega) (by omega) u2 l2 f2 v2 (s2.next hc9 kg (by rw [e3]; rcases Decidable.em ((J1 148 (J1 153 k)) = -1) with q9 | q9; (have := nn9 q9; omega); (have := na9 q9; omega)))
              · have hn0 := q1.resolve_left (by omega)
                have hnr := hn0.rg hm
                have hnt := hn0.ix hm
                have ha8 := C.ar hnt.1 hnt.2
                have rD9 : upV J (J1 153 k) = (J1 153 k) := by have q9 := (hP.root dv9.1).1; rw [hTT _ dv9.1, dv9.2] at q9; exact q9
                have xs9 := (hS _ dv9.1 rD9).1.resolve_left (by rw [sd9]; omega)
                rw [sd9] at xs9
                have xs8 := And.intro xs9.1 (And.intro xs9.2.1 ((hTT _ xs9.1).symm.trans xs9.2.2))
                refine tz_iload (pc := 52) dX10_listAll_52 rfl ?_
                refine tz_aload_n (pc := 54) dX10_listAll_54 rfl rfl ?_
                refine tz_fR (pc := 55) dX10_listAll_55 fl_X10_46 r_145_0 ?_
                refine tz_fR (pc := 58) dX10_listAll_58 fl_X10_90 r_6_2 ?_
                refine tz_aload_n (pc := 61) dX10_listAll_61 rfl rfl ?_
                refine tz_iload (pc := 62) dX10_listAll_62 rfl ?_
                refine tz_cV (pc := 64) (c_uTerm hl n _ _ (by omega) (by omega)) vl_X10_68 dX10_listAll_64 o_145 rfl rfl (Nat.le_of_ble_eq_true rfl) ⟨(Nat.le_of_ble_eq_true rfl), (Nat.le_of_ble_eq_true rfl)⟩ rfl rfl (Nat.le_of_ble_eq_true rfl) (Nat.le_of_ble_eq_true rfl) (fun r9 J_64 hq9 => ?_)
                obtain ⟨z_64, rfl, hz_64, rfl, rfl⟩ := hq9
                refine tz_aL (pc := 67) (z := (tm (J1 148 (J1 153 k)))) (v := (J 8 (tm (J1 148 (J1 153 k))))) dX10_listAll_67 a_8 rfl (by omega) (Eq.trans (congrFun (f2 8 rfl) (tm (J1 148 (J1 153 k)))) rfl) (fun r_67 => ?_)
                refine tz_icmp_ge (pc := 68) (tgt := 139) dX10_listAll_68 (by decide) (by omega) (by omega) (fun h_68 => ?_) (fun h_68 => ?_)
                · refine tz_iinc (pc := 139) (z := k + 1) (L2 := [_, _, _, _, _, _, _]) dX10_listAll_139 rfl (by omega) rfl ?_
                  refine tz_goto (pc := 142) (tgt := 18) dX10_listAll_142 (by decide) ?_
                  exact ih18 _ (k + 1) _ _ _ _ (by omega) (by omega) u2 l2 f2 v2 (s2.next hc9 kg (by rw [e3]; rcases Decidable.em ((J1 148 (J1 153 k)) = -1) with q9 | q9; (have := nn9 q9; omega); (have := na9 q9; omega)))
                · refine tz_aload_n (pc := 71) dX10_listAll_71 rfl rfl ?_
                  refine tz_aload_n (pc := 72) dX10_listAll_72 rfl rfl ?_
                  refine tz_iload (pc := 73) dX10_listAll_73 rfl ?_
                  refine tz_iload (pc := 75) dX10_listAll_75 rfl ?_
                  refine tz_cV (pc := 77) (u_part hl n _ _ _ (by omega) (by omega) b m (C.of (fun c hc => f2 c (by simp [zbut]; omega))) hn0 (by rw [f2 8 rfl]; omega)) vl_X10_93 dX10_listAll_77 o_145 rfl rfl (Nat.le_of_ble_eq_true rfl) ⟨(Nat.le_of_ble_eq_true rfl), (Nat.le_of_ble_eq_true rfl)⟩ rfl rfl (Nat.le_of_ble_eq_true rfl) (Nat.le_of_ble_eq_true rfl) (fun r9 J_77 hq9 => ?_)
                  obtain ⟨zp, rfl, hz_77, rfl, hn9, hz9⟩ := hq9
                  have hz8 : zp = agN S 0 (J1 148 (J1 153 k)) i := by rw [(a0_nd E C hm6 hn0).2.2 i (by omega) (by omega), ← hz9, f2 9 rfl]
                  refine tz_cV (pc := 80) (u_top hl n _ _ (by omega) b m c hm hn9 u2.1 v2.1 hbc) vl_X10_54 dX10_listAll_80 o_145 rfl rfl (Nat.le_of_ble_eq_true rfl) ⟨(Nat.le_of_ble_eq_true rfl), (Nat.le_of_ble_eq_true rfl)⟩ rfl rfl (Nat.le_of_ble_eq_true rfl) (Nat.le_of_ble_eq_true rfl) (fun r9 J3 hq9 => ?_)
                  obtain ⟨zt, rfl, hz_80, ⟨t1, t2, t3⟩, tv, tz⟩ := hq9
                  have tr := t2.1.rg hm
                  have l3 := l2.of (t3 153 rfl) (fun x q => by have := t1.2.2 x; rw [u2.2.1] at this; exact this q)
                  have a3 := t2.2
                  rw [u2.2.1] at a3
                  have vz := (nd.vn hbc hm).1 t2.1
                  have vp9 := (nd.vn hbc hm).1 hn9
                  have ch9 : zt = chi S T sh (J2 153 k) i := by unfold chi; rw [tz, v2.2.1 zp vp9, hTT zp vp9, e3, sd8, hz8]
                  have tt9 : T zt = zt := by rw [← hTT zt vz, ← v2.2.1 zt vz]; exact tp_r (by rw [tz]; exact (v2.1.root vp9).1)
                  have az9 : J3 146 zt = J3 145 10 := t2.2.trans (congrFun (t3 145 rfl) 10).symm
                  have uz9 : J3 154 zt = uuV J2 zt := by rw [← (tv.2.2 zt vz).2.2.1]; unfold uuV; rw [if_pos az9]
                  have hn3 : i < nai S sh (J2 153 k) := by rw [e3, na9 (by omega)]; omega
                  obtain ⟨ub9, un9, ud9⟩ := s2.u9 hc9 ⟨vz, tt9⟩
                  rw [← uz9] at ub9 un9 ud9
                  refine tz_istore (pc := 83) (L2 := [_, _, _, _, _, _, _]) dX10_listAll_83 (by decide) rfl ?_
                  refine tz_aload_n (pc := 85) dX10_listAll_85 rfl rfl ?_
                  refine tz_fR (pc := 86) dX10_listAll_86 fl_X10_36 r_145_9 ?_
                  refine tz_iload (pc := 89) dX10_listAll_89 rfl ?_
                  refine tz_aL (pc := 91) (z := zt) (v := (J3 154 zt)) dX10_listAll_91 a_154 rfl (by omega) rfl (fun r_91 => ?_)
                  refine tz_iconst (pc := 92) dX10_listAll_92 ?_
                  refine tz_icmp_ne (pc := 93) (tgt := 122) dX10_listAll_93 (by decide) (by omega) (by decide) (fun h_93 => ?_) (fun h_93 => ?_)
                  · refine tz_aload_n (pc := 122) dX10_listAll_122 rfl rfl ?_
                    refine tz_fR (pc := 123) dX10_listAll_123 fl_X10_36 r_145_9 ?_
                    refine tz_iload (pc := 126) dX10_listAll_126 rfl ?_
                    refine tz_dup2 (pc := 128) dX10_listAll_128 rfl rfl ?_
                    refine tz_aL (pc := 129) (z := zt) (v := (J3 154 zt)) dX10_listAll_129 a_154 rfl (by omega) rfl (fun r_129 => ?_)
                    refine tz_iconst (pc := 130) dX10_listAll_130 ?_
                    refine tz_iadd (pc := 131) (v := (J3 154 zt) + 1) dX10_listAll_131 rfl ?_
                    refine tz_aS (pc := 132) (z := zt) dX10_listAll_132 a_154 rfl (by omega) (by omega) ?_
                    refine tz_iinc (pc := 133) (z := i + 1) (L2 := [_, _, _, _, _, _, _]) dX10_listAll_133 rfl (by omega) rfl ?_
                    refine tz_goto (pc := 136) (tgt := 46) dX10_listAll_136 (by decide) ?_
                    exact ih46 (g2) (i + 1) _ _ (by omega) (by omega) ((t1.tr u2).of (Int.le_refl _) rfl (fun c hc => by rcases (show c = 146 ∨ c = 147 ∨ c = 148 ∨ c = 149 ∨ c = 150 by omega) with rfl | rfl | rfl | rfl | rfl <;> rfl)) (lsI.of l3 rfl (fun _ q => q)) (zOf.up rfl ((t3.mono (fun c hc => by simp [zbut] at hc ⊢; omega)).tr f2)) (vF.up (tv.f v2) (fun q hq => by rcases (show q = 7 ∨ q = 145 ∨ q = 146 ∨ q = 147 ∨ q = 148 ∨ q = 149 ∨ q = 150 by omega) with rfl | rfl | rfl | rfl | rfl | rfl | rfl <;> rfl)) (by have q9 := s2.old (u' := uuV ((zup J3 154 zt ((J3 154 zt) + 1)))) kg (by omega) hn3 ch9 (by first | exact ud9 (by omega) | exact absurd (un9 (by omega)).2 (by omega)) (fun y hy => by rw [uu_up (J2 := (zup J3 154 zt ((J3 154 zt) + 1))) (J1 := J3) (z := zt) (v := J3 154 zt + 1) (fun _ => rfl) rfl rfl az9 y, (tv.2.2 y hy).2.2.1, uz9]); rw [← t3 153 rfl] at q9; exact q9) (by omega) ((congrFun (t3 153 rfl) k).trans e3)
                  · refine tz_iload_n (pc := 96) dX10_listAll_96 rfl rfl ?_
                    refine tz_sipush (pc := 97) dX10_listAll_97 (by decide) ?_
                    refine tz_icmp_ge (pc := 100) (tgt := 122) dX10_listAll_100 (by decide) (by omega) (by decide) (fun h_100 => ?_) (fun h_100 => ?_)
                    · refine tz_aload_n (pc := 122) dX10_listAll_122 rfl rfl ?_
                      refine tz_fR (pc := 123) dX10_listAll_123 fl_X10_36 r_145_9 ?_
                      refine tz_iload (pc := 126) dX10_listAll_126 rfl ?_
                      refine tz_dup2 (pc := 128) dX10_listAll_128 rfl rfl ?_
                      refine tz_aL (pc := 129) (z := zt) (v := (J3 154 zt)) dX10_listAll_129 a_154 rfl (by omega) rfl (fun r_129 => ?_)
                      refine tz_iconst (pc := 130) dX10_listAll_130 ?_
                      refine tz_iadd (pc := 131) (v := (J3 154 zt) + 1) dX10_listAll_131 rfl ?_
                      refine tz_aS (pc := 132) (z := zt) dX10_listAll_132 a_154 rfl (by omega) (by omega) ?_
                      refine tz_iinc (pc := 133) (z := i + 1) (L2 := [_, _, _, _, _, _, _]) dX10_listAll_133 rfl (by omega) rfl ?_
                      refine tz_goto (pc := 136) (tgt := 46) dX10_listAll_136 (by decide) ?_
                      exact ih46 (g2) (i + 1) _ _ (by omega) (by omega) ((t1.tr u2).of (Int.le_refl _) rfl (fun c hc => by rcases (show c = 146 ∨ c = 147 ∨ c = 148 ∨ c = 149 ∨ c = 150 by omega) with rfl | rfl | rfl | rfl | rfl <;> rfl)) (lsI.of l3 rfl (fun _ q => q)) (zOf.up rfl ((t3.mono (fun c hc => by simp [zbut] at hc ⊢; omega)).tr f2)) (vF.up (tv.f v2) (fun q hq => by rcases (show q = 7 ∨ q = 145 ∨ q = 146 ∨ q = 147 ∨ q = 148 ∨ q = 149 ∨ q = 150 by omega) with rfl | rfl | rfl | rfl | rfl | rfl | rfl <;> rfl)) (by have q9 := s2.old (u' := uuV ((zup J3 154 zt ((J3 154 zt) + 1)))) kg (by omega) hn3 ch9 (by first | exact ud9 (by omega) | exact absurd (un9 (by omega)).2 (by omega)) (fun y hy => by rw [uu_up (J2 := (zup J3 154 zt ((J3 154 zt) + 1))) (J1 := J3) (z := zt) (v := J3 154 zt + 1) (fun _ => rfl) rfl rfl az9 y, (tv.2.2 y hy).2.2.1, uz9]); rw [← t3 153 rfl] at q9; exact q9) (by omega) ((congrFun (t3 153 rfl) k).trans e3)
                    · refine tz_aload_n (pc := 103) dX10_listAll_103 rfl rfl ?_
                      refine tz_fR (pc := 104) dX10_listAll_104 fl_X10_36 r_145_9 ?_
                      refine tz_iload (pc := 107) dX10_listAll_107 rfl ?_
                      refine tz_iconst (pc := 109) dX10_listAll_109 ?_
                      refine tz_aS (pc := 110) (z := zt) dX10_listAll_110 a_154 rfl (by omega) (by decide) ?_
                      refine tz_aload_n (pc := 111) dX10_listAll_111 rfl rfl ?_
                      refine tz_fR (pc := 112) dX10_listAll_112 fl_X10_33 r_145_8 ?_
                      refine tz_iload_n (pc := 115) dX10_listAll_115 rfl rfl ?_
                      refine tz_iload (pc := 116) dX10_listAll_116 rfl ?_
                      refine tz_aS (pc := 118) (z := g2) dX10_listAll_118 a_153 rfl (by omega) (by omega) ?_
                      refine tz_iinc (pc := 119) (z := g2 + 1) (L2 := [_, _, _, _, _, _, _]) dX10_listAll_119 rfl (by omega) rfl ?_
                      refine tz_aload_n (pc := 122) dX10_listAll_122 rfl rfl ?_
                      refine tz_fR (pc := 123) dX10_listAll_123 fl_X10_36 r_145_9 ?_
                      refine tz_iload (pc := 126) dX10_listAll_126 rfl ?_
                      refine tz_dup2 (pc := 128) dX10_listAll_128 rfl rfl ?_
                      refine tz_aL (pc := 129) (z := zt) (v := 0) dX10_listAll_129 a_154 rfl (by omega) (by simp [zup]) (fun _ => ?_)
                      refine tz_iconst (pc := 130) dX10_listAll_130 ?_
                      refine tz_iadd (pc := 131) (v := 1) dX10_listAll_131 (by decide) ?_
                      refine tz_aS (pc := 132) (z := zt) dX10_listAll_132 a_154 rfl (by omega) (by decide) ?_
                      refine tz_iinc (pc := 133) (z := i + 1) (L2 := [_, _, _, _, _, _, _]) dX10_listAll_133 rfl (by omega) rfl ?_
                      refine tz_goto (pc := 136) (tgt := 46) dX10_listAll_136 (by decide) ?_
                      exact ih46 (g2 + 1) (i + 1) _ _ (by omega) (by omega) ((t1.tr u2).of (Int.le_refl _) rfl (fun c hc => by rcases (show c = 146 ∨ c = 147 ∨ c = 148 ∨ c = 149 ∨ c = 150 by omega) with rfl | rfl | rfl | rfl | rfl <;> rfl)) (lsI.of (lsI.push (lsI.of l3 rfl (fun _ q => q)) (by omega) t2.1 a3) rfl (fun _ q => q)) (zOf.up rfl (zOf.up rfl (zOf.up rfl ((t3.mono (fun c hc => by simp [zbut] at hc ⊢; omega)).tr f2)))) (vF.up (tv.f v2) (fun q hq => by rcases (show q = 7 ∨ q = 145 ∨ q = 146 ∨ q = 147 ∨ q = 148 ∨ q = 149 ∨ q = 150 by omega) with rfl | rfl | rfl | rfl | rfl | rfl | rfl <;> rfl)) (s2.new (lv := fun _ => 0) hc9 kg (by omega) hn3 ch9 ⟨vz, tt9⟩ (by rw [e3]; exact hw_l (i := i) dv9 xs8 ⟨by omega, by have := na9 (by omega); rw [e3] at hn3; unfold nai at hn3; rw [sd8, if_neg (by omega)] at hn3; exact hn3⟩ (by rw [← hz8]; exact vp9) (by rw [ch9, e3]; unfold chi; rw [sd8]) ⟨vz, tt9⟩) (un9 (by omega)).1 (fun y hy => by rw [uu_up (J2 := (zup (zup (zup J3 154 zt 0) 153 g2 zt) 154 zt 1)) (J1 := J3) (z := zt) (v := 1) (fun q => by show (if q = zt then (1 : Int) else if q = zt then 0 else J3 154 q) = _; rcases Decidable.em (q = zt) with q9 | q9; (rw [if_pos q9, if_pos q9]); (rw [if_neg q9, if_neg q9, if_neg q9])) rfl rfl az9 y, (tv.2.2 y hy).2.2.1]) (fun q => by show (if q = g2 then zt else J3 153 q) = _; rw [t3 153 rfl])) (by omega) (by show (if k = g2 then zt else J3 153 k) = _; rw [if_neg (by omega), t3 153 rfl]; exact e3)
          exact loop46 _ _ 0 _ _ (Nat.lt_succ_self _) (by omega) u1 l1 f1 v1 s1 (by omega) rfl
  exact loop18 _ 1 0 _ _ _ _ (Nat.lt_succ_self _) (by omega) ((UW.rf hU).of (Int.le_refl _) rfl (fun c hc => by rcases (show c = 146 ∨ c = 147 ∨ c = 148 ∨ c = 149 ∨ c = 150 by omega) with rfl | rfl | rfl | rfl | rfl <;> rfl)) (lsI.of (lsI.push hL0 (by decide) hx ax) rfl (fun _ q => q)) (zOf.up rfl (zOf.up rfl zOf.rf)) (vF.up (vF.rf hP) (fun q hq => by rcases (show q = 7 ∨ q = 145 ∨ q = 146 ∨ q = 147 ∨ q = 148 ∨ q = 149 ∨ q = 150 by omega) with rfl | rfl | rfl | rfl | rfl | rfl | rfl <;> rfl)) (LSI.start hc9 ⟨hxv, (hTT x hxv).symm.trans (tp_r rx)⟩ (by show (if (0 : Int) = 0 then x else J 153 0) = x; rw [if_pos rfl]) (fun y hy => by rw [uu_up (J2 := (zup (zup J 153 0 x) 154 x 0)) (J1 := J) (z := x) (v := 0) (fun _ => rfl) rfl rfl ax y, hu0 y hy]))

set_option maxHeartbeats 4000000 in
set_option maxRecDepth 100000 in
theorem u_taken {l : Launch} {G : tb_G} (hl : l.stackTraces = false) (n : Nat) (J : zJ) (x : Int) (hr_x : -2147483648 ≤ x ∧ x < 2147483648) (b m c : Int) (S : zJ) (T sh : Int → Int) (L : Int → Prop) (f : Int) (C : CT J m) (hm6 : J 6 12 = m) (E : A0 J S) (hU : UI J b m) (hx : nd b m x) (ax : J 146 x = J 145 10) (hP : UFp (VN c m) (upV J)) (hS : SHp (VN c m) (hdN S 0) (upV J) (usV J) (ulV J)) (rx : upV J x = x) (hTT : ∀ y, VN c m y → tp (upV J) y = T y) (hsh : ∀ y, VN c m y → usV J y = sh y) (hbc : (b = 0 ∧ c = 400) ∨ (b = 400 ∧ c = 800)) (hE : LSE c m S T sh x L (uuV J) f) : tz_Ok l G M_X10_takenAway 3 0 0 [.ref 145, zi x] n J (zqi (fun z J' => (UW J' J b m ∧ zOf (zbut [146, 147, 148, 149, 150, 153, 154]) J' J) ∧ ((z < f → ¬ NRu (VN c m) (hdN S 0) (arN S 0 0) (agN S 0) (fun u v => T u = T v) x) ∧ ((∀ u, VN c m u → 0 ≤ hdN S 0 u → ¬ sh (T u) = -1) → CGm (VN c m) (hdN S 0) (arN S 0 0) (agN S 0) T → f ≤ z → NRu (VN c m) (hdN S 0) (arN S 0 0) (agN S 0) (fun u v => T u = T v) x)) ∧ vF c m J' J)) zN := by
  refine tz_Ok.of hl (by decide +kernel) rfl (tb_c1 rfl) (Nat.le_of_ble_eq_true rfl) ?_
  show tz_At l G M_X10_takenAway (tb_rm 3 0 0) none (tb_ZM G 0 0 (zQ n 0 (zqi (fun z J' => (UW J' J b m ∧ zOf (zbut [146, 147, 148, 149, 150, 153, 154]) J' J) ∧ ((z < f → ¬ NRu (VN c m) (hdN S 0) (arN S 0 0) (agN S 0) (fun u v => T u = T v) x) ∧ ((∀ u, VN c m u → 0 ≤ hdN S 0 u → ¬ sh (T u) = -1) → CGm (VN c m) (hdN S 0) (arN S 0 0) (agN S 0) T → f ≤ z → NRu (VN c m) (hdN S 0) (arN S 0 0) (agN S 0) (fun u v => T u = T v) x)) ∧ vF c m J' J))) (zX n 0 zN)) 0 0 n J 0 [some (.ref 145), some (zi x), none, none, none, none, none] []
  have hb := C.told
  have hm := hb.2
  have hx2 := hx.rg hm
  have hL0 : lsI J J b m 0 := ⟨by decide, fun k a c => by omega⟩
  have hc9 : c = 400 ∨ c = 800 := by omega
  have hxv := (nd.vn hbc hm).1 hx
  have ux9 : uuV J x = J 154 x := by unfold uuV; rw [if_pos ax]
  have hV9 : ∀ u i, VN c m u → 0 ≤ hdN S 0 u → 0 ≤ i → i < arN S 0 0 u → VN c m (agN S 0 u i) := fun u i hu _ a k => by have n9 := (nd.vn hbc hm).2 hu; have w9 := a0_nd E C hm6 n9; have t9 := n9.ix hm; rw [w9.1] at k; have g9 := C.arg t9.1 t9.2 a k; rw [w9.2.2 i a k]; exact (nd.vn hbc hm).1 (n9.part hm (by omega))
  have h39 : ∀ u, VN c m u → arN S 0 0 u ≤ 3 := fun u hu => by have n9 := (nd.vn hbc hm).2 hu; have t9 := n9.ix hm; rw [(a0_nd E C hm6 n9).1]; exact (C.ar t9.1 t9.2).1.2
  have hS9 : ∀ y, L y → ¬ sh y = -1 → VN c m (sh y) ∧ 0 ≤ hdN S 0 (sh y) ∧ T (sh y) = y := fun y ly ns => by have v9 := hE.2.1 y ly; have r9 : upV J y = y := (by have q9 := (hP.root v9.1).1; rw [hTT _ v9.1, v9.2] at q9; exact q9); have h9 := (hS y v9.1 r9).1.resolve_left (by rw [hsh _ v9.1]; exact ns); rw [hsh _ v9.1] at h9; rw [hTT _ h9.1] at h9; exact h9
  refine tz_iconst (pc := 0) dX10_takenAway_0 ?_
  refine tz_istore_n (pc := 1) (L2 := [_, _, _, _, _, _, _]) dX10_takenAway_1 rfl (by decide) rfl ?_
  refine tz_aload_n (pc := 2) dX10_takenAway_2 rfl rfl ?_
  refine tz_fR (pc := 3) dX10_takenAway_3 fl_X10_36 r_145_9 ?_
  refine tz_iload_n (pc := 6) dX10_takenAway_6 rfl rfl ?_
  refine tz_aL (pc := 7) (z := x) (v := (J 154 x)) dX10_takenAway_7 a_154 rfl (by omega) rfl (fun r_7 => ?_)
  refine tz_if_ne (pc := 8) (tgt := 21) dX10_takenAway_8 (by decide) (by omega) (fun h_8 => ?_) (fun h_8 => ?_)
  · refine tz_iconst (pc := 21) dX10_takenAway_21 ?_
    refine tz_istore_n (pc := 22) (L2 := [_, _, _, _, _, _, _]) dX10_takenAway_22 rfl (by decide) rfl ?_
    have loop23 : ∀ (f9 : Nat) (g : Int) (k : Int) (d4 : Option Value) (d5 : Option Value) (d6 : Option Value) (J1 : zJ), ((800 - k).toNat) < f9 → (0 ≤ k ∧ k ≤ 800) → (UW J1 J b m) → (lsI J1 J b m g) → (zOf (zbut [146, 147, 148, 149, 150, 153, 154]) J1 J) → (vF c m J1 J) → (TKI c m S T sh L (J1 153) (uuV J1) g k 0 0) → tz_At l G M_X10_takenAway (tb_rm 3 0 0) none (tb_ZM G 0 0 (zQ n 0 (zqi (fun z J' => (UW J' J b m ∧ zOf (zbut [146, 147, 148, 149, 150, 153, 154]) J' J) ∧ ((z < f → ¬ NRu (VN c m) (hdN S 0) (arN S 0 0) (agN S 0) (fun u v => T u = T v) x) ∧ ((∀ u, VN c m u → 0 ≤ hdN S 0 u → ¬ sh (T u) = -1) → CGm (VN c m) (hdN S 0) (arN S 0 0) (agN S 0) T → f ≤ z → NRu (VN c m) (hdN S 0) (arN S 0 0) (agN S 0) (fun u v => T u = T v) x)) ∧ vF c m J' J))) (zX n 0 zN)) 0 0 n J1 23 [some (.ref 145), some (zi x), some (zi g), some (zi k), d4, d5, d6] [] := by
      intro f9
      induction f9 with
      | zero => intro g k d4 d5 d6 J1 hm9; exact absurd hm9 (Nat.not_lt_zero _)
      | succ f9 ih23 =>
        intro g k d4 d5 d6 J1 hm23 hk u1 l1 f1 v1 s1
        have lr := l1.1
        refine tz_iload_n (pc := 23) dX10_takenAway_23 rfl rfl ?_
        refine tz_iload_n (pc := 24) dX10_takenAway_24 rfl rfl ?_
        refine tz_icmp_ge (pc := 25) (tgt := 141) dX10_takenAway_25 (by decide) (by omega) (by omega) (fun h_25 => ?_) (fun h_25 => ?_)
        · refine tz_iload_n (pc := 141) dX10_takenAway_141 rfl rfl ?_
          exact tz_iret (pc := 142) (z := g) dX10_takenAway_142 rfl (Nat.le_of_ble_eq_true rfl) (Nat.le_of_ble_eq_true rfl) ⟨Nat.le_refl _, Nat.le_add_right _ _⟩ ⟨_, rfl, (by omega), ⟨⟨u1, f1⟩, ⟨fun hg => TKI.no hc9 hE s1 (by have := s1.1.1; omega) hg hV9 hS9 h39, fun hN hT hg => TKI.yes hc9 hE s1 hg hV9 hS9 hN hT h39⟩, v1⟩⟩
        · refine tz_iload_n (pc := 28) dX10_takenAway_28 rfl rfl ?_
          refine tz_sipush (pc := 29) dX10_takenAway_29 (by decide) ?_
          refine tz_icmp_ge (pc := 32) (tgt := 141) dX10_takenAway_32 (by decide) (by omega) (by decide) (fun h_32 => ?_) (fun h_32 => ?_)
          · refine tz_iload_n (pc := 141) dX10_takenAway_141 rfl rfl ?_
            exact tz_iret (pc := 142) (z := g) dX10_takenAway_142 rfl (Nat.le_of_ble_eq_true rfl) (Nat.le_of_ble_eq_true rfl) ⟨Nat.le_refl _, Nat.le_add_right _ _⟩ ⟨_, rfl, (by omega), ⟨⟨u1, f1⟩, ⟨fun hg => TKI.no hc9 hE s1 (by have := s1.1.1; omega) hg hV9 hS9 h39, fun hN hT hg => TKI.yes hc9 hE s1 hg hV9 hS9 hN hT h39⟩, v1⟩⟩
          · refine tz_aload_n (pc := 35) dX10_takenAway_35 rfl rfl ?_
            refine tz_fR (pc := 36) dX10_takenAway_36 fl_X10_18 r_145_3 ?_
            refine tz_aload_n (pc := 39) dX10_takenAway_39 rfl rfl ?_
            refine tz_fR (pc := 40) dX10_takenAway_40 fl_X10_33 r_145_8 ?_
            refine tz_iload_n (pc := 43) dX10_takenAway_43 rfl rfl ?_
            refine tz_aL (pc := 44) (z := k) (v := (J1 153 k)) dX10_takenAway_44 a_153 rfl (by omega) rfl (fun r_44 => ?_)
            have q0 := l1.2 k (by omega) (by omega)
            have q0r := q0.1.rg hm
            have q1 := (u1.at hm q0.1 q0.2).2.2.1
            have dv9 := s1.1.2.1 k (by omega) (by omega)
            have sd9 : usV J (J1 153 k) = (J1 148 (J1 153 k)) := by rw [← (v1.2.2 _ dv9.1).1]; unfold usV; rw [if_pos (q0.2.trans u1.2.1.symm)]
            have sd8 : sh (J1 153 k) = (J1 148 (J1 153 k)) := (hsh _ dv9.1).symm.trans sd9
            have nn9 : (J1 148 (J1 153 k)) = -1 → nai S sh (J1 153 k) = 0 := fun q => by unfold nai; rw [sd8, if_pos q]
            have na9 : ¬ (J1 148 (J1 153 k)) = -1 → nai S sh (J1 153 k) = J 8 (tm (J1 148 (J1 153 k))) := fun q => by unfold nai; rw [sd8, if_neg q]; exact (a0_nd E C hm6 (q1.resolve_left q)).1
            refine tz_aL (pc := 45) (z := (J1 153 k)) (v := (J1 148 (J1 153 k))) dX10_takenAway_45 a_148 rfl (by omega) rfl (fun r_45 => ?_)
            refine tz_istore (pc := 46) (L2 := [_, _, _, _, _, _, _]) dX10_takenAway_46 (by decide) rfl ?_
            refine tz_iconst (pc := 48) dX10_takenAway_48 ?_
            refine tz_istore (pc := 49) (L2 := [_, _, _, _, _, _, _]) dX10_takenAway_49 (by decide) rfl ?_
            have loop51 : ∀ (f9 : Nat) (g2 : Int) (i : Int) (e6 : Option Value) (J2 : zJ), ((3 - i).toNat) < f9 → (0 ≤ i ∧ i ≤ 3) → (UW J2 J b m) → (lsI J2 J b m g2) → (zOf (zbut [146, 147, 148, 149, 150, 153, 154]) J2 J) → (vF c m J2 J) → (TKI c m S T sh L (J2 153) (uuV J2) g2 k i 1) → (k < g2) → (J2 153 k = J1 153 k) → tz_At l G M_X10_takenAway (tb_rm 3 0 0) none (tb_ZM G 0 0 (zQ n 0 (zqi (fun z J' => (UW J' J b m ∧ zOf (zbut [146, 147, 148, 149, 150, 153, 154]) J' J) ∧ ((z < f → ¬ NRu (VN c m) (hdN S 0) (arN S 0 0) (agN S 0) (fun u v => T u = T v) x) ∧ ((∀ u, VN c m u → 0 ≤ hdN S 0 u → ¬ sh (T u) = -1) → CGm (VN c m) (hdN S 0) (arN S 0 0) (agN S 0) T → f ≤ z → NRu (VN c m) (hdN S 0) (arN S 0 0) (agN S 0) (fun u v => T u = T v) x)) ∧ vF c m J' J))) (zX n 0 zN)) 0 0 n J2 51 [some (.ref 145), some (zi x), some (zi g2), some (zi k), some (zi (J1 148 (J1 153 k))), some (zi i), e6] [] := by
              intro f9
              induction f9 with
              | zero => intro g2 i e6 J2 hm9; exact absurd hm9 (Nat.not_lt_zero _)
              | succ f9 ih51 =>
                intro g2 i e6 J2 hm51 hi u2 l2 f2 v2 s2 kg e3
                have l2r := l2.1
                have e8 := f2 8 rfl
                refine tz_iload (pc := 51) dX10_takenAway_51 rfl ?_
                refine tz_iconst (pc := 53) dX10_takenAway_53 ?_
                refine tz_icmp_eq (pc := 54) (tgt := 135) dX10_takenAway_54 (by decide) (by omega) (by decide) (fun h_54 => ?_) (fun h_54 => ?_)
                · refine tz_iinc (pc := 135) (z := k + 1) (L2 := [_, _, _, _, _, _, _]) dX10_takenAway_135 rfl (by omega) rfl ?_
                  refine tz_goto (pc := 138) (tgt := 23) dX10_takenAway_138 (by decide) ?_
                  exact ih23 _ (k + 1) _ _ _ _ (by omega) (by omega) u2 l2 f2 v2 (s2.shut kg (by rw [e3]; rcases Decidable.em ((J1 148 (J1 153 k)) = -1) with q9 | q9; (have := nn9 q9; omega); (have := na9 q9; omega)))
                · have hn0 := q1.resolve_left (by omega)
                  have hnr := hn0.rg hm
                  have hnt := hn0.ix hm
                  have ha8 := C.ar hnt.1 hnt.2
                  have rD9 : upV J (J1 153 k) = (J1 153 k) := by have q9 := (hP.root dv9.1).1; rw [hTT _ dv9.1, dv9.2] at q9; exact q9
                  have xs9 := (hS _ dv9.1 rD9).1.resolve_left (by rw [sd9]; omega)
                  rw [sd9] at xs9
                  have xs8 := And.intro xs9.1 (And.intro xs9.2.1 ((hTT _ xs9.1).symm.trans xs9.2.2))
                  refine tz_iload (pc := 57) dX10_takenAway_57 rfl ?_
                  refine tz_aload_n (pc := 59) dX10_takenAway_59 rfl rfl ?_
                  refine tz_fR (pc := 60) dX10_takenAway_60 fl_X10_46 r_145_0 ?_
                  refine tz_fR (pc := 63) dX10_takenAway_63 fl_X10_90 r_6_2 ?_
                  refine tz_aload_n (pc := 66) dX10_takenAway_66 rfl rfl ?_
                  refine tz_iload (pc := 67) dX10_takenAway_67 rfl ?_
                  refine tz_cV (pc := 69) (c_uTerm hl n _ _ (by omega) (by omega)) vl_X10_68 dX10_takenAway_69 o_145 rfl rfl (Nat.le_of_ble_eq_true rfl) ⟨(Nat.le_of_ble_eq_true rfl), (Nat.le_of_ble_eq_true rfl)⟩ rfl rfl (Nat.le_of_ble_eq_true rfl) (Nat.le_of_ble_eq_true rfl) (fun r9 J_69 hq9 => ?_)
                  obtain ⟨z_69, rfl, hz_69, rfl, rfl⟩ := hq9
                  refine tz_aL (pc := 72) (z := (tm (J1 148 (J1 153 k)))) (v := (J 8 (tm (J1 148 (J1 153 k))))) dX10_takenAway_72 a_8 rfl (by omega) (Eq.trans (congrFun (f2 8 rfl) (tm (J1 148 (J1 153 k)))) rfl) (fun r_72 => ?_)
                  refine tz_icmp_ge (pc := 73) (tgt := 135) dX10_takenAway_73 (by decide) (by omega) (by omega) (fun h_73 => ?_) (fun h_73 => ?_)
                  · refine tz_iinc (pc := 135) (z := k + 1) (L2 := [_, _, _, _, _, _, _]) dX10_takenAway_135 rfl (by omega) rfl ?_
                    refine tz_goto (pc := 138) (tgt := 23) dX10_takenAway_138 (by decide) ?_
                    exact ih23 _ (k + 1) _ _ _ _ (by omega) (by omega) u2 l2 f2 v2 (s2.shut kg (by rw [e3]; rcases Decidable.em ((J1 148 (J1 153 k)) = -1) with q9 | q9; (have := nn9 q9; omega); (have := na9 q9; omega)))
                  · refine tz_aload_n (pc := 76) dX10_takenAway_76 rfl rfl ?_
                    refine tz_aload_n (pc := 77) dX10_takenAway_77 rfl rfl ?_
                    refine tz_iload (pc := 78) dX10_takenAway_78 rfl ?_
                    refine tz_iload (pc := 80) dX10_takenAway_80 rfl ?_
                    refine tz_cV (pc := 82) (u_part hl n _ _ _ (by omega) (by omega) b m (C.of (fun c hc => f2 c (by simp [zbut]; omega))) hn0 (by rw [f2 8 rfl]; omega)) vl_X10_93 dX10_takenAway_82 o_145 rfl rfl (Nat.le_of_ble_eq_true rfl) ⟨(Nat.le_of_ble_eq_true rfl), (Nat.le_of_ble_eq_true rfl)⟩ rfl rfl (Nat.le_of_ble_eq_true rfl) (Nat.le_of_ble_eq_true rfl) (fun r9 J_82 hq9 => ?_)
                    obtain ⟨zp, rfl, hz_82, rfl, hn9, hz9⟩ := hq9
                    have hz8 : zp = agN S 0 (J1 148 (J1 153 k)) i := by rw [(a0_nd E C hm6 hn0).2.2 i (by omega) (by omega), ← hz9, f2 9 rfl]
                    refine tz_cV (pc := 85) (u_top hl n _ _ (by omega) b m c hm hn9 u2.1 v2.1 hbc) vl_X10_54 dX10_takenAway_85 o_145 rfl rfl (Nat.le_of_ble_eq_true rfl) ⟨(Nat.le_of_ble_eq_true rfl), (Nat.le_of_ble_eq_true rfl)⟩ rfl rfl (Nat.le_of_ble_eq_true rfl) (Nat.le_of_ble_eq_true rfl) (fun r9 J3 hq9 => ?_)
                    obtain ⟨zt, rfl, hz_85, ⟨t1, t2, t3⟩, tv, tz⟩ := hq9
                    have tr := t2.1.rg hm
                    have l3 := l2.of (t3 153 rfl) (fun x q => by have := t1.2.2 x; rw [u2.2.1] at this; exact this q)
                    have a3 := t2.2
                    rw [u2.2.1] at a3
                    have vz := (nd.vn hbc hm).1 t2.1
                    have vp9 := (nd.vn hbc hm).1 hn9
                    have ch9 : zt = chi S T sh (J2 153 k) i := by unfold chi; rw [tz, v2.2.1 zp vp9, hTT zp vp9, e3, sd8, hz8]
                    have tt9 : T zt = zt := by rw [← hTT zt vz, ← v2.2.1 zt vz]; exact tp_r (by rw [tz]; exact (v2.1.root vp9).1)
                    have az9 : J3 146 zt = J3 145 10 := t2.2.trans (congrFun (t3 145 rfl) 10).symm
                    have uz9 : J3 154 zt = uuV J2 zt := by rw [← (tv.2.2 zt vz).2.2.1]; unfold uuV; rw [if_pos az9]
                    have hn3 : i < nai S sh (J2 153 k) := by rw [e3, na9 (by omega)]; omega
                    have lp9 : L zt := by rw [ch9]; exact hE.2.2.1 _ i (s2.2.2.1 k (by omega) kg) (by omega) hn3
                    have sp9 := (s2.step (u' := fun y => if y = zt then uuV J2 zt - 1 else uuV J2 y) kg (by omega) hn3 ch9 lp9 (fun y ly => (hE.2.1 y ly).1) (fun _ _ => rfl)).1
                    have sb9 := s2.ub lp9
                    have s19 := sp9.2
                    rw [← uz9] at sb9 s19
                    refine tz_istore (pc := 88) (L2 := [_, _, _, _, _, _, _]) dX10_takenAway_88 (by decide) rfl ?_
                    refine tz_aload_n (pc := 90) dX10_takenAway_90 rfl rfl ?_
                    refine tz_fR (pc := 91) dX10_takenAway_91 fl_X10_36 r_145_9 ?_
                    refine tz_iload (pc := 94) dX10_takenAway_94 rfl ?_
                    refine tz_dup2 (pc := 96) dX10_takenAway_96 rfl rfl ?_
                    refine tz_aL (pc := 97) (z := zt) (v := (J3 154 zt)) dX10_takenAway_97 a_154 rfl (by omega) rfl (fun r_97 => ?_)
                    refine tz_iconst (pc := 98) dX10_takenAway_98 ?_
                    refine tz_isub (pc := 99) (v := (J3 154 zt) - 1) dX10_takenAway_99 rfl ?_
                    refine tz_aS (pc := 100) (z := zt) dX10_takenAway_100 a_154 rfl (by omega) (by omega) ?_
                    refine tz_aload_n (pc := 101) dX10_takenAway_101 rfl rfl ?_
                    refine tz_fR (pc := 102) dX10_takenAway_102 fl_X10_36 r_145_9 ?_
                    refine tz_iload (pc := 105) dX10_takenAway_105 rfl ?_
                    refine tz_aL (pc := 107) (z := zt) (v := ((J3 154 zt) - 1)) dX10_takenAway_107 a_154 rfl (by omega) (by simp [zup]) (fun r_107 => ?_)
                    refine tz_if_ne (pc := 108) (tgt := 129) dX10_takenAway_108 (by decide) (by omega) (fun h_108 => ?_) (fun h_108 => ?_)
                    · refine tz_iinc (pc := 129) (z := i + 1) (L2 := [_, _, _, _, _, _, _]) dX10_takenAway_129 rfl (by omega) rfl ?_
                      refine tz_goto (pc := 132) (tgt := 51) dX10_takenAway_132 (by decide) ?_
                      exact ih51 (g2) (i + 1) _ _ (by omega) (by omega) ((t1.tr u2).of (Int.le_refl _) rfl (fun c hc => by rcases (show c = 146 ∨ c = 147 ∨ c = 148 ∨ c = 149 ∨ c = 150 by omega) with rfl | rfl | rfl | rfl | rfl <;> rfl)) (lsI.of l3 rfl (fun _ q => q)) (zOf.up rfl ((t3.mono (fun c hc => by simp [zbut] at hc ⊢; omega)).tr f2)) (vF.up (tv.f v2) (fun q hq => by rcases (show q = 7 ∨ q = 145 ∨ q = 146 ∨ q = 147 ∨ q = 148 ∨ q = 149 ∨ q = 150 by omega) with rfl | rfl | rfl | rfl | rfl | rfl | rfl <;> rfl)) (by first | (have q9 := (s2.step (u' := uuV ((zup J3 154 zt ((J3 154 zt) - 1)))) kg (by omega) hn3 ch9 lp9 (fun y ly => (hE.2.1 y ly).1) (fun y hy => by rw [uu_up (J2 := (zup J3 154 zt ((J3 154 zt) - 1))) (J1 := J3) (z := zt) (v := J3 154 zt - 1) (fun _ => rfl) rfl rfl az9 y, (tv.2.2 y hy).2.2.1, uz9])).2 (by rw [← uz9]; omega); rw [← t3 153 rfl] at q9; exact q9) | exact absurd (s2.1.lt (vz.b hc9) sp9.1) (by omega)) (by omega) ((congrFun (t3 153 rfl) k).trans e3)
                    · refine tz_iload_n (pc := 111) dX10_takenAway_111 rfl rfl ?_
                      refine tz_sipush (pc := 112) dX10_takenAway_112 (by decide) ?_
                      refine tz_icmp_ge (pc := 115) (tgt := 129) dX10_takenAway_115 (by decide) (by omega) (by decide) (fun h_115 => ?_) (fun h_115 => ?_)
                      · refine tz_iinc (pc := 129) (z := i + 1) (L2 := [_, _, _, _, _, _, _]) dX10_takenAway_129 rfl (by omega) rfl ?_
                        refine tz_goto (pc := 132) (tgt := 51) dX10_takenAway_132 (by decide) ?_
                        exact ih51 (g2) (i + 1) _ _ (by omega) (by omega) ((t1.tr u2).of (Int.le_refl _) rfl (fun c hc => by rcases (show c = 146 ∨ c = 147 ∨ c = 148 ∨ c = 149 ∨ c = 150 by omega) with rfl | rfl | rfl | rfl | rfl <;> rfl)) (lsI.of l3 rfl (fun _ q => q)) (zOf.up rfl ((t3.mono (fun c hc => by simp [zbut] at hc ⊢; omega)).tr f2)) (vF.up (tv.f v2) (fun q hq => by rcases (show q = 7 ∨ q = 145 ∨ q = 146 ∨ q = 147 ∨ q = 148 ∨ q = 149 ∨ q = 150 by omega) with rfl | rfl | rfl | rfl | rfl | rfl | rfl <;> rfl)) (by first | (have q9 := (s2.step (u' := uuV ((zup J3 154 zt ((J3 154 zt) - 1)))) kg (by omega) hn3 ch9 lp9 (fun y ly => (hE.2.1 y ly).1) (fun y hy => by rw [uu_up (J2 := (zup J3 154 zt ((J3 154 zt) - 1))) (J1 := J3) (z := zt) (v := J3 154 zt - 1) (fun _ => rfl) rfl rfl az9 y, (tv.2.2 y hy).2.2.1, uz9])).2 (by rw [← uz9]; omega); rw [← t3 153 rfl] at q9; exact q9) | exact absurd (s2.1.lt (vz.b hc9) sp9.1) (by omega)) (by omega) ((congrFun (t3 153 rfl) k).trans e3)
                      · refine tz_aload_n (pc := 118) dX10_takenAway_118 rfl rfl ?_
                        refine tz_fR (pc := 119) dX10_takenAway_119 fl_X10_33 r_145_8 ?_
                        refine tz_iload_n (pc := 122) dX10_takenAway_122 rfl rfl ?_
                        refine tz_iload (pc := 123) dX10_takenAway_123 rfl ?_
                        refine tz_aS (pc := 125) (z := g2) dX10_takenAway_125 a_153 rfl (by omega) (by omega) ?_
                        refine tz_iinc (pc := 126) (z := g2 + 1) (L2 := [_, _, _, _, _, _, _]) dX10_takenAway_126 rfl (by omega) rfl ?_
                        refine tz_iinc (pc := 129) (z := i + 1) (L2 := [_, _, _, _, _, _, _]) dX10_takenAway_129 rfl (by omega) rfl ?_
                        refine tz_goto (pc := 132) (tgt := 51) dX10_takenAway_132 (by decide) ?_
                        exact ih51 (g2 + 1) (i + 1) _ _ (by omega) (by omega) ((t1.tr u2).of (Int.le_refl _) rfl (fun c hc => by rcases (show c = 146 ∨ c = 147 ∨ c = 148 ∨ c = 149 ∨ c = 150 by omega) with rfl | rfl | rfl | rfl | rfl <;> rfl)) (lsI.push (lsI.of l3 rfl (fun _ q => q)) (by omega) t2.1 a3) (zOf.up rfl (zOf.up rfl ((t3.mono (fun c hc => by simp [zbut] at hc ⊢; omega)).tr f2))) (vF.up (tv.f v2) (fun q hq => by rcases (show q = 7 ∨ q = 145 ∨ q = 146 ∨ q = 147 ∨ q = 148 ∨ q = 149 ∨ q = 150 by omega) with rfl | rfl | rfl | rfl | rfl | rfl | rfl <;> rfl)) (s2.zero hc9 kg (by omega) hn3 ch9 lp9 hE.2.1 (fun y hy => by rw [uu_up (J2 := (zup (zup J3 154 zt ((J3 154 zt) - 1)) 153 g2 zt)) (J1 := J3) (z := zt) (v := J3 154 zt - 1) (fun _ => rfl) rfl rfl az9 y, (tv.2.2 y hy).2.2.1, uz9]) (by rw [← uz9]; omega) (fun q => by show (if q = g2 then zt else J3 153 q) = _; rw [t3 153 rfl])) (by omega) (by show (if k = g2 then zt else J3 153 k) = _; rw [if_neg (by omega), t3 153 rfl]; exact e3)
            exact loop51 _ _ 0 _ _ (Nat.lt_succ_self _) (by omega) u1 l1 f1 v1 (s1.beg hc9 (by omega)) (by omega) rfl
    exact loop23 _ 0 0 _ _ _ _ (Nat.lt_succ_self _) (by omega) (UW.rf hU) hL0 zOf.rf (vF.rf hP) (TKI.s0 hE (by omega))
  · refine tz_aload_n (pc := 11) dX10_takenAway_11 rfl rfl ?_
    refine tz_fR (pc := 12) dX10_takenAway_12 fl_X10_33 r_145_8 ?_
    refine tz_iload_n (pc := 15) dX10_takenAway_15 rfl rfl ?_
    refine tz_iload_n (pc := 16) dX10_takenAway_16 rfl rfl ?_
    refine tz_aS (pc := 17) (z := 0) dX10_takenAway_17 a_153 rfl (by decide) (by omega) ?_
    refine tz_iinc (pc := 18) (z := 1) (L2 := [_, _, _, _, _, _, _]) dX10_takenAway_18 rfl (by decide) rfl ?_
    refine tz_iconst (pc := 21) dX10_takenAway_21 ?_
    refine tz_istore_n (pc := 22) (L2 := [_, _, _, _, _, _, _]) dX10_takenAway_22 rfl (by decide) rfl ?_
    have loop23 : ∀ (f9 : Nat) (g : Int) (k : Int) (d4 : Option Value) (d5 : Option Value) (d6 : Option Value) (J1 : zJ), ((800 - k).toNat) < f9 → (0 ≤ k ∧ k ≤ 800) → (UW J1 J b m) → (lsI J1 J b m g) → (zOf (zbut [146, 147, 148, 149, 150, 153, 154]) J1 J) → (vF c m J1 J) → (TKI c m S T sh L (J1 153) (uuV J1) g k 0 0) → tz_At l G M_X10_takenAway (tb_rm 3 0 0) none (tb_ZM G 0 0 (zQ n 0 (zqi (fun z J' => (UW J' J b m ∧ zOf (zbut [146, 147, 148, 149, 150, 153, 154]) J' J) ∧ ((z < f → ¬ NRu (VN c m) (hdN S 0) (arN S 0 0) (agN S 0) (fun u v => T u = T v) x) ∧ ((∀ u, VN c m u → 0 ≤ hdN S 0 u → ¬ sh (T u) = -1) → CGm (VN c m) (hdN S 0) (arN S 0 0) (agN S 0) T → f ≤ z → NRu (VN c m) (hdN S 0) (arN S 0 0) (agN S 0) (fun u v => T u = T v) x)) ∧ vF c m J' J))) (zX n 0 zN)) 0 0 n J1 23 [some (.ref 145), some (zi x), some (zi g), some (zi k), d4, d5, d6] [] := by
      intro f9
      induction f9 with
      | zero => intro g k d4 d5 d6 J1 hm9; exact absurd hm9 (Nat.not_lt_zero _)
      | succ f9 ih23 =>
        intro g k d4 d5 d6 J1 hm23 hk u1 l1 f1 v1 s1
        have lr := l1.1
        refine tz_iload_n (pc := 23) dX10_takenAway_23 rfl rfl ?_
        refine tz_iload_n (pc := 24) dX10_takenAway_24 rfl rfl ?_
        refine tz_icmp_ge (pc := 25) (tgt := 141) dX10_takenAway_25 (by decide) (by omega) (by omega) (fun h_25 => ?_) (fun h_25 => ?_)
        · refine tz_iload_n (pc := 141) dX10_takenAway_141 rfl rfl ?_
          exact tz_iret (pc := 142) (z := g) dX10_takenAway_142 rfl (Nat.le_of_ble_eq_true rfl) (Nat.le_of_ble_eq_true rfl) ⟨Nat.le_refl _, Nat.le_add_right _ _⟩ ⟨_, rfl, (by omega), ⟨⟨u1, f1⟩, ⟨fun hg => TKI.no hc9 hE s1 (by have := s1.1.1; omega) hg hV9 hS9 h39, fun hN hT hg => TKI.yes hc9 hE s1 hg hV9 hS9 hN hT h39⟩, v1⟩⟩
        · refine tz_iload_n (pc := 28) dX10_takenAway_28 rfl rfl ?_
          refine tz_sipush (pc := 29) dX10_takenAway_29 (by decide) ?_
          refine tz_icmp_ge (pc := 32) (tgt := 141) dX10_takenAway_32 (by decide) (by omega) (by decide) (fun h_32 => ?_) (fun h_32 => ?_)
          · refine tz_iload_n (pc := 141) dX10_takenAway_141 rfl rfl ?_
            exact tz_iret (pc := 142) (z := g) dX10_takenAway_142 rfl (Nat.le_of_ble_eq_true rfl) (Nat.le_of_ble_eq_true rfl) ⟨Nat.le_refl _, Nat.le_add_right _ _⟩ ⟨_, rfl, (by omega), ⟨⟨u1, f1⟩, ⟨fun hg => TKI.no hc9 hE s1 (by have := s1.1.1; omega) hg hV9 hS9 h39, fun hN hT hg => TKI.yes hc9 hE s1 hg hV9 hS9 hN hT h39⟩, v1⟩⟩
          · refine tz_aload_n (pc := 35) dX10_takenAway_35 rfl rfl ?_
            refine tz_fR (pc := 36) dX10_takenAway_36 fl_X10_18 r_145_3 ?_
            refine tz_aload_n (pc := 39) dX10_takenAway_39 rfl rfl ?_
            refine tz_fR (pc := 40) dX10_takenAway_40 fl_X10_33 r_145_8 ?_
            refine tz_iload_n (pc := 43) dX10_takenAway_43 rfl rfl ?_
            refine tz_aL (pc := 44) (z := k) (v := (J1 153 k)) dX10_takenAway_44 a_153 rfl (by omega) rfl (fun r_44 => ?_)
            have q0 := l1.2 k (by omega) (by omega)
            have q0r := q0.1.rg hm
            have q1 := (u1.at hm q0.1 q0.2).2.2.1
            have dv9 := s1.1.2.1 k (by omega) (by omega)
            have sd9 : usV J (J1 153 k) = (J1 148 (J1 153 k)) := by rw [← (v1.2.2 _ dv9.1).1]; unfold usV; rw [if_pos (q0.2.trans u1.2.1.symm)]
            have sd8 : sh (J1 153 k) = (J1 148 (J1 153 k)) := (hsh _ dv9.1).symm.trans sd9
            have nn9 : (J1 148 (J1 153 k)) = -1 → nai S sh (J1 153 k) = 0 := fun q => by unfold nai; rw [sd8, if_pos q]
            have na9 : ¬ (J1 148 (J1 153 k)) = -1 → nai S sh (J1 153 k) = J 8 (tm (J1 148 (J1 153 k))) := fun q => by unfold nai; rw [sd8, if_neg q]; exact (a0_nd E C hm6 (q1.resolve_left q)).1
            refine tz_aL (pc := 45) (z := (J1 153 k)) (v := (J1 148 (J1 153 k))) dX10_takenAway_45 a_148 rfl (by omega) rfl (fun r_45 => ?_)
            refine tz_istore (pc := 46) (L2 := [_, _, _, _, _, _, _]) dX10_takenAway_46 (by decide) rfl ?_
            refine tz_iconst (pc := 48) dX10_takenAway_48 ?_
            refine tz_istore (pc := 49) (L2 := [_, _, _, _, _, _, _]) dX10_takenAway_49 (by decide) rfl ?_
            have loop51 : ∀ (f9 : Nat) (g2 : Int) (i : Int) (e6 : Option Value) (J2 : zJ), ((3 - i).toNat) < f9 → (0 ≤ i ∧ i ≤ 3) → (UW J2 J b m) → (lsI J2 J b m g2) → (zOf (zbut [146, 147, 148, 149, 150, 153, 154]) J2 J) → (vF c m J2 J) → (TKI c m S T sh L (J2 153) (uuV J2) g2 k i 1) → (k < g2) → (J2 153 k = J1 153 k) → tz_At l G M_X10_takenAway (tb_rm 3 0 0) none (tb_ZM G 0 0 (zQ n 0 (zqi (fun z J' => (UW J' J b m ∧ zOf (zbut [146, 147, 148, 149, 150, 153, 154]) J' J) ∧ ((z < f → ¬ NRu (VN c m) (hdN S 0) (arN S 0 0) (agN S 0) (fun u v => T u = T v) x) ∧ ((∀ u, VN c m u → 0 ≤ hdN S 0 u → ¬ sh (T u) = -1) → CGm (VN c m) (hdN S 0) (arN S 0 0) (agN S 0) T → f ≤ z → NRu (VN c m) (hdN S 0) (arN S 0 0) (agN S 0) (fun u v => T u = T v) x)) ∧ vF c m J' J))) (zX n 0 zN)) 0 0 n J2 51 [some (.ref 145), some (zi x), some (zi g2), some (zi k), some (zi (J1 148 (J1 153 k))), some (zi i), e6] [] := by
              intro f9
              induction f9 with
              | zero => intro g2 i e6 J2 hm9; exact absurd hm9 (Nat.not_lt_zero _)
              | succ f9 ih51 =>
                intro g2 i e6 J2 hm51 hi u2 l2 f2 v2 s2 kg e3
                have l2r := l2.1
                have e8 := f2 8 rfl
                refine tz_iload (pc := 51) dX10_takenAway_51 rfl ?_
                refine tz_iconst (pc := 53) dX10_takenAway_53 ?_
                refine tz_icmp_eq (pc := 54) (tgt := 135) dX10_takenAway_54 (by decide) (by omega) (by decide) (fun h_54 => ?_) (fun h_54 => ?_)
                · refine tz_iinc (pc := 135) (z := k + 1) (L2 := [_, _, _, _, _, _, _]) dX10_takenAway_135 rfl (by omega) rfl ?_
                  refine tz_goto (pc := 138) (tgt := 23) dX10_takenAway_138 (by decide) ?_
                  exact ih23 _ (k + 1) _ _ _ _ (by omega) (by omega) u2 l2 f2 v2 (s2.shut kg (by rw [e3]; rcases Decidable.em ((J1 148 (J1 153 k)) = -1) with q9 | q9; (have := nn9 q9; omega); (have := na9 q9; omega)))
                · have hn0 := q1.resolve_left (by omega)
                  have hnr := hn0.rg hm
                  have hnt := hn0.ix hm
                  have ha8 := C.ar hnt.1 hnt.2
                  have rD9 : upV J (J1 153 k) = (J1 153 k) := by have q9 := (hP.root dv9.1).1; rw [hTT _ dv9.1, dv9.2] at q9; exact q9
                  have xs9 := (hS _ dv9.1 rD9).1.resolve_left (by rw [sd9]; omega)
                  rw [sd9] at xs9
                  have xs8 := And.intro xs9.1 (And.intro xs9.2.1 ((hTT _ xs9.1).symm.trans xs9.2.2))
                  refine tz_iload (pc := 57) dX10_takenAway_57 rfl ?_
                  refine tz_aload_n (pc := 59) dX10_takenAway_59 rfl rfl ?_
                  refine tz_fR (pc := 60) dX10_takenAway_60 fl_X10_46 r_145_0 ?_
                  refine tz_fR (pc := 63) dX10_takenAway_63 fl_X10_90 r_6_2 ?_
                  refine tz_aload_n (pc := 66) dX10_takenAway_66 rfl rfl ?_
                  refine tz_iload (pc := 67) dX10_takenAway_67 rfl ?_
                  refine tz_cV (pc := 69) (c_uTerm hl n _ _ (by omega) (by omega)) vl_X10_68 dX10_takenAway_69 o_145 rfl rfl (Nat.le_of_ble_eq_true rfl) ⟨(Nat.le_of_ble_eq_true rfl), (Nat.le_of_ble_eq_true rfl)⟩ rfl rfl (Nat.le_of_ble_eq_true rfl) (Nat.le_of_ble_eq_true rfl) (fun r9 J_69 hq9 => ?_)
                  obtain ⟨z_69, rfl, hz_69, rfl, rfl⟩ := hq9
                  refine tz_aL (pc := 72) (z := (tm (J1 148 (J1 153 k)))) (v := (J 8 (tm (J1 148 (J1 153 k))))) dX10_takenAway_72 a_8 rfl (by omega) (Eq.trans (congrFun (f2 8 rfl) (tm (J1 148 (J1 153 k)))) rfl) (fun r_72 => ?_)
                  refine tz_icmp_ge (pc := 73) (tgt := 135) dX10_takenAway_73 (by decide) (by omega) (by omega) (fun h_73 => ?_) (fun h_73 => ?_)
                  · refine tz_iinc (pc := 135) (z := k + 1) (L2 := [_, _, _, _, _, _, _]) dX10_takenAway_135 rfl (by omega) rfl ?_
                    refine tz_goto (pc := 138) (tgt := 23) dX10_takenAway_138 (by decide) ?_
                    exact ih23 _ (k + 1) _ _ _ _ (by omega) (by omega) u2 l2 f2 v2 (s2.shut kg (by rw [e3]; rcases Decidable.em ((J1 148 (J1 153 k)) = -1) with q9 | q9; (have := nn9 q9; omega); (have := na9 q9; omega)))
                  · refine tz_aload_n (pc := 76) dX10_takenAway_76 rfl rfl ?_
                    refine tz_aload_n (pc := 77) dX10_takenAway_77 rfl rfl ?_
                    refine tz_iload (pc := 78) dX10_takenAway_78 rfl ?_
                    refine tz_iload (pc := 80) dX10_takenAway_80 rfl ?_
                    refine tz_cV (pc := 82) (u_part hl n _ _ _ (by omega) (by omega) b m (C.of (fun c hc => f2 c (by simp [zbut]; omega))) hn0 (by rw [f2 8 rfl]; omega)) vl_X10_93 dX10_takenAway_82 o_145 rfl rfl (Nat.le_of_ble_eq_true rfl) ⟨(Nat.le_of_ble_eq_true rfl), (Nat.le_of_ble_eq_true rfl)⟩ rfl rfl (Nat.le_of_ble_eq_true rfl) (Nat.le_of_ble_eq_true rfl) (fun r9 J_82 hq9 => ?_)
                    obtain ⟨zp, rfl, hz_82, rfl, hn9, hz9⟩ := hq9
                    have hz8 : zp = agN S 0 (J1 148 (J1 153 k)) i := by rw [(a0_nd E C hm6 hn0).2.2 i (by omega) (by omega), ← hz9, f2 9 rfl]
                    refine tz_cV (pc := 85) (u_top hl n _ _ (by omega) b m c hm hn9 u2.1 v2.1 hbc) vl_X10_54 dX10_takenAway_85 o_145 rfl rfl (Nat.le_of_ble_eq_true rfl) ⟨(Nat.le_of_ble_eq_true rfl), (Nat.le_of_ble_eq_true rfl)⟩ rfl rfl (Nat.le_of_ble_eq_true rfl) (Nat.le_of_ble_eq_true rfl) (fun r9 J3 hq9 => ?_)
                    obtain ⟨zt, rfl, hz_85, ⟨t1, t2, t3⟩, tv, tz⟩ := hq9
                    have tr := t2.1.rg hm
                    have l3 := l2.of (t3 153 rfl) (fun x q => by have := t1.2.2 x; rw [u2.2.1] at this; exact this q)
                    have a3 := t2.2
                    rw [u2.2.1] at a3
                    have vz := (nd.vn hbc hm).1 t2.1
                    have vp9 := (nd.vn hbc hm).1 hn9
                    have ch9 : zt = chi S T sh (J2 153 k) i := by unfold chi; rw [tz, v2.2.1 zp vp9, hTT zp vp9, e3, sd8, hz8]
                    have tt9 : T zt = zt := by rw [← hTT zt vz, ← v2.2.1 zt vz]; exact tp_r (by rw [tz]; exact (v2.1.root vp9).1)
                    have az9 : J3 146 zt = J3 145 10 := t2.2.trans (congrFun (t3 145 rfl) 10).symm
                    have uz9 : J3 154 zt = uuV J2 zt := by rw [← (tv.2.2 zt vz).2.2.1]; unfold uuV; rw [if_pos az9]
                    have hn3 : i < nai S sh (J2 153 k) := by rw [e3, na9 (by omega)]; omega
                    have lp9 : L zt := by rw [ch9]; exact hE.2.2.1 _ i (s2.2.2.1 k (by omega) kg) (by omega) hn3
                    have sp9 := (s2.step (u' := fun y => if y = zt then uuV J2 zt - 1 else uuV J2 y) kg (by omega) hn3 ch9 lp9 (fun y ly => (hE.2.1 y ly).1) (fun _ _ => rfl)).1
                    have sb9 := s2.ub lp9
                    have s19 := sp9.2
                    rw [← uz9] at sb9 s19
                    refine tz_istore (pc := 88) (L2 := [_, _, _, _, _, _, _]) dX10_takenAway_88 (by decide) rfl ?_
                    refine tz_aload_n (pc := 90) dX10_takenAway_90 rfl rfl ?_
                    refine tz_fR (pc := 91) dX10_takenAway_91 fl_X10_36 r_145_9 ?_
                    refine tz_iload (pc := 94) dX10_takenAway_94 rfl ?_
                    refine tz_dup2 (pc := 96) dX10_takenAway_96 rfl rfl ?_
                    refine tz_aL (pc := 97) (z := zt) (v := (J3 154 zt)) dX10_takenAway_97 a_154 rfl (by omega) rfl (fun r_97 => ?_)
                    refine tz_iconst (pc := 98) dX10_takenAway_98 ?_
                    refine tz_isub (pc := 99) (v := (J3 154 zt) - 1) dX10_takenAway_99 rfl ?_
                    refine tz_aS (pc := 100) (z := zt) dX10_takenAway_100 a_154 rfl (by omega) (by omega) ?_
                    refine tz_aload_n (pc := 101) dX10_takenAway_101 rfl rfl ?_
                    refine tz_fR (pc := 102) dX10_takenAway_102 fl_X10_36 r_145_9 ?_
                    refine tz_iload (pc := 105) dX10_takenAway_105 rfl ?_
                    refine tz_aL (pc := 107) (z := zt) (v := ((J3 154 zt) - 1)) dX10_takenAway_107 a_154 rfl (by omega) (by simp [zup]) (fun r_107 => ?_)
                    refine tz_if_ne (pc := 108) (tgt := 129) dX10_takenAway_108 (by decide) (by omega) (fun h_108 => ?_) (fun h_108 => ?_)
                    · refine tz_iinc (pc := 129) (z := i + 1) (L2 := [_, _, _, _, _, _, _]) dX10_takenAway_129 rfl (by omega) rfl ?_
                      refine tz_goto (pc := 132) (tgt := 51) dX10_takenAway_132 (by decide) ?_
                      exact ih51 (g2) (i + 1) _ _ (by omega) (by omega) ((t1.tr u2).of (Int.le_refl _) rfl (fun c hc => by rcases (show c = 146 ∨ c = 147 ∨ c = 148 ∨ c = 149 ∨ c = 150 by omega) with rfl | rfl | rfl | rfl | rfl <;> rfl)) (lsI.of l3 rfl (fun _ q => q)) (zOf.up rfl ((t3.mono (fun c hc => by simp [zbut] at hc ⊢; omega)).tr f2)) (vF.up (tv.f v2) (fun q hq => by rcases (show q = 7 ∨ q = 145 ∨ q = 146 ∨ q = 147 ∨ q = 148 ∨ q = 149 ∨ q = 150 by omega) with rfl | rfl | rfl | rfl | rfl | rfl | rfl <;> rfl)) (by first | (have q9 := (s2.step (u' := uuV ((zup J3 154 zt ((J3 154 zt) - 1)))) kg (by omega) hn3 ch9 lp9 (fun y ly => (hE.2.1 y ly).1) (fun y hy => by rw [uu_up (J2 := (zup J3 154 zt ((J3 154 zt) - 1))) (J1 := J3) (z := zt) (v := J3 154 zt - 1) (fun _ => rfl) rfl rfl az9 y, (tv.2.2 y hy).2.2.1, uz9])).2 (by rw [← uz9]; omega); rw [← t3 153 rfl] at q9; exact q9) | exact absurd (s2.1.lt (vz.b hc9) sp9.1) (by omega)) (by omega) ((congrFun (t3 153 rfl) k).trans e3)
                    · refine tz_iload_n (pc := 111) dX10_takenAway_111 rfl rfl ?_
                      refine tz_sipush (pc := 112) dX10_takenAway_112 (by decide) ?_
                      refine tz_icmp_ge (pc := 115) (tgt := 129) dX10_takenAway_115 (by decide) (by omega) (by decide) (fun h_115 => ?_) (fun h_115 => ?_)
                      · refine tz_iinc (pc := 129) (z := i + 1) (L2 := [_, _, _, _, _, _, _]) dX10_takenAway_129 rfl (by omega) rfl ?_
                        refine tz_goto (pc := 132) (tgt := 51) dX10_takenAway_132 (by decide) ?_
                        exact ih51 (g2) (i + 1) _ _ (by omega) (by omega) ((t1.tr u2).of (Int.le_refl _) rfl (fun c hc => by rcases (show c = 146 ∨ c = 147 ∨ c = 148 ∨ c = 149 ∨ c = 150 by omega) with rfl | rfl | rfl | rfl | rfl <;> rfl)) (lsI.of l3 rfl (fun _ q => q)) (zOf.up rfl ((t3.mono (fun c hc => by simp [zbut] at hc ⊢; omega)).tr f2)) (vF.up (tv.f v2) (fun q hq => by rcases (show q = 7 ∨ q = 145 ∨ q = 146 ∨ q = 147 ∨ q = 148 ∨ q = 149 ∨ q = 150 by omega) with rfl | rfl | rfl | rfl | rfl | rfl | rfl <;> rfl)) (by first | (have q9 := (s2.step (u' := uuV ((zup J3 154 zt ((J3 154 zt) - 1)))) kg (by omega) hn3 ch9 lp9 (fun y ly => (hE.2.1 y ly).1) (fun y hy => by rw [uu_up (J2 := (zup J3 154 zt ((J3 154 zt) - 1))) (J1 := J3) (z := zt) (v := J3 154 zt - 1) (fun _ => rfl) rfl rfl az9 y, (tv.2.2 y hy).2.2.1, uz9])).2 (by rw [← uz9]; omega); rw [← t3 153 rfl] at q9; exact q9) | exact absurd (s2.1.lt (vz.b hc9) sp9.1) (by omega)) (by omega) ((congrFun (t3 153 rfl) k).trans e3)
                      · refine tz_aload_n (pc := 118) dX10_takenAway_118 rfl rfl ?_
                        refine tz_fR (pc := 119) dX10_takenAway_119 fl_X10_33 r_145_8 ?_
                        refine tz_iload_n (pc := 122) dX10_takenAway_122 rfl rfl ?_
                        refine tz_iload (pc := 123) dX10_takenAway_123 rfl ?_
                        refine tz_aS (pc := 125) (z := g2) dX10_takenAway_125 a_153 rfl (by omega) (by omega) ?_
                        refine tz_iinc (pc := 126) (z := g2 + 1) (L2 := [_, _, _, _, _, _, _]) dX10_takenAway_126 rfl (by omega) rfl ?_
                        refine tz_iinc (pc := 129) (z := i + 1) (L2 := [_, _, _, _, _, _, _]) dX10_takenAway_129 rfl (by omega) rfl ?_
                        refine tz_goto (pc := 132) (tgt := 51) dX10_takenAway_132 (by decide) ?_
                        exact ih51 (g2 + 1) (i + 1) _ _ (by omega) (by omega) ((t1.tr u2).of (Int.le_refl _) rfl (fun c hc => by rcases (show c = 146 ∨ c = 147 ∨ c = 148 ∨ c = 149 ∨ c = 150 by omega) with rfl | rfl | rfl | rfl | rfl <;> rfl)) (lsI.push (lsI.of l3 rfl (fun _ q => q)) (by omega) t2.1 a3) (zOf.up rfl (zOf.up rfl ((t3.mono (fun c hc => by simp [zbut] at hc ⊢; omega)).tr f2))) (vF.up (tv.f v2) (fun q hq => by rcases (show q = 7 ∨ q = 145 ∨ q = 146 ∨ q = 147 ∨ q = 148 ∨ q = 149 ∨ q = 150 by omega) with rfl | rfl | rfl | rfl | rfl | rfl | rfl <;> rfl)) (s2.zero hc9 kg (by omega) hn3 ch9 lp9 hE.2.1 (fun y hy => by rw [uu_up (J2 := (zup (zup J3 154 zt ((J3 154 zt) - 1)) 153 g2 zt)) (J1 := J3) (z := zt) (v := J3 154 zt - 1) (fun _ => rfl) rfl rfl az9 y, (tv.2.2 y hy).2.2.1, uz9]) (by rw [← uz9]; omega) (fun q => by show (if q = g2 then zt else J3 153 q) = _; rw [t3 153 rfl])) (by omega) (by show (if k = g2 then zt else J3 153 k) = _; rw [if_neg (by omega), t3 153 rfl]; exact e3)
            exact loop51 _ _ 0 _ _ (Nat.lt_succ_self _) (by omega) u1 l1 f1 v1 (s1.beg hc9 (by omega)) (by omega) rfl
    exact loop23 _ 1 0 _ _ _ _ (Nat.lt_succ_self _) (by omega) ((UW.rf hU).of (Int.le_refl _) rfl (fun c hc => by rcases (show c = 146 ∨ c = 147 ∨ c = 148 ∨ c = 149 ∨ c = 150 by omega) with rfl | rfl | rfl | rfl | rfl <;> rfl)) (lsI.push hL0 (by decide) hx ax) (zOf.up rfl zOf.rf) (vF.up (vF.rf hP) (fun q hq => by rcases (show q = 7 ∨ q = 145 ∨ q = 146 ∨ q = 147 ∨ q = 148 ∨ q = 149 ∨ q = 150 by omega) with rfl | rfl | rfl | rfl | rfl | rfl | rfl <;> rfl)) (TKI.s1 (u := uuV J) hc9 hE (by omega) (by show (if (0 : Int) = 0 then x else J 153 0) = x; rw [if_pos rfl]))

