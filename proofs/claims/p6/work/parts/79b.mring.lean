/-! ===== rings ===== -/
def TP (f : Int → Int) (j : Int) : Prop := ∀ i v u, (0 ≤ i ∧ i < j) → (0 ≤ v ∧ v < 8) → (0 ≤ u ∧ u < 8) → bt (f v) i → bt (f i) u → bt (f v) u
def EX (f2 f1 : Int → Int) (j i : Int) : Prop := ∀ v u, (0 ≤ v ∧ v < 8) → (bt (f2 v) u ↔ bt (f1 v) u ∨ (v < i ∧ bt (f1 v) j ∧ bt (f1 j) u))
theorem EX.row {f2 f1 : Int → Int} {j i u : Int} (h : EX f2 f1 j i) (hj : 0 ≤ j ∧ j < 8) : bt (f2 j) u ↔ bt (f1 j) u := by
  rw [h j u hj]
  exact ⟨fun q => q.elim id (fun w => w.2.2), Or.inl⟩
theorem EX.me {f2 f1 : Int → Int} {j i u : Int} (h : EX f2 f1 j i) (hi : 0 ≤ i ∧ i < 8) : bt (f2 i) u ↔ bt (f1 i) u := by
  rw [h i u hi]
  exact ⟨fun q => q.elim id (fun w => by omega), Or.inl⟩
theorem EX.st {f3 f2 f1 : Int → Int} {j i : Int} (h : EX f2 f1 j i) (hj : 0 ≤ j ∧ j < 8) (hi : 0 ≤ i ∧ i < 8) (h3 : ∀ v, ¬ v = i → f3 v = f2 v) (hc : (bt (f2 i) j ∧ f3 i = zor (f2 i) (f2 j)) ∨ (¬ bt (f2 i) j ∧ f3 i = f2 i)) : EX f3 f1 j (i + 1) := fun v u hv => by
  by_cases e : v = i
  · subst e
    rcases hc with ⟨c1, c2⟩ | ⟨c1, c2⟩
    · rw [c2, bt_or, h.me hi, h.row hj]
      have c3 := (h.me hi).1 c1
      exact ⟨fun q => q.imp id (fun w => ⟨by omega, c3, w⟩), fun q => q.imp id (fun w => w.2.2)⟩
    · rw [c2, h.me hi]
      exact ⟨Or.inl, fun q => q.elim id (fun w => absurd ((h.me hi).2 w.2.1) c1)⟩
  · rw [h3 v e, h v u hv]
    exact ⟨fun q => q.imp id (fun w => ⟨by omega, w.2⟩), fun q => q.imp id (fun w => ⟨by omega, w.2⟩)⟩
theorem EX.z {f : Int → Int} {j : Int} : EX f f j 0 := fun v u hv => ⟨Or.inl, fun q => q.elim id (fun w => by omega)⟩
theorem EX.e {f2 f1 : Int → Int} {j : Int} (h : EX f2 f1 j 8) (hj : 0 ≤ j ∧ j < 8) (p : TP f1 j) : TP f2 (j + 1) := fun i v u hi hv hu a c => by
  have i8 : 0 ≤ i ∧ i < 8 := by omega
  have goal : bt (f1 v) u ∨ (bt (f1 v) j ∧ bt (f1 j) u) → bt (f2 v) u := fun q => (h v u hv).2 (q.imp id (fun w => ⟨hv.2, w⟩))
  have a1 := (h v i hv).1 a
  have c1 := (h i u i8).1 c
  by_cases e : i = j
  · subst e
    have c2 : bt (f1 i) u := c1.elim id (fun w => w.2.2)
    exact goal (Or.inr ⟨a1.elim id (fun w => w.2.1), c2⟩)
  · have i9 : 0 ≤ i ∧ i < j := by omega
    rcases a1 with a1 | ⟨-, a1, a2⟩
    · rcases c1 with c1 | ⟨-, c1, c2⟩
      · exact goal (Or.inl (p i v u i9 hv hu a1 c1))
      · exact goal (Or.inr ⟨p i v j i9 hv hj a1 c1, c2⟩)
    · rcases c1 with c1 | ⟨-, c1, c2⟩
      · exact goal (Or.inr ⟨a1, p i j u i9 hj hu a2 c1⟩)
      · exact goal (Or.inr ⟨a1, c2⟩)
theorem EX.mo {f2 f1 : Int → Int} {j i v u : Int} (h : EX f2 f1 j i) (hv : 0 ≤ v ∧ v < 8) (q : bt (f1 v) u) : bt (f2 v) u := (h v u hv).2 (Or.inl q)
def NB (J : zJ) (f : Int → Int) (b d k : Int) : Prop := ∀ v, 0 ≤ v → v < k → ¬ J 175 v = -1 → ∀ u, Occ J b d (J 175 v) u → bt (f v) u
def NR (J : zJ) (b d t : Int) : Prop := ∃ (rk : Int → Nat) (S : Int → Prop), (∀ v, rk v ≤ 8) ∧ (∀ v, Occ J b d t v → S v) ∧ ∀ v, (0 ≤ v ∧ v < 8) → S v → ¬ J 175 v = -1 → ∀ u, Occ J b d (J 175 v) u → S u ∧ (¬ J 175 u = -1 → rk u < rk v)
theorem nr_mk {J : zJ} {b r d s m t S0 S W : Int} {f : Int → Int} (hM : MS J b r d s m) (hy : gOK (J 175) m) (h1 : NB J f b d 8) (hW : ∀ v, 0 ≤ v → v < 8 → ¬ J 175 v = -1 → bt W v) (hp : TP f 8) (h0 : ∀ v, Occ J b d t v → bt S0 v) (hS : ∀ u, bt S0 u → bt S u) (hN : ∀ v u, 0 ≤ v → v < 8 → bt S0 v → bt (f v) u → bt S u) (hR : ∀ v, 0 ≤ v → v < 8 → ¬ (bt S v ∧ bt W v ∧ bt (f v) v)) : NR J b d t := by
  refine ⟨fun v => cnt (fun k => decide (zand (zshr (f v) k) 1 = 1)) 8, fun v => bt S0 v ∨ ∃ w, (0 ≤ w ∧ w < 8) ∧ bt S0 w ∧ bt (f w) v, fun v => cnt_n 8, fun v o => Or.inl (h0 v o), fun v hv sv bv u o => ?_⟩
  have hb := hy v hv.1 hv.2
  have hu := o.rg hM (by omega)
  have fu := h1 v hv.1 hv.2 bv u o
  have su : bt S0 u ∨ ∃ w, (0 ≤ w ∧ w < 8) ∧ bt S0 w ∧ bt (f w) u := by
    rcases sv with sv | ⟨w, hw, w1, w2⟩
    · exact Or.inr ⟨v, hv, sv, fu⟩
    · exact Or.inr ⟨w, hw, w1, hp v w u hv hw hu w2 fu⟩
  refine ⟨su, fun bu => ?_⟩
  have s1 : bt S u := by
    rcases su with su | ⟨w, hw, w1, w2⟩
    · exact hS u su
    · exact hN w u hw.1 hw.2 w1 w2
  have nu : ¬ bt (f u) u := fun q => hR u hu.1 hu.2 ⟨s1, hW u hu.1 hu.2 bu, q⟩
  refine cnt_lt 8 (fun k a c g => decide_eq_true ?_) ⟨u, hu, decide_eq_true fu, decide_eq_false nu⟩
  have g1 : zand (zshr (f u) k) 1 = 1 := of_decide_eq_true g
  exact hp u v k hu hv ⟨a, by omega⟩ fu g1
theorem nb_s {J J1 : zJ} {b d k z : Int} (h : NB J (J1 176) b d k) (hz : ¬ J 175 k = -1 → ∀ u, Occ J b d (J 175 k) u → bt z u) : NB J (zup J1 176 k z 176) b d (k + 1) := fun v a c q u o => by
  have e : zup J1 176 k z 176 v = if v = k then z else J1 176 v := rfl
  rw [e]
  by_cases hv : v = k
  · subst hv
    rw [if_pos rfl]
    exact hz q u o
  · rw [if_neg hv]
    exact h v a (by omega) q u o
theorem wb_s {J : zJ} {k w x : Int} (h : ∀ v, 0 ≤ v → v < k → ¬ J 175 v = -1 → bt w v) (hk : ¬ J 175 k = -1 → bt x k) : ∀ v, 0 ≤ v → v < k + 1 → ¬ J 175 v = -1 → bt (zor w x) v := fun v a c q => by
  by_cases hv : v = k
  · subst hv
    exact bt_or.2 (Or.inr (hk q))
  · exact bt_or.2 (Or.inl (h v a (by omega) q))
theorem sn_s {f : Int → Int} {s0 sS k x : Int} (h : ∀ v u, 0 ≤ v → v < k → bt s0 v → bt (f v) u → bt sS u) (hx : ∀ u, bt sS u → bt x u) (hk : ∀ u, bt s0 k → bt (f k) u → bt x u) : ∀ v u, 0 ≤ v → v < k + 1 → bt s0 v → bt (f v) u → bt x u := fun v u a c p q => by
  by_cases hv : v = k
  · subst hv
    exact hk u p q
  · exact hx u (h v u a (by omega) p q)
theorem rg_s {f : Int → Int} {sS w k : Int} (h : ∀ v, 0 ≤ v → v < k → ¬ (bt sS v ∧ bt w v ∧ bt (f v) v)) (hk : ¬ (bt sS k ∧ bt w k ∧ bt (f k) k)) : ∀ v, 0 ≤ v → v < k + 1 → ¬ (bt sS v ∧ bt w v ∧ bt (f v) v) := fun v a c => by
  by_cases hv : v = k
  · subst hv
    exact hk
  · exact h v a (by omega)
theorem MS.c176 {J' J : zJ} {b r d s m : Int} (h : MS J b r d s m) (f : zOf (zbut [176]) J' J) : MS J' b r d s m := h.c1 f (by decide)
theorem occ_cg {J' J : zJ} {b d : Int} (e6 : J' 166 = J 166) (e7 : J' 167 = J 167) (e0 : J' 170 = J 170) : ∀ (k : Nat) (t v : Int), occ J' b d k t v ↔ occ J b d k t v
  | 0, _, _ => Iff.rfl
  | k + 1, t, v => by
    have em : mar J' b d t = mar J b d t := by unfold mar; rw [e6, e0]
    unfold occ
    rw [e6, e7, em]
    exact or_congr Iff.rfl ⟨fun ⟨i, a, c⟩ => ⟨i, a, (occ_cg e6 e7 e0 k _ v).1 c⟩, fun ⟨i, a, c⟩ => ⟨i, a, (occ_cg e6 e7 e0 k _ v).2 c⟩⟩
theorem Occ.cg {J' J : zJ} {b d t v : Int} (f : zOf (zbut [176]) J' J) (o : Occ J b d t v) : Occ J' b d t v := o.elim fun k o => ⟨k, (occ_cg (f 166 rfl) (f 167 rfl) (f 170 rfl) k t v).2 o⟩
set_option maxHeartbeats 4000000 in
set_option maxRecDepth 100000 in
theorem m_ring {l : Launch} {G : tb_G} (hl : l.stackTraces = false) (n : Nat) (J : zJ) (t : Int) (hr_t : -2147483648 ≤ t ∧ t < 2147483648) (b r d s m : Int) (hM : MS J b r d s m) (ht : 0 ≤ t ∧ t < m) (hy : gOK (J 175) m) : tz_Ok l G M_X12_isRing 11 0 0 [.ref 164, zi t] n J (zqi (fun z J' => zOf (zbut [176]) J' J ∧ (z = 0 ∨ z = 1) ∧ (z = 0 → NR J b d t))) zN := by
  refine tz_Ok.of hl (by decide +kernel) rfl (tb_c1 rfl) (Nat.le_of_ble_eq_true rfl) ?_
  show tz_At l G M_X12_isRing (tb_rm 11 0 0) none (tb_ZM G 0 0 (zQ n 0 (zqi (fun z J' => zOf (zbut [176]) J' J ∧ (z = 0 ∨ z = 1) ∧ (z = 0 → NR J b d t)))) (zX n 0 zN)) 0 0 n J 0 [some (.ref 164), some (zi t), none, none, none, none] []
  obtain ⟨hM1, hM2, hM3, hM4, hM5, hM6⟩ := id hM
  have hT := hM.told
  refine tz_iconst (pc := 0) dX12_isRing_0 ?_
  refine tz_istore_n (pc := 1) (L2 := [_, _, _, _, _, _]) dX12_isRing_1 rfl (by decide) rfl ?_
  refine tz_iconst (pc := 2) dX12_isRing_2 ?_
  refine tz_istore_n (pc := 3) (L2 := [_, _, _, _, _, _]) dX12_isRing_3 rfl (by decide) rfl ?_
  have loop4 : ∀ (f9 : Nat) (w : Int) (k : Int) (J1 : zJ), ((8 - k).toNat) < f9 → (-2147483648 ≤ w ∧ w < 2147483648) → (0 ≤ k ∧ k ≤ 8) → (zOf (zbut [176]) J1 J) → (NB J (J1 176) b d k) → (∀ v, 0 ≤ v → v < k → ¬ J 175 v = -1 → bt w v) → tz_At l G M_X12_isRing (tb_rm 11 0 0) none (tb_ZM G 0 0 (zQ n 0 (zqi (fun z J' => zOf (zbut [176]) J' J ∧ (z = 0 ∨ z = 1) ∧ (z = 0 → NR J b d t)))) (zX n 0 zN)) 0 0 n J1 4 [some (.ref 164), some (zi t), some (zi w), some (zi k), none, none] [] := by
    intro f9
    induction f9 with
    | zero => intro w k J1 hm9; exact absurd hm9 (Nat.not_lt_zero _)
    | succ f9 ih4 =>
      intro w k J1 hm4 hw hk f1 h1 h2
      refine tz_iload_n (pc := 4) dX12_isRing_4 rfl rfl ?_
      refine tz_bipush (pc := 5) dX12_isRing_5 (by decide) ?_
      refine tz_icmp_ge (pc := 7) (tgt := 66) dX12_isRing_7 (by decide) (by omega) (by decide) (fun h_7 => ?_) (fun h_7 => ?_)
      · have hW : ∀ v, 0 ≤ v → v < 8 → ¬ J 175 v = -1 → bt w v := fun v a c => h2 v a (by omega)
        refine tz_iconst (pc := 66) dX12_isRing_66 ?_
        refine tz_istore_n (pc := 67) (L2 := [_, _, _, _, _, _]) dX12_isRing_67 rfl (by decide) rfl ?_
        have loop68 : ∀ (f9 : Nat) (j : Int) (d4 : Option Value) (J2 : zJ), ((8 - j).toNat) < f9 → (0 ≤ j ∧ j ≤ 8) → (zOf (zbut [176]) J2 J) → (NB J (J2 176) b d 8) → (TP (J2 176) j) → tz_At l G M_X12_isRing (tb_rm 11 0 0) none (tb_ZM G 0 0 (zQ n 0 (zqi (fun z J' => zOf (zbut [176]) J' J ∧ (z = 0 ∨ z = 1) ∧ (z = 0 → NR J b d t)))) (zX n 0 zN)) 0 0 n J2 68 [some (.ref 164), some (zi t), some (zi w), some (zi j), d4, none] [] := by
          intro f9
          induction f9 with
          | zero => intro j d4 J2 hm9; exact absurd hm9 (Nat.not_lt_zero _)
          | succ f9 ih68 =>
            intro j d4 J2 hm68 hj g1 p1 p2
            refine tz_iload_n (pc := 68) dX12_isRing_68 rfl rfl ?_
            refine tz_bipush (pc := 69) dX12_isRing_69 (by decide) ?_
            refine tz_icmp_ge (pc := 71) (tgt := 127) dX12_isRing_71 (by decide) (by omega) (by decide) (fun h_71 => ?_) (fun h_71 => ?_)
            · have p8 : TP (J2 176) 8 := by have e : j = 8 := (by omega); subst e; exact p2
              refine tz_aload_n (pc := 127) dX12_isRing_127 rfl rfl ?_
              refine tz_iload_n (pc := 128) dX12_isRing_128 rfl rfl ?_
              refine tz_cV (pc := 129) (m_varsO hl n _ _ (by omega) b r d s m (hM.c176 g1) (by omega)) vl_X12_126 dX12_isRing_129 o_164 rfl rfl (Nat.le_of_ble_eq_true rfl) ⟨(Nat.le_of_ble_eq_true rfl), (Nat.le_of_ble_eq_true rfl)⟩ rfl rfl (Nat.le_of_ble_eq_true rfl) (Nat.le_of_ble_eq_true rfl) (fun r9 J_129 hq9 => ?_)
              obtain ⟨z_129, rfl, hz_129, rfl, ho_129⟩ := hq9
              refine tz_istore_n (pc := 132) (L2 := [_, _, _, _, _, _]) dX12_isRing_132 rfl (by decide) rfl ?_
              refine tz_iload_n (pc := 133) dX12_isRing_133 rfl rfl ?_
              refine tz_istore (pc := 134) (L2 := [_, _, _, _, _, _]) dX12_isRing_134 (by decide) rfl ?_
              refine tz_iconst (pc := 136) dX12_isRing_136 ?_
              refine tz_istore (pc := 137) (L2 := [_, _, _, _, _, _]) dX12_isRing_137 (by decide) rfl ?_
              have loop139 : ∀ (f9 : Nat) (x : Int) (k : Int), ((8 - k).toNat) < f9 → (-2147483648 ≤ x ∧ x < 2147483648) → (0 ≤ k ∧ k ≤ 8) → (∀ u, bt z_129 u → bt x u) → (∀ v u, 0 ≤ v → v < k → bt z_129 v → bt (J2 176 v) u → bt x u) → tz_At l G M_X12_isRing (tb_rm 11 0 0) none (tb_ZM G 0 0 (zQ n 0 (zqi (fun z J' => zOf (zbut [176]) J' J ∧ (z = 0 ∨ z = 1) ∧ (z = 0 → NR J b d t)))) (zX n 0 zN)) 0 0 n J2 139 [some (.ref 164), some (zi t), some (zi w), some (zi x), some (zi z_129), some (zi k)] [] := by
                intro f9
                induction f9 with
                | zero => intro x k hm9; exact absurd hm9 (Nat.not_lt_zero _)
                | succ f9 ih139 =>
                  intro x k hm139 hx hk h3 h4
                  refine tz_iload (pc := 139) dX12_isRing_139 rfl ?_
                  refine tz_bipush (pc := 141) dX12_isRing_141 (by decide) ?_
                  refine tz_icmp_ge (pc := 143) (tgt := 173) dX12_isRing_143 (by decide) (by omega) (by decide) (fun h_143 => ?_) (fun h_143 => ?_)
                  · have h4e : ∀ v u, 0 ≤ v → v < 8 → bt z_129 v → bt (J2 176 v) u → bt x u := fun v u a c => h4 v u a (by omega)
                    refine tz_iconst (pc := 173) dX12_isRing_173 ?_
                    refine tz_istore (pc := 174) (L2 := [_, _, _, _, _, _]) dX12_isRing_174 (by decide) rfl ?_
                    have loop176 : ∀ (f9 : Nat) (k : Int), ((8 - k).toNat) < f9 → (0 ≤ k ∧ k ≤ 8) → (∀ v, 0 ≤ v → v < k → ¬ (bt x v ∧ bt w v ∧ bt (J2 176 v) v)) → tz_At l G M_X12_isRing (tb_rm 11 0 0) none (tb_ZM G 0 0 (zQ n 0 (zqi (fun z J' => zOf (zbut [176]) J' J ∧ (z = 0 ∨ z = 1) ∧ (z = 0 → NR J b d t)))) (zX n 0 zN)) 0 0 n J2 176 [some (.ref 164), some (zi t), some (zi w), some (zi x), some (zi z_129), some (zi k)] [] := by
                      intro f9
                      induction f9 with
                      | zero => intro k hm9; exact absurd hm9 (Nat.not_lt_zero _)
                      | succ f9 ih176 =>
                        intro k hm176 hk h5
                        refine tz_iload (pc := 176) dX12_isRing_176 rfl ?_
                        refine tz_bipush (pc := 178) dX12_isRing_178 (by decide) ?_
                        refine tz_icmp_ge (pc := 180) (tgt := 217) dX12_isRing_180 (by decide) (by omega) (by decide) (fun h_180 => ?_) (fun h_180 => ?_)
                        · refine tz_iconst (pc := 217) dX12_isRing_217 ?_
                          exact tz_zret (pc := 218) (z := 0) dX12_isRing_218 rfl (Or.inl rfl) (Nat.le_of_ble_eq_true rfl) (Nat.le_of_ble_eq_true rfl) ⟨Nat.le_refl _, Nat.le_add_right _ _⟩ ⟨_, rfl, (by decide), ⟨g1, Or.inl rfl, fun _ => nr_mk hM hy p1 hW p8 (fun v o => ho_129 v (o.cg g1)) h3 h4e (fun v a c => h5 v a (by omega))⟩⟩
                        · refine tz_iload_n (pc := 183) dX12_isRing_183 rfl rfl ?_
                          refine tz_iload (pc := 184) dX12_isRing_184 rfl ?_
                          refine tz_ishr (pc := 186) (v := zshr x k) dX12_isRing_186 rfl ?_
                          refine tz_iload_n (pc := 187) dX12_isRing_187 rfl rfl ?_
                          refine tz_iload (pc := 188) dX12_isRing_188 rfl ?_
                          refine tz_ishr (pc := 190) (v := zshr w k) dX12_isRing_190 rfl ?_
                          refine tz_iand (pc := 191) (v := zand (zshr x k) (zshr w k)) dX12_isRing_191 rfl ?_
                          refine tz_aload_n (pc := 192) dX12_isRing_192 rfl rfl ?_
                          refine tz_fR (pc := 193) dX12_isRing_193 fl_X12_47 r_164_24 ?_
                          refine tz_iload (pc := 196) dX12_isRing_196 rfl ?_
                          refine tz_aL (pc := 198) (z := k) (v := (J2 176 k)) dX12_isRing_198 a_176 rfl (by omega) rfl (fun r_198 => ?_)
                          refine tz_iload (pc := 199) dX12_isRing_199 rfl ?_
                          refine tz_ishr (pc := 201) (v := zshr (J2 176 k) k) dX12_isRing_201 rfl ?_
                          refine tz_iand (pc := 202) (v := zand (zand (zshr x k) (zshr w k)) (zshr (J2 176 k) k)) dX12_isRing_202 rfl ?_
                          refine tz_iconst (pc := 203) dX12_isRing_203 ?_
                          refine tz_iand (pc := 204) (v := zand (zand (zand (zshr x k) (zshr w k)) (zshr (J2 176 k) k)) 1) dX12_isRing_204 rfl ?_
                          refine tz_iconst (pc := 205) dX12_isRing_205 ?_
                          refine tz_icmp_ne (pc := 206) (tgt := 211) dX12_isRing_206 (by decide) (zand_rg _ _) (by decide) (fun h_206 => ?_) (fun h_206 => ?_)
                          · refine tz_iinc (pc := 211) (z := k + 1) (L2 := [_, _, _, _, _, _]) dX12_isRing_211 rfl (by omega) rfl ?_
                            refine tz_goto (pc := 214) (tgt := 176) dX12_isRing_214 (by decide) ?_
                            exact ih176 (k + 1) (by omega) (by omega) (rg_s h5 (fun q => h_206 (bt_and3 q.1 q.2.1 q.2.2)))
                          · refine tz_iconst (pc := 209) dX12_isRing_209 ?_
                            exact tz_zret (pc := 210) (z := 1) dX12_isRing_210 rfl (Or.inr rfl) (Nat.le_of_ble_eq_true rfl) (Nat.le_of_ble_eq_true rfl) ⟨Nat.le_refl _, Nat.le_add_right _ _⟩ ⟨_, rfl, (by decide), ⟨g1, Or.inr rfl, fun q => absurd q (by decide)⟩⟩
                    exact loop176 _ 0 (Nat.lt_succ_self _) (by omega) (fun v a c => by omega)
                  · refine tz_iload (pc := 146) dX12_isRing_146 rfl ?_
                    refine tz_iload (pc := 148) dX12_isRing_148 rfl ?_
                    refine tz_ishr (pc := 150) (v := zshr z_129 k) dX12_isRing_150 rfl ?_
                    refine tz_iconst (pc := 151) dX12_isRing_151 ?_
                    refine tz_iand (pc := 152) (v := zand (zshr z_129 k) 1) dX12_isRing_152 rfl ?_
                    refine tz_iconst (pc := 153) dX12_isRing_153 ?_
                    refine tz_icmp_ne (pc := 154) (tgt := 167) dX12_isRing_154 (by decide) (zand_rg _ _) (by decide) (fun h_154 => ?_) (fun h_154 => ?_)
                    · refine tz_iinc (pc := 167) (z := k + 1) (L2 := [_, _, _, _, _, _]) dX12_isRing_167 rfl (by omega) rfl ?_
                      refine tz_goto (pc := 170) (tgt := 139) dX12_isRing_170 (by decide) ?_
                      exact ih139 _ (k + 1) (by omega) (by omega) (by omega) h3 (sn_s h4 (fun u q => q) (fun u q => absurd q h_154))
                    · refine tz_iload_n (pc := 157) dX12_isRing_157 rfl rfl ?_
                      refine tz_aload_n (pc := 158) dX12_isRing_158 rfl rfl ?_
                      refine tz_fR (pc := 159) dX12_isRing_159 fl_X12_47 r_164_24 ?_
                      refine tz_iload (pc := 162) dX12_isRing_162 rfl ?_
                      refine tz_aL (pc := 164) (z := k) (v := (J2 176 k)) dX12_isRing_164 a_176 rfl (by omega) rfl (fun r_164 => ?_)
                      refine tz_ior (pc := 165) (v := zor x (J2 176 k)) dX12_isRing_165 rfl ?_
                      refine tz_istore_n (pc := 166) (L2 := [_, _, _, _, _, _]) dX12_isRing_166 rfl (by decide) rfl ?_
                      refine tz_iinc (pc := 167) (z := k + 1) (L2 := [_, _, _, _, _, _]) dX12_isRing_167 rfl (by omega) rfl ?_
                      refine tz_goto (pc := 170) (tgt := 139) dX12_isRing_170 (by decide) ?_
                      exact ih139 _ (k + 1) (by omega) (zor_rg _ _) (by omega) (fun u q => bt_or.2 (Or.inl (h3 u q))) (sn_s h4 (fun u q => bt_or.2 (Or.inl q)) (fun u _ q => bt_or.2 (Or.inr q)))
              exact loop139 _ _ 0 (Nat.lt_succ_self _) (by omega) (by omega) (fun u q => q) (fun v u a c => by omega)
            · refine tz_iconst (pc := 74) dX12_isRing_74 ?_
              refine tz_istore (pc := 75) (L2 := [_, _, _, _, _, _]) dX12_isRing_75 (by decide) rfl ?_
              have loop77 : ∀ (f9 : Nat) (i : Int) (J3 : zJ), ((8 - i).toNat) < f9 → (0 ≤ i ∧ i ≤ 8) → (zOf (zbut [176]) J3 J) → (EX (J3 176) (J2 176) j i) → tz_At l G M_X12_isRing (tb_rm 11 0 0) none (tb_ZM G 0 0 (zQ n 0 (zqi (fun z J' => zOf (zbut [176]) J' J ∧ (z = 0 ∨ z = 1) ∧ (z = 0 → NR J b d t)))) (zX n 0 zN)) 0 0 n J3 77 [some (.ref 164), some (zi t), some (zi w), some (zi j), some (zi i), none] [] := by
                intro f9
                induction f9 with
                | zero => intro i J3 hm9; exact absurd hm9 (Nat.not_lt_zero _)
                | succ f9 ih77 =>
                  intro i J3 hm77 hi f2 e2
                  have hj : 0 ≤ j ∧ j < 8 := by omega
                  refine tz_iload (pc := 77) dX12_isRing_77 rfl ?_
                  refine tz_bipush (pc := 79) dX12_isRing_79 (by decide) ?_
                  refine tz_icmp_ge (pc := 81) (tgt := 121) dX12_isRing_81 (by decide) (by omega) (by decide) (fun h_81 => ?_) (fun h_81 => ?_)
                  · have e8 : EX (J3 176) (J2 176) j 8 := by have e : i = 8 := (by omega); subst e; exact e2
                    refine tz_iinc (pc := 121) (z := j + 1) (L2 := [_, _, _, _, _, _]) dX12_isRing_121 rfl (by omega) rfl ?_
                    refine tz_goto (pc := 124) (tgt := 68) dX12_isRing_124 (by decide) ?_
                    exact ih68 (j + 1) _ _ (by omega) (by omega) f2 (fun v a c q u o => e8.mo ⟨a, c⟩ (p1 v a c q u o)) (e8.e hj p2)
                  · refine tz_aload_n (pc := 84) dX12_isRing_84 rfl rfl ?_
                    refine tz_fR (pc := 85) dX12_isRing_85 fl_X12_47 r_164_24 ?_
                    refine tz_iload (pc := 88) dX12_isRing_88 rfl ?_
                    refine tz_aL (pc := 90) (z := i) (v := (J3 176 i)) dX12_isRing_90 a_176 rfl (by omega) rfl (fun r_90 => ?_)
                    refine tz_iload_n (pc := 91) dX12_isRing_91 rfl rfl ?_
                    refine tz_ishr (pc := 92) (v := zshr (J3 176 i) j) dX12_isRing_92 rfl ?_
                    refine tz_iconst (pc := 93) dX12_isRing_93 ?_
                    refine tz_iand (pc := 94) (v := zand (zshr (J3 176 i) j) 1) dX12_isRing_94 rfl ?_
                    refine tz_iconst (pc := 95) dX12_isRing_95 ?_
                    refine tz_icmp_ne (pc := 96) (tgt := 115) dX12_isRing_96 (by decide) (zand_rg _ _) (by decide) (fun h_96 => ?_) (fun h_96 => ?_)
                    · refine tz_iinc (pc := 115) (z := i + 1) (L2 := [_, _, _, _, _, _]) dX12_isRing_115 rfl (by omega) rfl ?_
                      refine tz_goto (pc := 118) (tgt := 77) dX12_isRing_118 (by decide) ?_
                      exact ih77 (i + 1) _ (by omega) (by omega) f2 (e2.st hj (by omega) (fun v hv => rfl) (Or.inr ⟨h_96, rfl⟩))
                    · refine tz_aload_n (pc := 99) dX12_isRing_99 rfl rfl ?_
                      refine tz_fR (pc := 100) dX12_isRing_100 fl_X12_47 r_164_24 ?_
                      refine tz_iload (pc := 103) dX12_isRing_103 rfl ?_
                      refine tz_dup2 (pc := 105) dX12_isRing_105 rfl rfl ?_
                      refine tz_aL (pc := 106) (z := i) (v := (J3 176 i)) dX12_isRing_106 a_176 rfl (by omega) rfl (fun r_106 => ?_)
                      refine tz_aload_n (pc := 107) dX12_isRing_107 rfl rfl ?_
                      refine tz_fR (pc := 108) dX12_isRing_108 fl_X12_47 r_164_24 ?_
                      refine tz_iload_n (pc := 111) dX12_isRing_111 rfl rfl ?_
                      refine tz_aL (pc := 112) (z := j) (v := (J3 176 j)) dX12_isRing_112 a_176 rfl (by omega) rfl (fun r_112 => ?_)
                      refine tz_ior (pc := 113) (v := zor (J3 176 i) (J3 176 j)) dX12_isRing_113 rfl ?_
                      refine tz_aS (pc := 114) (z := i) dX12_isRing_114 a_176 rfl (by omega) (zor_rg _ _) ?_
                      refine tz_iinc (pc := 115) (z := i + 1) (L2 := [_, _, _, _, _, _]) dX12_isRing_115 rfl (by omega) rfl ?_
                      refine tz_goto (pc := 118) (tgt := 77) dX12_isRing_118 (by decide) ?_
                      exact ih77 (i + 1) _ (by omega) (by omega) (zOf.up rfl f2) (e2.st hj (by omega) (fun v hv => zup_ne hv) (Or.inl ⟨h_96, zup_at⟩))
              exact loop77 _ 0 _ (Nat.lt_succ_self _) (by omega) g1 EX.z
        exact loop68 _ 0 none _ (Nat.lt_succ_self _) (by omega) f1 (fun v a c => h1 v a (by omega)) (fun i v u hi => by omega)
      · refine tz_aload_n (pc := 10) dX12_isRing_10 rfl rfl ?_
        refine tz_fR (pc := 11) dX12_isRing_11 fl_X12_47 r_164_24 ?_
        refine tz_iload_n (pc := 14) dX12_isRing_14 rfl rfl ?_
        refine tz_aload_n (pc := 15) dX12_isRing_15 rfl rfl ?_
        refine tz_fR (pc := 16) dX12_isRing_16 fl_X12_44 r_164_23 ?_
        refine tz_iload_n (pc := 19) dX12_isRing_19 rfl rfl ?_
        refine tz_aL (pc := 20) (z := k) (v := (J 175 k)) dX12_isRing_20 a_175 rfl (by omega) (Eq.trans (congrFun (f1 175 rfl) k) rfl) (fun r_20 => ?_)
        refine tz_iconst (pc := 21) dX12_isRing_21 ?_
        have hv8 := hy k (by omega) (by omega)
        refine tz_icmp_ne (pc := 22) (tgt := 29) dX12_isRing_22 (by decide) (by omega) (by decide) (fun h_22 => ?_) (fun h_22 => ?_)
        · refine tz_aload_n (pc := 29) dX12_isRing_29 rfl rfl ?_
          refine tz_aload_n (pc := 30) dX12_isRing_30 rfl rfl ?_
          refine tz_fR (pc := 31) dX12_isRing_31 fl_X12_44 r_164_23 ?_
          refine tz_iload_n (pc := 34) dX12_isRing_34 rfl rfl ?_
          refine tz_aL (pc := 35) (z := k) (v := (J 175 k)) dX12_isRing_35 a_175 rfl (by omega) (Eq.trans (congrFun (f1 175 rfl) k) rfl) (fun r_35 => ?_)
          have hv9 := hy k (by omega) (by omega)
          refine tz_cV (pc := 36) (m_varsO hl n _ _ (by omega) b r d s m (hM.c176 f1) (by omega)) vl_X12_126 dX12_isRing_36 o_164 rfl rfl (Nat.le_of_ble_eq_true rfl) ⟨(Nat.le_of_ble_eq_true rfl), (Nat.le_of_ble_eq_true rfl)⟩ rfl rfl (Nat.le_of_ble_eq_true rfl) (Nat.le_of_ble_eq_true rfl) (fun r9 J_36 hq9 => ?_)
          obtain ⟨z_36, rfl, hz_36, rfl, ho_36⟩ := hq9
          refine tz_aS (pc := 39) (z := k) dX12_isRing_39 a_176 rfl (by omega) (by omega) ?_
          refine tz_iload_n (pc := 40) dX12_isRing_40 rfl rfl ?_
          refine tz_aload_n (pc := 41) dX12_isRing_41 rfl rfl ?_
          refine tz_fR (pc := 42) dX12_isRing_42 fl_X12_44 r_164_23 ?_
          refine tz_iload_n (pc := 45) dX12_isRing_45 rfl rfl ?_
          refine tz_aL (pc := 46) (z := k) (v := (J 175 k)) dX12_isRing_46 a_175 rfl (by omega) (Eq.trans (congrFun (f1 175 rfl) k) rfl) (fun r_46 => ?_)
          refine tz_iconst (pc := 47) dX12_isRing_47 ?_
          refine tz_icmp_ne (pc := 48) (tgt := 55) dX12_isRing_48 (by decide) (by omega) (by decide) (fun h_48 => ?_) (fun h_48 => ?_)
          · refine tz_iconst (pc := 55) dX12_isRing_55 ?_
            refine tz_iload_n (pc := 56) dX12_isRing_56 rfl rfl ?_
            refine tz_ishl (pc := 57) (v := zshl 1 k) dX12_isRing_57 rfl ?_
            have r_57 := zshl_rg 1 k
            refine tz_ior (pc := 58) (v := zor w (zshl 1 k)) dX12_isRing_58 rfl ?_
            refine tz_istore_n (pc := 59) (L2 := [_, _, _, _, _, _]) dX12_isRing_59 rfl (by decide) rfl ?_
            refine tz_iinc (pc := 60) (z := k + 1) (L2 := [_, _, _, _, _, _]) dX12_isRing_60 rfl (by omega) rfl ?_
            refine tz_goto (pc := 63) (tgt := 4) dX12_isRing_63 (by decide) ?_
            exact ih4 _ (k + 1) _ (by omega) (zor_rg _ _) (by omega) (zOf.up rfl f1) (nb_s h1 (fun _ u o => ho_36 u (o.cg f1))) (wb_s h2 (fun _ => bt_shl (by omega)))
          · refine tz_iconst (pc := 51) dX12_isRing_51 ?_
            refine tz_goto (pc := 52) (tgt := 58) dX12_isRing_52 (by decide) ?_
            refine tz_ior (pc := 58) (v := zor w 0) dX12_isRing_58 rfl ?_
            refine tz_istore_n (pc := 59) (L2 := [_, _, _, _, _, _]) dX12_isRing_59 rfl (by decide) rfl ?_
            refine tz_iinc (pc := 60) (z := k + 1) (L2 := [_, _, _, _, _, _]) dX12_isRing_60 rfl (by omega) rfl ?_
            refine tz_goto (pc := 63) (tgt := 4) dX12_isRing_63 (by decide) ?_
            exact ih4 _ (k + 1) _ (by omega) (zor_rg _ _) (by omega) (zOf.up rfl f1) (nb_s h1 (fun _ u o => ho_36 u (o.cg f1))) (wb_s h2 (fun q => absurd (show J 175 k = -1 by omega) q))
        · refine tz_iconst (pc := 25) dX12_isRing_25 ?_
          refine tz_goto (pc := 26) (tgt := 39) dX12_isRing_26 (by decide) ?_
          refine tz_aS (pc := 39) (z := k) dX12_isRing_39 a_176 rfl (by omega) (by decide) ?_
          refine tz_iload_n (pc := 40) dX12_isRing_40 rfl rfl ?_
          refine tz_aload_n (pc := 41) dX12_isRing_41 rfl rfl ?_
          refine tz_fR (pc := 42) dX12_isRing_42 fl_X12_44 r_164_23 ?_
          refine tz_iload_n (pc := 45) dX12_isRing_45 rfl rfl ?_
          refine tz_aL (pc := 46) (z := k) (v := (J 175 k)) dX12_isRing_46 a_175 rfl (by omega) (Eq.trans (congrFun (f1 175 rfl) k) rfl) (fun r_46 => ?_)
          refine tz_iconst (pc := 47) dX12_isRing_47 ?_
          refine tz_icmp_ne (pc := 48) (tgt := 55) dX12_isRing_48 (by decide) (by omega) (by decide) (fun h_48 => ?_) (fun h_48 => ?_)
          · refine tz_iconst (pc := 55) dX12_isRing_55 ?_
            refine tz_iload_n (pc := 56) dX12_isRing_56 rfl rfl ?_
            refine tz_ishl (pc := 57) (v := zshl 1 k) dX12_isRing_57 rfl ?_
            have r_57 := zshl_rg 1 k
            refine tz_ior (pc := 58) (v := zor w (zshl 1 k)) dX12_isRing_58 rfl ?_
            refine tz_istore_n (pc := 59) (L2 := [_, _, _, _, _, _]) dX12_isRing_59 rfl (by decide) rfl ?_
            refine tz_iinc (pc := 60) (z := k + 1) (L2 := [_, _, _, _, _, _]) dX12_isRing_60 rfl (by omega) rfl ?_
            refine tz_goto (pc := 63) (tgt := 4) dX12_isRing_63 (by decide) ?_
            exact ih4 _ (k + 1) _ (by omega) (zor_rg _ _) (by omega) (zOf.up rfl f1) (nb_s h1 (fun q => absurd (show J 175 k = -1 by omega) q)) (wb_s h2 (fun _ => bt_shl (by omega)))
          · refine tz_iconst (pc := 51) dX12_isRing_51 ?_
            refine tz_goto (pc := 52) (tgt := 58) dX12_isRing_52 (by decide) ?_
            refine tz_ior (pc := 58) (v := zor w 0) dX12_isRing_58 rfl ?_
            refine tz_istore_n (pc := 59) (L2 := [_, _, _, _, _, _]) dX12_isRing_59 rfl (by decide) rfl ?_
            refine tz_iinc (pc := 60) (z := k + 1) (L2 := [_, _, _, _, _, _]) dX12_isRing_60 rfl (by omega) rfl ?_
            refine tz_goto (pc := 63) (tgt := 4) dX12_isRing_63 (by decide) ?_
            exact ih4 _ (k + 1) _ (by omega) (zor_rg _ _) (by omega) (zOf.up rfl f1) (nb_s h1 (fun q => absurd (show J 175 k = -1 by omega) q)) (wb_s h2 (fun q => absurd (show J 175 k = -1 by omega) q))
  exact loop4 _ 0 0 _ (Nat.lt_succ_self _) (by decide) (by omega) zOf.rf (fun v a c => by omega) (fun v a c => by omega)

