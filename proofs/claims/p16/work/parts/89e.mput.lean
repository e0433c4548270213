/-! ===== withPut ===== -/
theorem tz_aret {l : Launch} {G : tb_G} {y : tb_Mt} {R : Room} {xt : Option (Nat × (Nat → Int32))} {k1 k2 n pc mc ms m9 n0 r : Nat} {J : zJ} {L : List (Option Value)} {Q : Option Value → zJ → Prop} {X : tb_X} {rt : FieldType} (hd : decode y.2.1 pc = .ok (.areturn, 1)) (hr : y.2.2.2.1 = some rt) (hrt : (∃ n, rt = .object n) ∨ ∃ t, rt = .array t) (hc : k1 ≤ mc) (hs : k2 ≤ ms) (hn : n0 ≤ n ∧ n ≤ n0 + m9) (hq : Q (some (.ref r)) J) : tz_At l G y R xt (tb_ZM G mc ms (zQ n0 m9 Q) X) k1 k2 n J pc L [.ref r] := fun ok => tb_aret hd hr hrt hc hs ⟨J, rfl, rfl, ok, hn.1, hn.2, hq⟩
/-- a contract that says how many cells there are behind it -/
def tz_OkN (l : Launch) (G : tb_G) (y : tb_Mt) (d mc ms : Nat) (as : List Value) (n : Nat) (J : zJ) (n1 : Nat) (Q : Option Value → zJ → Prop) : Prop := zok n J → tb_Ok l G y d mc ms as n tb_shT (zI J) (zQ n1 0 Q) (zX n 0 zN)
theorem tz_OkN.of {l : Launch} {G : tb_G} {y : tb_Mt} {d mc ms : Nat} {as : List Value} {n n1 : Nat} {J : zJ} {Q : Option Value → zJ → Prop} (hl : l.stackTraces = false) (hy : plainName y.1.cls = true) (hh : y.2.2.2.2 = []) (hc : ∀ v ∈ as, v.category = 1) (hn : as.length ≤ y.2.2.1)
    (h : tz_At l G y (tb_rm d mc ms) none (tb_ZM G mc ms (zQ n1 0 Q) (zX n 0 zN)) 0 0 n J 0 (tb_L0 as y.2.2.1) []) : tz_OkN l G y d mc ms as n J n1 Q := fun ok => tb_Ok.of hl hy hh hc hn (h ok)
theorem tz_cVN {l : Launch} {G : tb_G} {y : tb_Mt} {R : Room} {xt : Option (Nat × (Nat → Int32))} {Z : tb_CT → State → Prop} {k1 k2 n pc n1 : Nat} {J : zJ} {L : List (Option Value)} {S : List Value} {idx nA d mc ms m1 m2 c9 ci : Nat} {y' : tb_Mt} {as St : List Value} {Q' : Option Value → zJ → Prop} (hM : tz_OkN l G y' d mc ms (.ref c9 :: as) n J n1 Q') (hv : tb_VL y.1.cls idx y' nA ci) (hd : decode y.2.1 pc = .ok (.invokevirtual idx, 3)) (hs : tb_cO tb_shT c9 ci = true) (hna : as.length = nA) (hst : St = as.reverse ++ .ref c9 :: S)
    (hcat : (S.map fun v => v.category).sum ≤ 8) (hR : d + 1 ≤ R.frames ∧ 8 + (y'.2.2.1 + 11) + 40 * d ≤ R.locals) (h1 : k1 + mc = m1) (h2 : k2 + ms = m2) (hce : m1 ≤ R.cells) (hsl : m2 ≤ R.slots)
    (kk : ∀ (r : Option Value) (J' : zJ), Q' r J' → tz_At l G y R xt Z m1 m2 n1 J' (pc + 3) L (r.toList ++ S)) : tz_At l G y R xt Z k1 k2 n J pc L St := fun ok => by
  simp only [tb_cO, Bool.and_eq_true, bne_iff_ne, ne_eq, beq_iff_eq] at hs
  refine tb_callV (hM ok) hv hd (tb_sh3 hs.2 rfl) hs.1 hna hst hcat hR h1 h2 hce hsl ?_ ?_
  · rintro r n' sh' I' ⟨J', rfl, rfl, ok', hn1, hn2, hq⟩
    have e : n' = n1 := by omega
    subst e
    exact kk r J' hq ok'
  · rintro E n' sh' I' ⟨J', rfl, rfl, ok', hn1, hn2, hx⟩
    exact hx.elim
theorem zro_of {J : zJ} {n : Nat} : zOf (zbut [n]) (zro J n) J := fun c hc => by
  funext k
  unfold zro
  rw [if_neg]
  intro e
  subst e
  simp [zbut] at hc
theorem zbut1 {n c : Nat} (h : c < n) : zbut [n] c = true := by
  simp [zbut]
  omega
def PAr (n : Nat) (J' J : zJ) (b d t : Int) : Prop := zOf (zbut [n]) J' J ∧ ∀ j, 0 ≤ j → j < mar J b d t → J' n j = J 167 (3 * (b + t) + j)
theorem mar_of {J' J : zJ} {b d t : Int} {n : Nat} (f : zOf (zbut [n]) J' J) (hn : 184 ≤ n) : mar J' b d t = mar J b d t := by
  unfold mar
  rw [f 166 (zbut1 (by omega)), f 170 (zbut1 (by omega))]
set_option maxHeartbeats 4000000 in
set_option maxRecDepth 100000 in
theorem m_parts {l : Launch} {G : tb_G} (hl : l.stackTraces = false) (n : Nat) (J : zJ) (t : Int) (hr_t : -2147483648 ≤ t ∧ t < 2147483648) (b r d s m : Int) (hM : MS J b r d s m) (ht : 0 ≤ t ∧ t < m) (hn0 : 184 ≤ n) (hns : n < tb_sc) : tz_OkN l G M_X12_parts 3 1 3 [.ref 164, zi t] n J (n + 1) (fun r J' => r = some (.ref n) ∧ PAr n J' J b d t) := by
  refine tz_OkN.of hl (by decide +kernel) rfl (tb_c1 rfl) (Nat.le_of_ble_eq_true rfl) ?_
  show tz_At l G M_X12_parts (tb_rm 3 1 3) none (tb_ZM G 1 3 (zQ (n + 1) 0 (fun r J' => r = some (.ref n) ∧ PAr n J' J b d t)) (zX n 0 zN)) 0 0 n J 0 [some (.ref 164), some (zi t), none, none] []
  have hT := hM.told
  have ha := hM.ar ht
  have hc9 : ¬ n = 164 ∧ ¬ n = 165 ∧ ¬ n = 166 ∧ ¬ n = 167 ∧ ¬ n = 168 ∧ ¬ n = 170 := by omega
  refine tz_iconst (pc := 0) dX12_parts_0 ?_
  refine tz_newa3 (pc := 1) dX12_parts_1 hns rfl rfl (Nat.le_of_ble_eq_true rfl) (Nat.le_of_ble_eq_true rfl) ?_
  refine tz_astore_n (pc := 3) (L2 := [_, _, _, _]) dX12_parts_3 rfl (by decide) rfl ?_
  refine tz_iconst (pc := 4) dX12_parts_4 ?_
  refine tz_istore_n (pc := 5) (L2 := [_, _, _, _]) dX12_parts_5 rfl (by decide) rfl ?_
  have loop6 : ∀ (f9 : Nat) (i : Int) (J1 : zJ), ((3 - i).toNat) < f9 → (0 ≤ i ∧ i ≤ mar J b d t) → (zOf (zbut [n]) J1 J) → (∀ q, 0 ≤ q → q < i → J1 n q = J 167 (3 * (b + t) + q)) → tz_At l G M_X12_parts (tb_rm 3 1 3) none (tb_ZM G 1 3 (zQ (n + 1) 0 (fun r J' => r = some (.ref n) ∧ PAr n J' J b d t)) (zX n 0 zN)) (0 + 1) (0 + 3) (n + 1) J1 6 [some (.ref 164), some (zi t), some (.ref n), some (zi i)] [] := by
    intro f9
    induction f9 with
    | zero => intro i J1 hm9; exact absurd hm9 (Nat.not_lt_zero _)
    | succ f9 ih6 =>
      intro i J1 hm6 hi f1 e1
      refine tz_iload_n (pc := 6) dX12_parts_6 rfl rfl ?_
      refine tz_aload_n (pc := 7) dX12_parts_7 rfl rfl ?_
      refine tz_iload_n (pc := 8) dX12_parts_8 rfl rfl ?_
      refine tz_cV (pc := 9) (m_arity hl (n + 1) _ _ (by omega) b r d s m (hM.c1 f1 hc9) ht) vl_X12_111 dX12_parts_9 o_164 rfl rfl (Nat.le_of_ble_eq_true rfl) ⟨(Nat.le_of_ble_eq_true rfl), (Nat.le_of_ble_eq_true rfl)⟩ rfl rfl (show 0 + 1 ≤ 1 by omega) (show 0 + 3 ≤ 3 by omega) (fun r9 J_9 hq9 => ?_)
      obtain ⟨z_9, rfl, hz_9, rfl, hv_9⟩ := hq9
      rw [mar_of f1 hn0] at hv_9
      obtain rfl : mar J b d t = z_9 := hv_9
      refine tz_icmp_ge (pc := 12) (tgt := 30) dX12_parts_12 (by decide) (by omega) (by omega) (fun h_12 => ?_) (fun h_12 => ?_)
      · refine tz_aload_n (pc := 30) dX12_parts_30 rfl rfl ?_
        exact tz_aret (pc := 31) dX12_parts_31 rfl (Or.inr ⟨_, rfl⟩) (Nat.le_of_ble_eq_true rfl) (Nat.le_of_ble_eq_true rfl) ⟨by omega, by omega⟩ ⟨rfl, ⟨f1, fun j x y => e1 j x (by omega)⟩⟩
      · refine tz_aload_n (pc := 15) dX12_parts_15 rfl rfl ?_
        refine tz_iload_n (pc := 16) dX12_parts_16 rfl rfl ?_
        refine tz_aload_n (pc := 17) dX12_parts_17 rfl rfl ?_
        refine tz_iload_n (pc := 18) dX12_parts_18 rfl rfl ?_
        refine tz_iload_n (pc := 19) dX12_parts_19 rfl rfl ?_
        refine tz_cV (pc := 20) (m_arg hl (n + 1) _ _ _ (by omega) (by omega) b r d s m (hM.c1 f1 hc9) ht (by omega)) vl_X12_88 dX12_parts_20 o_164 rfl rfl (Nat.le_of_ble_eq_true rfl) ⟨(Nat.le_of_ble_eq_true rfl), (Nat.le_of_ble_eq_true rfl)⟩ rfl rfl (show 0 + 1 ≤ 1 by omega) (show 0 + 3 ≤ 3 by omega) (fun r9 J_20 hq9 => ?_)
        obtain ⟨z_20, rfl, hz_20, rfl, hv_20⟩ := hq9
        rw [f1 167 (zbut1 (by omega))] at hv_20
        obtain rfl : J 167 (3 * (b + t) + i) = z_20 := hv_20
        refine tz_aS (pc := 23) (z := i) dX12_parts_23 (cA_new hn0 hns) rfl (by omega) (by omega) ?_
        refine tz_iinc (pc := 24) (z := i + 1) (L2 := [_, _, _, _]) dX12_parts_24 rfl (by omega) rfl ?_
        refine tz_goto (pc := 27) (tgt := 6) dX12_parts_27 (by decide) ?_
        exact ih6 (i + 1) _ (by omega) (by omega) (zOf.up (by simp [zbut]) f1) (fun q x y => (Decidable.em (q = i)).elim (fun e => by rw [e, zup_at]) (fun e => by rw [zup_ne e]; exact e1 q x (by omega)))
  exact loop6 _ 0 _ (Nat.lt_succ_self _) (by omega) zro_of (fun q x y => by omega)
theorem zbr {n k c : Nat} (h : c < n) (h0 : ¬ c = 164 ∧ ¬ c = 165 ∧ ¬ c = 166 ∧ ¬ c = 167 ∧ ¬ c = 168) : zbut (164 :: 165 :: 166 :: 167 :: 168 :: List.range' n k) c = true := by
  simp only [zbut, Bool.not_eq_true', List.contains_eq_mem, decide_eq_false_iff_not, List.mem_cons, List.mem_range'_1]
  omega
theorem cr9 {n k c : Nat} (h : c < n) : (List.range' n k).contains c = false := by
  simp only [List.contains_eq_mem, decide_eq_false_iff_not, List.mem_range'_1]
  omega
/-- along withPut: the table has grown, the row n holds terms -/
def WP (n k : Nat) (J1 J : zJ) (b r d s m m1 t : Int) : Prop := MG (List.range' n k) [] (fun _ => false) J1 J b r d s m m1 ∧ (J1 164 21 = 0 → ∀ j, 0 ≤ j → j < mar J b d t → 0 ≤ J1 n j ∧ J1 n j < m1)
theorem MG.nw {n k : Nat} {J3 J2 J : zJ} {b r d s m m1 : Int} (g : MG (List.range' n (k + 1)) [] (fun _ => false) J2 J b r d s m m1) (f : zOf (zbut [n]) J3 J2) (hn : 184 ≤ n) : MG (List.range' n (k + 1)) [] (fun _ => false) J3 J b r d s m m1 := g.off (fun q _ => by rw [f 164 (zbut1 (by omega))]) (fun q _ => by rw [f 165 (zbut1 (by omega))]) (f.mono (zbut_sub (fun c hc => by simp only [List.mem_singleton] at hc; subst hc; simp [List.mem_range'_1]))) ⟨rfl, rfl, rfl, rfl⟩ rfl ⟨cr9 (by omega), cr9 (by omega), cr9 (by omega), cr9 (by omega)⟩
theorem WP.in {n k : Nat} {J1 J : zJ} {b r d s m t : Int} (hM : MS J b r d s m) (ht : 0 ≤ t ∧ t < m) (h : PAr n J1 J b d t) (hn : 184 ≤ n) : WP n (k + 1) J1 J b r d s m m t := ⟨(MG.rf hM).nw h.1 hn, fun _ j x y => by
  rw [h.2 j x y]
  have := hM.arg ht ⟨x, y⟩
  omega⟩
theorem WP.st {n k : Nat} {J2 J1 J : zJ} {b r d s m m1 m2 t i z : Int} (h : WP n (k + 1) J1 J b r d s m m1 t) (g : MG (List.range' (n + 1) k) [] (fun _ => false) J2 J1 b r d s m1 m2) (hz : J2 164 21 = 0 → 0 ≤ z ∧ z < m2) (hn : 184 ≤ n) : WP n (k + 1) (zup J2 n i z) J b r d s m m2 t := by
  have g2 : MG (List.range' n (k + 1)) [] (fun _ => false) J2 J b r d s m m2 := h.1.tr (g.mono (fun c hc => by simp only [List.mem_range'_1] at hc ⊢; omega) (fun _ q => q) (fun _ q => q))
  have en : J2 n = J1 n := g.2.2.1.2.2.2 n (by
    simp only [zbut, Bool.not_eq_true', List.contains_eq_mem, decide_eq_false_iff_not, List.mem_cons, List.mem_range'_1]
    omega)
  refine ⟨g2.nw (zOf.up (by simp [zbut]) zOf.rf) hn, fun q j x y => ?_⟩
  have q2 : J2 164 21 = 0 := by
    rw [show zup J2 n i z 164 21 = J2 164 21 from congrFun ((zOf.up (f := zbut [n]) (by simp [zbut]) zOf.rf : zOf (zbut [n]) (zup J2 n i z) J2) 164 (zbut1 (by omega))) 21] at q
    exact q
  by_cases e : j = i
  · rw [e, zup_at]; exact hz q2
  · rw [zup_ne e, en]
    have := h.2 (g.2.2.2 q2) j x y
    have := g.1.2
    omega
theorem WP.ar {n k : Nat} {J1 J : zJ} {b r d s m m1 t : Int} (h : WP n k J1 J b r d s m m1 t) (hn : 184 ≤ n) (ht : 0 ≤ t ∧ t < m) : mar J1 b d t = mar J b d t := h.1.ar ht (h.1.2.2.1.2.2.2 170 (zbr (by omega) (by decide)))
