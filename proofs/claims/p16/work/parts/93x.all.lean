/-! ===== all clauses: the reference follows the reading ===== -/
theorem SI.cif {p : Prop} {a b : zJ} (ha : SI a) (hb : SI b) : SI (cif p a b) := by
  by_cases h : p
  · rw [cif_pos h]; exact ha
  · rw [cif_neg h]; exact hb
theorem SI.c5 {g' g : zJ} (h : SI g) (e : g' 0 = g 0) : SI g' := by
  unfold SI
  rw [e]
  exact h
theorem SI.nm {g : zJ} (h : SI g) : SI (pNm g).1 := by
  unfold pNm
  (repeat' split) <;> first | exact h.f | exact h.n
theorem SI.sy {g : zJ} (h : SI g) : SI (pSy g) := by
  have h3 : SI (pS3 g).1 := (SI.u (SI.u (SI.nm h.n)))
  unfold pSy
  (repeat' split)
  · exact h3.c5 rfl
  · exact h3
  · exact h.f
theorem SI.r1 {g : zJ} (h : SI g) : SI (pR1 g).1 := SI.t 8 _ 1 h.n
theorem SI.to {g : zJ} (h : SI g) : SI (pTo g) := by
  unfold pTo
  split
  · exact SI.cif h.n h.f
  · exact h
theorem SI.ru {g : zJ} (h : SI g) : SI (pRu g) := by
  have h3 : SI (pR2 g).1 := SI.t 8 _ 1 h.r1.to
  unfold pRu
  (repeat' split)
  · exact SI.cif (h3.c5 rfl) h3.f
  · exact h3.f
  · exact h3
  · exact h.f
theorem SI.en {g : zJ} (h : SI g) : SI (pEn g) := by
  have h3 := h.r1
  unfold pEn
  (repeat' split)
  · exact h3.f
  · exact h3.c5 rfl
  · exact h3.f
  · exact h3
  · exact h.f
theorem SI.ro {g : zJ} (h : SI g) : SI (pRo g) := by
  have h3 : SI (pO1 g).1 := SI.u h.n
  unfold pRo
  (repeat' split)
  · exact h3.c5 rfl
  · exact h3
  · exact h.f
theorem SI.cl {g : zJ} (h : SI g) : SI (pCl g) := SI.cif h.sy (SI.cif h.r1 (SI.cif h.ru (SI.cif h.en (SI.cif h.ro h.f))))
noncomputable def pClx (g : zJ) : zJ := if g 0 4 = 0 then pCl g else g
theorem SI.clx {g : zJ} (h : SI g) : SI (pClx g) := by unfold pClx; split; exact h.cl; exact h
/-- the reading has no room, or the reference is where it is -/
def WX (J g : zJ) : Prop := g 0 4 = 99 ∨ (RelM J g ∧ WOK J)
theorem z_clause1 {l : Launch} {G : tb_G} (hl : l.stackTraces = false) (n : Nat) (J : zJ) (s m : Int) (g : zJ) (hI : TI J s m) (hX : WX J g) (hb : J 164 43 = 0) (hS : SI g) : tz_Ok l G M_X12_clause1 22 0 0 [.ref 164] n J (zqv (fun J' => CL J' J ∧ WX J' (pClx g))) zN := by
  rcases hX with q | ⟨hR, hW⟩
  · exact (m_clause1 hl n J s m hI).mono (fun r J' _ ⟨a, b⟩ => ⟨a, b, by unfold pClx; rw [if_neg (by omega)]; exact Or.inl q⟩) (fun _ _ _ h => h)
  · have h9 : g 0 4 = 0 := by rw [← hR.1]; exact hb
    have e44 := hI.2.1
    exact (y_clause1 hl n J s m g hI (fun k a b => hW k a (by omega)) hR h9 hS).mono (fun r J' _ ⟨a, b, c, d⟩ => ⟨a, b, by unfold pClx; rw [if_pos h9]; exact d.imp id (fun q => ⟨q, c⟩)⟩) (fun _ _ _ h => h)
theorem pAl_s {k : Nat} {g : zJ} : pAl (k + 1) g = if g 0 4 = 0 ∧ ¬ g 0 3 = 0 then pAl k (pP (pCl g) 59) else g := rfl
theorem pAl_e {k : Nat} {g : zJ} (h : ¬ g 0 4 = 0 ∨ g 0 3 = 0) : pAl k g = g := by
  cases k with
  | zero => rfl
  | succ k => rw [pAl_s, if_neg (by omega)]
/-- the reading that started at g0 goes on from where the reference is -/
def RI (J g0 : zJ) : Prop := ∃ g, ∃ k : Nat, SI g ∧ WX J g ∧ pAl 703 g0 = pAl k g ∧ (J 164 43 = 0 → rmu J < k)
theorem RI.st {J' Jc J g0 g : zJ} {k : Nat} (hS : SI g) (hW : WX J g) (ha : pAl 703 g0 = pAl k g) (hf : J 164 43 = 0 → rmu J < k) (hb : J 164 43 = 0) (h38 : ¬ J 164 38 = 0) (hz : RSz J) (c : WX Jc (pClx g)) (w : RelX J' (pP (pClx g) 59)) (r : RGw J' Jc) (mu : J' 164 43 = 0 → rmu J' < rmu Jc) (c3 : rmu Jc ≤ rmu J) : RI J' g0 := by
  have e2 := rmu_nn hz
  have hf := hf hb
  obtain ⟨k, rfl⟩ : ∃ k9, k = k9 + 1 := ⟨k - 1, by omega⟩
  refine ⟨pP (pClx g) 59, k, hS.clx.p, ?_, ?_, fun q => by have := mu q; omega⟩
  · rcases w with q | q
    · exact Or.inl q
    · rcases c with p | p
      · refine Or.inl ?_
        rw [pP_f (by omega)]
        exact p
      · exact Or.inr ⟨q, p.2.of ⟨r.1.1 171 rfl, r.1.2 44 rfl (by decide) (by decide)⟩⟩
  · rw [ha]
    rcases hW with q | ⟨q, _⟩
    · have e : pClx g = g := by unfold pClx; rw [if_neg (by omega)]
      rw [e, pP_f (by omega), pAl_e (Or.inl (by omega)), pAl_e (Or.inl (by omega))]
    · have h9 : g 0 4 = 0 := by rw [← q.1]; exact hb
      have h3 : ¬ g 0 3 = 0 := fun e => h38 ((q.2.2 h9).1.so.2.2.1.2 e)
      rw [pAl_s, if_pos ⟨h9, h3⟩]
      unfold pClx
      rw [if_pos h9]
/-- what the reference tells when it has read -/
def QR (J r : zJ) : Prop := r 0 4 = 99 ∨ (J 164 43 = r 0 4 ∧ (¬ r 0 4 = 0 → J 164 20 = r 0 5) ∧ (r 0 4 = 0 → EM J r ∧ WOK J))
theorem RI.qr {J2 g0 : zJ} (h : RI J2 g0) (he : ¬ J2 164 43 = 0 ∨ J2 164 38 = 0) : QR (zup (zup (zup J2 164 17 0) 164 16 0) 164 15 0) (pAl 703 g0) := by
  obtain ⟨g, k, hS, hW, ha, hf⟩ := h
  rw [ha]
  rcases hW with q | ⟨q, w⟩
  · rw [pAl_e (Or.inl (by omega))]
    exact Or.inl q
  · have e : pAl k g = g := by
      refine pAl_e ?_
      by_cases h9 : g 0 4 = 0
      · refine Or.inr ((q.2.2 h9).1.so.2.2.1.1 (he.resolve_left (fun p => p ?_)))
        rw [q.1]; exact h9
      · exact Or.inl h9
    rw [e]
    exact Or.inr ⟨q.1, q.2.1, fun h9 => ⟨(q.2.2 h9).2, w⟩⟩
/-- where a reading of the first x bytes starts -/
def pG (J : zJ) (x : Int) : zJ := fun c => if c = 0 then (fun k => if k = 0 then x else 0) else if c = 1 then J 173 else if c = 164 then (fun _ => 0) else if c = 165 then (fun k => if k = 165 then 4 else 0) else if 166 ≤ c ∧ c ≤ 182 then J c else (fun _ => 0)
theorem pG_s {J : zJ} {x : Int} (hx : 0 ≤ x ∧ x ≤ 700) : SI (pG J x) := ⟨hx, ⟨Int.le_refl 0, Int.le_refl 0, hx.1⟩, Or.inl rfl⟩
theorem RA.em {J1 J : zJ} {x : Int} (h : RA J1 J x 63) (h45 : J1 164 45 = 0 ∧ J1 164 20 = -1) : EM (zup (zup (zup (zup J1 165 165 4) 164 15 800) 164 16 126) 164 17 10) (pG J x) := by
  have e4 : ∀ k, ¬ k = 15 → ¬ k = 16 → ¬ k = 17 → (zup (zup (zup (zup J1 165 165 4) 164 15 800) 164 16 126) 164 17 10) 164 k = J1 164 k := fun k a b c => by
    have e : (zup (zup (zup (zup J1 165 165 4) 164 15 800) 164 16 126) 164 17 10) 164 k = if k = 17 then 10 else if k = 16 then 126 else if k = 15 then 800 else J1 164 k := rfl
    rw [e, if_neg c, if_neg b, if_neg a]
  have e5 : ∀ k, (zup (zup (zup (zup J1 165 165 4) 164 15 800) 164 16 126) 164 17 10) 165 k = if k = 165 then 4 else J1 165 k := fun _ => rfl
  have f : zOf (zbut [164, 165]) (zup (zup (zup (zup J1 165 165 4) 164 15 800) 164 16 126) 164 17 10) J1 := zOf.up rfl (zOf.up rfl (zOf.up rfl (zOf.up rfl zOf.rf)))
  generalize (zup (zup (zup (zup J1 165 165 4) 164 15 800) 164 16 126) 164 17 10) = J2 at *
  have f2 := f.tr h.1
  obtain ⟨a1, a2, a3, a4, a5⟩ := h.2.2.1
  refine ⟨by rw [e4 37 (by decide) (by decide) (by decide)]; exact a1, f2 173 rfl, ⟨?_, ?_, ?_⟩, fun k a b => ?_, fun k _ _ => ⟨by rw [f2 166 rfl]; rfl, by rw [f2 168 rfl]; rfl⟩, fun k _ _ => by rw [f2 167 rfl]; rfl, fun k _ _ => ⟨by rw [f2 169 rfl]; rfl, by rw [f2 170 rfl]; rfl, by rw [f2 171 rfl]; rfl⟩⟩
  · rw [e4 44 (by decide) (by decide) (by decide)]; exact a4
  · rw [e4 45 (by decide) (by decide) (by decide)]; exact h45.1
  · rw [e4 21 (by decide) (by decide) (by decide), e4 20 (by decide) (by decide) (by decide)]; exact ⟨a5, h45.2⟩
  · show J2 165 k = if k = 165 then 4 else 0
    rw [e5]
    split
    · rfl
    · have := h.2.2.2.2 (k - 126) (by omega) (by omega)
      rw [show 126 + (k - 126) = k from by omega] at this
      exact this
theorem y_go0 {l : Launch} {G : tb_G} (hl : l.stackTraces = false) (n : Nat) (J : zJ) (g : zJ) (hE : EM J g) (h43 : J 164 43 = 0) (h35 : J 164 35 = g 0 2) (h0 : g 0 4 = 0) (hS : SI g) : tz_Ok l G M_X12_go 2 0 0 [.ref 164] n J (zqv (fun J' => RelM J' (pN g) ∧ RGw J' J)) zN := by
  have hP : RSz J := by
    unfold RSz
    rw [hE.1, h35]
    have := hS.2.1
    have := hS.1
    omega
  refine (x_go hl n J hP).mono (fun r J' _ ⟨h1, h2, h3⟩ => ⟨h1, ?_⟩) (fun _ _ _ h => h)
  have t := h3
  rw [hE.2.1, hE.1, h35] at t
  have hr : RelM J' (pN g) := by
    refine ⟨by rw [h2.2 43 rfl, h43]; exact h0.symm, fun q => absurd h0 q, fun _ => ⟨?_, hE.tok h2⟩⟩
    rw [pN_c (c := 1) (by decide)]
    exact t
  have hT' := hr.2.2 h0
  have hP' : RSP J' := hT'.1.rs (f := J') hS.n hT'.2.1
  have e37 : J' 164 37 = J 164 37 := h2.2 37 rfl
  have e35 : J' 164 35 = tkE (J 173) (J 164 37) (J 164 35) := h3.2.1
  have e38 := h3.2.2
  have rg := tk_rg (f := J 173) (N := J 164 37) (a := J 164 35) ⟨hP.2.1, hP.2.2⟩
  have hm : rmu J' ≤ J 164 37 - J 164 35 := by
    unfold rmu
    rw [e37, e35]
    split
    · omega
    · next q => rcases e38 with w | w | w | w | w <;> omega
  exact ⟨hr, ⟨⟨h2.1, fun k a _ _ => h2.2 k a⟩, hP', fun q => (h2.2 43 rfl).symm.trans q, Int.le_trans hm rmu_ge⟩⟩
theorem RA.c4 {J1 J : zJ} {x : Int} (h : RA J1 J x 63) : (zup (zup (zup (zup J1 165 165 4) 164 15 800) 164 16 126) 164 17 10) 164 43 = 0 ∧ (zup (zup (zup (zup J1 165 165 4) 164 15 800) 164 16 126) 164 17 10) 164 35 = pG J x 0 2 := ⟨h.2.2.1.2.2.1, h.2.2.1.2.1⟩
theorem RI.in {J2 g : zJ} (hI : TI J2 0 0) (hS : SI g) (hR : RelM J2 g) : RI J2 g := by
  refine ⟨g, 703, hS, Or.inr ⟨hR, fun k a b => ?_⟩, rfl, fun _ => ?_⟩
  · have := hI.2.1
    omega
  · have h1 : RSz J2 := hI.2.2.1.1
    unfold RSz at h1
    unfold rmu
    split <;> omega
set_option maxHeartbeats 4000000 in
set_option maxRecDepth 100000 in
theorem y_readsAll {l : Launch} {G : tb_G} (hl : l.stackTraces = false) (n : Nat) (J : zJ) (x : Int) (hr_x : -2147483648 ≤ x ∧ x < 2147483648)  (hx : 0 ≤ x ∧ x ≤ 700) (h0 : J 164 15 = 0 ∧ J 164 16 = 0 ∧ J 164 17 = 0) : tz_Ok l G M_X12_readsAll 23 0 0 [.ref 164, zi x] n J (zqv (fun J' => (RDf J' J ∧ ∃ s m, TB J' s m) ∧ QR J' (pAl 703 (pN (pG J x))))) zN := by
  refine tz_Ok.of hl (by decide +kernel) rfl (tb_c1 rfl) (Nat.le_of_ble_eq_true rfl) ?_
  show tz_At l G M_X12_readsAll (tb_rm 23 0 0) none (tb_ZM G 0 0 (zQ n 0 (zqv (fun J' => (RDf J' J ∧ ∃ s m, TB J' s m) ∧ QR J' (pAl 703 (pN (pG J x)))))) (zX n 0 zN)) 0 0 n J 0 [some (.ref 164), some (zi x), none] []
  refine tz_aload_n (pc := 0) dX12_readsAll_0 rfl rfl ?_
  refine tz_iload_n (pc := 1) dX12_readsAll_1 rfl rfl ?_
  refine tz_pI (pc := 2) (kz := 37) dX12_readsAll_2 fl_X12_233 i_164_37 rfl rfl (by omega) ?_
  refine tz_aload_n (pc := 5) dX12_readsAll_5 rfl rfl ?_
  refine tz_iconst (pc := 6) dX12_readsAll_6 ?_
  refine tz_pI (pc := 7) (kz := 35) dX12_readsAll_7 fl_X12_243 i_164_35 rfl rfl (by decide) ?_
  refine tz_aload_n (pc := 10) dX12_readsAll_10 rfl rfl ?_
  refine tz_iconst (pc := 11) dX12_readsAll_11 ?_
  refine tz_pI (pc := 12) (kz := 43) dX12_readsAll_12 fl_X12_273 i_164_43 rfl rfl (by decide) ?_
  refine tz_aload_n (pc := 15) dX12_readsAll_15 rfl rfl ?_
  refine tz_iconst (pc := 16) dX12_readsAll_16 ?_
  refine tz_pI (pc := 17) (kz := 20) dX12_readsAll_17 fl_X12_37 i_164_20 rfl rfl (by decide) ?_
  refine tz_aload_n (pc := 20) dX12_readsAll_20 rfl rfl ?_
  refine tz_aload_n (pc := 21) dX12_readsAll_21 rfl rfl ?_
  refine tz_iconst (pc := 22) dX12_readsAll_22 ?_
  refine tz_dup_x1 (pc := 23) dX12_readsAll_23 rfl rfl ?_
  refine tz_pI (pc := 24) (kz := 45) dX12_readsAll_24 fl_X12_313 i_164_45 rfl rfl (by decide) ?_
  refine tz_pI (pc := 27) (kz := 44) dX12_readsAll_27 fl_X12_287 i_164_44 rfl rfl (by decide) ?_
  refine tz_aload_n (pc := 30) dX12_readsAll_30 rfl rfl ?_
  refine tz_iconst (pc := 31) dX12_readsAll_31 ?_
  refine tz_pZ (pc := 32) (kz := 21) dX12_readsAll_32 fl_X12_92 i_164_21 rfl rfl (Or.inl rfl) ?_
  refine tz_iconst (pc := 35) dX12_readsAll_35 ?_
  refine tz_istore_n (pc := 36) (L2 := [_, _, _]) dX12_readsAll_36 rfl (by decide) rfl ?_
  have loop37 : ∀ (f9 : Nat) (k : Int) (J1 : zJ), ((63 - k).toNat) < f9 → (0 ≤ k ∧ k ≤ 63) → (RA J1 J x k) → (J1 164 45 = 0 ∧ J1 164 20 = -1) → tz_At l G M_X12_readsAll (tb_rm 23 0 0) none (tb_ZM G 0 0 (zQ n 0 (zqv (fun J' => (RDf J' J ∧ ∃ s m, TB J' s m) ∧ QR J' (pAl 703 (pN (pG J x)))))) (zX n 0 zN)) 0 0 n J1 37 [some (.ref 164), some (zi x), some (zi k)] [] := by
    intro f9
    induction f9 with
    | zero => intro k J1 hm9; exact absurd hm9 (Nat.not_lt_zero _)
    | succ f9 ih37 =>
      intro k J1 hm37 hk f1 f45
      refine tz_iload_n (pc := 37) dX12_readsAll_37 rfl rfl ?_
      refine tz_bipush (pc := 38) dX12_readsAll_38 (by decide) ?_
      refine tz_icmp_ge (pc := 40) (tgt := 59) dX12_readsAll_40 (by decide) (by omega) (by decide) (fun h_40 => ?_) (fun h_40 => ?_)
      · have k63 : k = 63 := by omega
        have fa := f1
        rw [k63] at fa
        refine tz_aload_n (pc := 59) dX12_readsAll_59 rfl rfl ?_
        refine tz_fR (pc := 60) dX12_readsAll_60 fl_X12_9 r_164_0 ?_
        refine tz_sipush (pc := 63) dX12_readsAll_63 (by decide) ?_
        refine tz_iconst (pc := 66) dX12_readsAll_66 ?_
        refine tz_aS (pc := 67) (z := 165) dX12_readsAll_67 a_165 rfl (by decide) (by decide) ?_
        refine tz_aload_n (pc := 68) dX12_readsAll_68 rfl rfl ?_
        refine tz_sipush (pc := 69) dX12_readsAll_69 (by decide) ?_
        refine tz_pI (pc := 72) (kz := 15) dX12_readsAll_72 fl_X12_71 i_164_15 rfl rfl (by decide) ?_
        refine tz_aload_n (pc := 75) dX12_readsAll_75 rfl rfl ?_
        refine tz_bipush (pc := 76) dX12_readsAll_76 (by decide) ?_
        refine tz_pI (pc := 78) (kz := 16) dX12_readsAll_78 fl_X12_85 i_164_16 rfl rfl (by decide) ?_
        refine tz_aload_n (pc := 81) dX12_readsAll_81 rfl rfl ?_
        refine tz_bipush (pc := 82) dX12_readsAll_82 (by decide) ?_
        refine tz_pI (pc := 84) (kz := 17) dX12_readsAll_84 fl_X12_82 i_164_17 rfl rfl (by decide) ?_
        refine tz_aload_n (pc := 87) dX12_readsAll_87 rfl rfl ?_
        refine tz_cV (pc := 88) (y_go0 hl n _ (pG J x) (fa.em f45) fa.c4.1 fa.c4.2 rfl (pG_s hx)) vl_X12_280 dX12_readsAll_88 o_164 rfl rfl (Nat.le_of_ble_eq_true rfl) ⟨(Nat.le_of_ble_eq_true rfl), (Nat.le_of_ble_eq_true rfl)⟩ rfl rfl (Nat.le_of_ble_eq_true rfl) (Nat.le_of_ble_eq_true rfl) (fun r9 J_88 hq9 => ?_)
        obtain ⟨rfl, g1, g2⟩ := hq9
        have g9 := fa.go g2
        have g8 := RI.in g9.2 (pG_s hx).n g1
        have loop91 : ∀ (f9 : Nat) (J2 : zJ), ((if J2 164 43 = 0 then (rmu J2 + 1).toNat else 0)) < f9 → (RX J2 J) → (∃ s m, TI J2 s m) → (RI J2 (pN (pG J x))) → tz_At l G M_X12_readsAll (tb_rm 23 0 0) none (tb_ZM G 0 0 (zQ n 0 (zqv (fun J' => (RDf J' J ∧ ∃ s m, TB J' s m) ∧ QR J' (pAl 703 (pN (pG J x)))))) (zX n 0 zN)) 0 0 n J2 91 [some (.ref 164), some (zi x), some (zi k)] [] := by
          intro f9
          induction f9 with
          | zero => intro J2 hm9; exact absurd hm9 (Nat.not_lt_zero _)
          | succ f9 ih91 =>
            intro J2 hm91 fx hi hr
            obtain ⟨s, m, ti⟩ := id hi
            obtain ⟨g, kf, hS, hW, ha, hf⟩ := id hr
            refine tz_aload_n (pc := 91) dX12_readsAll_91 rfl rfl ?_
            refine tz_fI (pc := 92) (kz := 43) (v := (J2 164 43)) dX12_readsAll_92 fl_X12_273 i_164_43 rfl rfl (fun r_92 => ?_)
            refine tz_if_ne (pc := 95) (tgt := 118) dX12_readsAll_95 (by decide) (by omega) (fun h_95 => ?_) (fun h_95 => ?_)
            · refine tz_aload_n (pc := 118) dX12_readsAll_118 rfl rfl ?_
              refine tz_aload_n (pc := 119) dX12_readsAll_119 rfl rfl ?_
              refine tz_aload_n (pc := 120) dX12_readsAll_120 rfl rfl ?_
              refine tz_iconst (pc := 121) dX12_readsAll_121 ?_
              refine tz_dup_x1 (pc := 122) dX12_readsAll_122 rfl rfl ?_
              refine tz_pI (pc := 123) (kz := 17) dX12_readsAll_123 fl_X12_82 i_164_17 rfl rfl (by decide) ?_
              refine tz_dup_x1 (pc := 126) dX12_readsAll_126 rfl rfl ?_
              refine tz_pI (pc := 127) (kz := 16) dX12_readsAll_127 fl_X12_85 i_164_16 rfl rfl (by decide) ?_
              refine tz_pI (pc := 130) (kz := 15) dX12_readsAll_130 fl_X12_71 i_164_15 rfl rfl (by decide) ?_
              exact tz_vret (pc := 133) dX12_readsAll_133 rfl (Nat.le_of_ble_eq_true rfl) (Nat.le_of_ble_eq_true rfl) ⟨Nat.le_refl _, Nat.le_add_right _ _⟩ ⟨rfl, ⟨RX.fin fx hi h0, hr.qr (by omega)⟩⟩
            · have h_95b : J2 164 43 = 0 := by omega
              refine tz_aload_n (pc := 98) dX12_readsAll_98 rfl rfl ?_
              refine tz_fI (pc := 99) (kz := 38) (v := (J2 164 38)) dX12_readsAll_99 fl_X12_261 i_164_38 rfl rfl (fun r_99 => ?_)
              refine tz_if_eq (pc := 102) (tgt := 118) dX12_readsAll_102 (by decide) (by omega) (fun h_102 => ?_) (fun h_102 => ?_)
              · refine tz_aload_n (pc := 118) dX12_readsAll_118 rfl rfl ?_
                refine tz_aload_n (pc := 119) dX12_readsAll_119 rfl rfl ?_
                refine tz_aload_n (pc := 120) dX12_readsAll_120 rfl rfl ?_
                refine tz_iconst (pc := 121) dX12_readsAll_121 ?_
                refine tz_dup_x1 (pc := 122) dX12_readsAll_122 rfl rfl ?_
                refine tz_pI (pc := 123) (kz := 17) dX12_readsAll_123 fl_X12_82 i_164_17 rfl rfl (by decide) ?_
                refine tz_dup_x1 (pc := 126) dX12_readsAll_126 rfl rfl ?_
                refine tz_pI (pc := 127) (kz := 16) dX12_readsAll_127 fl_X12_85 i_164_16 rfl rfl (by decide) ?_
                refine tz_pI (pc := 130) (kz := 15) dX12_readsAll_130 fl_X12_71 i_164_15 rfl rfl (by decide) ?_
                exact tz_vret (pc := 133) dX12_readsAll_133 rfl (Nat.le_of_ble_eq_true rfl) (Nat.le_of_ble_eq_true rfl) ⟨Nat.le_refl _, Nat.le_add_right _ _⟩ ⟨rfl, ⟨RX.fin fx hi h0, hr.qr (by omega)⟩⟩
              · refine tz_aload_n (pc := 105) dX12_readsAll_105 rfl rfl ?_
                refine tz_cV (pc := 106) (z_clause1 hl n _ s m g ti hW h_95b hS) vl_X12_331 dX12_readsAll_106 o_164 rfl rfl (Nat.le_of_ble_eq_true rfl) ⟨(Nat.le_of_ble_eq_true rfl), (Nat.le_of_ble_eq_true rfl)⟩ rfl rfl (Nat.le_of_ble_eq_true rfl) (Nat.le_of_ble_eq_true rfl) (fun r9 J_106 hq9 => ?_)
                obtain ⟨rfl, c9, x9⟩ := hq9
                obtain ⟨s2, m2, t2⟩ := c9.2.1
                refine tz_aload_n (pc := 109) dX12_readsAll_109 rfl rfl ?_
                refine tz_bipush (pc := 110) dX12_readsAll_110 (by decide) ?_
                refine tz_cV (pc := 112) (z_sign hl n _ _ (by decide) (pClx g) (x9.imp id (fun q => q.1)) hS.clx t2.2.2.1 (by decide)) vl_X12_296 dX12_readsAll_112 o_164 rfl rfl (Nat.le_of_ble_eq_true rfl) ⟨(Nat.le_of_ble_eq_true rfl), (Nat.le_of_ble_eq_true rfl)⟩ rfl rfl (Nat.le_of_ble_eq_true rfl) (Nat.le_of_ble_eq_true rfl) (fun r9 J_112 hq9 => ?_)
                obtain ⟨rfl, w_112, mu9, y9⟩ := hq9
                refine tz_goto (pc := 115) (tgt := 91) dX12_readsAll_115 (by decide) ?_
                exact ih91 _ (by have e1 := rmu_nn (J := J_112) w_112.2.1.1; have e2 := rmu_nn (J := J2) ti.2.2.1.1; have e3 := c9.2.2.2; rw [if_pos (by omega)] at hm91; split <;> omega) (RX.cl (CLf.rt ((MRT.rf t2.1 t2.2.2.1 t2.2.2.2.1).w w_112)) (RX.cl c9.1 fx)) ⟨_, _, t2.rt ((MRT.rf t2.1 t2.2.2.1 t2.2.2.2.1).w w_112)⟩ (RI.st hS hW ha hf h_95b (by omega) ti.2.2.1.1 x9 y9 w_112 mu9 c9.2.2.2)
        exact loop91 _ _ (Nat.lt_succ_self _) g9.1 ⟨_, _, g9.2⟩ g8
      · refine tz_aload_n (pc := 43) dX12_readsAll_43 rfl rfl ?_
        refine tz_fR (pc := 44) dX12_readsAll_44 fl_X12_9 r_164_0 ?_
        refine tz_bipush (pc := 47) dX12_readsAll_47 (by decide) ?_
        refine tz_iload_n (pc := 49) dX12_readsAll_49 rfl rfl ?_
        refine tz_iadd (pc := 50) (v := 126 + k) dX12_readsAll_50 rfl ?_
        refine tz_iconst (pc := 51) dX12_readsAll_51 ?_
        refine tz_aS (pc := 52) (z := (126 + k)) dX12_readsAll_52 a_165 rfl (by omega) (by decide) ?_
        refine tz_iinc (pc := 53) (z := k + 1) (L2 := [_, _, _]) dX12_readsAll_53 rfl (by omega) rfl ?_
        refine tz_goto (pc := 56) (tgt := 37) dX12_readsAll_56 (by decide) ?_
        exact ih37 (k + 1) _ (by omega) (by omega) (f1.up (by omega)) f45
  exact loop37 _ 0 _ (Nat.lt_succ_self _) (by omega) RA.in ⟨rfl, rfl⟩

