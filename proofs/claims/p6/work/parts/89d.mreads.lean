/-! ===== readsAll ===== -/
def RA (J1 J : zJ) (x k : Int) : Prop := zOf (zbut [164, 165]) J1 J ∧ (∀ q, (37 :: clF).contains q = false → J1 164 q = J 164 q) ∧ (J1 164 37 = x ∧ J1 164 35 = 0 ∧ J1 164 43 = 0 ∧ J1 164 44 = 0 ∧ J1 164 21 = 0) ∧ (∀ q, (q < 126 ∨ 189 ≤ q) → J1 165 q = J 165 q) ∧ (∀ q, 0 ≤ q → q < k → J1 165 (126 + q) = 0)
theorem clG_no {k : Int} (h : (37 :: clF).contains k = false) : ¬ k = 37 ∧ clF.contains k = false ∧ ¬ k = 21 ∧ ¬ k = 44 ∧ ¬ k = 45 ∧ ¬ k = 20 ∧ ¬ k = 43 ∧ ¬ k = 35 := by
  simp [clF] at h
  simp [clF]
  omega
theorem RA.in {J : zJ} {x : Int} : RA (zup (zup (zup (zup (zup (zup (zup J 164 37 x) 164 35 0) 164 43 0) 164 20 (-1)) 164 45 0) 164 44 0) 164 21 0) J x 0 := by
  have e : ∀ q, (zup (zup (zup (zup (zup (zup (zup J 164 37 x) 164 35 0) 164 43 0) 164 20 (-1)) 164 45 0) 164 44 0) 164 21 0) 164 q = if q = 21 then 0 else if q = 44 then 0 else if q = 45 then 0 else if q = 20 then -1 else if q = 43 then 0 else if q = 35 then 0 else if q = 37 then x else J 164 q := fun _ => rfl
  refine ⟨zOf.up rfl (zOf.up rfl (zOf.up rfl (zOf.up rfl (zOf.up rfl (zOf.up rfl (zOf.up rfl zOf.rf)))))), fun q hq => ?_, ⟨rfl, rfl, rfl, rfl, rfl⟩, fun _ _ => rfl, fun q a c => by omega⟩
  obtain ⟨a1, _, a2, a3, a4, a5, a6, a7⟩ := clG_no hq
  rw [e, if_neg a2, if_neg a3, if_neg a4, if_neg a5, if_neg a6, if_neg a7, if_neg a1]
theorem RA.up {J1 J : zJ} {x k : Int} (h : RA J1 J x k) (hk : 0 ≤ k ∧ k < 63) : RA (zup J1 165 (126 + k) 0) J x (k + 1) := by
  refine ⟨zOf.up rfl h.1, h.2.1, h.2.2.1, fun q a => (zup_ne (by omega)).trans (h.2.2.2.1 q a), fun q a c => ?_⟩
  by_cases e : q = k
  · rw [e, zup_at]
  · rw [zup_ne (by omega)]; exact h.2.2.2.2 q a (by omega)
def RX (J' J : zJ) : Prop := zOf (zbut [164, 165, 166, 167, 168, 169, 170, 171]) J' J ∧ (∀ k, (k < 126 ∨ 189 ≤ k) → J' 165 k = J 165 k) ∧ (∀ k, k < 800 → J' 166 k = J 166 k ∧ J' 168 k = J 168 k) ∧ (∀ k, k < 2400 → J' 167 k = J 167 k) ∧ (∀ k, k < 10 → J' 169 k = J 169 k ∧ J' 170 k = J 170 k ∧ J' 171 k = J 171 k) ∧ (∀ k, (37 :: clF).contains k = false → ¬ k = 15 → ¬ k = 16 → ¬ k = 17 → J' 164 k = J 164 k)
theorem RX.cl {J3 J2 J1 : zJ} (h : CLf J3 J2) (g : RX J2 J1) : RX J3 J1 := ⟨h.1.tr g.1, fun k q => (h.2.1 k q).trans (g.2.1 k q), fun k q => ⟨(h.2.2.1 k q).1.trans (g.2.2.1 k q).1, (h.2.2.1 k q).2.trans (g.2.2.1 k q).2⟩, fun k q => (h.2.2.2.1 k q).trans (g.2.2.2.1 k q), fun k q => ⟨(h.2.2.2.2.1 k q).1.trans (g.2.2.2.2.1 k q).1, (h.2.2.2.2.1 k q).2.1.trans (g.2.2.2.2.1 k q).2.1, (h.2.2.2.2.1 k q).2.2.trans (g.2.2.2.2.1 k q).2.2⟩, fun k q a b c => (h.2.2.2.2.2 k (clG_no q).2.1).trans (g.2.2.2.2.2 k q a b c)⟩
theorem RA.sz {J1 J : zJ} {x : Int} (h : RA J1 J x 63) (hx : 0 ≤ x ∧ x ≤ 700) : RSz (zup (zup (zup (zup J1 165 165 4) 164 15 800) 164 16 126) 164 17 10) := by
  have e : ∀ k, ¬ k = 15 → ¬ k = 16 → ¬ k = 17 → (zup (zup (zup (zup J1 165 165 4) 164 15 800) 164 16 126) 164 17 10) 164 k = J1 164 k := fun k a b c => by
    have e : (zup (zup (zup (zup J1 165 165 4) 164 15 800) 164 16 126) 164 17 10) 164 k = if k = 17 then 10 else if k = 16 then 126 else if k = 15 then 800 else J1 164 k := rfl
    rw [e, if_neg c, if_neg b, if_neg a]
  unfold RSz
  rw [e 37 (by decide) (by decide) (by decide), e 35 (by decide) (by decide) (by decide), h.2.2.1.1, h.2.2.1.2.1]
  omega
theorem RA.go {J3 J1 J : zJ} {x : Int} (h : RA J1 J x 63) (g : RGw J3 (zup (zup (zup (zup J1 165 165 4) 164 15 800) 164 16 126) 164 17 10)) : RX J3 J ∧ TI J3 0 0 := by
  have e4 : ∀ k, (zup (zup (zup (zup J1 165 165 4) 164 15 800) 164 16 126) 164 17 10) 164 k = if k = 17 then 10 else if k = 16 then 126 else if k = 15 then 800 else J1 164 k := fun _ => rfl
  have e5 : ∀ k, (zup (zup (zup (zup J1 165 165 4) 164 15 800) 164 16 126) 164 17 10) 165 k = if k = 165 then 4 else J1 165 k := fun _ => rfl
  have f : zOf (zbut [164, 165]) (zup (zup (zup (zup J1 165 165 4) 164 15 800) 164 16 126) 164 17 10) J1 := zOf.up rfl (zOf.up rfl (zOf.up rfl (zOf.up rfl zOf.rf)))
  generalize (zup (zup (zup (zup J1 165 165 4) 164 15 800) 164 16 126) 164 17 10) = J2 at *
  have f2 := f.tr h.1
  have g5 : J3 165 = J2 165 := g.1.1 165 rfl
  have z5 : ∀ q, 0 ≤ q → q < 63 → ¬ q = 39 → J3 165 (126 + q) = 0 := fun q a b c => by rw [g5, e5, if_neg (by omega)]; exact h.2.2.2.2 q a b
  have z9 : J3 165 (126 + 39) = 4 := by rw [g5, e5, if_pos (by decide)]
  refine ⟨⟨(g.1.1.mono (zbut_sub (fun c hc => by simp at hc ⊢; omega))).tr (f2.mono (zbut_sub (fun c hc => by simp at hc ⊢; omega))), fun k q => ?_, fun k _ => ⟨by rw [g.1.1 166 rfl, f2 166 rfl], by rw [g.1.1 168 rfl, f2 168 rfl]⟩, fun k _ => by rw [g.1.1 167 rfl, f2 167 rfl], fun k _ => ⟨by rw [g.1.1 169 rfl, f2 169 rfl], by rw [g.1.1 170 rfl, f2 170 rfl], by rw [g.1.1 171 rfl, f2 171 rfl]⟩, fun k q a b c => ?_⟩, ⟨Or.inr ⟨rfl, rfl, rfl⟩, ?_, ?_, ?_, ?_, ?_⟩, ?_, g.2.1, ?_, ?_, ?_⟩
  · rw [g5, e5, if_neg (by omega)]; exact h.2.2.2.1 k q
  · have q2 := clF_no (clG_no q).2.1
    rw [g.1.2 k q2.2.2.2.1 q2.2.2.2.2.1 q2.2.2.2.2.2, e4, if_neg c, if_neg b, if_neg a]
    exact h.2.1 k q
  · rw [g.1.2 15 rfl (by decide) (by decide), e4, if_neg (by decide), if_neg (by decide), if_pos rfl]
  · rw [g.1.2 16 rfl (by decide) (by decide), e4, if_neg (by decide), if_pos rfl]
  · rw [g.1.2 17 rfl (by decide) (by decide), e4, if_pos rfl]
  · exact z5 0 (by decide) (by decide) (by decide)
  · exact ⟨⟨by decide, fun k a c => by omega⟩, by decide, fun t a c => by omega, fun s t a c => by omega⟩
  · rw [g.1.2 44 rfl (by decide) (by decide), e4, if_neg (by decide), if_neg (by decide), if_neg (by decide)]; exact h.2.2.1.2.2.2.1
  · rw [g.1.2 21 rfl (by decide) (by decide), e4, if_neg (by decide), if_neg (by decide), if_neg (by decide)]; exact Or.inl h.2.2.1.2.2.2.2
  · have r9 : J3 165 (126 + 9) = 0 := z5 9 (by decide) (by decide) (by decide)
    have r26 : J3 165 (126 + 26) = 0 := z5 26 (by decide) (by decide) (by decide)
    have r40 : J3 165 (126 + 40) = 0 := z5 40 (by decide) (by decide) (by decide)
    refine ⟨⟨?_, fun k a c => ?_⟩, ⟨?_, ?_, fun k a c => ?_⟩, ⟨?_, fun k a c => ?_⟩, fun v a c => ?_⟩
    · show 0 ≤ J3 165 (126 + 9) ∧ J3 165 (126 + 9) ≤ 8
      omega
    · have c9 : k < J3 165 (126 + 9) := c
      omega
    · show 0 ≤ J3 165 (126 + 39) ∧ J3 165 (126 + 39) ≤ 9
      omega
    · show 0 ≤ J3 165 (126 + 40) ∧ J3 165 (126 + 40) ≤ J3 165 (126 + 39)
      omega
    · have c9 : k < 2 * J3 165 (126 + 40) := c
      omega
    · show 0 ≤ J3 165 (126 + 26) ∧ J3 165 (126 + 26) ≤ 12
      omega
    · have c9 : k < J3 165 (126 + 26) := c
      omega
    · have := z5 v (by omega) (by omega) (by omega)
      show 0 ≤ J3 165 (126 + v) ∧ J3 165 (126 + v) ≤ 0
      omega
  · exact z5 40 (by decide) (by decide) (by decide)
theorem rmu_nn {J : zJ} (h : RSz J) : 0 ≤ rmu J := by
  unfold rmu
  unfold RSz at h
  split <;> omega
/-- what a text has told -/
def TB (J : zJ) (s m : Int) : Prop := MTT J 800 10 s m ∧ J 165 126 = m ∧ J 164 44 = s ∧ ML (fun k => J 165 (126 + k)) m ∧ J 165 166 = 0
def RDf (J' J : zJ) : Prop := zOf (zbut [164, 165, 166, 167, 168, 169, 170, 171]) J' J ∧ (∀ k, (k < 126 ∨ 189 ≤ k) → J' 165 k = J 165 k) ∧ (∀ k, k < 800 → J' 166 k = J 166 k ∧ J' 168 k = J 168 k) ∧ (∀ k, k < 2400 → J' 167 k = J 167 k) ∧ (∀ k, k < 10 → J' 169 k = J 169 k ∧ J' 170 k = J 170 k ∧ J' 171 k = J 171 k) ∧ (∀ k, (37 :: clF).contains k = false → J' 164 k = J 164 k)
theorem RX.fin {J2 J : zJ} (g : RX J2 J) (hi : ∃ s m, TI J2 s m) (h0 : J 164 15 = 0 ∧ J 164 16 = 0 ∧ J 164 17 = 0) : RDf (zup (zup (zup J2 164 17 0) 164 16 0) 164 15 0) J ∧ ∃ s m, TB (zup (zup (zup J2 164 17 0) 164 16 0) 164 15 0) s m := by
  have e4 : ∀ k, (zup (zup (zup J2 164 17 0) 164 16 0) 164 15 0) 164 k = if k = 15 then 0 else if k = 16 then 0 else if k = 17 then 0 else J2 164 k := fun _ => rfl
  refine ⟨⟨zOf.up rfl (zOf.up rfl (zOf.up rfl g.1)), g.2.1, g.2.2.1, g.2.2.2.1, g.2.2.2.2.1, fun k q => ?_⟩, ?_⟩
  · rw [e4]
    split
    · next e => rw [e]; exact h0.1.symm
    · split
      · next e => rw [e]; exact h0.2.1.symm
      · split
        · next e => rw [e]; exact h0.2.2.symm
        · next a b c => exact g.2.2.2.2.2 k q a b c
  · obtain ⟨s, m, t1, t2, t3, t4, t5, t6⟩ := hi
    exact ⟨s, m, t1.2.2.2.2.2, t1.2.2.2.2.1, t2, t5, t6⟩
set_option maxHeartbeats 4000000 in
set_option maxRecDepth 100000 in
theorem m_readsAll {l : Launch} {G : tb_G} (hl : l.stackTraces = false) (n : Nat) (J : zJ) (x : Int) (hr_x : -2147483648 ≤ x ∧ x < 2147483648)  (hx : 0 ≤ x ∧ x ≤ 700) (h0 : J 164 15 = 0 ∧ J 164 16 = 0 ∧ J 164 17 = 0) : tz_Ok l G M_X12_readsAll 23 0 0 [.ref 164, zi x] n J (zqv (fun J' => RDf J' J ∧ ∃ s m, TB J' s m)) zN := by
  refine tz_Ok.of hl (by decide +kernel) rfl (tb_c1 rfl) (Nat.le_of_ble_eq_true rfl) ?_
  show tz_At l G M_X12_readsAll (tb_rm 23 0 0) none (tb_ZM G 0 0 (zQ n 0 (zqv (fun J' => RDf J' J ∧ ∃ s m, TB J' s m))) (zX n 0 zN)) 0 0 n J 0 [some (.ref 164), some (zi x), none] []
  refine tz_aload_n (pc := 0) dX12_readsAll_0 rfl rfl ?_
  refine tz_iload_n (pc := 1) dX12_readsAll_1 rfl rfl ?_
  refine tz_pI (pc := 2) (kz := 37) dX12_readsAll_2 fl_X12_233 i_164_37 rfl rfl (by omega) ?_
  refine tz_aload_n (pc := 5) dX12_readsAll_5 rfl rfl ?_
  refine tz_iconst (pc := 6) dX12_readsAll_6 ?_
  refine tz_pI (pc := 7) (kz := 35) dX12_readsAll_7 fl_X12_243 i_164_35 rfl rfl (by decide) ?_
  refine tz_aload_n (pc := 10) dX12_readsAll_10 rfl rfl ?_
  refine tz_iconst (pc := 11) dX12_readsAll_11 ?_
  refine tz_pI (pc := 12) (kz := 43) dX12_readsAll_12 fl_X12_273 i_164_43 rfl rfl (by decide) ?_
  refine tz_aload_n (pc := 15) dX12_readsAll_15 rfl rfl ?_
  refine tz_iconst (pc := 16) dX12_readsAll_16 ?_
  refine tz_pI (pc := 17) (kz := 20) dX12_readsAll_17 fl_X12_37 i_164_20 rfl rfl (by decide) ?_
  refine tz_aload_n (pc := 20) dX12_readsAll_20 rfl rfl ?_
  refine tz_aload_n (pc := 21) dX12_readsAll_21 rfl rfl ?_
  refine tz_iconst (pc := 22) dX12_readsAll_22 ?_
  refine tz_dup_x1 (pc := 23) dX12_readsAll_23 rfl rfl ?_
  refine tz_pI (pc := 24) (kz := 45) dX12_readsAll_24 fl_X12_313 i_164_45 rfl rfl (by decide) ?_
  refine tz_pI (pc := 27) (kz := 44) dX12_readsAll_27 fl_X12_287 i_164_44 rfl rfl (by decide) ?_
  refine tz_aload_n (pc := 30) dX12_readsAll_30 rfl rfl ?_
  refine tz_iconst (pc := 31) dX12_readsAll_31 ?_
  refine tz_pZ (pc := 32) (kz := 21) dX12_readsAll_32 fl_X12_92 i_164_21 rfl rfl (Or.inl rfl) ?_
  refine tz_iconst (pc := 35) dX12_readsAll_35 ?_
  refine tz_istore_n (pc := 36) (L2 := [_, _, _]) dX12_readsAll_36 rfl (by decide) rfl ?_
  have loop37 : ∀ (f9 : Nat) (k : Int) (J1 : zJ), ((63 - k).toNat) < f9 → (0 ≤ k ∧ k ≤ 63) → (RA J1 J x k) → tz_At l G M_X12_readsAll (tb_rm 23 0 0) none (tb_ZM G 0 0 (zQ n 0 (zqv (fun J' => RDf J' J ∧ ∃ s m, TB J' s m))) (zX n 0 zN)) 0 0 n J1 37 [some (.ref 164), some (zi x), some (zi k)] [] := by
    intro f9
    induction f9 with
    | zero => intro k J1 hm9; exact absurd hm9 (Nat.not_lt_zero _)
    | succ f9 ih37 =>
      intro k J1 hm37 hk f1
      refine tz_iload_n (pc := 37) dX12_readsAll_37 rfl rfl ?_
      refine tz_bipush (pc := 38) dX12_readsAll_38 (by decide) ?_
      refine tz_icmp_ge (pc := 40) (tgt := 59) dX12_readsAll_40 (by decide) (by omega) (by decide) (fun h_40 => ?_) (fun h_40 => ?_)
      · have k63 : k = 63 := by omega
        have fa := f1
        rw [k63] at fa
        refine tz_aload_n (pc := 59) dX12_readsAll_59 rfl rfl ?_
        refine tz_fR (pc := 60) dX12_readsAll_60 fl_X12_9 r_164_0 ?_
        refine tz_sipush (pc := 63) dX12_readsAll_63 (by decide) ?_
        refine tz_iconst (pc := 66) dX12_readsAll_66 ?_
        refine tz_aS (pc := 67) (z := 165) dX12_readsAll_67 a_165 rfl (by decide) (by decide) ?_
        refine tz_aload_n (pc := 68) dX12_readsAll_68 rfl rfl ?_
        refine tz_sipush (pc := 69) dX12_readsAll_69 (by decide) ?_
        refine tz_pI (pc := 72) (kz := 15) dX12_readsAll_72 fl_X12_71 i_164_15 rfl rfl (by decide) ?_
        refine tz_aload_n (pc := 75) dX12_readsAll_75 rfl rfl ?_
        refine tz_bipush (pc := 76) dX12_readsAll_76 (by decide) ?_
        refine tz_pI (pc := 78) (kz := 16) dX12_readsAll_78 fl_X12_85 i_164_16 rfl rfl (by decide) ?_
        refine tz_aload_n (pc := 81) dX12_readsAll_81 rfl rfl ?_
        refine tz_bipush (pc := 82) dX12_readsAll_82 (by decide) ?_
        refine tz_pI (pc := 84) (kz := 17) dX12_readsAll_84 fl_X12_82 i_164_17 rfl rfl (by decide) ?_
        refine tz_aload_n (pc := 87) dX12_readsAll_87 rfl rfl ?_
        refine tz_cV (pc := 88) (m_go hl n _ (fa.sz hx)) vl_X12_280 dX12_readsAll_88 o_164 rfl rfl (Nat.le_of_ble_eq_true rfl) ⟨(Nat.le_of_ble_eq_true rfl), (Nat.le_of_ble_eq_true rfl)⟩ rfl rfl (Nat.le_of_ble_eq_true rfl) (Nat.le_of_ble_eq_true rfl) (fun r9 J_88 hq9 => ?_)
        obtain ⟨rfl, g1, g2⟩ := hq9
        have g9 := fa.go (RGw.go g1 g2)
        have loop91 : ∀ (f9 : Nat) (J2 : zJ), ((if J2 164 43 = 0 then (rmu J2 + 1).toNat else 0)) < f9 → (RX J2 J) → (∃ s m, TI J2 s m) → tz_At l G M_X12_readsAll (tb_rm 23 0 0) none (tb_ZM G 0 0 (zQ n 0 (zqv (fun J' => RDf J' J ∧ ∃ s m, TB J' s m))) (zX n 0 zN)) 0 0 n J2 91 [some (.ref 164), some (zi x), some (zi k)] [] := by
          intro f9
          induction f9 with
          | zero => intro J2 hm9; exact absurd hm9 (Nat.not_lt_zero _)
          | succ f9 ih91 =>
            intro J2 hm91 fx hi
            obtain ⟨s, m, ti⟩ := id hi
            refine tz_aload_n (pc := 91) dX12_readsAll_91 rfl rfl ?_
            refine tz_fI (pc := 92) (kz := 43) (v := (J2 164 43)) dX12_readsAll_92 fl_X12_273 i_164_43 rfl rfl (fun r_92 => ?_)
            refine tz_if_ne (pc := 95) (tgt := 118) dX12_readsAll_95 (by decide) (by omega) (fun h_95 => ?_) (fun h_95 => ?_)
            · refine tz_aload_n (pc := 118) dX12_readsAll_118 rfl rfl ?_
              refine tz_aload_n (pc := 119) dX12_readsAll_119 rfl rfl ?_
              refine tz_aload_n (pc := 120) dX12_readsAll_120 rfl rfl ?_
              refine tz_iconst (pc := 121) dX12_readsAll_121 ?_
              refine tz_dup_x1 (pc := 122) dX12_readsAll_122 rfl rfl ?_
              refine tz_pI (pc := 123) (kz := 17) dX12_readsAll_123 fl_X12_82 i_164_17 rfl rfl (by decide) ?_
              refine tz_dup_x1 (pc := 126) dX12_readsAll_126 rfl rfl ?_
              refine tz_pI (pc := 127) (kz := 16) dX12_readsAll_127 fl_X12_85 i_164_16 rfl rfl (by decide) ?_
              refine tz_pI (pc := 130) (kz := 15) dX12_readsAll_130 fl_X12_71 i_164_15 rfl rfl (by decide) ?_
              exact tz_vret (pc := 133) dX12_readsAll_133 rfl (Nat.le_of_ble_eq_true rfl) (Nat.le_of_ble_eq_true rfl) ⟨Nat.le_refl _, Nat.le_add_right _ _⟩ ⟨rfl, RX.fin fx hi h0⟩
            · refine tz_aload_n (pc := 98) dX12_readsAll_98 rfl rfl ?_
              refine tz_fI (pc := 99) (kz := 38) (v := (J2 164 38)) dX12_readsAll_99 fl_X12_261 i_164_38 rfl rfl (fun r_99 => ?_)
              refine tz_if_eq (pc := 102) (tgt := 118) dX12_readsAll_102 (by decide) (by omega) (fun h_102 => ?_) (fun h_102 => ?_)
              · refine tz_aload_n (pc := 118) dX12_readsAll_118 rfl rfl ?_
                refine tz_aload_n (pc := 119) dX12_readsAll_119 rfl rfl ?_
                refine tz_aload_n (pc := 120) dX12_readsAll_120 rfl rfl ?_
                refine tz_iconst (pc := 121) dX12_readsAll_121 ?_
                refine tz_dup_x1 (pc := 122) dX12_readsAll_122 rfl rfl ?_
                refine tz_pI (pc := 123) (kz := 17) dX12_readsAll_123 fl_X12_82 i_164_17 rfl rfl (by decide) ?_
                refine tz_dup_x1 (pc := 126) dX12_readsAll_126 rfl rfl ?_
                refine tz_pI (pc := 127) (kz := 16) dX12_readsAll_127 fl_X12_85 i_164_16 rfl rfl (by decide) ?_
                refine tz_pI (pc := 130) (kz := 15) dX12_readsAll_130 fl_X12_71 i_164_15 rfl rfl (by decide) ?_
                exact tz_vret (pc := 133) dX12_readsAll_133 rfl (Nat.le_of_ble_eq_true rfl) (Nat.le_of_ble_eq_true rfl) ⟨Nat.le_refl _, Nat.le_add_right _ _⟩ ⟨rfl, RX.fin fx hi h0⟩
              · refine tz_aload_n (pc := 105) dX12_readsAll_105 rfl rfl ?_
                refine tz_cV (pc := 106) (m_clause1 hl n _ s m ti) vl_X12_331 dX12_readsAll_106 o_164 rfl rfl (Nat.le_of_ble_eq_true rfl) ⟨(Nat.le_of_ble_eq_true rfl), (Nat.le_of_ble_eq_true rfl)⟩ rfl rfl (Nat.le_of_ble_eq_true rfl) (Nat.le_of_ble_eq_true rfl) (fun r9 J_106 hq9 => ?_)
                obtain ⟨rfl, c9⟩ := hq9
                obtain ⟨s2, m2, t2⟩ := c9.2.1
                refine tz_aload_n (pc := 109) dX12_readsAll_109 rfl rfl ?_
                refine tz_bipush (pc := 110) dX12_readsAll_110 (by decide) ?_
                refine tz_cV (pc := 112) (m_sign hl n _ _ (by decide) t2.2.2.1 (by decide)) vl_X12_296 dX12_readsAll_112 o_164 rfl rfl (Nat.le_of_ble_eq_true rfl) ⟨(Nat.le_of_ble_eq_true rfl), (Nat.le_of_ble_eq_true rfl)⟩ rfl rfl (Nat.le_of_ble_eq_true rfl) (Nat.le_of_ble_eq_true rfl) (fun r9 J_112 hq9 => ?_)
                obtain ⟨rfl, w_112, mu9⟩ := hq9
                refine tz_goto (pc := 115) (tgt := 91) dX12_readsAll_115 (by decide) ?_
                exact ih91 _ (by have e1 := rmu_nn (J := J_112) w_112.2.1.1; have e2 := rmu_nn (J := J2) ti.2.2.1.1; have e3 := c9.2.2.2; rw [if_pos (by omega)] at hm91; split <;> omega) (RX.cl (CLf.rt ((MRT.rf t2.1 t2.2.2.1 t2.2.2.2.1).w w_112)) (RX.cl c9.1 fx)) ⟨_, _, t2.rt ((MRT.rf t2.1 t2.2.2.1 t2.2.2.2.1).w w_112)⟩
        exact loop91 _ _ (Nat.lt_succ_self _) g9.1 ⟨_, _, g9.2⟩
      · refine tz_aload_n (pc := 43) dX12_readsAll_43 rfl rfl ?_
        refine tz_fR (pc := 44) dX12_readsAll_44 fl_X12_9 r_164_0 ?_
        refine tz_bipush (pc := 47) dX12_readsAll_47 (by decide) ?_
        refine tz_iload_n (pc := 49) dX12_readsAll_49 rfl rfl ?_
        refine tz_iadd (pc := 50) (v := 126 + k) dX12_readsAll_50 rfl ?_
        refine tz_iconst (pc := 51) dX12_readsAll_51 ?_
        refine tz_aS (pc := 52) (z := (126 + k)) dX12_readsAll_52 a_165 rfl (by omega) (by decide) ?_
        refine tz_iinc (pc := 53) (z := k + 1) (L2 := [_, _, _]) dX12_readsAll_53 rfl (by omega) rfl ?_
        refine tz_goto (pc := 56) (tgt := 37) dX12_readsAll_56 (by decide) ?_
        exact ih37 (k + 1) _ (by omega) (by omega) (f1.up (by omega))
  exact loop37 _ 0 _ (Nat.lt_succ_self _) (by omega) RA.in

