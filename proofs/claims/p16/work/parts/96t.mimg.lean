/-! ===== image, restore of the reference, exact ===== -/
theorem MI.imx {J1 J_10 J : zJ} {m pn : Int} {RR : Int → Int → Int} (h : MI J m) (u : MUr J pn RR) (v : MVD 0 400 J_10 (zup J 164 8 0)) (f : zOf (zbut [172]) J1 (zup (zup (zmv (zmv J_10 165 0 2709 63) 165 189 2772 2520) 164 12 (J 164 10)) 164 13 (J 164 11))) : (MBT (zup J1 164 14 1) (tbz J) ∧ MUr (zup J1 164 14 1) pn RR) ∧ (MBI (zup J1 164 14 1) (tbz J) ∧ MUi (zup J1 164 14 1) pn RR) := by
  have hT := h.told
  obtain ⟨v1, v6, v8, v7⟩ := v
  have g : zOf (zbut [164, 165, 166, 167, 168, 172]) (zup J1 164 14 1) J := zOf.up rfl ((f.mono (zbut_sub (fun c hc => by simp at hc ⊢; omega))).tr (zOf.up rfl (zOf.up rfl (zOf.mv rfl (zOf.mv rfl ((v1.mono (zbut_sub (fun c hc => by simp at hc ⊢; omega))).tr (zOf.up rfl zOf.rf)))))))
  have w6 : (zup J1 164 14 1) 166 = fcy (J 166) 0 400 400 := (f 166 rfl).trans v6
  have w8 : (zup J1 164 14 1) 168 = fcy (J 168) 0 400 400 := (f 168 rfl).trans v8
  have w7 : (zup J1 164 14 1) 167 = fcy (J 167) (3 * 0) (3 * 400) 1200 := (f 167 rfl).trans v7
  have e4 : ∀ k, (zup J1 164 14 1) 164 k = if k = 14 then 1 else if k = 13 then J 164 11 else if k = 12 then J 164 10 else if k = 8 then 0 else J 164 k := fun k => by
    show (if k = 14 then 1 else J1 164 k) = _
    rw [f 164 rfl]
    show (if k = 14 then 1 else if k = 13 then J 164 11 else if k = 12 then J 164 10 else J_10 164 k) = _
    rw [v1 164 rfl]
    rfl
  have e5 : ∀ k, (zup J1 164 14 1) 165 k = if 2772 ≤ k ∧ k < 2772 + 2520 then (if 2709 ≤ 189 + (k - 2772) ∧ 189 + (k - 2772) < 2709 + 63 then J 165 (0 + (189 + (k - 2772) - 2709)) else J 165 (189 + (k - 2772))) else (if 2709 ≤ k ∧ k < 2709 + 63 then J 165 (0 + (k - 2709)) else J 165 k) := fun k => by
    show J1 165 k = _
    rw [f 165 rfl, show J 165 = J_10 165 from (v1 165 rfl).symm]
    rfl
  generalize zup J1 164 14 1 = J9 at *
  have l5 : ∀ k, k < 2709 → J9 165 k = J 165 k := fun k a => by rw [e5, if_neg (by omega), if_neg (by omega)]
  have i5 : ∀ k, 0 ≤ k → k < 63 → J9 165 (2709 + k) = J 165 k := fun k a b => by
    rw [e5, if_neg (by omega), if_pos (by omega)]
    congr 1
    omega
  have k5 : ∀ k, 0 ≤ k → k < 2520 → J9 165 (2772 + k) = J 165 (189 + k) := fun k a b => by
    rw [e5, if_pos (by omega), if_neg (by omega)]
    congr 1
    omega
  have z : ∀ k, 0 ≤ k → k < 63 → tbz J 165 k = J 165 k := fun k a b => by
    show (if 0 ≤ k ∧ k < 63 then J 165 k else 0) = _
    rw [if_pos ⟨a, b⟩]
  have m0 : tbz J 165 0 = m := (z 0 (by decide) (by decide)).trans h.1.2.2.2.2.1
  have z6 : ∀ t, 0 ≤ t → t < 400 → tbz J 166 t = J 166 t ∧ tbz J 168 t = J 168 t := fun t a b => ⟨if_pos ⟨a, b⟩, if_pos ⟨a, b⟩⟩
  have z7 : ∀ k, 0 ≤ k → k < 1200 → tbz J 167 k = J 167 k := fun k a b => if_pos ⟨a, b⟩
  refine ⟨⟨⟨⟨?_, fun k a b => ⟨?_, ?_, ?_⟩⟩, fun k a b => ?_, fun t a b => ⟨?_, ?_⟩, fun k a b => ?_⟩, ?_, fun k a b q c d => ?_⟩, ⟨fun k a b => ?_, fun t a b => ⟨?_, ?_⟩, fun k a b => ?_⟩, ?_, fun k a b q c d => ?_⟩
  · rw [e4, if_neg (by decide), if_neg (by decide), if_neg (by decide), if_neg (by decide)]; rfl
  · rw [g 169 rfl]; exact (show tbz J 169 k = J 169 k from if_pos ⟨a, b⟩).symm
  · rw [g 170 rfl]; exact (show tbz J 170 k = J 170 k from if_pos ⟨a, b⟩).symm
  · rw [g 171 rfl]; exact (show tbz J 171 k = J 171 k from if_pos ⟨a, b⟩).symm
  · rw [l5 k (by omega), z k a b]
  · rw [w6, fcy_no (by omega), (z6 t a (by omega)).1]
  · rw [w8, fcy_no (by omega), (z6 t a (by omega)).2]
  · rw [w7, fcy_no (by omega), z7 k a (by omega)]
  · rw [e4, if_neg (by decide), if_neg (by decide), if_neg (by decide), if_neg (by decide)]; exact u.1
  · rw [show J9 164 11 = J 164 11 by rw [e4, if_neg (by decide), if_neg (by decide), if_neg (by decide), if_neg (by decide)], l5 _ (by omega)]
    exact u.2 k a b q c d
  · rw [i5 k a b, z k a b]
  · rw [w6, show 400 + t = 400 + t from rfl, fcy_in (by omega), Int.zero_add, (z6 t a (by omega)).1]
  · rw [w8, fcy_in (by omega), Int.zero_add, (z6 t a (by omega)).2]
  · rw [w7, show (1200 : Int) + k = 3 * 400 + k from rfl, fcy_in (by omega), show 3 * 0 + k = k by omega, z7 k a (by omega)]
  · rw [e4, if_neg (by decide), if_neg (by decide), if_pos rfl]; exact u.1
  · rw [e4 13, if_neg (by decide), if_pos rfl, show 2772 + 63 * ((J 164 11 + k) % 40) + q = 2772 + (63 * ((J 164 11 + k) % 40) + q) by omega, k5 _ (by omega) (by omega)]
    have := u.2 k a b q c d
    rw [show 189 + 63 * ((J 164 11 + k) % 40) + q = 189 + (63 * ((J 164 11 + k) % 40) + q) by omega] at this
    exact this
theorem MI.rsx {J1 J_19 J G : zJ} {m ni : Int} {Ri : Int → Int → Int} (h : MI J m) (v : MVD 400 0 J_19 (zup J 164 8 0)) (f : zOf (zbut [172]) J1 (zup (zup (zmv (zmv J_19 165 2709 0 63) 165 2772 189 2520) 164 10 (J 164 12)) 164 11 (J 164 13))) (b : MBI J G) (u : MUi J ni Ri) (gr : 0 ≤ G 165 0 ∧ G 165 0 ≤ 400) : (MBT J1 (gsy (tbz J) G) ∧ MUr J1 ni Ri) ∧ MFI J1 J := by
  have hT := h.told
  obtain ⟨v1, v6, v8, v7⟩ := v
  have g : zOf (zbut [164, 165, 166, 167, 168, 172]) J1 J := (f.mono (zbut_sub (fun c hc => by simp at hc ⊢; omega))).tr (zOf.up rfl (zOf.up rfl (zOf.mv rfl (zOf.mv rfl ((v1.mono (zbut_sub (fun c hc => by simp at hc ⊢; omega))).tr (zOf.up rfl zOf.rf))))))
  have w6 : J1 166 = fcy (J 166) 400 0 400 := (f 166 rfl).trans v6
  have w8 : J1 168 = fcy (J 168) 400 0 400 := (f 168 rfl).trans v8
  have w7 : J1 167 = fcy (J 167) (3 * 400) (3 * 0) 1200 := (f 167 rfl).trans v7
  have e4 : ∀ k, J1 164 k = if k = 11 then J 164 13 else if k = 10 then J 164 12 else if k = 8 then 0 else J 164 k := fun k => by
    rw [f 164 rfl]
    show (if k = 11 then J 164 13 else if k = 10 then J 164 12 else J_19 164 k) = _
    rw [v1 164 rfl]
    rfl
  have e5 : ∀ k, J1 165 k = if 189 ≤ k ∧ k < 189 + 2520 then (if 0 ≤ 2772 + (k - 189) ∧ 2772 + (k - 189) < 0 + 63 then J 165 (2709 + (2772 + (k - 189) - 0)) else J 165 (2772 + (k - 189))) else (if 0 ≤ k ∧ k < 0 + 63 then J 165 (2709 + (k - 0)) else J 165 k) := fun k => by
    rw [f 165 rfl, show J 165 = J_19 165 from (v1 165 rfl).symm]
    rfl
  have d4 : ∀ k, ¬ k = 11 → ¬ k = 10 → ¬ k = 8 → J1 164 k = J 164 k := fun k a b c => by rw [e4, if_neg a, if_neg b, if_neg c]
  have l5 : ∀ k, 0 ≤ k → k < 63 → J1 165 k = J 165 (2709 + k) := fun k a b => by
    rw [e5, if_neg (by omega), if_pos (by omega)]
    congr 1
    omega
  have i5 : ∀ k, 2709 ≤ k → J1 165 k = J 165 k := fun k a => by rw [e5, if_neg (by omega), if_neg (by omega)]
  have k5 : ∀ k, 0 ≤ k → k < 2520 → J1 165 (189 + k) = J 165 (2772 + k) := fun k a b => by
    rw [e5, if_pos (by omega), if_neg (by omega)]
    congr 1
    omega
  have i6 : ∀ (F : Int → Int) t, 0 ≤ t → t < 400 → fcy F 400 0 400 t = F (400 + t) := fun F t a c => by
    rw [fcy_at, if_pos (by omega)]
    congr 1
    omega
  have i7 : ∀ (F : Int → Int) t, 0 ≤ t → t < 1200 → fcy F (3 * 400) (3 * 0) 1200 t = F (1200 + t) := fun F t a c => by
    rw [fcy_at, if_pos (by omega)]
    congr 1
    omega
  refine ⟨⟨⟨⟨?_, fun k a c => ⟨?_, ?_, ?_⟩⟩, fun k a c => ?_, fun t a c => ⟨?_, ?_⟩, fun k a c => ?_⟩, ?_, fun k a c q x y => ?_⟩, ⟨fun k a => i5 k a, fun k a c => ⟨by rw [w6, fcy_no (by omega)], by rw [w8, fcy_no (by omega)]⟩, fun k a c => by rw [w7, fcy_no (by omega)], d4 12 (by decide) (by decide) (by decide), d4 13 (by decide) (by decide) (by decide)⟩⟩
  · exact d4 9 (by decide) (by decide) (by decide)
  · rw [g 169 rfl]; exact (show tbz J 169 k = J 169 k from if_pos ⟨a, c⟩).symm
  · rw [g 170 rfl]; exact (show tbz J 170 k = J 170 k from if_pos ⟨a, c⟩).symm
  · rw [g 171 rfl]; exact (show tbz J 171 k = J 171 k from if_pos ⟨a, c⟩).symm
  · rw [l5 k a c]; exact b.1 k a c
  · have c' : t < G 165 0 := c
    rw [w6, i6 _ t a (by omega)]; exact (b.2.1 t a c).1
  · have c' : t < G 165 0 := c
    rw [w8, i6 _ t a (by omega)]; exact (b.2.1 t a c).2
  · have c' : k < 3 * G 165 0 := c
    rw [w7, i7 _ k a (by omega)]; exact b.2.2 k a c
  · rw [e4, if_neg (by decide), if_pos rfl]; exact u.1
  · rw [e4 11, if_pos rfl, show 189 + 63 * ((J 164 13 + k) % 40) + q = 189 + (63 * ((J 164 13 + k) % 40) + q) by omega, k5 _ (by omega) (by omega)]
    have := u.2 k a c q x y
    rw [show 2772 + 63 * ((J 164 13 + k) % 40) + q = 2772 + (63 * ((J 164 13 + k) % 40) + q) by omega] at this
    exact this
set_option maxHeartbeats 4000000 in
set_option maxRecDepth 100000 in
theorem v_qimage {l : Launch} {G : tb_G} (hl : l.stackTraces = false) (n : Nat) (J : zJ)   (m : Int) (pn : Int) (RR : Int → Int → Int) (hI : MI J m) (u9 : MUr J pn RR) : tz_Ok l G M_X12_image 1 0 0 [.ref 164] n J (zqv (fun J' => MQi J' J ∧ (MBT J' (tbz J) ∧ MUr J' pn RR) ∧ (MBI J' (tbz J) ∧ MUi J' pn RR))) zN := by
  refine tz_Ok.of hl (by decide +kernel) rfl (tb_c1 rfl) (Nat.le_of_ble_eq_true rfl) ?_
  show tz_At l G M_X12_image (tb_rm 1 0 0) none (tb_ZM G 0 0 (zQ n 0 (zqv (fun J' => MQi J' J ∧ (MBT J' (tbz J) ∧ MUr J' pn RR) ∧ (MBI J' (tbz J) ∧ MUi J' pn RR)))) (zX n 0 zN)) 0 0 n J 0 [some (.ref 164), none] []
  have hT := hI.told
  have hW := hI.row
  have hM := hI.1
  have hL := hI.2.1
  refine tz_aload_n (pc := 0) dX12_image_0 rfl rfl ?_
  refine tz_iconst (pc := 1) dX12_image_1 ?_
  refine tz_pI (pc := 2) (kz := 8) dX12_image_2 fl_X12_68 i_164_8 rfl rfl (by decide) ?_
  refine tz_aload_n (pc := 5) dX12_image_5 rfl rfl ?_
  refine tz_iconst (pc := 6) dX12_image_6 ?_
  refine tz_sipush (pc := 7) dX12_image_7 (by decide) ?_
  refine tz_cV (pc := 10) (m_moves hl n _ _ _ (by decide) (by decide) (by decide) (by decide)) vl_X12_340 dX12_image_10 o_164 rfl rfl (Nat.le_of_ble_eq_true rfl) ⟨(Nat.le_of_ble_eq_true rfl), (Nat.le_of_ble_eq_true rfl)⟩ rfl rfl (Nat.le_of_ble_eq_true rfl) (Nat.le_of_ble_eq_true rfl) (fun r9 J_10 hq9 => ?_)
  obtain ⟨rfl, v_10⟩ := hq9
  refine tz_aload_n (pc := 13) dX12_image_13 rfl rfl ?_
  refine tz_iconst (pc := 14) dX12_image_14 ?_
  refine tz_sipush (pc := 15) dX12_image_15 (by decide) ?_
  refine tz_bipush (pc := 18) dX12_image_18 (by decide) ?_
  refine tz_cV (pc := 20) (zm_copies hl n _ _ _ _ (by decide) (by decide) (by decide) (by omega) (by omega)) vl_X12_343 dX12_image_20 o_164 rfl rfl (Nat.le_of_ble_eq_true rfl) ⟨(Nat.le_of_ble_eq_true rfl), (Nat.le_of_ble_eq_true rfl)⟩ rfl rfl (Nat.le_of_ble_eq_true rfl) (Nat.le_of_ble_eq_true rfl) (fun r9 J_20 hq9 => ?_)
  obtain ⟨rfl, rfl⟩ := hq9
  refine tz_aload_n (pc := 23) dX12_image_23 rfl rfl ?_
  refine tz_sipush (pc := 24) dX12_image_24 (by decide) ?_
  refine tz_sipush (pc := 27) dX12_image_27 (by decide) ?_
  refine tz_sipush (pc := 30) dX12_image_30 (by decide) ?_
  refine tz_cV (pc := 33) (zm_copies hl n _ _ _ _ (by decide) (by decide) (by decide) (by omega) (by omega)) vl_X12_343 dX12_image_33 o_164 rfl rfl (Nat.le_of_ble_eq_true rfl) ⟨(Nat.le_of_ble_eq_true rfl), (Nat.le_of_ble_eq_true rfl)⟩ rfl rfl (Nat.le_of_ble_eq_true rfl) (Nat.le_of_ble_eq_true rfl) (fun r9 J_33 hq9 => ?_)
  obtain ⟨rfl, rfl⟩ := hq9
  refine tz_aload_n (pc := 36) dX12_image_36 rfl rfl ?_
  refine tz_aload_n (pc := 37) dX12_image_37 rfl rfl ?_
  refine tz_fI (pc := 38) (kz := 10) (v := (J 164 10)) dX12_image_38 fl_X12_356 i_164_10 rfl (Eq.trans (congrFun (v_10.1 164 rfl) 10) rfl) (fun r_38 => ?_)
  refine tz_pI (pc := 41) (kz := 12) dX12_image_41 fl_X12_433 i_164_12 rfl rfl (by omega) ?_
  refine tz_aload_n (pc := 44) dX12_image_44 rfl rfl ?_
  refine tz_aload_n (pc := 45) dX12_image_45 rfl rfl ?_
  refine tz_fI (pc := 46) (kz := 11) (v := (J 164 11)) dX12_image_46 fl_X12_353 i_164_11 rfl (Eq.trans (congrFun (v_10.1 164 rfl) 11) rfl) (fun r_46 => ?_)
  refine tz_pI (pc := 49) (kz := 13) dX12_image_49 fl_X12_436 i_164_13 rfl rfl (by omega) ?_
  refine tz_iconst (pc := 52) dX12_image_52 ?_
  refine tz_istore_n (pc := 53) (L2 := [_, _]) dX12_image_53 rfl (by decide) rfl ?_
  have loop54 : ∀ (f9 : Nat) (k : Int) (J1 : zJ), ((4 - k).toNat) < f9 → (0 ≤ k ∧ k ≤ 4) → (zOf (zbut [172]) J1 (zup (zup (zmv (zmv J_10 165 0 2709 63) 165 189 2772 2520) 164 12 (J 164 10)) 164 13 (J 164 11))) → tz_At l G M_X12_image (tb_rm 1 0 0) none (tb_ZM G 0 0 (zQ n 0 (zqv (fun J' => MQi J' J ∧ (MBT J' (tbz J) ∧ MUr J' pn RR) ∧ (MBI J' (tbz J) ∧ MUi J' pn RR)))) (zX n 0 zN)) 0 0 n J1 54 [some (.ref 164), some (zi k)] [] := by
    intro f9
    induction f9 with
    | zero => intro k J1 hm9; exact absurd hm9 (Nat.not_lt_zero _)
    | succ f9 ih54 =>
      intro k J1 hm54 hk f1
      refine tz_iload_n (pc := 54) dX12_image_54 rfl rfl ?_
      refine tz_iconst (pc := 55) dX12_image_55 ?_
      refine tz_icmp_ge (pc := 56) (tgt := 79) dX12_image_56 (by decide) (by omega) (by decide) (fun h_56 => ?_) (fun h_56 => ?_)
      · refine tz_aload_n (pc := 79) dX12_image_79 rfl rfl ?_
        refine tz_iconst (pc := 80) dX12_image_80 ?_
        refine tz_pI (pc := 81) (kz := 14) dX12_image_81 fl_X12_350 i_164_14 rfl rfl (by decide) ?_
        exact tz_vret (pc := 84) dX12_image_84 rfl (Nat.le_of_ble_eq_true rfl) (Nat.le_of_ble_eq_true rfl) ⟨Nat.le_refl _, Nat.le_add_right _ _⟩ ⟨rfl, ⟨MI.image hI v_10 f1, MI.imx hI u9 v_10 f1⟩⟩
      · refine tz_aload_n (pc := 59) dX12_image_59 rfl rfl ?_
        refine tz_fR (pc := 60) dX12_image_60 fl_X12_31 r_164_7 ?_
        refine tz_iconst (pc := 63) dX12_image_63 ?_
        refine tz_iload_n (pc := 64) dX12_image_64 rfl rfl ?_
        refine tz_iadd (pc := 65) (v := 4 + k) dX12_image_65 rfl ?_
        refine tz_aload_n (pc := 66) dX12_image_66 rfl rfl ?_
        refine tz_fR (pc := 67) dX12_image_67 fl_X12_31 r_164_7 ?_
        refine tz_iload_n (pc := 70) dX12_image_70 rfl rfl ?_
        refine tz_aL (pc := 71) (z := k) (v := (J1 172 k)) dX12_image_71 a_172 rfl (by omega) rfl (fun r_71 => ?_)
        refine tz_aS (pc := 72) (z := (4 + k)) dX12_image_72 a_172 rfl (by omega) (by omega) ?_
        refine tz_iinc (pc := 73) (z := k + 1) (L2 := [_, _]) dX12_image_73 rfl (by omega) rfl ?_
        refine tz_goto (pc := 76) (tgt := 54) dX12_image_76 (by decide) ?_
        exact ih54 (k + 1) _ (by omega) (by omega) (zOf.up rfl f1)
  exact loop54 _ 0 _ (Nat.lt_succ_self _) (by omega) zOf.rf

set_option maxHeartbeats 4000000 in
set_option maxRecDepth 100000 in
theorem v_qrestore {l : Launch} {G : tb_G} (hl : l.stackTraces = false) (n : Nat) (J : zJ)   (m : Int) (pn : Int) (RR : Int → Int → Int) (Gi : zJ) (ni : Int) (Ri : Int → Int → Int) (hI : MI J m) (u9 : MUr J pn RR) (bi : ¬ J 164 14 = 0 → (MBI J Gi ∧ MUi J ni Ri) ∧ 0 ≤ Gi 165 0 ∧ Gi 165 0 ≤ 400) : tz_Ok l G M_X12_restore 1 0 0 [.ref 164] n J (zqi (fun z J' => (MQr J' J ∧ z = if J 164 14 = 0 then 0 else 1) ∧ MFI J' J ∧ (J 164 14 = 0 → MBT J' (tbz J) ∧ MUr J' pn RR) ∧ (¬ J 164 14 = 0 → MBT J' (gsy (tbz J) Gi) ∧ MUr J' ni Ri))) zN := by
  refine tz_Ok.of hl (by decide +kernel) rfl (tb_c1 rfl) (Nat.le_of_ble_eq_true rfl) ?_
  show tz_At l G M_X12_restore (tb_rm 1 0 0) none (tb_ZM G 0 0 (zQ n 0 (zqi (fun z J' => (MQr J' J ∧ z = if J 164 14 = 0 then 0 else 1) ∧ MFI J' J ∧ (J 164 14 = 0 → MBT J' (tbz J) ∧ MUr J' pn RR) ∧ (¬ J 164 14 = 0 → MBT J' (gsy (tbz J) Gi) ∧ MUr J' ni Ri)))) (zX n 0 zN)) 0 0 n J 0 [some (.ref 164), none] []
  have hT := hI.told
  have hW := hI.row
  have hM := hI.1
  have hL := hI.2.1
  refine tz_aload_n (pc := 0) dX12_restore_0 rfl rfl ?_
  refine tz_iconst (pc := 1) dX12_restore_1 ?_
  refine tz_pI (pc := 2) (kz := 8) dX12_restore_2 fl_X12_68 i_164_8 rfl rfl (by decide) ?_
  refine tz_aload_n (pc := 5) dX12_restore_5 rfl rfl ?_
  refine tz_fI (pc := 6) (kz := 14) (v := (J 164 14)) dX12_restore_6 fl_X12_350 i_164_14 rfl rfl (fun r_6 => ?_)
  refine tz_if_ne (pc := 9) (tgt := 14) dX12_restore_9 (by decide) (by omega) (fun h_9 => ?_) (fun h_9 => ?_)
  · refine tz_aload_n (pc := 14) dX12_restore_14 rfl rfl ?_
    refine tz_sipush (pc := 15) dX12_restore_15 (by decide) ?_
    refine tz_iconst (pc := 18) dX12_restore_18 ?_
    refine tz_cV (pc := 19) (m_moves hl n _ _ _ (by decide) (by decide) (by decide) (by decide)) vl_X12_340 dX12_restore_19 o_164 rfl rfl (Nat.le_of_ble_eq_true rfl) ⟨(Nat.le_of_ble_eq_true rfl), (Nat.le_of_ble_eq_true rfl)⟩ rfl rfl (Nat.le_of_ble_eq_true rfl) (Nat.le_of_ble_eq_true rfl) (fun r9 J_19 hq9 => ?_)
    obtain ⟨rfl, v_19⟩ := hq9
    refine tz_aload_n (pc := 22) dX12_restore_22 rfl rfl ?_
    refine tz_sipush (pc := 23) dX12_restore_23 (by decide) ?_
    refine tz_iconst (pc := 26) dX12_restore_26 ?_
    refine tz_bipush (pc := 27) dX12_restore_27 (by decide) ?_
    refine tz_cV (pc := 29) (zm_copies hl n _ _ _ _ (by decide) (by decide) (by decide) (by omega) (by omega)) vl_X12_343 dX12_restore_29 o_164 rfl rfl (Nat.le_of_ble_eq_true rfl) ⟨(Nat.le_of_ble_eq_true rfl), (Nat.le_of_ble_eq_true rfl)⟩ rfl rfl (Nat.le_of_ble_eq_true rfl) (Nat.le_of_ble_eq_true rfl) (fun r9 J_29 hq9 => ?_)
    obtain ⟨rfl, rfl⟩ := hq9
    refine tz_aload_n (pc := 32) dX12_restore_32 rfl rfl ?_
    refine tz_sipush (pc := 33) dX12_restore_33 (by decide) ?_
    refine tz_sipush (pc := 36) dX12_restore_36 (by decide) ?_
    refine tz_sipush (pc := 39) dX12_restore_39 (by decide) ?_
    refine tz_cV (pc := 42) (zm_copies hl n _ _ _ _ (by decide) (by decide) (by decide) (by omega) (by omega)) vl_X12_343 dX12_restore_42 o_164 rfl rfl (Nat.le_of_ble_eq_true rfl) ⟨(Nat.le_of_ble_eq_true rfl), (Nat.le_of_ble_eq_true rfl)⟩ rfl rfl (Nat.le_of_ble_eq_true rfl) (Nat.le_of_ble_eq_true rfl) (fun r9 J_42 hq9 => ?_)
    obtain ⟨rfl, rfl⟩ := hq9
    refine tz_aload_n (pc := 45) dX12_restore_45 rfl rfl ?_
    refine tz_aload_n (pc := 46) dX12_restore_46 rfl rfl ?_
    refine tz_fI (pc := 47) (kz := 12) (v := (J 164 12)) dX12_restore_47 fl_X12_433 i_164_12 rfl (Eq.trans (congrFun (v_19.1 164 rfl) 12) rfl) (fun r_47 => ?_)
    refine tz_pI (pc := 50) (kz := 10) dX12_restore_50 fl_X12_356 i_164_10 rfl rfl (by omega) ?_
    refine tz_aload_n (pc := 53) dX12_restore_53 rfl rfl ?_
    refine tz_aload_n (pc := 54) dX12_restore_54 rfl rfl ?_
    refine tz_fI (pc := 55) (kz := 13) (v := (J 164 13)) dX12_restore_55 fl_X12_436 i_164_13 rfl (Eq.trans (congrFun (v_19.1 164 rfl) 13) rfl) (fun r_55 => ?_)
    refine tz_pI (pc := 58) (kz := 11) dX12_restore_58 fl_X12_353 i_164_11 rfl rfl (by omega) ?_
    refine tz_iconst (pc := 61) dX12_restore_61 ?_
    refine tz_istore_n (pc := 62) (L2 := [_, _]) dX12_restore_62 rfl (by decide) rfl ?_
    have loop63 : ∀ (f9 : Nat) (k : Int) (J1 : zJ), ((4 - k).toNat) < f9 → (0 ≤ k ∧ k ≤ 4) → (zOf (zbut [172]) J1 (zup (zup (zmv (zmv J_19 165 2709 0 63) 165 2772 189 2520) 164 10 (J 164 12)) 164 11 (J 164 13))) → tz_At l G M_X12_restore (tb_rm 1 0 0) none (tb_ZM G 0 0 (zQ n 0 (zqi (fun z J' => (MQr J' J ∧ z = if J 164 14 = 0 then 0 else 1) ∧ MFI J' J ∧ (J 164 14 = 0 → MBT J' (tbz J) ∧ MUr J' pn RR) ∧ (¬ J 164 14 = 0 → MBT J' (gsy (tbz J) Gi) ∧ MUr J' ni Ri)))) (zX n 0 zN)) 0 0 n J1 63 [some (.ref 164), some (zi k)] [] := by
      intro f9
      induction f9 with
      | zero => intro k J1 hm9; exact absurd hm9 (Nat.not_lt_zero _)
      | succ f9 ih63 =>
        intro k J1 hm63 hk f1
        refine tz_iload_n (pc := 63) dX12_restore_63 rfl rfl ?_
        refine tz_iconst (pc := 64) dX12_restore_64 ?_
        refine tz_icmp_ge (pc := 65) (tgt := 88) dX12_restore_65 (by decide) (by omega) (by decide) (fun h_65 => ?_) (fun h_65 => ?_)
        · refine tz_iconst (pc := 88) dX12_restore_88 ?_
          exact tz_zret (pc := 89) (z := 1) dX12_restore_89 rfl (Or.inr rfl) (Nat.le_of_ble_eq_true rfl) (Nat.le_of_ble_eq_true rfl) ⟨Nat.le_refl _, Nat.le_add_right _ _⟩ ⟨_, rfl, (by decide), (by obtain ⟨x1, x2⟩ := bi (by omega); have y1 := MI.rsx hI v_19 f1 x1.1 x1.2 x2; exact ⟨⟨MI.restore hI (by omega) v_19 f1, by rw [if_neg (by omega)]⟩, y1.2, fun q => absurd q (by omega), fun _ => y1.1⟩)⟩
        · refine tz_aload_n (pc := 68) dX12_restore_68 rfl rfl ?_
          refine tz_fR (pc := 69) dX12_restore_69 fl_X12_31 r_164_7 ?_
          refine tz_iload_n (pc := 72) dX12_restore_72 rfl rfl ?_
          refine tz_aload_n (pc := 73) dX12_restore_73 rfl rfl ?_
          refine tz_fR (pc := 74) dX12_restore_74 fl_X12_31 r_164_7 ?_
          refine tz_iconst (pc := 77) dX12_restore_77 ?_
          refine tz_iload_n (pc := 78) dX12_restore_78 rfl rfl ?_
          refine tz_iadd (pc := 79) (v := 4 + k) dX12_restore_79 rfl ?_
          refine tz_aL (pc := 80) (z := (4 + k)) (v := (J1 172 (4 + k))) dX12_restore_80 a_172 rfl (by omega) rfl (fun r_80 => ?_)
          refine tz_aS (pc := 81) (z := k) dX12_restore_81 a_172 rfl (by omega) (by omega) ?_
          refine tz_iinc (pc := 82) (z := k + 1) (L2 := [_, _]) dX12_restore_82 rfl (by omega) rfl ?_
          refine tz_goto (pc := 85) (tgt := 63) dX12_restore_85 (by decide) ?_
          exact ih63 (k + 1) _ (by omega) (by omega) (zOf.up rfl f1)
    exact loop63 _ 0 _ (Nat.lt_succ_self _) (by omega) zOf.rf
  · refine tz_iconst (pc := 12) dX12_restore_12 ?_
    exact tz_zret (pc := 13) (z := 0) dX12_restore_13 rfl (Or.inl rfl) (Nat.le_of_ble_eq_true rfl) (Nat.le_of_ble_eq_true rfl) ⟨Nat.le_refl _, Nat.le_add_right _ _⟩ ⟨_, rfl, (by decide), ⟨⟨MQr.z hI (MZ.up (k := 8) MZ.rf (by decide)), by rw [if_pos (by omega)]⟩, MFI.z (MZ.up (k := 8) MZ.rf (by decide)), fun _ => ⟨MBT.z hI (MZ.up (k := 8) MZ.rf (by decide)), u9.z (MZ.up (k := 8) MZ.rf (by decide))⟩, fun q => absurd q (by omega)⟩⟩

