section
/-! ===== common of the class, exact ===== -/
def cC (J : zJ) (L : List (Int × Int)) : Prop := J 141 4 = L.length ∧ cLo (J 143) (J 144) 0 L
theorem cC.of {J' J : zJ} {L : List (Int × Int)} (h : cC J L) (e1 : J' 141 = J 141) (e3 : J' 143 = J 143) (e4 : J' 144 = J 144) : cC J' L := by
  unfold cC
  rw [e1, e3, e4]
  exact h
theorem cC.ac {J J' : zJ} {L : List (Int × Int)} {s t z : Int} (c : cC J L) (h : ((∃ i, (0 ≤ i ∧ i < J 141 4) ∧ J 143 i = s ∧ J 144 i = t) ∧ z = 1 ∧ J = J') ∨ ((∀ i, 0 ≤ i → i < J 141 4 → ¬ (J 143 i = s ∧ J 144 i = t)) ∧ ((J 141 4 = 8 ∧ z = 0 ∧ J = J') ∨ (J 141 4 < 8 ∧ z = 1 ∧ zup (zup (zup J 143 (J 141 4) s) 144 (J 141 4) t) 141 4 (J 141 4 + 1) = J')))) : cC J' (cad L s t).1 ∧ (z = 1 ↔ (cad L s t).2 = true) := by
  obtain ⟨c0, c1⟩ := c
  unfold cad
  rcases h with ⟨⟨i, q, q3⟩, hz, rfl⟩ | ⟨hn, h⟩
  · have e : cix L s t < L.length := by
      apply Decidable.byContradiction
      intro e
      -- the least one
      have key : ∀ n : Nat, ∀ i, 0 ≤ i → i < J 141 4 → i < n → (J 143 i = s ∧ J 144 i = t) → False := by
        intro n
        induction n with
        | zero => intro i a b c _; omega
        | succ n ih =>
          intro i a b c d
          by_cases ex : ∃ j, (0 ≤ j ∧ j < i) ∧ (J 143 j = s ∧ J 144 j = t)
          · obtain ⟨j, ⟨j1, j2⟩, j3⟩ := ex
            exact ih j j1 (by omega) (by omega) j3
          · have := cLo_ix L 0 i s t c1 a (by omega) d (fun j x y w => ex ⟨j, ⟨x, y⟩, w⟩)
            omega
      exact key (i + 1).toNat i q.1 q.2 (by omega) q3
    rw [if_pos e]
    exact ⟨⟨c0, c1⟩, fun _ => rfl, fun _ => hz⟩
  · have e := cLo_no L 0 s t c1 (fun i a b => hn i a (by omega))
    rw [if_neg (by omega)]
    rcases h with ⟨h8, hz, rfl⟩ | ⟨h8, hz, rfl⟩
    · rw [if_neg (by omega)]
      exact ⟨⟨c0, c1⟩, fun q => by omega, fun q => Bool.noConfusion q⟩
    · rw [if_pos (by omega)]
      refine ⟨⟨?_, ?_⟩, fun _ => rfl, fun _ => hz⟩
      · show J 141 4 + 1 = _
        rw [List.length_append, List.length_singleton]
        omega
      · have e3 : ∀ i, zup (zup (zup J 143 (J 141 4) s) 144 (J 141 4) t) 141 4 (J 141 4 + 1) 143 i = if i = J 141 4 then s else J 143 i := fun i => rfl
        have e2 : ∀ i, zup (zup (zup J 143 (J 141 4) s) 144 (J 141 4) t) 141 4 (J 141 4 + 1) 144 i = if i = J 141 4 then t else J 144 i := fun i => rfl
        refine cLo_ap L [(s, t)] 0 (cLo_cg L 0 (fun i a b => ?_) c1) ⟨⟨?_, ?_⟩, trivial⟩
        · rw [e3, e2, if_neg (by omega), if_neg (by omega)]
          exact ⟨rfl, rfl⟩
        · rw [e3, if_pos (by omega)]
        · rw [e2, if_pos (by omega)]
theorem co_T {J S : zJ} {m s t i : Int} (E : A0 J S) (hm : J 6 12 = m) (hs : 0 ≤ s ∧ s < m) (ht : 0 ≤ t ∧ t < m) (hi : 0 ≤ i) (h8 : i < J 8 s) (h9 : i < J 8 t) : S 167 (3 * (0 + s) + i) = J 9 (s * 3 + i) ∧ S 167 (3 * (0 + t) + i) = J 9 (t * 3 + i) := by
  have := E.2.1
  exact ⟨(E.2.2.2 s i hs.1 (by omega) hi h8).symm, (E.2.2.2 t i ht.1 (by omega) hi h9).symm⟩
theorem co_h {J S : zJ} {m s : Int} (E : A0 J S) (hm : J 6 12 = m) (hs : 0 ≤ s ∧ s < m) : S 166 (0 + s) = J 7 s := (E.2.2.1 s hs.1 (by have := E.2.1; omega)).1.symm
theorem cp_u {J S : zJ} {m s t : Int} {k : Nat} {L : List (Int × Int)} (E : A0 J S) (hm : J 6 12 = m) (hs : 0 ≤ s ∧ s < m) (ht : 0 ≤ t ∧ t < m) (h : J 7 s < 0 ∨ ¬ J 7 s = J 7 t) : cpO (k + 1) S L s t = cad L s t := by
  rw [cpO_s, co_h E hm hs, co_h E hm ht, if_pos h]
theorem cp_h {J S : zJ} {m s t : Int} {k : Nat} {L : List (Int × Int)} (E : A0 J S) (C : CT J m) (hm : J 6 12 = m) (hs : 0 ≤ s ∧ s < m) (ht : 0 ≤ t ∧ t < m) (h : ¬ J 7 s < 0) (h2 : J 7 s = J 7 t) : cpO (k + 1) S L s t = stg (cT k S s t) L (J 8 s) 3 := by
  have hd := (C.ar hs.1 hs.2).2.2
  rw [cpO_s, co_h E hm hs, co_h E hm ht, if_neg (by omega), E.ar hd.2, (C.2.1 s hs.1 hs.2).1.1]
  rfl
/-- where the couples' walk is, behind i arguments -/
def cSt (k : Nat) (J J1 : zJ) (s t i : Int) : Prop := ∀ S L, A0 J S → cC J L → ∃ L1, stg (cT k S s t) L (J 8 s) i.toNat = (L1, true) ∧ cC J1 L1
theorem cSt.s {k : Nat} {J J1 J2 : zJ} {m s t i z : Int} (h : cSt k J J1 s t i) (hm : J 6 12 = m) (hs : 0 ≤ s ∧ s < m) (ht : 0 ≤ t ∧ t < m) (hi : 0 ≤ i ∧ i < J 8 s) (h9 : i < J 8 t) (q : ∀ S L, A0 J S → cC J1 L → cC J2 (cpO k S L (J 9 (s * 3 + i)) (J 9 (t * 3 + i))).1 ∧ (z = 1 ↔ (cpO k S L (J 9 (s * 3 + i)) (J 9 (t * 3 + i))).2 = true)) {S : zJ} {L : List (Int × Int)} (E : A0 J S) (c : cC J L) : cC J2 (stg (cT k S s t) L (J 8 s) (i + 1).toNat).1 ∧ (z = 1 ↔ (stg (cT k S s t) L (J 8 s) (i + 1).toNat).2 = true) := by
  obtain ⟨L1, e1, c1⟩ := h S L E c
  have e := co_T E hm hs ht hi.1 hi.2 h9
  rw [show (i + 1).toNat = i.toNat + 1 from by omega, stg_s, e1, if_pos ⟨rfl, by omega⟩, show ((i.toNat : Nat) : Int) = i from by omega]
  unfold cT
  rw [e.1, e.2]
  exact q S L1 E c1
theorem cSt.b {k : Nat} {J J1 J2 : zJ} {m s t i z : Int} (h : cSt k J J1 s t i) (hm : J 6 12 = m) (hs : 0 ≤ s ∧ s < m) (ht : 0 ≤ t ∧ t < m) (hi : 0 ≤ i ∧ i < J 8 s) (h9 : i < J 8 t) (q : ∀ S L, A0 J S → cC J1 L → cC J2 (cpO k S L (J 9 (s * 3 + i)) (J 9 (t * 3 + i))).1 ∧ (z = 1 ↔ (cpO k S L (J 9 (s * 3 + i)) (J 9 (t * 3 + i))).2 = true)) (hz : z = 1) : cSt k J J2 s t (i + 1) := fun S L E c => by
  have r := h.s hm hs ht hi h9 q E c
  exact ⟨_, Prod.ext rfl (r.2.1 hz), r.1⟩
theorem cSt.x {k k' : Nat} {J J1 J2 : zJ} {m s t i z : Int} (h : cSt k J J1 s t i) (C : CT J m) (hm : J 6 12 = m) (hs : 0 ≤ s ∧ s < m) (ht : 0 ≤ t ∧ t < m) (hi : 0 ≤ i ∧ i < J 8 s) (h9 : i < J 8 t) (q : ∀ S L, A0 J S → cC J1 L → cC J2 (cpO k S L (J 9 (s * 3 + i)) (J 9 (t * 3 + i))).1 ∧ (z = 1 ↔ (cpO k S L (J 9 (s * 3 + i)) (J 9 (t * 3 + i))).2 = true)) (hz : ¬ z = 1) (h7 : ¬ J 7 s < 0) (h2 : J 7 s = J 7 t) (hk : k' = k + 1) {S : zJ} {L : List (Int × Int)} (E : A0 J S) (c : cC J L) : cC J2 (cpO k' S L s t).1 ∧ ((0 : Int) = 1 ↔ (cpO k' S L s t).2 = true) := by
  have r := h.s hm hs ht hi h9 q E c
  have ha := (C.ar hs.1 hs.2).1
  have f : (stg (cT k S s t) L (J 8 s) (i + 1).toNat).2 = false := Bool.eq_false_iff.2 (fun u => hz (r.2.2 u))
  have e : stg (cT k S s t) L (J 8 s) 3 = stg (cT k S s t) L (J 8 s) (i + 1).toNat := by
    have := stg_e (Or.inl f) (3 - (i + 1).toNat)
    rw [show (i + 1).toNat + (3 - (i + 1).toNat) = 3 from by omega] at this
    exact this
  rw [hk, cp_h E C hm hs ht h7 h2, e]
  exact ⟨r.1, fun u => by omega, fun u => by rw [f] at u; cases u⟩
theorem cSt.e {k k' : Nat} {J J1 : zJ} {m s t i : Int} (h : cSt k J J1 s t i) (C : CT J m) (hm : J 6 12 = m) (hs : 0 ≤ s ∧ s < m) (ht : 0 ≤ t ∧ t < m) (hi : i = J 8 s) (h7 : ¬ J 7 s < 0) (h2 : J 7 s = J 7 t) (hk : k' = k + 1) {S : zJ} {L : List (Int × Int)} (E : A0 J S) (c : cC J L) : cC J1 (cpO k' S L s t).1 ∧ ((1 : Int) = 1 ↔ (cpO k' S L s t).2 = true) := by
  have ha := (C.ar hs.1 hs.2).1
  obtain ⟨L1, e1, c1⟩ := h S L E c
  have e : stg (cT k S s t) L (J 8 s) 3 = stg (cT k S s t) L (J 8 s) i.toNat := by
    have := stg_e (T := cT k S s t) (L := L) (A := J 8 s) (i := i.toNat) (Or.inr (by omega)) (3 - i.toNat)
    rw [show i.toNat + (3 - i.toNat) = 3 from by omega] at this
    exact this
  rw [hk, cp_h E C hm hs ht h7 h2, e, e1]
  exact ⟨c1, fun _ => rfl, fun _ => rfl⟩
set_option maxHeartbeats 4000000 in
set_option maxRecDepth 100000 in
theorem x_couple {l : Launch} {G : tb_G} (hl : l.stackTraces = false) (n : Nat) : ∀ (r9 : Nat) (J : zJ) (s : Int) (t : Int) (lv : Int) (hr_s : -2147483648 ≤ s ∧ s < 2147483648) (hr_t : -2147483648 ≤ t ∧ t < 2147483648) (hr_lv : -2147483648 ≤ lv ∧ lv < 2147483648) (m : Int) (C : CT J m) (hm : J 6 12 = m) (hs : 0 ≤ s ∧ s < m) (ht : 0 ≤ t ∧ t < m) (h0 : 0 ≤ J 141 4 ∧ J 141 4 ≤ 8), ((7 - lv).toNat) < r9 → tz_Ok l G M_X2_couple (2 + 1 * r9) 0 0 [.ref 141, zi s, zi t, zi lv] n J (zqi (fun z J' => (mC J' J ∧ (z = 0 ∨ z = 1) ∧ (z = 1 → cpl J' (7 - lv).toNat s t)) ∧ ∀ S L, A0 J S → cC J L → cC J' (cpO (7 - lv).toNat S L s t).1 ∧ (z = 1 ↔ (cpO (7 - lv).toNat S L s t).2 = true))) zN := by
  intro r9
  induction r9 with
  | zero => intro J s t lv hr_s hr_t hr_lv m C hm hs ht h0 hm9; exact absurd hm9 (Nat.not_lt_zero _)
  | succ r9 ih =>
    intro J s t lv hr_s hr_t hr_lv m C hm hs ht h0 hm9
    refine tz_Ok.of hl (by decide +kernel) rfl (tb_c1 rfl) (Nat.le_of_ble_eq_true rfl) ?_
    show tz_At l G M_X2_couple (tb_rm (2 + 1 * (r9 + 1)) 0 0) none (tb_ZM G 0 0 (zQ n 0 (zqi (fun z J' => (mC J' J ∧ (z = 0 ∨ z = 1) ∧ (z = 1 → cpl J' (7 - lv).toNat s t)) ∧ ∀ S L, A0 J S → cC J L → cC J' (cpO (7 - lv).toNat S L s t).1 ∧ (z = 1 ↔ (cpO (7 - lv).toNat S L s t).2 = true)))) (zX n 0 zN)) 0 0 n J 0 [some (.ref 141), some (zi s), some (zi t), some (zi lv), none] []
    have hb := C.told
    have ha := C.ar hs.1 hs.2
    have ha2 := C.ar ht.1 ht.2
    refine tz_iload_n (pc := 0) dX2_couple_0 rfl rfl ?_
    refine tz_bipush (pc := 1) dX2_couple_1 (by decide) ?_
    refine tz_icmp_le (pc := 3) (tgt := 8) dX2_couple_3 (by decide) (by omega) (by decide) (fun h_3 => ?_) (fun h_3 => ?_)
    · refine tz_aload_n (pc := 8) dX2_couple_8 rfl rfl ?_
      refine tz_fR (pc := 9) dX2_couple_9 fl_X2_28 r_141_0 ?_
      refine tz_iload_n (pc := 12) dX2_couple_12 rfl rfl ?_
      refine tz_cV (pc := 13) (c_isVar hl n _ _ (by omega) (by omega)) vl_X2_36 dX2_couple_13 o_6 rfl rfl (Nat.le_of_ble_eq_true rfl) ⟨(show 0 + 1 ≤ 2 + 1 * (r9 + 1) by omega), (show 8 + (2 + 11) + 40 * (0) ≤ 40 * (2 + 1 * (r9 + 1)) by omega)⟩ rfl rfl (Nat.le_of_ble_eq_true rfl) (Nat.le_of_ble_eq_true rfl) (fun r9 J_13 hq9 => ?_)
      obtain ⟨z_13, rfl, hz_13, rfl, rfl⟩ := hq9
      by_cases hw_16 : J 7 s < 0
      · rw [show (if J 7 s < 0 then 1 else 0 : Int) = 1 from if_pos hw_16]
        refine tz_if_neT (pc := 16) (tgt := 40) (by decide) dX2_couple_16 (by decide) (by decide) ?_
        refine tz_aload_n (pc := 40) dX2_couple_40 rfl rfl ?_
        refine tz_iload_n (pc := 41) dX2_couple_41 rfl rfl ?_
        refine tz_iload_n (pc := 42) dX2_couple_42 rfl rfl ?_
        have kk9 : (7 - lv).toNat = (6 - lv).toNat + 1 := by omega
        have uu9 : J 7 s < 0 ∨ ¬ J 7 s = J 7 t := by omega
        have ll9 : 1 ≤ 7 - lv := by omega
        refine tz_cV (pc := 43) (c_addCouple hl n _ _ _ (by omega) (by omega) h0) vl_X2_89 dX2_couple_43 o_141 rfl rfl (Nat.le_of_ble_eq_true rfl) ⟨(show 1 + 1 ≤ 2 + 1 * (r9 + 1) by omega), (show 8 + (3 + 11) + 40 * (1) ≤ 40 * (2 + 1 * (r9 + 1)) by omega)⟩ rfl rfl (Nat.le_of_ble_eq_true rfl) (Nat.le_of_ble_eq_true rfl) (fun r9 J_43 hq9 => ?_)
        obtain ⟨z_43, rfl, hz_43, p_43⟩ := hq9
        obtain ⟨a9, b9, c9⟩ := mC.ac h0 p_43
        exact tz_zret (pc := 46) (z := z_43) dX2_couple_46 rfl (by omega) (Nat.le_of_ble_eq_true rfl) (Nat.le_of_ble_eq_true rfl) ⟨Nat.le_refl _, Nat.le_add_right _ _⟩ ⟨_, rfl, (by omega), (by exact ⟨⟨a9, b9, fun e => cpl.s ll9 (Or.inl (c9 e))⟩, fun S L E c => by rw [kk9, cp_u E hm hs ht uu9]; exact c.ac p_43⟩)⟩
      · rw [show (if J 7 s < 0 then 1 else 0 : Int) = 0 from if_neg hw_16]
        refine tz_if_neF (pc := 16) (tgt := 40) (by decide) dX2_couple_16 (by decide) (by decide) ?_
        refine tz_aload_n (pc := 19) dX2_couple_19 rfl rfl ?_
        refine tz_fR (pc := 20) dX2_couple_20 fl_X2_28 r_141_0 ?_
        refine tz_fR (pc := 23) dX2_couple_23 fl_X2_42 r_6_1 ?_
        refine tz_iload_n (pc := 26) dX2_couple_26 rfl rfl ?_
        refine tz_aL (pc := 27) (z := s) (v := (J 7 s)) dX2_couple_27 a_7 rfl (by omega) rfl (fun r_27 => ?_)
        refine tz_aload_n (pc := 28) dX2_couple_28 rfl rfl ?_
        refine tz_fR (pc := 29) dX2_couple_29 fl_X2_28 r_141_0 ?_
        refine tz_fR (pc := 32) dX2_couple_32 fl_X2_42 r_6_1 ?_
        refine tz_iload_n (pc := 35) dX2_couple_35 rfl rfl ?_
        refine tz_aL (pc := 36) (z := t) (v := (J 7 t)) dX2_couple_36 a_7 rfl (by omega) rfl (fun r_36 => ?_)
        refine tz_icmp_eq (pc := 37) (tgt := 47) dX2_couple_37 (by decide) (by omega) (by omega) (fun h_37 => ?_) (fun h_37 => ?_)
        · refine tz_iconst (pc := 47) dX2_couple_47 ?_
          refine tz_istore (pc := 48) (L2 := [_, _, _, _, _]) dX2_couple_48 (by decide) rfl ?_
          have loop50 : ∀ (f9 : Nat) (i : Int) (J1 : zJ), ((3 - i).toNat) < f9 → (0 ≤ i ∧ i ≤ J 8 s) → (mC J1 J) → (∀ q, 0 ≤ q → q < i → cpl J1 (6 - lv).toNat (J 9 (s * 3 + q)) (J 9 (t * 3 + q))) → (cSt (6 - lv).toNat J J1 s t i) → tz_At l G M_X2_couple (tb_rm (2 + 1 * (r9 + 1)) 0 0) none (tb_ZM G 0 0 (zQ n 0 (zqi (fun z J' => (mC J' J ∧ (z = 0 ∨ z = 1) ∧ (z = 1 → cpl J' (7 - lv).toNat s t)) ∧ ∀ S L, A0 J S → cC J L → cC J' (cpO (7 - lv).toNat S L s t).1 ∧ (z = 1 ↔ (cpO (7 - lv).toNat S L s t).2 = true)))) (zX n 0 zN)) 0 0 n J1 50 [some (.ref 141), some (zi s), some (zi t), some (zi lv), some (zi i)] [] := by
            intro f9
            induction f9 with
            | zero => intro i J1 hm9; exact absurd hm9 (Nat.not_lt_zero _)
            | succ f9 ih50 =>
              intro i J1 hm50 hi fr hq hst
              have he := C.arh hs ht (by omega)
              have e9 := fr.2.1 9 rfl
              have e7 := fr.2.1 7 rfl
              have e8 := fr.2.1 8 rfl
              refine tz_iload (pc := 50) dX2_couple_50 rfl ?_
              refine tz_aload_n (pc := 52) dX2_couple_52 rfl rfl ?_
              refine tz_fR (pc := 53) dX2_couple_53 fl_X2_28 r_141_0 ?_
              refine tz_fR (pc := 56) dX2_couple_56 fl_X2_45 r_6_2 ?_
              refine tz_iload_n (pc := 59) dX2_couple_59 rfl rfl ?_
              refine tz_aL (pc := 60) (z := s) (v := (J 8 s)) dX2_couple_60 a_8 rfl (by omega) (Eq.trans (congrFun (fr.2.1 8 rfl) s) rfl) (fun r_60 => ?_)
              refine tz_icmp_ge (pc := 61) (tgt := 102) dX2_couple_61 (by decide) (by omega) (by omega) (fun h_61 => ?_) (fun h_61 => ?_)
              · refine tz_iconst (pc := 102) dX2_couple_102 ?_
                exact tz_zret (pc := 103) (z := 1) dX2_couple_103 rfl (Or.inr rfl) (Nat.le_of_ble_eq_true rfl) (Nat.le_of_ble_eq_true rfl) ⟨Nat.le_refl _, Nat.le_add_right _ _⟩ ⟨_, rfl, (by decide), (by first | exact ⟨⟨⟨h0, zOf.rf, fun _ _ q => q⟩, Or.inl rfl, fun e => by omega⟩, fun S L E c => by rw [show (7 - lv).toNat = 0 from by omega]; exact ⟨c, fun u => by omega, fun u => Bool.noConfusion u⟩⟩ | exact ⟨⟨a9, b9, fun e => cpl.s ll9 (Or.inl (c9 e))⟩, fun S L E c => by rw [kk9, cp_u E hm hs ht uu9]; exact c.ac p_43⟩ | exact ⟨⟨fr, Or.inr rfl, fun _ => cpl.s (by omega) (Or.inr ⟨by rw [e7]; omega, by rw [e7]; omega, fun q a b => by rw [e8] at b; rw [e9, show 7 - lv - 1 = 6 - lv by omega]; exact hq q a (by omega)⟩)⟩, fun S L E c => hst.e C hm hs ht (by omega) (by omega) (by omega) (by omega) E c⟩ | exact ⟨⟨f2.tr fr, Or.inl rfl, fun e => by omega⟩, fun S L E c => hst.x C hm hs ht (by omega) (by omega) y2 (by omega) (by omega) (by omega) (by omega) E c⟩)⟩
              · refine tz_aload_n (pc := 64) dX2_couple_64 rfl rfl ?_
                refine tz_aload_n (pc := 65) dX2_couple_65 rfl rfl ?_
                refine tz_fR (pc := 66) dX2_couple_66 fl_X2_28 r_141_0 ?_
                refine tz_iload_n (pc := 69) dX2_couple_69 rfl rfl ?_
                refine tz_iload (pc := 70) dX2_couple_70 rfl ?_
                refine tz_cV (pc := 72) (c_arg hl n _ _ _ (by omega) (by omega) (by omega)) vl_X2_48 dX2_couple_72 o_6 rfl rfl (Nat.le_of_ble_eq_true rfl) ⟨(show 0 + 1 ≤ 2 + 1 * (r9 + 1) by omega), (show 8 + (3 + 11) + 40 * (0) ≤ 40 * (2 + 1 * (r9 + 1)) by omega)⟩ rfl rfl (Nat.le_of_ble_eq_true rfl) (Nat.le_of_ble_eq_true rfl) (fun r9 J_72 hq9 => ?_)
                obtain ⟨z_72, rfl, hz_72, rfl, rfl⟩ := hq9
                refine tz_aload_n (pc := 75) dX2_couple_75 rfl rfl ?_
                refine tz_fR (pc := 76) dX2_couple_76 fl_X2_28 r_141_0 ?_
                refine tz_iload_n (pc := 79) dX2_couple_79 rfl rfl ?_
                refine tz_iload (pc := 80) dX2_couple_80 rfl ?_
                refine tz_cV (pc := 82) (c_arg hl n _ _ _ (by omega) (by omega) (by omega)) vl_X2_48 dX2_couple_82 o_6 rfl rfl (Nat.le_of_ble_eq_true rfl) ⟨(show 0 + 1 ≤ 2 + 1 * (r9 + 1) by omega), (show 8 + (3 + 11) + 40 * (0) ≤ 40 * (2 + 1 * (r9 + 1)) by omega)⟩ rfl rfl (Nat.le_of_ble_eq_true rfl) (Nat.le_of_ble_eq_true rfl) (fun r9 J_82 hq9 => ?_)
                obtain ⟨z_82, rfl, hz_82, rfl, rfl⟩ := hq9
                refine tz_iload_n (pc := 85) dX2_couple_85 rfl rfl ?_
                refine tz_iconst (pc := 86) dX2_couple_86 ?_
                refine tz_iadd (pc := 87) (v := lv + 1) dX2_couple_87 rfl ?_
                have g1 := (C.arg (t := s) (i := i) (by omega) (by omega) (by omega) (by omega)).1
                have g2 := (C.arg (t := t) (i := i) (by omega) (by omega) (by omega) (by omega)).1
                rw [← e9] at g1 g2
                refine tz_cV (pc := 88) (ih _ _ _ _ (by omega) (by omega) (by omega) m (C.of (fun c hc => fr.2.1 c (by simp [zbut]; omega))) (by rw [fr.2.1 6 rfl]; exact hm) (by omega) (by omega) fr.1 (by omega)) vl_X2_85 dX2_couple_88 o_141 rfl rfl (Nat.le_of_ble_eq_true rfl) ⟨(show (2 + 1 * r9) + 1 ≤ 2 + 1 * (r9 + 1) by omega), (show 8 + (5 + 11) + 40 * ((2 + 1 * r9)) ≤ 40 * (2 + 1 * (r9 + 1)) by omega)⟩ rfl rfl (Nat.le_of_ble_eq_true rfl) (Nat.le_of_ble_eq_true rfl) (fun r9 J2 hq9 => ?_)
                obtain ⟨z2, rfl, hz_88, ⟨f2, hz2, hc2⟩, x2⟩ := hq9
                have y2 : ∀ S L, A0 J S → cC J1 L → cC J2 (cpO (6 - lv).toNat S L (J 9 (s * 3 + i)) (J 9 (t * 3 + i))).1 ∧ (z2 = 1 ↔ (cpO (6 - lv).toNat S L (J 9 (s * 3 + i)) (J 9 (t * 3 + i))).2 = true) := fun S L E c => by rw [show (6 - lv).toNat = (7 - (lv + 1)).toNat from by omega, ← e9]; exact x2 S L (E.f (fun c hc => fr.2.1 c (by simp [zbut]; omega))) c
                refine tz_if_ne (pc := 91) (tgt := 96) dX2_couple_91 (by decide) (by omega) (fun h_91 => ?_) (fun h_91 => ?_)
                · refine tz_iinc (pc := 96) (z := i + 1) (L2 := [_, _, _, _, _]) dX2_couple_96 rfl (by omega) rfl ?_
                  refine tz_goto (pc := 99) (tgt := 50) dX2_couple_99 (by decide) ?_
                  exact ih50 (i + 1) _ (by omega) (by omega) (f2.tr fr) (fun q a b => (Decidable.em (q = i)).elim (fun e => by rw [e, ← e9]; have := hc2 (by omega); rw [show 6 - lv = 7 - (lv + 1) by omega]; exact this) (fun e => f2.cpl (C.of (fun c hc => fr.2.1 c (by simp [zbut]; omega))) (by have := C.arg (t := s) (i := q) (by omega) (by omega) a (by omega); omega) (by have := C.arg (t := t) (i := q) (by omega) (by omega) a (by omega); omega) (hq q a (by omega)))) (hst.b hm hs ht (by omega) (by omega) y2 (by omega))
                · refine tz_iconst (pc := 94) dX2_couple_94 ?_
                  exact tz_zret (pc := 95) (z := 0) dX2_couple_95 rfl (Or.inl rfl) (Nat.le_of_ble_eq_true rfl) (Nat.le_of_ble_eq_true rfl) ⟨Nat.le_refl _, Nat.le_add_right _ _⟩ ⟨_, rfl, (by decide), (by first | exact ⟨⟨⟨h0, zOf.rf, fun _ _ q => q⟩, Or.inl rfl, fun e => by omega⟩, fun S L E c => by rw [show (7 - lv).toNat = 0 from by omega]; exact ⟨c, fun u => by omega, fun u => Bool.noConfusion u⟩⟩ | exact ⟨⟨a9, b9, fun e => cpl.s ll9 (Or.inl (c9 e))⟩, fun S L E c => by rw [kk9, cp_u E hm hs ht uu9]; exact c.ac p_43⟩ | exact ⟨⟨fr, Or.inr rfl, fun _ => cpl.s (by omega) (Or.inr ⟨by rw [e7]; omega, by rw [e7]; omega, fun q a b => by rw [e8] at b; rw [e9, show 7 - lv - 1 = 6 - lv by omega]; exact hq q a (by omega)⟩)⟩, fun S L E c => hst.e C hm hs ht (by omega) (by omega) (by omega) (by omega) E c⟩ | exact ⟨⟨f2.tr fr, Or.inl rfl, fun e => by omega⟩, fun S L E c => hst.x C hm hs ht (by omega) (by omega) y2 (by omega) (by omega) (by omega) (by omega) E c⟩)⟩
          exact loop50 _ 0 _ (Nat.lt_succ_self _) (by omega) ⟨h0, zOf.rf, fun _ _ q => q⟩ (fun q a b => by omega) (fun S L E c => ⟨L, rfl, c⟩)
        · refine tz_aload_n (pc := 40) dX2_couple_40 rfl rfl ?_
          refine tz_iload_n (pc := 41) dX2_couple_41 rfl rfl ?_
          refine tz_iload_n (pc := 42) dX2_couple_42 rfl rfl ?_
          have kk9 : (7 - lv).toNat = (6 - lv).toNat + 1 := by omega
          have uu9 : J 7 s < 0 ∨ ¬ J 7 s = J 7 t := by omega
          have ll9 : 1 ≤ 7 - lv := by omega
          refine tz_cV (pc := 43) (c_addCouple hl n _ _ _ (by omega) (by omega) h0) vl_X2_89 dX2_couple_43 o_141 rfl rfl (Nat.le_of_ble_eq_true rfl) ⟨(show 1 + 1 ≤ 2 + 1 * (r9 + 1) by omega), (show 8 + (3 + 11) + 40 * (1) ≤ 40 * (2 + 1 * (r9 + 1)) by omega)⟩ rfl rfl (Nat.le_of_ble_eq_true rfl) (Nat.le_of_ble_eq_true rfl) (fun r9 J_43 hq9 => ?_)
          obtain ⟨z_43, rfl, hz_43, p_43⟩ := hq9
          obtain ⟨a9, b9, c9⟩ := mC.ac h0 p_43
          exact tz_zret (pc := 46) (z := z_43) dX2_couple_46 rfl (by omega) (Nat.le_of_ble_eq_true rfl) (Nat.le_of_ble_eq_true rfl) ⟨Nat.le_refl _, Nat.le_add_right _ _⟩ ⟨_, rfl, (by omega), (by exact ⟨⟨a9, b9, fun e => cpl.s ll9 (Or.inl (c9 e))⟩, fun S L E c => by rw [kk9, cp_u E hm hs ht uu9]; exact c.ac p_43⟩)⟩
    · refine tz_iconst (pc := 6) dX2_couple_6 ?_
      exact tz_zret (pc := 7) (z := 0) dX2_couple_7 rfl (Or.inl rfl) (Nat.le_of_ble_eq_true rfl) (Nat.le_of_ble_eq_true rfl) ⟨Nat.le_refl _, Nat.le_add_right _ _⟩ ⟨_, rfl, (by decide), (by first | exact ⟨⟨⟨h0, zOf.rf, fun _ _ q => q⟩, Or.inl rfl, fun e => by omega⟩, fun S L E c => by rw [show (7 - lv).toNat = 0 from by omega]; exact ⟨c, fun u => by omega, fun u => Bool.noConfusion u⟩⟩ | exact ⟨⟨a9, b9, fun e => cpl.s ll9 (Or.inl (c9 e))⟩, fun S L E c => by rw [kk9, cp_u E hm hs ht uu9]; exact c.ac p_43⟩ | exact ⟨⟨fr, Or.inr rfl, fun _ => cpl.s (by omega) (Or.inr ⟨by rw [e7]; omega, by rw [e7]; omega, fun q a b => by rw [e8] at b; rw [e9, show 7 - lv - 1 = 6 - lv by omega]; exact hq q a (by omega)⟩)⟩, fun S L E c => hst.e C hm hs ht (by omega) (by omega) (by omega) (by omega) E c⟩ | exact ⟨⟨f2.tr fr, Or.inl rfl, fun e => by omega⟩, fun S L E c => hst.x C hm hs ht (by omega) (by omega) y2 (by omega) (by omega) (by omega) (by omega) E c⟩)⟩

set_option maxHeartbeats 4000000 in
set_option maxRecDepth 100000 in
theorem x_haveCommon {l : Launch} {G : tb_G} (hl : l.stackTraces = false) (n : Nat) (J : zJ) (s : Int) (t : Int) (hr_s : -2147483648 ≤ s ∧ s < 2147483648) (hr_t : -2147483648 ≤ t ∧ t < 2147483648) (m : Int) (C : CT J m) (hm : J 6 12 = m) (hs : 0 ≤ s ∧ s < m) (ht : 0 ≤ t ∧ t < m) : tz_Ok l G M_X2_haveCommon 10 0 0 [.ref 141, zi s, zi t] n J (zqi (fun z J' => (zOf (zbut [141, 143, 144]) J' J ∧ (0 ≤ J' 141 4 ∧ J' 141 4 ≤ 8) ∧ (z = 0 ∨ z = 1) ∧ (z = 1 → cpl J' 6 s t)) ∧ ∀ S, A0 J S → cC J' (cpO 6 S [] s t).1 ∧ (z = 1 ↔ (cpO 6 S [] s t).2 = true))) zN := by
  refine tz_Ok.of hl (by decide +kernel) rfl (tb_c1 rfl) (Nat.le_of_ble_eq_true rfl) ?_
  show tz_At l G M_X2_haveCommon (tb_rm 10 0 0) none (tb_ZM G 0 0 (zQ n 0 (zqi (fun z J' => (zOf (zbut [141, 143, 144]) J' J ∧ (0 ≤ J' 141 4 ∧ J' 141 4 ≤ 8) ∧ (z = 0 ∨ z = 1) ∧ (z = 1 → cpl J' 6 s t)) ∧ ∀ S, A0 J S → cC J' (cpO 6 S [] s t).1 ∧ (z = 1 ↔ (cpO 6 S [] s t).2 = true)))) (zX n 0 zN)) 0 0 n J 0 [some (.ref 141), some (zi s), some (zi t)] []
  refine tz_aload_n (pc := 0) dX2_haveCommon_0 rfl rfl ?_
  refine tz_iconst (pc := 1) dX2_haveCommon_1 ?_
  refine tz_pI (pc := 2) (kz := 4) dX2_haveCommon_2 fl_X2_21 i_141_4 rfl rfl (by decide) ?_
  refine tz_aload_n (pc := 5) dX2_haveCommon_5 rfl rfl ?_
  refine tz_iload_n (pc := 6) dX2_haveCommon_6 rfl rfl ?_
  refine tz_iload_n (pc := 7) dX2_haveCommon_7 rfl rfl ?_
  refine tz_iconst (pc := 8) dX2_haveCommon_8 ?_
  refine tz_cV (pc := 9) (x_couple hl n 7 _ _ _ 1 (by omega) (by omega) (by omega) m (C.of (fun c hc => zup_nc (by omega))) hm hs ht ⟨Int.le_refl 0, (by decide : (0 : Int) ≤ 8)⟩ (by decide)) vl_X2_85 dX2_haveCommon_9 o_141 rfl rfl (Nat.le_of_ble_eq_true rfl) ⟨(Nat.le_of_ble_eq_true rfl), (Nat.le_of_ble_eq_true rfl)⟩ rfl rfl (Nat.le_of_ble_eq_true rfl) (Nat.le_of_ble_eq_true rfl) (fun r9 J_9 hq9 => ?_)
  obtain ⟨z_9, rfl, hz_9, ⟨a1, a2, a3⟩, x1⟩ := hq9
  exact tz_zret (pc := 12) (z := z_9) dX2_haveCommon_12 rfl (by omega) (Nat.le_of_ble_eq_true rfl) (Nat.le_of_ble_eq_true rfl) ⟨Nat.le_refl _, Nat.le_add_right _ _⟩ ⟨_, rfl, (by omega), ⟨⟨a1.2.1.tr (zOf.up rfl zOf.rf), a1.1, a2, a3⟩, fun S E => x1 S [] (E.f (fun c hc => zup_nc (by omega))) ⟨rfl, trivial⟩⟩⟩

/-- all couples are unlike ones, or variables (of the class's table) -/
def cokJ (J : zJ) (m : Int) (L : List (Int × Int)) : Prop := ∀ p, p ∈ L → (0 ≤ p.1 ∧ p.1 < m) ∧ (0 ≤ p.2 ∧ p.2 < m) ∧ (J 7 p.1 < 0 ∨ ¬ J 7 p.1 = J 7 p.2)
theorem cokJ.gx {X : List Nat} {J' J : zJ} {m m' : Int} {L : List (Int × Int)} (h : cokJ J m L) (g : GX X J' J m m') : cokJ J' m' L := fun p hp => by
  obtain ⟨a, b, c⟩ := h p hp
  have e1 := (g.2.2.2.1.1 p.1 a.1 a.2).1
  have e2 := (g.2.2.2.1.1 p.2 b.1 b.2).1
  have := g.1
  rw [e1, e2]
  exact ⟨⟨a.1, by omega⟩, ⟨b.1, by omega⟩, c⟩
theorem co_v {J J' S : zJ} {L : List (Int × Int)} {k : Nat} {m s t z q : Int} (hG : S 164 21 = 0) (E : A0 J S) (C : CT J m) (hm : J 6 12 = m) (hs : 0 ≤ s ∧ s < m) (ht : 0 ≤ t ∧ t < m) (hL : cC J L) (h0 : J 141 4 ≤ 8) (hk : cokJ J m L) (c : 0 ≤ q ∧ q < J 141 4 ∧ (J 143 q = s ∧ J 144 q = t) ∧ ∀ i, 0 ≤ i → i < q → ¬ (J 143 i = s ∧ J 144 i = t)) (p : madeP J m (-1 - q) (-1) (-1) (-1) z J') : EXO (coO L (k + 1) S s t) z J' := by
  obtain ⟨c1, c2, c3, c4⟩ := c
  have t0 := C.told
  have e := cLo_ix L 0 q s t hL.2 c1 (by have := hL.1; omega) c3 c4
  have e0 := hL.1
  have u := (hk (s, t) (cix_mem L s t (by omega))).2.2
  rw [coO_s, if_pos hG, co_h E hm hs, co_h E hm ht, if_pos u, e, show q - 0 = q from by omega]
  have ar : arh (J 3) (-1 - q) = 0 := by unfold arh; rw [if_pos (by omega)]
  have := E.made (x := 0) (y := 0) (w := 0) hG C hm (h := -1 - q) ⟨by omega, by omega⟩ ⟨fun q => by omega, fun q => by omega, fun q => by omega⟩ ⟨fun q => by omega, fun q => by omega, fun q => by omega⟩ p
  exact this.imp (fun u => ⟨u.1.2, u.2⟩) id
theorem co_c {J S J' : zJ} {L : List (Int × Int)} {k : Nat} {m s t z : Int} (hG : S 164 21 = 0) (E : A0 J S) (hm : J 6 12 = m) (hs : 0 ≤ s ∧ s < m) (ht : 0 ≤ t ∧ t < m) (h7 : 0 ≤ J 7 s ∧ J 7 s = J 7 t) (e : EXO (gR (fun H i => coO L k H (H 167 (3 * (0 + s) + i)) (H 167 (3 * (0 + t) + i))) S (J 7 s)) z J') : EXO (coO L (k + 1) S s t) z J' := by
  rw [coO_s, if_pos hG, co_h E hm hs, co_h E hm ht, if_neg (by omega)]
  exact e
set_option maxHeartbeats 4000000 in
set_option maxRecDepth 100000 in
theorem x_commonP {l : Launch} {G : tb_G} (hl : l.stackTraces = false) (n : Nat) : ∀ (r9 : Nat) (J : zJ) (s : Int) (t : Int) (lv : Int) (hr_s : -2147483648 ≤ s ∧ s < 2147483648) (hr_t : -2147483648 ≤ t ∧ t < 2147483648) (hr_lv : -2147483648 ≤ lv ∧ lv < 2147483648) (m : Int) (L : List (Int × Int)) (C : CT J m) (hm : J 6 12 = m) (hs : 0 ≤ s ∧ s < m) (ht : 0 ≤ t ∧ t < m) (h0 : 0 ≤ J 141 4 ∧ J 141 4 ≤ 8) (hc : cpl J (7 - lv).toNat s t) (hL : cC J L) (hk : cokJ J m L), ((7 - lv).toNat) < r9 → tz_Ok l G M_X2_commonPart (4 + 1 * r9) 0 0 [.ref 141, zi s, zi t, zi lv] n J (zqi (fun z J' => ∃ m', GX [] J' J m m' ∧ (z = -3 ∨ (0 ≤ z ∧ z < m')) ∧ ∀ S, S 164 21 = 0 → A0 J S → EXO (coO L (7 - lv).toNat S s t) z J')) zN := by
  intro r9
  induction r9 with
  | zero => intro J s t lv hr_s hr_t hr_lv m L C hm hs ht h0 hc hL hk hm9; exact absurd hm9 (Nat.not_lt_zero _)
  | succ r9 ih =>
    intro J s t lv hr_s hr_t hr_lv m L C hm hs ht h0 hc hL hk hm9
    refine tz_Ok.of hl (by decide +kernel) rfl (tb_c1 rfl) (Nat.le_of_ble_eq_true rfl) ?_
    show tz_At l G M_X2_commonPart (tb_rm (4 + 1 * (r9 + 1)) 0 0) none (tb_ZM G 0 0 (zQ n 0 (zqi (fun z J' => ∃ m', GX [] J' J m m' ∧ (z = -3 ∨ (0 ≤ z ∧ z < m')) ∧ ∀ S, S 164 21 = 0 → A0 J S → EXO (coO L (7 - lv).toNat S s t) z J'))) (zX n 0 zN)) 0 0 n J 0 [some (.ref 141), some (zi s), some (zi t), some (zi lv), none, none, none, none, none] []
    have hb := C.told
    have ha := C.ar hs.1 hs.2
    have ha2 := C.ar ht.1 ht.2
    have g0 : GX [] J J m m := GX.rf C hm
    refine tz_iload_n (pc := 0) dX2_commonPart_0 rfl rfl ?_
    refine tz_bipush (pc := 1) dX2_commonPart_1 (by decide) ?_
    refine tz_icmp_le (pc := 3) (tgt := 9) dX2_commonPart_3 (by decide) (by omega) (by decide) (fun h_3 => ?_) (fun h_3 => ?_)
    · refine tz_aload_n (pc := 9) dX2_commonPart_9 rfl rfl ?_
      refine tz_iload_n (pc := 10) dX2_commonPart_10 rfl rfl ?_
      refine tz_iload_n (pc := 11) dX2_commonPart_11 rfl rfl ?_
      refine tz_cV (pc := 12) (c_coupleOf hl n _ _ _ (by omega) (by omega) h0) vl_X2_93 dX2_commonPart_12 o_141 rfl rfl (Nat.le_of_ble_eq_true rfl) ⟨(show 0 + 1 ≤ 4 + 1 * (r9 + 1) by omega), (show 8 + (4 + 11) + 40 * (0) ≤ 40 * (4 + 1 * (r9 + 1)) by omega)⟩ rfl rfl (Nat.le_of_ble_eq_true rfl) (Nat.le_of_ble_eq_true rfl) (fun r9 J_12 hq9 => ?_)
      obtain ⟨z9, rfl, hz_12, rfl, p_9⟩ := hq9
      refine tz_istore (pc := 15) (L2 := [_, _, _, _, _, _, _, _, _]) dX2_commonPart_15 (by decide) rfl ?_
      refine tz_iload (pc := 17) dX2_commonPart_17 rfl ?_
      refine tz_iconst (pc := 19) dX2_commonPart_19 ?_
      refine tz_icmp_eq (pc := 20) (tgt := 33) dX2_commonPart_20 (by decide) (by omega) (by decide) (fun h_20 => ?_) (fun h_20 => ?_)
      · have hx := cpl.nx (by omega) hc (fun q => by obtain ⟨i, q1, q2⟩ := q; rcases p_9 with p_9 | p_9 <;> first | omega | exact p_9.2 i q1.1 q1.2 q2)
        have hn := hx.2.2
        rw [show 7 - lv - 1 = 6 - lv by omega] at hn
        have he := C.arh hs ht hx.2.1
        refine tz_aload_n (pc := 33) dX2_commonPart_33 rfl rfl ?_
        refine tz_fR (pc := 34) dX2_commonPart_34 fl_X2_28 r_141_0 ?_
        refine tz_fR (pc := 37) dX2_commonPart_37 fl_X2_45 r_6_2 ?_
        refine tz_iload_n (pc := 40) dX2_commonPart_40 rfl rfl ?_
        refine tz_aL (pc := 41) (z := s) (v := (J 8 s)) dX2_commonPart_41 a_8 rfl (by omega) rfl (fun r_41 => ?_)
        refine tz_istore (pc := 42) (L2 := [_, _, _, _, _, _, _, _, _]) dX2_commonPart_42 (by decide) rfl ?_
        refine tz_iload (pc := 44) dX2_commonPart_44 rfl ?_
        refine tz_iconst (pc := 46) dX2_commonPart_46 ?_
        refine tz_icmp_ge (pc := 47) (tgt := 54) dX2_commonPart_47 (by decide) (by omega) (by decide) (fun h_47 => ?_) (fun h_47 => ?_)
        · refine tz_aload_n (pc := 54) dX2_commonPart_54 rfl rfl ?_
          refine tz_aload_n (pc := 55) dX2_commonPart_55 rfl rfl ?_
          refine tz_fR (pc := 56) dX2_commonPart_56 fl_X2_28 r_141_0 ?_
          refine tz_iload_n (pc := 59) dX2_commonPart_59 rfl rfl ?_
          refine tz_iconst (pc := 60) dX2_commonPart_60 ?_
          refine tz_cV (pc := 61) (c_arg hl n _ _ _ (by omega) (by decide) (by omega)) vl_X2_48 dX2_commonPart_61 o_6 rfl rfl (Nat.le_of_ble_eq_true rfl) ⟨(show 0 + 1 ≤ 4 + 1 * (r9 + 1) by omega), (show 8 + (3 + 11) + 40 * (0) ≤ 40 * (4 + 1 * (r9 + 1)) by omega)⟩ rfl rfl (Nat.le_of_ble_eq_true rfl) (Nat.le_of_ble_eq_true rfl) (fun r9 J_61 hq9 => ?_)
          obtain ⟨z_61, rfl, hz_61, rfl, rfl⟩ := hq9
          refine tz_aload_n (pc := 64) dX2_commonPart_64 rfl rfl ?_
          refine tz_fR (pc := 65) dX2_commonPart_65 fl_X2_28 r_141_0 ?_
          refine tz_iload_n (pc := 68) dX2_commonPart_68 rfl rfl ?_
          refine tz_iconst (pc := 69) dX2_commonPart_69 ?_
          refine tz_cV (pc := 70) (c_arg hl n _ _ _ (by omega) (by decide) (by omega)) vl_X2_48 dX2_commonPart_70 o_6 rfl rfl (Nat.le_of_ble_eq_true rfl) ⟨(show 0 + 1 ≤ 4 + 1 * (r9 + 1) by omega), (show 8 + (3 + 11) + 40 * (0) ≤ 40 * (4 + 1 * (r9 + 1)) by omega)⟩ rfl rfl (Nat.le_of_ble_eq_true rfl) (Nat.le_of_ble_eq_true rfl) (fun r9 J_70 hq9 => ?_)
          obtain ⟨z_70, rfl, hz_70, rfl, rfl⟩ := hq9
          refine tz_iload_n (pc := 73) dX2_commonPart_73 rfl rfl ?_
          refine tz_iconst (pc := 74) dX2_commonPart_74 ?_
          refine tz_iadd (pc := 75) (v := lv + 1) dX2_commonPart_75 rfl ?_
          have b_76 := GX.arg g0 C hs (i := 0) (by omega)
          have b2_76 := GX.arg g0 C ht (i := 0) (by omega)
          have c_76 := (g0).1
          have k_76 := (g0).2.2.2.2 141 rfl
          have a_76 := cpl.gx C g0 ⟨rfl, rfl, rfl⟩ (by omega) (by omega) (hn 0 (by omega) (by omega))
          rw [← b_76.2, ← b2_76.2, show 6 - lv = 7 - (lv + 1) by omega] at a_76
          refine tz_cV (pc := 76) (ih _ _ _ _ (by omega) (by omega) (by omega) m L (g0).2.1 (g0).2.2.1 (by omega) (by omega) (by rw [k_76]; exact h0) a_76 (hL.of ((g0).2.2.2.2 141 rfl) ((g0).2.2.2.2 143 rfl) ((g0).2.2.2.2 144 rfl)) (hk.gx g0) (by omega)) vl_X2_96 dX2_commonPart_76 o_141 rfl rfl (Nat.le_of_ble_eq_true rfl) ⟨(show (4 + 1 * r9) + 1 ≤ 4 + 1 * (r9 + 1) by omega), (show 8 + (9 + 11) + 40 * ((4 + 1 * r9)) ≤ 40 * (4 + 1 * (r9 + 1)) by omega)⟩ rfl rfl (Nat.le_of_ble_eq_true rfl) (Nat.le_of_ble_eq_true rfl) (fun r9 J_76 hq9 => ?_)
          obtain ⟨z_76, rfl, hz_76, m_76, g_76, h_76, x_76⟩ := hq9
          have q_76 := GX.tr g0 g_76
          have d_76 := q_76.1
          have e_76 := g_76.1
          have s8_76 : J 8 s = J 8 s := ((g0).2.2.2.1.1 s hs.1 hs.2).2.1
          have t8_76 : J 8 t = J 8 t := ((g0).2.2.2.1.1 t ht.1 ht.2).2.1
          have r_76 : ∀ S, S 164 21 = 0 → A0 J S → EXO (coO L (6 - lv).toNat S (S 167 (3 * (0 + s) + 0)) (S 167 (3 * (0 + t) + 0))) z_76 J_76 := fun S h9 E9 => by have e9 := co_T (s := s) (t := t) (i := 0) E9 (g0).2.2.1 (by omega) (by omega) (by decide) (by omega) (by omega); rw [e9.1, e9.2, show 6 - lv = 7 - (lv + 1) by omega]; exact x_76 S h9 E9
          refine tz_istore (pc := 79) (L2 := [_, _, _, _, _, _, _, _, _]) dX2_commonPart_79 (by decide) rfl ?_
          refine tz_iload (pc := 81) dX2_commonPart_81 rfl ?_
          refine tz_iconst (pc := 83) dX2_commonPart_83 ?_
          refine tz_icmp_ge (pc := 84) (tgt := 91) dX2_commonPart_84 (by decide) (by omega) (by decide) (fun h_84 => ?_) (fun h_84 => ?_)
          · refine tz_aload_n (pc := 91) dX2_commonPart_91 rfl rfl ?_
            refine tz_aload_n (pc := 92) dX2_commonPart_92 rfl rfl ?_
            refine tz_fR (pc := 93) dX2_commonPart_93 fl_X2_28 r_141_0 ?_
            refine tz_iload_n (pc := 96) dX2_commonPart_96 rfl rfl ?_
            refine tz_iconst (pc := 97) dX2_commonPart_97 ?_
            refine tz_cV (pc := 98) (c_arg hl n _ _ _ (by omega) (by decide) (by omega)) vl_X2_48 dX2_commonPart_98 o_6 rfl rfl (Nat.le_of_ble_eq_true rfl) ⟨(show 0 + 1 ≤ 4 + 1 * (r9 + 1) by omega), (show 8 + (3 + 11) + 40 * (0) ≤ 40 * (4 + 1 * (r9 + 1)) by omega)⟩ rfl rfl (Nat.le_of_ble_eq_true rfl) (Nat.le_of_ble_eq_true rfl) (fun r9 J_98 hq9 => ?_)
            obtain ⟨z_98, rfl, hz_98, rfl, rfl⟩ := hq9
            refine tz_aload_n (pc := 101) dX2_commonPart_101 rfl rfl ?_
            refine tz_fR (pc := 102) dX2_commonPart_102 fl_X2_28 r_141_0 ?_
            refine tz_iload_n (pc := 105) dX2_commonPart_105 rfl rfl ?_
            refine tz_iconst (pc := 106) dX2_commonPart_106 ?_
            refine tz_cV (pc := 107) (c_arg hl n _ _ _ (by omega) (by decide) (by omega)) vl_X2_48 dX2_commonPart_107 o_6 rfl rfl (Nat.le_of_ble_eq_true rfl) ⟨(show 0 + 1 ≤ 4 + 1 * (r9 + 1) by omega), (show 8 + (3 + 11) + 40 * (0) ≤ 40 * (4 + 1 * (r9 + 1)) by omega)⟩ rfl rfl (Nat.le_of_ble_eq_true rfl) (Nat.le_of_ble_eq_true rfl) (fun r9 J_107 hq9 => ?_)
            obtain ⟨z_107, rfl, hz_107, rfl, rfl⟩ := hq9
            refine tz_iload_n (pc := 110) dX2_commonPart_110 rfl rfl ?_
            refine tz_iconst (pc := 111) dX2_commonPart_111 ?_
            refine tz_iadd (pc := 112) (v := lv + 1) dX2_commonPart_112 rfl ?_
            have b_113 := GX.arg q_76 C hs (i := 1) (by omega)
            have b2_113 := GX.arg q_76 C ht (i := 1) (by omega)
            have c_113 := (q_76).1
            have k_113 := (q_76).2.2.2.2 141 rfl
            have a_113 := cpl.gx C q_76 ⟨rfl, rfl, rfl⟩ (by omega) (by omega) (hn 1 (by omega) (by omega))
            rw [← b_113.2, ← b2_113.2, show 6 - lv = 7 - (lv + 1) by omega] at a_113
            refine tz_cV (pc := 113) (ih _ _ _ _ (by omega) (by omega) (by omega) m_76 L (q_76).2.1 (q_76).2.2.1 (by omega) (by omega) (by rw [k_113]; exact h0) a_113 (hL.of ((q_76).2.2.2.2 141 rfl) ((q_76).2.2.2.2 143 rfl) ((q_76).2.2.2.2 144 rfl)) (hk.gx q_76) (by omega)) vl_X2_96 dX2_commonPart_113 o_141 rfl rfl (Nat.le_of_ble_eq_true rfl) ⟨(show (4 + 1 * r9) + 1 ≤ 4 + 1 * (r9 + 1) by omega), (show 8 + (9 + 11) + 40 * ((4 + 1 * r9)) ≤ 40 * (4 + 1 * (r9 + 1)) by omega)⟩ rfl rfl (Nat.le_of_ble_eq_true rfl) (Nat.le_of_ble_eq_true rfl) (fun r9 J_113 hq9 => ?_)
            obtain ⟨z_113, rfl, hz_113, m_113, g_113, h_113, x_113⟩ := hq9
            have q_113 := GX.tr q_76 g_113
            have d_113 := q_113.1
            have e_113 := g_113.1
            have s8_113 : J_76 8 s = J 8 s := ((q_76).2.2.2.1.1 s hs.1 hs.2).2.1
            have t8_113 : J_76 8 t = J 8 t := ((q_76).2.2.2.1.1 t ht.1 ht.2).2.1
            have r_113 : ∀ S, S 164 21 = 0 → A0 J_76 S → EXO (coO L (6 - lv).toNat S (S 167 (3 * (0 + s) + 1)) (S 167 (3 * (0 + t) + 1))) z_113 J_113 := fun S h9 E9 => by have e9 := co_T (s := s) (t := t) (i := 1) E9 (q_76).2.2.1 (by omega) (by omega) (by decide) (by omega) (by omega); rw [e9.1, e9.2, show 6 - lv = 7 - (lv + 1) by omega]; exact x_113 S h9 E9
            refine tz_istore (pc := 116) (L2 := [_, _, _, _, _, _, _, _, _]) dX2_commonPart_116 (by decide) rfl ?_
            refine tz_iload (pc := 118) dX2_commonPart_118 rfl ?_
            refine tz_iconst (pc := 120) dX2_commonPart_120 ?_
            refine tz_icmp_ge (pc := 121) (tgt := 128) dX2_commonPart_121 (by decide) (by omega) (by decide) (fun h_121 => ?_) (fun h_121 => ?_)
            · refine tz_aload_n (pc := 128) dX2_commonPart_128 rfl rfl ?_
              refine tz_aload_n (pc := 129) dX2_commonPart_129 rfl rfl ?_
              refine tz_fR (pc := 130) dX2_commonPart_130 fl_X2_28 r_141_0 ?_
              refine tz_iload_n (pc := 133) dX2_commonPart_133 rfl rfl ?_
              refine tz_iconst (pc := 134) dX2_commonPart_134 ?_
              refine tz_cV (pc := 135) (c_arg hl n _ _ _ (by omega) (by decide) (by omega)) vl_X2_48 dX2_commonPart_135 o_6 rfl rfl (Nat.le_of_ble_eq_true rfl) ⟨(show 0 + 1 ≤ 4 + 1 * (r9 + 1) by omega), (show 8 + (3 + 11) + 40 * (0) ≤ 40 * (4 + 1 * (r9 + 1)) by omega)⟩ rfl rfl (Nat.le_of_ble_eq_true rfl) (Nat.le_of_ble_eq_true rfl) (fun r9 J_135 hq9 => ?_)
              obtain ⟨z_135, rfl, hz_135, rfl, rfl⟩ := hq9
              refine tz_aload_n (pc := 138) dX2_commonPart_138 rfl rfl ?_
              refine tz_fR (pc := 139) dX2_commonPart_139 fl_X2_28 r_141_0 ?_
              refine tz_iload_n (pc := 142) dX2_commonPart_142 rfl rfl ?_
              refine tz_iconst (pc := 143) dX2_commonPart_143 ?_
              refine tz_cV (pc := 144) (c_arg hl n _ _ _ (by omega) (by decide) (by omega)) vl_X2_48 dX2_commonPart_144 o_6 rfl rfl (Nat.le_of_ble_eq_true rfl) ⟨(show 0 + 1 ≤ 4 + 1 * (r9 + 1) by omega), (show 8 + (3 + 11) + 40 * (0) ≤ 40 * (4 + 1 * (r9 + 1)) by omega)⟩ rfl rfl (Nat.le_of_ble_eq_true rfl) (Nat.le_of_ble_eq_true rfl) (fun r9 J_144 hq9 => ?_)
              obtain ⟨z_144, rfl, hz_144, rfl, rfl⟩ := hq9
              refine tz_iload_n (pc := 147) dX2_commonPart_147 rfl rfl ?_
              refine tz_iconst (pc := 148) dX2_commonPart_148 ?_
              refine tz_iadd (pc := 149) (v := lv + 1) dX2_commonPart_149 rfl ?_
              have b_150 := GX.arg q_113 C hs (i := 2) (by omega)
              have b2_150 := GX.arg q_113 C ht (i := 2) (by omega)
              have c_150 := (q_113).1
              have k_150 := (q_113).2.2.2.2 141 rfl
              have a_150 := cpl.gx C q_113 ⟨rfl, rfl, rfl⟩ (by omega) (by omega) (hn 2 (by omega) (by omega))
              rw [← b_150.2, ← b2_150.2, show 6 - lv = 7 - (lv + 1) by omega] at a_150
              refine tz_cV (pc := 150) (ih _ _ _ _ (by omega) (by omega) (by omega) m_113 L (q_113).2.1 (q_113).2.2.1 (by omega) (by omega) (by rw [k_150]; exact h0) a_150 (hL.of ((q_113).2.2.2.2 141 rfl) ((q_113).2.2.2.2 143 rfl) ((q_113).2.2.2.2 144 rfl)) (hk.gx q_113) (by omega)) vl_X2_96 dX2_commonPart_150 o_141 rfl rfl (Nat.le_of_ble_eq_true rfl) ⟨(show (4 + 1 * r9) + 1 ≤ 4 + 1 * (r9 + 1) by omega), (show 8 + (9 + 11) + 40 * ((4 + 1 * r9)) ≤ 40 * (4 + 1 * (r9 + 1)) by omega)⟩ rfl rfl (Nat.le_of_ble_eq_true rfl) (Nat.le_of_ble_eq_true rfl) (fun r9 J_150 hq9 => ?_)
              obtain ⟨z_150, rfl, hz_150, m_150, g_150, h_150, x_150⟩ := hq9
              have q_150 := GX.tr q_113 g_150
              have d_150 := q_150.1
              have e_150 := g_150.1
              have s8_150 : J_113 8 s = J 8 s := ((q_113).2.2.2.1.1 s hs.1 hs.2).2.1
              have t8_150 : J_113 8 t = J 8 t := ((q_113).2.2.2.1.1 t ht.1 ht.2).2.1
              have r_150 : ∀ S, S 164 21 = 0 → A0 J_113 S → EXO (coO L (6 - lv).toNat S (S 167 (3 * (0 + s) + 2)) (S 167 (3 * (0 + t) + 2))) z_150 J_150 := fun S h9 E9 => by have e9 := co_T (s := s) (t := t) (i := 2) E9 (q_113).2.2.1 (by omega) (by omega) (by decide) (by omega) (by omega); rw [e9.1, e9.2, show 6 - lv = 7 - (lv + 1) by omega]; exact x_150 S h9 E9
              refine tz_istore (pc := 153) (L2 := [_, _, _, _, _, _, _, _, _]) dX2_commonPart_153 (by decide) rfl ?_
              refine tz_aload_n (pc := 155) dX2_commonPart_155 rfl rfl ?_
              refine tz_fR (pc := 156) dX2_commonPart_156 fl_X2_28 r_141_0 ?_
              refine tz_aload_n (pc := 159) dX2_commonPart_159 rfl rfl ?_
              refine tz_fR (pc := 160) dX2_commonPart_160 fl_X2_28 r_141_0 ?_
              refine tz_fR (pc := 163) dX2_commonPart_163 fl_X2_42 r_6_1 ?_
              refine tz_iload_n (pc := 166) dX2_commonPart_166 rfl rfl ?_
              refine tz_aL (pc := 167) (z := s) (v := (J_150 7 s)) dX2_commonPart_167 a_7 rfl (by omega) rfl (fun r_167 => ?_)
              refine tz_iload (pc := 168) dX2_commonPart_168 rfl ?_
              refine tz_iload (pc := 170) dX2_commonPart_170 rfl ?_
              refine tz_iload (pc := 172) dX2_commonPart_172 rfl ?_
              refine tz_cV (pc := 174) (c_made hl n _ _ _ _ _ (by omega) (by omega) (by omega) (by omega) m_150 (q_150).2.1 (q_150).2.2.1 (by have := (q_150).2.1.ar (t := s) (by omega) (by have := (q_150).1; omega); omega) (ltA_of (by omega) (by omega) (by omega))) vl_X2_52 dX2_commonPart_174 o_6 rfl rfl (Nat.le_of_ble_eq_true rfl) ⟨(show 2 + 1 ≤ 4 + 1 * (r9 + 1) by omega), (show 8 + (11 + 11) + 40 * (2) ≤ 40 * (4 + 1 * (r9 + 1)) by omega)⟩ rfl rfl (Nat.le_of_ble_eq_true rfl) (Nat.le_of_ble_eq_true rfl) (fun r9 J_174 hq9 => ?_)
              obtain ⟨z_174, rfl, hz_174, p_174⟩ := hq9
              obtain ⟨m_174, g_174, h_174⟩ := GR.made p_174 (by omega)
              have q_174 : GX [] J_174 J m m_174 := GX.tr q_150 (GR.x g_174)
              exact tz_iret (pc := 177) (z := z_174) dX2_commonPart_177 rfl (Nat.le_of_ble_eq_true rfl) (Nat.le_of_ble_eq_true rfl) ⟨Nat.le_refl _, Nat.le_add_right _ _⟩ ⟨_, rfl, (by omega), ⟨m_174, q_174, h_174, fun S hG E => by rw [show (7 - lv).toNat = (6 - lv).toNat + 1 from by omega]; exact co_c hG E hm hs ht ⟨hx.1, hx.2.1⟩ (gp_end (X := []) ⟨rfl, rfl⟩ (fun S i h => coO_f h) hG E C hm ha.2.2 (C.2.1 s hs.1 hs.2).1.1.symm (Or.inl ⟨by omega, g_76, h_76, r_76⟩) (Or.inl ⟨by omega, g_113, h_113, r_113⟩) (Or.inl ⟨by omega, g_150, h_150, r_150⟩) (by rw [show J 7 s = J_150 7 s from (((q_150).2.2.2.1.1 s hs.1 hs.2).1).symm]; exact p_174))⟩⟩
            · refine tz_iconst (pc := 124) dX2_commonPart_124 ?_
              refine tz_goto (pc := 125) (tgt := 153) dX2_commonPart_125 (by decide) ?_
              refine tz_istore (pc := 153) (L2 := [_, _, _, _, _, _, _, _, _]) dX2_commonPart_153 (by decide) rfl ?_
              refine tz_aload_n (pc := 155) dX2_commonPart_155 rfl rfl ?_
              refine tz_fR (pc := 156) dX2_commonPart_156 fl_X2_28 r_141_0 ?_
              refine tz_aload_n (pc := 159) dX2_commonPart_159 rfl rfl ?_
              refine tz_fR (pc := 160) dX2_commonPart_160 fl_X2_28 r_141_0 ?_
              refine tz_fR (pc := 163) dX2_commonPart_163 fl_X2_42 r_6_1 ?_
              refine tz_iload_n (pc := 166) dX2_commonPart_166 rfl rfl ?_
              refine tz_aL (pc := 167) (z := s) (v := (J_113 7 s)) dX2_commonPart_167 a_7 rfl (by omega) rfl (fun r_167 => ?_)
              refine tz_iload (pc := 168) dX2_commonPart_168 rfl ?_
              refine tz_iload (pc := 170) dX2_commonPart_170 rfl ?_
              refine tz_iload (pc := 172) dX2_commonPart_172 rfl ?_
              refine tz_cV (pc := 174) (c_made hl n _ _ _ _ _ (by omega) (by omega) (by omega) (by omega) m_113 (q_113).2.1 (q_113).2.2.1 (by have := (q_113).2.1.ar (t := s) (by omega) (by have := (q_113).1; omega); omega) (ltA_of (by omega) (by omega) (by omega))) vl_X2_52 dX2_commonPart_174 o_6 rfl rfl (Nat.le_of_ble_eq_true rfl) ⟨(show 2 + 1 ≤ 4 + 1 * (r9 + 1) by omega), (show 8 + (11 + 11) + 40 * (2) ≤ 40 * (4 + 1 * (r9 + 1)) by omega)⟩ rfl rfl (Nat.le_of_ble_eq_true rfl) (Nat.le_of_ble_eq_true rfl) (fun r9 J_174 hq9 => ?_)
              obtain ⟨z_174, rfl, hz_174, p_174⟩ := hq9
              obtain ⟨m_174, g_174, h_174⟩ := GR.made p_174 (by omega)
              have q_174 : GX [] J_174 J m m_174 := GX.tr q_113 (GR.x g_174)
              exact tz_iret (pc := 177) (z := z_174) dX2_commonPart_177 rfl (Nat.le_of_ble_eq_true rfl) (Nat.le_of_ble_eq_true rfl) ⟨Nat.le_refl _, Nat.le_add_right _ _⟩ ⟨_, rfl, (by omega), ⟨m_174, q_174, h_174, fun S hG E => by rw [show (7 - lv).toNat = (6 - lv).toNat + 1 from by omega]; exact co_c hG E hm hs ht ⟨hx.1, hx.2.1⟩ (gp_end (X := []) ⟨rfl, rfl⟩ (fun S i h => coO_f h) hG E C hm ha.2.2 (C.2.1 s hs.1 hs.2).1.1.symm (Or.inl ⟨by omega, g_76, h_76, r_76⟩) (Or.inl ⟨by omega, g_113, h_113, r_113⟩) (Or.inr ⟨by omega, rfl, rfl⟩) (by rw [show J 7 s = J_113 7 s from (((q_113).2.2.2.1.1 s hs.1 hs.2).1).symm]; exact p_174))⟩⟩
          · refine tz_iconst (pc := 87) dX2_commonPart_87 ?_
            refine tz_goto (pc := 88) (tgt := 116) dX2_commonPart_88 (by decide) ?_
            refine tz_istore (pc := 116) (L2 := [_, _, _, _, _, _, _, _, _]) dX2_commonPart_116 (by decide) rfl ?_
            refine tz_iload (pc := 118) dX2_commonPart_118 rfl ?_
            refine tz_iconst (pc := 120) dX2_commonPart_120 ?_
            refine tz_icmp_ge (pc := 121) (tgt := 128) dX2_commonPart_121 (by decide) (by omega) (by decide) (fun h_121 => ?_) (fun h_121 => ?_)
            · refine tz_aload_n (pc := 128) dX2_commonPart_128 rfl rfl ?_
              refine tz_aload_n (pc := 129) dX2_commonPart_129 rfl rfl ?_
              refine tz_fR (pc := 130) dX2_commonPart_130 fl_X2_28 r_141_0 ?_
              refine tz_iload_n (pc := 133) dX2_commonPart_133 rfl rfl ?_
              refine tz_iconst (pc := 134) dX2_commonPart_134 ?_
              refine tz_cV (pc := 135) (c_arg hl n _ _ _ (by omega) (by decide) (by omega)) vl_X2_48 dX2_commonPart_135 o_6 rfl rfl (Nat.le_of_ble_eq_true rfl) ⟨(show 0 + 1 ≤ 4 + 1 * (r9 + 1) by omega), (show 8 + (3 + 11) + 40 * (0) ≤ 40 * (4 + 1 * (r9 + 1)) by omega)⟩ rfl rfl (Nat.le_of_ble_eq_true rfl) (Nat.le_of_ble_eq_true rfl) (fun r9 J_135 hq9 => ?_)
              obtain ⟨z_135, rfl, hz_135, rfl, rfl⟩ := hq9
              refine tz_aload_n (pc := 138) dX2_commonPart_138 rfl rfl ?_
              refine tz_fR (pc := 139) dX2_commonPart_139 fl_X2_28 r_141_0 ?_
              refine tz_iload_n (pc := 142) dX2_commonPart_142 rfl rfl ?_
              refine tz_iconst (pc := 143) dX2_commonPart_143 ?_
              refine tz_cV (pc := 144) (c_arg hl n _ _ _ (by omega) (by decide) (by omega)) vl_X2_48 dX2_commonPart_144 o_6 rfl rfl (Nat.le_of_ble_eq_true rfl) ⟨(show 0 + 1 ≤ 4 + 1 * (r9 + 1) by omega), (show 8 + (3 + 11) + 40 * (0) ≤ 40 * (4 + 1 * (r9 + 1)) by omega)⟩ rfl rfl (Nat.le_of_ble_eq_true rfl) (Nat.le_of_ble_eq_true rfl) (fun r9 J_144 hq9 => ?_)
              obtain ⟨z_144, rfl, hz_144, rfl, rfl⟩ := hq9
              refine tz_iload_n (pc := 147) dX2_commonPart_147 rfl rfl ?_
              refine tz_iconst (pc := 148) dX2_commonPart_148 ?_
              refine tz_iadd (pc := 149) (v := lv + 1) dX2_commonPart_149 rfl ?_
              have b_150 := GX.arg q_76 C hs (i := 2) (by omega)
              have b2_150 := GX.arg q_76 C ht (i := 2) (by omega)
              have c_150 := (q_76).1
              have k_150 := (q_76).2.2.2.2 141 rfl
              have a_150 := cpl.gx C q_76 ⟨rfl, rfl, rfl⟩ (by omega) (by omega) (hn 2 (by omega) (by omega))
              rw [← b_150.2, ← b2_150.2, show 6 - lv = 7 - (lv + 1) by omega] at a_150
              refine tz_cV (pc := 150) (ih _ _ _ _ (by omega) (by omega) (by omega) m_76 L (q_76).2.1 (q_76).2.2.1 (by omega) (by omega) (by rw [k_150]; exact h0) a_150 (hL.of ((q_76).2.2.2.2 141 rfl) ((q_76).2.2.2.2 143 rfl) ((q_76).2.2.2.2 144 rfl)) (hk.gx q_76) (by omega)) vl_X2_96 dX2_commonPart_150 o_141 rfl rfl (Nat.le_of_ble_eq_true rfl) ⟨(show (4 + 1 * r9) + 1 ≤ 4 + 1 * (r9 + 1) by omega), (show 8 + (9 + 11) + 40 * ((4 + 1 * r9)) ≤ 40 * (4 + 1 * (r9 + 1)) by omega)⟩ rfl rfl (Nat.le_of_ble_eq_true rfl) (Nat.le_of_ble_eq_true rfl) (fun r9 J_150 hq9 => ?_)
              obtain ⟨z_150, rfl, hz_150, m_150, g_150, h_150, x_150⟩ := hq9
              have q_150 := GX.tr q_76 g_150
              have d_150 := q_150.1
              have e_150 := g_150.1
              have s8_150 : J_76 8 s = J 8 s := ((q_76).2.2.2.1.1 s hs.1 hs.2).2.1
              have t8_150 : J_76 8 t = J 8 t := ((q_76).2.2.2.1.1 t ht.1 ht.2).2.1
              have r_150 : ∀ S, S 164 21 = 0 → A0 J_76 S → EXO (coO L (6 - lv).toNat S (S 167 (3 * (0 + s) + 2)) (S 167 (3 * (0 + t) + 2))) z_150 J_150 := fun S h9 E9 => by have e9 := co_T (s := s) (t := t) (i := 2) E9 (q_76).2.2.1 (by omega) (by omega) (by decide) (by omega) (by omega); rw [e9.1, e9.2, show 6 - lv = 7 - (lv + 1) by omega]; exact x_150 S h9 E9
              refine tz_istore (pc := 153) (L2 := [_, _, _, _, _, _, _, _, _]) dX2_commonPart_153 (by decide) rfl ?_
              refine tz_aload_n (pc := 155) dX2_commonPart_155 rfl rfl ?_
              refine tz_fR (pc := 156) dX2_commonPart_156 fl_X2_28 r_141_0 ?_
              refine tz_aload_n (pc := 159) dX2_commonPart_159 rfl rfl ?_
              refine tz_fR (pc := 160) dX2_commonPart_160 fl_X2_28 r_141_0 ?_
              refine tz_fR (pc := 163) dX2_commonPart_163 fl_X2_42 r_6_1 ?_
              refine tz_iload_n (pc := 166) dX2_commonPart_166 rfl rfl ?_
              refine tz_aL (pc := 167) (z := s) (v := (J_150 7 s)) dX2_commonPart_167 a_7 rfl (by omega) rfl (fun r_167 => ?_)
              refine tz_iload (pc := 168) dX2_commonPart_168 rfl ?_
              refine tz_iload (pc := 170) dX2_commonPart_170 rfl ?_
              refine tz_iload (pc := 172) dX2_commonPart_172 rfl ?_
              refine tz_cV (pc := 174) (c_made hl n _ _ _ _ _ (by omega) (by omega) (by omega) (by omega) m_150 (q_150).2.1 (q_150).2.2.1 (by have := (q_150).2.1.ar (t := s) (by omega) (by have := (q_150).1; omega); omega) (ltA_of (by omega) (by omega) (by omega))) vl_X2_52 dX2_commonPart_174 o_6 rfl rfl (Nat.le_of_ble_eq_true rfl) ⟨(show 2 + 1 ≤ 4 + 1 * (r9 + 1) by omega), (show 8 + (11 + 11) + 40 * (2) ≤ 40 * (4 + 1 * (r9 + 1)) by omega)⟩ rfl rfl (Nat.le_of_ble_eq_true rfl) (Nat.le_of_ble_eq_true rfl) (fun r9 J_174 hq9 => ?_)
              obtain ⟨z_174, rfl, hz_174, p_174⟩ := hq9
              obtain ⟨m_174, g_174, h_174⟩ := GR.made p_174 (by omega)
              have q_174 : GX [] J_174 J m m_174 := GX.tr q_150 (GR.x g_174)
              exact tz_iret (pc := 177) (z := z_174) dX2_commonPart_177 rfl (Nat.le_of_ble_eq_true rfl) (Nat.le_of_ble_eq_true rfl) ⟨Nat.le_refl _, Nat.le_add_right _ _⟩ ⟨_, rfl, (by omega), ⟨m_174, q_174, h_174, fun S hG E => by rw [show (7 - lv).toNat = (6 - lv).toNat + 1 from by omega]; exact co_c hG E hm hs ht ⟨hx.1, hx.2.1⟩ (gp_end (X := []) ⟨rfl, rfl⟩ (fun S i h => coO_f h) hG E C hm ha.2.2 (C.2.1 s hs.1 hs.2).1.1.symm (Or.inl ⟨by omega, g_76, h_76, r_76⟩) (Or.inr ⟨by omega, rfl, rfl⟩) (Or.inl ⟨by omega, g_150, h_150, r_150⟩) (by rw [show J 7 s = J_150 7 s from (((q_150).2.2.2.1.1 s hs.1 hs.2).1).symm]; exact p_174))⟩⟩
            · refine tz_iconst (pc := 124) dX2_commonPart_124 ?_
              refine tz_goto (pc := 125) (tgt := 153) dX2_commonPart_125 (by decide) ?_
              refine tz_istore (pc := 153) (L2 := [_, _, _, _, _, _, _, _, _]) dX2_commonPart_153 (by decide) rfl ?_
              refine tz_aload_n (pc := 155) dX2_commonPart_155 rfl rfl ?_
              refine tz_fR (pc := 156) dX2_commonPart_156 fl_X2_28 r_141_0 ?_
              refine tz_aload_n (pc := 159) dX2_commonPart_159 rfl rfl ?_
              refine tz_fR (pc := 160) dX2_commonPart_160 fl_X2_28 r_141_0 ?_
              refine tz_fR (pc := 163) dX2_commonPart_163 fl_X2_42 r_6_1 ?_
              refine tz_iload_n (pc := 166) dX2_commonPart_166 rfl rfl ?_
              refine tz_aL (pc := 167) (z := s) (v := (J_76 7 s)) dX2_commonPart_167 a_7 rfl (by omega) rfl (fun r_167 => ?_)
              refine tz_iload (pc := 168) dX2_commonPart_168 rfl ?_
              refine tz_iload (pc := 170) dX2_commonPart_170 rfl ?_
              refine tz_iload (pc := 172) dX2_commonPart_172 rfl ?_
              refine tz_cV (pc := 174) (c_made hl n _ _ _ _ _ (by omega) (by omega) (by omega) (by omega) m_76 (q_76).2.1 (q_76).2.2.1 (by have := (q_76).2.1.ar (t := s) (by omega) (by have := (q_76).1; omega); omega) (ltA_of (by omega) (by omega) (by omega))) vl_X2_52 dX2_commonPart_174 o_6 rfl rfl (Nat.le_of_ble_eq_true rfl) ⟨(show 2 + 1 ≤ 4 + 1 * (r9 + 1) by omega), (show 8 + (11 + 11) + 40 * (2) ≤ 40 * (4 + 1 * (r9 + 1)) by omega)⟩ rfl rfl (Nat.le_of_ble_eq_true rfl) (Nat.le_of_ble_eq_true rfl) (fun r9 J_174 hq9 => ?_)
              obtain ⟨z_174, rfl, hz_174, p_174⟩ := hq9
              obtain ⟨m_174, g_174, h_174⟩ := GR.made p_174 (by omega)
              have q_174 : GX [] J_174 J m m_174 := GX.tr q_76 (GR.x g_174)
              exact tz_iret (pc := 177) (z := z_174) dX2_commonPart_177 rfl (Nat.le_of_ble_eq_true rfl) (Nat.le_of_ble_eq_true rfl) ⟨Nat.le_refl _, Nat.le_add_right _ _⟩ ⟨_, rfl, (by omega), ⟨m_174, q_174, h_174, fun S hG E => by rw [show (7 - lv).toNat = (6 - lv).toNat + 1 from by omega]; exact co_c hG E hm hs ht ⟨hx.1, hx.2.1⟩ (gp_end (X := []) ⟨rfl, rfl⟩ (fun S i h => coO_f h) hG E C hm ha.2.2 (C.2.1 s hs.1 hs.2).1.1.symm (Or.inl ⟨by omega, g_76, h_76, r_76⟩) (Or.inr ⟨by omega, rfl, rfl⟩) (Or.inr ⟨by omega, rfl, rfl⟩) (by rw [show J 7 s = J_76 7 s from (((q_76).2.2.2.1.1 s hs.1 hs.2).1).symm]; exact p_174))⟩⟩
        · refine tz_iconst (pc := 50) dX2_commonPart_50 ?_
          refine tz_goto (pc := 51) (tgt := 79) dX2_commonPart_51 (by decide) ?_
          refine tz_istore (pc := 79) (L2 := [_, _, _, _, _, _, _, _, _]) dX2_commonPart_79 (by decide) rfl ?_
          refine tz_iload (pc := 81) dX2_commonPart_81 rfl ?_
          refine tz_iconst (pc := 83) dX2_commonPart_83 ?_
          refine tz_icmp_ge (pc := 84) (tgt := 91) dX2_commonPart_84 (by decide) (by omega) (by decide) (fun h_84 => ?_) (fun h_84 => ?_)
          · refine tz_aload_n (pc := 91) dX2_commonPart_91 rfl rfl ?_
            refine tz_aload_n (pc := 92) dX2_commonPart_92 rfl rfl ?_
            refine tz_fR (pc := 93) dX2_commonPart_93 fl_X2_28 r_141_0 ?_
            refine tz_iload_n (pc := 96) dX2_commonPart_96 rfl rfl ?_
            refine tz_iconst (pc := 97) dX2_commonPart_97 ?_
            refine tz_cV (pc := 98) (c_arg hl n _ _ _ (by omega) (by decide) (by omega)) vl_X2_48 dX2_commonPart_98 o_6 rfl rfl (Nat.le_of_ble_eq_true rfl) ⟨(show 0 + 1 ≤ 4 + 1 * (r9 + 1) by omega), (show 8 + (3 + 11) + 40 * (0) ≤ 40 * (4 + 1 * (r9 + 1)) by omega)⟩ rfl rfl (Nat.le_of_ble_eq_true rfl) (Nat.le_of_ble_eq_true rfl) (fun r9 J_98 hq9 => ?_)
            obtain ⟨z_98, rfl, hz_98, rfl, rfl⟩ := hq9
            refine tz_aload_n (pc := 101) dX2_commonPart_101 rfl rfl ?_
            refine tz_fR (pc := 102) dX2_commonPart_102 fl_X2_28 r_141_0 ?_
            refine tz_iload_n (pc := 105) dX2_commonPart_105 rfl rfl ?_
            refine tz_iconst (pc := 106) dX2_commonPart_106 ?_
            refine tz_cV (pc := 107) (c_arg hl n _ _ _ (by omega) (by decide) (by omega)) vl_X2_48 dX2_commonPart_107 o_6 rfl rfl (Nat.le_of_ble_eq_true rfl) ⟨(show 0 + 1 ≤ 4 + 1 * (r9 + 1) by omega), (show 8 + (3 + 11) + 40 * (0) ≤ 40 * (4 + 1 * (r9 + 1)) by omega)⟩ rfl rfl (Nat.le_of_ble_eq_true rfl) (Nat.le_of_ble_eq_true rfl) (fun r9 J_107 hq9 => ?_)
            obtain ⟨z_107, rfl, hz_107, rfl, rfl⟩ := hq9
            refine tz_iload_n (pc := 110) dX2_commonPart_110 rfl rfl ?_
            refine tz_iconst (pc := 111) dX2_commonPart_111 ?_
            refine tz_iadd (pc := 112) (v := lv + 1) dX2_commonPart_112 rfl ?_
            have b_113 := GX.arg g0 C hs (i := 1) (by omega)
            have b2_113 := GX.arg g0 C ht (i := 1) (by omega)
            have c_113 := (g0).1
            have k_113 := (g0).2.2.2.2 141 rfl
            have a_113 := cpl.gx C g0 ⟨rfl, rfl, rfl⟩ (by omega) (by omega) (hn 1 (by omega) (by omega))
            rw [← b_113.2, ← b2_113.2, show 6 - lv = 7 - (lv + 1) by omega] at a_113
            refine tz_cV (pc := 113) (ih _ _ _ _ (by omega) (by omega) (by omega) m L (g0).2.1 (g0).2.2.1 (by omega) (by omega) (by rw [k_113]; exact h0) a_113 (hL.of ((g0).2.2.2.2 141 rfl) ((g0).2.2.2.2 143 rfl) ((g0).2.2.2.2 144 rfl)) (hk.gx g0) (by omega)) vl_X2_96 dX2_commonPart_113 o_141 rfl rfl (Nat.le_of_ble_eq_true rfl) ⟨(show (4 + 1 * r9) + 1 ≤ 4 + 1 * (r9 + 1) by omega), (show 8 + (9 + 11) + 40 * ((4 + 1 * r9)) ≤ 40 * (4 + 1 * (r9 + 1)) by omega)⟩ rfl rfl (Nat.le_of_ble_eq_true rfl) (Nat.le_of_ble_eq_true rfl) (fun r9 J_113 hq9 => ?_)
            obtain ⟨z_113, rfl, hz_113, m_113, g_113, h_113, x_113⟩ := hq9
            have q_113 := GX.tr g0 g_113
            have d_113 := q_113.1
            have e_113 := g_113.1
            have s8_113 : J 8 s = J 8 s := ((g0).2.2.2.1.1 s hs.1 hs.2).2.1
            have t8_113 : J 8 t = J 8 t := ((g0).2.2.2.1.1 t ht.1 ht.2).2.1
            have r_113 : ∀ S, S 164 21 = 0 → A0 J S → EXO (coO L (6 - lv).toNat S (S 167 (3 * (0 + s) + 1)) (S 167 (3 * (0 + t) + 1))) z_113 J_113 := fun S h9 E9 => by have e9 := co_T (s := s) (t := t) (i := 1) E9 (g0).2.2.1 (by omega) (by omega) (by decide) (by omega) (by omega); rw [e9.1, e9.2, show 6 - lv = 7 - (lv + 1) by omega]; exact x_113 S h9 E9
            refine tz_istore (pc := 116) (L2 := [_, _, _, _, _, _, _, _, _]) dX2_commonPart_116 (by decide) rfl ?_
            refine tz_iload (pc := 118) dX2_commonPart_118 rfl ?_
            refine tz_iconst (pc := 120) dX2_commonPart_120 ?_
            refine tz_icmp_ge (pc := 121) (tgt := 128) dX2_commonPart_121 (by decide) (by omega) (by decide) (fun h_121 => ?_) (fun h_121 => ?_)
            · refine tz_aload_n (pc := 128) dX2_commonPart_128 rfl rfl ?_
              refine tz_aload_n (pc := 129) dX2_commonPart_129 rfl rfl ?_
              refine tz_fR (pc := 130) dX2_commonPart_130 fl_X2_28 r_141_0 ?_
              refine tz_iload_n (pc := 133) dX2_commonPart_133 rfl rfl ?_
              refine tz_iconst (pc := 134) dX2_commonPart_134 ?_
              refine tz_cV (pc := 135) (c_arg hl n _ _ _ (by omega) (by decide) (by omega)) vl_X2_48 dX2_commonPart_135 o_6 rfl rfl (Nat.le_of_ble_eq_true rfl) ⟨(show 0 + 1 ≤ 4 + 1 * (r9 + 1) by omega), (show 8 + (3 + 11) + 40 * (0) ≤ 40 * (4 + 1 * (r9 + 1)) by omega)⟩ rfl rfl (Nat.le_of_ble_eq_true rfl) (Nat.le_of_ble_eq_true rfl) (fun r9 J_135 hq9 => ?_)
              obtain ⟨z_135, rfl, hz_135, rfl, rfl⟩ := hq9
              refine tz_aload_n (pc := 138) dX2_commonPart_138 rfl rfl ?_
              refine tz_fR (pc := 139) dX2_commonPart_139 fl_X2_28 r_141_0 ?_
              refine tz_iload_n (pc := 142) dX2_commonPart_142 rfl rfl ?_
              refine tz_iconst (pc := 143) dX2_commonPart_143 ?_
              refine tz_cV (pc := 144) (c_arg hl n _ _ _ (by omega) (by decide) (by omega)) vl_X2_48 dX2_commonPart_144 o_6 rfl rfl (Nat.le_of_ble_eq_true rfl) ⟨(show 0 + 1 ≤ 4 + 1 * (r9 + 1) by omega), (show 8 + (3 + 11) + 40 * (0) ≤ 40 * (4 + 1 * (r9 + 1)) by omega)⟩ rfl rfl (Nat.le_of_ble_eq_true rfl) (Nat.le_of_ble_eq_true rfl) (fun r9 J_144 hq9 => ?_)
              obtain ⟨z_144, rfl, hz_144, rfl, rfl⟩ := hq9
              refine tz_iload_n (pc := 147) dX2_commonPart_147 rfl rfl ?_
              refine tz_iconst (pc := 148) dX2_commonPart_148 ?_
              refine tz_iadd (pc := 149) (v := lv + 1) dX2_commonPart_149 rfl ?_
              have b_150 := GX.arg q_113 C hs (i := 2) (by omega)
              have b2_150 := GX.arg q_113 C ht (i := 2) (by omega)
              have c_150 := (q_113).1
              have k_150 := (q_113).2.2.2.2 141 rfl
              have a_150 := cpl.gx C q_113 ⟨rfl, rfl, rfl⟩ (by omega) (by omega) (hn 2 (by omega) (by omega))
              rw [← b_150.2, ← b2_150.2, show 6 - lv = 7 - (lv + 1) by omega] at a_150
              refine tz_cV (pc := 150) (ih _ _ _ _ (by omega) (by omega) (by omega) m_113 L (q_113).2.1 (q_113).2.2.1 (by omega) (by omega) (by rw [k_150]; exact h0) a_150 (hL.of ((q_113).2.2.2.2 141 rfl) ((q_113).2.2.2.2 143 rfl) ((q_113).2.2.2.2 144 rfl)) (hk.gx q_113) (by omega)) vl_X2_96 dX2_commonPart_150 o_141 rfl rfl (Nat.le_of_ble_eq_true rfl) ⟨(show (4 + 1 * r9) + 1 ≤ 4 + 1 * (r9 + 1) by omega), (show 8 + (9 + 11) + 40 * ((4 + 1 * r9)) ≤ 40 * (4 + 1 * (r9 + 1)) by omega)⟩ rfl rfl (Nat.le_of_ble_eq_true rfl) (Nat.le_of_ble_eq_true rfl) (fun r9 J_150 hq9 => ?_)
              obtain ⟨z_150, rfl, hz_150, m_150, g_150, h_150, x_150⟩ := hq9
              have q_150 := GX.tr q_113 g_150
              have d_150 := q_150.1
              have e_150 := g_150.1
              have s8_150 : J_113 8 s = J 8 s := ((q_113).2.2.2.1.1 s hs.1 hs.2).2.1
              have t8_150 : J_113 8 t = J 8 t := ((q_113).2.2.2.1.1 t ht.1 ht.2).2.1
              have r_150 : ∀ S, S 164 21 = 0 → A0 J_113 S → EXO (coO L (6 - lv).toNat S (S 167 (3 * (0 + s) + 2)) (S 167 (3 * (0 + t) + 2))) z_150 J_150 := fun S h9 E9 => by have e9 := co_T (s := s) (t := t) (i := 2) E9 (q_113).2.2.1 (by omega) (by omega) (by decide) (by omega) (by omega); rw [e9.1, e9.2, show 6 - lv = 7 - (lv + 1) by omega]; exact x_150 S h9 E9
              refine tz_istore (pc := 153) (L2 := [_, _, _, _, _, _, _, _, _]) dX2_commonPart_153 (by decide) rfl ?_
              refine tz_aload_n (pc := 155) dX2_commonPart_155 rfl rfl ?_
              refine tz_fR (pc := 156) dX2_commonPart_156 fl_X2_28 r_141_0 ?_
              refine tz_aload_n (pc := 159) dX2_commonPart_159 rfl rfl ?_
              refine tz_fR (pc := 160) dX2_commonPart_160 fl_X2_28 r_141_0 ?_
              refine tz_fR (pc := 163) dX2_commonPart_163 fl_X2_42 r_6_1 ?_
              refine tz_iload_n (pc := 166) dX2_commonPart_166 rfl rfl ?_
              refine tz_aL (pc := 167) (z := s) (v := (J_150 7 s)) dX2_commonPart_167 a_7 rfl (by omega) rfl (fun r_167 => ?_)
              refine tz_iload (pc := 168) dX2_commonPart_168 rfl ?_
              refine tz_iload (pc := 170) dX2_commonPart_170 rfl ?_
              refine tz_iload (pc := 172) dX2_commonPart_172 rfl ?_
              refine tz_cV (pc := 174) (c_made hl n _ _ _ _ _ (by omega) (by omega) (by omega) (by omega) m_150 (q_150).2.1 (q_150).2.2.1 (by have := (q_150).2.1.ar (t := s) (by omega) (by have := (q_150).1; omega); omega) (ltA_of (by omega) (by omega) (by omega))) vl_X2_52 dX2_commonPart_174 o_6 rfl rfl (Nat.le_of_ble_eq_true rfl) ⟨(show 2 + 1 ≤ 4 + 1 * (r9 + 1) by omega), (show 8 + (11 + 11) + 40 * (2) ≤ 40 * (4 + 1 * (r9 + 1)) by omega)⟩ rfl rfl (Nat.le_of_ble_eq_true rfl) (Nat.le_of_ble_eq_true rfl) (fun r9 J_174 hq9 => ?_)
              obtain ⟨z_174, rfl, hz_174, p_174⟩ := hq9
              obtain ⟨m_174, g_174, h_174⟩ := GR.made p_174 (by omega)
              have q_174 : GX [] J_174 J m m_174 := GX.tr q_150 (GR.x g_174)
              exact tz_iret (pc := 177) (z := z_174) dX2_commonPart_177 rfl (Nat.le_of_ble_eq_true rfl) (Nat.le_of_ble_eq_true rfl) ⟨Nat.le_refl _, Nat.le_add_right _ _⟩ ⟨_, rfl, (by omega), ⟨m_174, q_174, h_174, fun S hG E => by rw [show (7 - lv).toNat = (6 - lv).toNat + 1 from by omega]; exact co_c hG E hm hs ht ⟨hx.1, hx.2.1⟩ (gp_end (X := []) ⟨rfl, rfl⟩ (fun S i h => coO_f h) hG E C hm ha.2.2 (C.2.1 s hs.1 hs.2).1.1.symm (Or.inr ⟨by omega, rfl, rfl⟩) (Or.inl ⟨by omega, g_113, h_113, r_113⟩) (Or.inl ⟨by omega, g_150, h_150, r_150⟩) (by rw [show J 7 s = J_150 7 s from (((q_150).2.2.2.1.1 s hs.1 hs.2).1).symm]; exact p_174))⟩⟩
            · refine tz_iconst (pc := 124) dX2_commonPart_124 ?_
              refine tz_goto (pc := 125) (tgt := 153) dX2_commonPart_125 (by decide) ?_
              refine tz_istore (pc := 153) (L2 := [_, _, _, _, _, _, _, _, _]) dX2_commonPart_153 (by decide) rfl ?_
              refine tz_aload_n (pc := 155) dX2_commonPart_155 rfl rfl ?_
              refine tz_fR (pc := 156) dX2_commonPart_156 fl_X2_28 r_141_0 ?_
              refine tz_aload_n (pc := 159) dX2_commonPart_159 rfl rfl ?_
              refine tz_fR (pc := 160) dX2_commonPart_160 fl_X2_28 r_141_0 ?_
              refine tz_fR (pc := 163) dX2_commonPart_163 fl_X2_42 r_6_1 ?_
              refine tz_iload_n (pc := 166) dX2_commonPart_166 rfl rfl ?_
              refine tz_aL (pc := 167) (z := s) (v := (J_113 7 s)) dX2_commonPart_167 a_7 rfl (by omega) rfl (fun r_167 => ?_)
              refine tz_iload (pc := 168) dX2_commonPart_168 rfl ?_
              refine tz_iload (pc := 170) dX2_commonPart_170 rfl ?_
              refine tz_iload (pc := 172) dX2_commonPart_172 rfl ?_
              refine tz_cV (pc := 174) (c_made hl n _ _ _ _ _ (by omega) (by omega) (by omega) (by omega) m_113 (q_113).2.1 (q_113).2.2.1 (by have := (q_113).2.1.ar (t := s) (by omega) (by have := (q_113).1; omega); omega) (ltA_of (by omega) (by omega) (by omega))) vl_X2_52 dX2_commonPart_174 o_6 rfl rfl (Nat.le_of_ble_eq_true rfl) ⟨(show 2 + 1 ≤ 4 + 1 * (r9 + 1) by omega), (show 8 + (11 + 11) + 40 * (2) ≤ 40 * (4 + 1 * (r9 + 1)) by omega)⟩ rfl rfl (Nat.le_of_ble_eq_true rfl) (Nat.le_of_ble_eq_true rfl) (fun r9 J_174 hq9 => ?_)
              obtain ⟨z_174, rfl, hz_174, p_174⟩ := hq9
              obtain ⟨m_174, g_174, h_174⟩ := GR.made p_174 (by omega)
              have q_174 : GX [] J_174 J m m_174 := GX.tr q_113 (GR.x g_174)
              exact tz_iret (pc := 177) (z := z_174) dX2_commonPart_177 rfl (Nat.le_of_ble_eq_true rfl) (Nat.le_of_ble_eq_true rfl) ⟨Nat.le_refl _, Nat.le_add_right _ _⟩ ⟨_, rfl, (by omega), ⟨m_174, q_174, h_174, fun S hG E => by rw [show (7 - lv).toNat = (6 - lv).toNat + 1 from by omega]; exact co_c hG E hm hs ht ⟨hx.1, hx.2.1⟩ (gp_end (X := []) ⟨rfl, rfl⟩ (fun S i h => coO_f h) hG E C hm ha.2.2 (C.2.1 s hs.1 hs.2).1.1.symm (Or.inr ⟨by omega, rfl, rfl⟩) (Or.inl ⟨by omega, g_113, h_113, r_113⟩) (Or.inr ⟨by omega, rfl, rfl⟩) (by rw [show J 7 s = J_113 7 s from (((q_113).2.2.2.1.1 s hs.1 hs.2).1).symm]; exact p_174))⟩⟩
          · refine tz_iconst (pc := 87) dX2_commonPart_87 ?_
            refine tz_goto (pc := 88) (tgt := 116) dX2_commonPart_88 (by decide) ?_
            refine tz_istore (pc := 116) (L2 := [_, _, _, _, _, _, _, _, _]) dX2_commonPart_116 (by decide) rfl ?_
            refine tz_iload (pc := 118) dX2_commonPart_118 rfl ?_
            refine tz_iconst (pc := 120) dX2_commonPart_120 ?_
            refine tz_icmp_ge (pc := 121) (tgt := 128) dX2_commonPart_121 (by decide) (by omega) (by decide) (fun h_121 => ?_) (fun h_121 => ?_)
            · refine tz_aload_n (pc := 128) dX2_commonPart_128 rfl rfl ?_
              refine tz_aload_n (pc := 129) dX2_commonPart_129 rfl rfl ?_
              refine tz_fR (pc := 130) dX2_commonPart_130 fl_X2_28 r_141_0 ?_
              refine tz_iload_n (pc := 133) dX2_commonPart_133 rfl rfl ?_
              refine tz_iconst (pc := 134) dX2_commonPart_134 ?_
              refine tz_cV (pc := 135) (c_arg hl n _ _ _ (by omega) (by decide) (by omega)) vl_X2_48 dX2_commonPart_135 o_6 rfl rfl (Nat.le_of_ble_eq_true rfl) ⟨(show 0 + 1 ≤ 4 + 1 * (r9 + 1) by omega), (show 8 + (3 + 11) + 40 * (0) ≤ 40 * (4 + 1 * (r9 + 1)) by omega)⟩ rfl rfl (Nat.le_of_ble_eq_true rfl) (Nat.le_of_ble_eq_true rfl) (fun r9 J_135 hq9 => ?_)
              obtain ⟨z_135, rfl, hz_135, rfl, rfl⟩ := hq9
              refine tz_aload_n (pc := 138) dX2_commonPart_138 rfl rfl ?_
              refine tz_fR (pc := 139) dX2_commonPart_139 fl_X2_28 r_141_0 ?_
              refine tz_iload_n (pc := 142) dX2_commonPart_142 rfl rfl ?_
              refine tz_iconst (pc := 143) dX2_commonPart_143 ?_
              refine tz_cV (pc := 144) (c_arg hl n _ _ _ (by omega) (by decide) (by omega)) vl_X2_48 dX2_commonPart_144 o_6 rfl rfl (Nat.le_of_ble_eq_true rfl) ⟨(show 0 + 1 ≤ 4 + 1 * (r9 + 1) by omega), (show 8 + (3 + 11) + 40 * (0) ≤ 40 * (4 + 1 * (r9 + 1)) by omega)⟩ rfl rfl (Nat.le_of_ble_eq_true rfl) (Nat.le_of_ble_eq_true rfl) (fun r9 J_144 hq9 => ?_)
              obtain ⟨z_144, rfl, hz_144, rfl, rfl⟩ := hq9
              refine tz_iload_n (pc := 147) dX2_commonPart_147 rfl rfl ?_
              refine tz_iconst (pc := 148) dX2_commonPart_148 ?_
              refine tz_iadd (pc := 149) (v := lv + 1) dX2_commonPart_149 rfl ?_
              have b_150 := GX.arg g0 C hs (i := 2) (by omega)
              have b2_150 := GX.arg g0 C ht (i := 2) (by omega)
              have c_150 := (g0).1
              have k_150 := (g0).2.2.2.2 141 rfl
              have a_150 := cpl.gx C g0 ⟨rfl, rfl, rfl⟩ (by omega) (by omega) (hn 2 (by omega) (by omega))
              rw [← b_150.2, ← b2_150.2, show 6 - lv = 7 - (lv + 1) by omega] at a_150
              refine tz_cV (pc := 150) (ih _ _ _ _ (by omega) (by omega) (by omega) m L (g0).2.1 (g0).2.2.1 (by omega) (by omega) (by rw [k_150]; exact h0) a_150 (hL.of ((g0).2.2.2.2 141 rfl) ((g0).2.2.2.2 143 rfl) ((g0).2.2.2.2 144 rfl)) (hk.gx g0) (by omega)) vl_X2_96 dX2_commonPart_150 o_141 rfl rfl (Nat.le_of_ble_eq_true rfl) ⟨(show (4 + 1 * r9) + 1 ≤ 4 + 1 * (r9 + 1) by omega), (show 8 + (9 + 11) + 40 * ((4 + 1 * r9)) ≤ 40 * (4 + 1 * (r9 + 1)) by omega)⟩ rfl rfl (Nat.le_of_ble_eq_true rfl) (Nat.le_of_ble_eq_true rfl) (fun r9 J_150 hq9 => ?_)
              obtain ⟨z_150, rfl, hz_150, m_150, g_150, h_150, x_150⟩ := hq9
              have q_150 := GX.tr g0 g_150
              have d_150 := q_150.1
              have e_150 := g_150.1
              have s8_150 : J 8 s = J 8 s := ((g0).2.2.2.1.1 s hs.1 hs.2).2.1
              have t8_150 : J 8 t = J 8 t := ((g0).2.2.2.1.1 t ht.1 ht.2).2.1
              have r_150 : ∀ S, S 164 21 = 0 → A0 J S → EXO (coO L (6 - lv).toNat S (S 167 (3 * (0 + s) + 2)) (S 167 (3 * (0 + t) + 2))) z_150 J_150 := fun S h9 E9 => by have e9 := co_T (s := s) (t := t) (i := 2) E9 (g0).2.2.1 (by omega) (by omega) (by decide) (by omega) (by omega); rw [e9.1, e9.2, show 6 - lv = 7 - (lv + 1) by omega]; exact x_150 S h9 E9
              refine tz_istore (pc := 153) (L2 := [_, _, _, _, _, _, _, _, _]) dX2_commonPart_153 (by decide) rfl ?_
              refine tz_aload_n (pc := 155) dX2_commonPart_155 rfl rfl ?_
              refine tz_fR (pc := 156) dX2_commonPart_156 fl_X2_28 r_141_0 ?_
              refine tz_aload_n (pc := 159) dX2_commonPart_159 rfl rfl ?_
              refine tz_fR (pc := 160) dX2_commonPart_160 fl_X2_28 r_141_0 ?_
              refine tz_fR (pc := 163) dX2_commonPart_163 fl_X2_42 r_6_1 ?_
              refine tz_iload_n (pc := 166) dX2_commonPart_166 rfl rfl ?_
              refine tz_aL (pc := 167) (z := s) (v := (J_150 7 s)) dX2_commonPart_167 a_7 rfl (by omega) rfl (fun r_167 => ?_)
              refine tz_iload (pc := 168) dX2_commonPart_168 rfl ?_
              refine tz_iload (pc := 170) dX2_commonPart_170 rfl ?_
              refine tz_iload (pc := 172) dX2_commonPart_172 rfl ?_
              refine tz_cV (pc := 174) (c_made hl n _ _ _ _ _ (by omega) (by omega) (by omega) (by omega) m_150 (q_150).2.1 (q_150).2.2.1 (by have := (q_150).2.1.ar (t := s) (by omega) (by have := (q_150).1; omega); omega) (ltA_of (by omega) (by omega) (by omega))) vl_X2_52 dX2_commonPart_174 o_6 rfl rfl (Nat.le_of_ble_eq_true rfl) ⟨(show 2 + 1 ≤ 4 + 1 * (r9 + 1) by omega), (show 8 + (11 + 11) + 40 * (2) ≤ 40 * (4 + 1 * (r9 + 1)) by omega)⟩ rfl rfl (Nat.le_of_ble_eq_true rfl) (Nat.le_of_ble_eq_true rfl) (fun r9 J_174 hq9 => ?_)
              obtain ⟨z_174, rfl, hz_174, p_174⟩ := hq9
              obtain ⟨m_174, g_174, h_174⟩ := GR.made p_174 (by omega)
              have q_174 : GX [] J_174 J m m_174 := GX.tr q_150 (GR.x g_174)
              exact tz_iret (pc := 177) (z := z_174) dX2_commonPart_177 rfl (Nat.le_of_ble_eq_true rfl) (Nat.le_of_ble_eq_true rfl) ⟨Nat.le_refl _, Nat.le_add_right _ _⟩ ⟨_, rfl, (by omega), ⟨m_174, q_174, h_174, fun S hG E => by rw [show (7 - lv).toNat = (6 - lv).toNat + 1 from by omega]; exact co_c hG E hm hs ht ⟨hx.1, hx.2.1⟩ (gp_end (X := []) ⟨rfl, rfl⟩ (fun S i h => coO_f h) hG E C hm ha.2.2 (C.2.1 s hs.1 hs.2).1.1.symm (Or.inr ⟨by omega, rfl, rfl⟩) (Or.inr ⟨by omega, rfl, rfl⟩) (Or.inl ⟨by omega, g_150, h_150, r_150⟩) (by rw [show J 7 s = J_150 7 s from (((q_150).2.2.2.1.1 s hs.1 hs.2).1).symm]; exact p_174))⟩⟩
            · refine tz_iconst (pc := 124) dX2_commonPart_124 ?_
              refine tz_goto (pc := 125) (tgt := 153) dX2_commonPart_125 (by decide) ?_
              refine tz_istore (pc := 153) (L2 := [_, _, _, _, _, _, _, _, _]) dX2_commonPart_153 (by decide) rfl ?_
              refine tz_aload_n (pc := 155) dX2_commonPart_155 rfl rfl ?_
              refine tz_fR (pc := 156) dX2_commonPart_156 fl_X2_28 r_141_0 ?_
              refine tz_aload_n (pc := 159) dX2_commonPart_159 rfl rfl ?_
              refine tz_fR (pc := 160) dX2_commonPart_160 fl_X2_28 r_141_0 ?_
              refine tz_fR (pc := 163) dX2_commonPart_163 fl_X2_42 r_6_1 ?_
              refine tz_iload_n (pc := 166) dX2_commonPart_166 rfl rfl ?_
              refine tz_aL (pc := 167) (z := s) (v := (J 7 s)) dX2_commonPart_167 a_7 rfl (by omega) rfl (fun r_167 => ?_)
              refine tz_iload (pc := 168) dX2_commonPart_168 rfl ?_
              refine tz_iload (pc := 170) dX2_commonPart_170 rfl ?_
              refine tz_iload (pc := 172) dX2_commonPart_172 rfl ?_
              refine tz_cV (pc := 174) (c_made hl n _ _ _ _ _ (by omega) (by omega) (by omega) (by omega) m (g0).2.1 (g0).2.2.1 (by have := (g0).2.1.ar (t := s) (by omega) (by have := (g0).1; omega); omega) (ltA_of (by omega) (by omega) (by omega))) vl_X2_52 dX2_commonPart_174 o_6 rfl rfl (Nat.le_of_ble_eq_true rfl) ⟨(show 2 + 1 ≤ 4 + 1 * (r9 + 1) by omega), (show 8 + (11 + 11) + 40 * (2) ≤ 40 * (4 + 1 * (r9 + 1)) by omega)⟩ rfl rfl (Nat.le_of_ble_eq_true rfl) (Nat.le_of_ble_eq_true rfl) (fun r9 J_174 hq9 => ?_)
              obtain ⟨z_174, rfl, hz_174, p_174⟩ := hq9
              obtain ⟨m_174, g_174, h_174⟩ := GR.made p_174 (by omega)
              have q_174 : GX [] J_174 J m m_174 := GX.tr g0 (GR.x g_174)
              exact tz_iret (pc := 177) (z := z_174) dX2_commonPart_177 rfl (Nat.le_of_ble_eq_true rfl) (Nat.le_of_ble_eq_true rfl) ⟨Nat.le_refl _, Nat.le_add_right _ _⟩ ⟨_, rfl, (by omega), ⟨m_174, q_174, h_174, fun S hG E => by rw [show (7 - lv).toNat = (6 - lv).toNat + 1 from by omega]; exact co_c hG E hm hs ht ⟨hx.1, hx.2.1⟩ (gp_end (X := []) ⟨rfl, rfl⟩ (fun S i h => coO_f h) hG E C hm ha.2.2 (C.2.1 s hs.1 hs.2).1.1.symm (Or.inr ⟨by omega, rfl, rfl⟩) (Or.inr ⟨by omega, rfl, rfl⟩) (Or.inr ⟨by omega, rfl, rfl⟩) (by rw [show J 7 s = J 7 s from (((g0).2.2.2.1.1 s hs.1 hs.2).1).symm]; exact p_174))⟩⟩
      · refine tz_aload_n (pc := 23) dX2_commonPart_23 rfl rfl ?_
        refine tz_fR (pc := 24) dX2_commonPart_24 fl_X2_28 r_141_0 ?_
        refine tz_iload (pc := 27) dX2_commonPart_27 rfl ?_
        refine tz_cV (pc := 29) (c_varTerm hl n _ _ (by omega) m C hm (by omega)) vl_X2_99 dX2_commonPart_29 o_6 rfl rfl (Nat.le_of_ble_eq_true rfl) ⟨(show 3 + 1 ≤ 4 + 1 * (r9 + 1) by omega), (show 8 + (2 + 11) + 40 * (3) ≤ 40 * (4 + 1 * (r9 + 1)) by omega)⟩ rfl rfl (Nat.le_of_ble_eq_true rfl) (Nat.le_of_ble_eq_true rfl) (fun r9 J_29 hq9 => ?_)
        obtain ⟨z_29, rfl, hz_29, p_29⟩ := hq9
        obtain ⟨m_29, g_29, h_29⟩ := GR.made p_29 (by omega)
        have q_29 : GX [] J_29 J m m_29 := GR.x g_29
        exact tz_iret (pc := 32) (z := z_29) dX2_commonPart_32 rfl (Nat.le_of_ble_eq_true rfl) (Nat.le_of_ble_eq_true rfl) ⟨Nat.le_refl _, Nat.le_add_right _ _⟩ ⟨_, rfl, (by omega), ⟨m_29, q_29, h_29, fun S hG E => by rw [show (7 - lv).toNat = (6 - lv).toNat + 1 from by omega]; exact co_v hG E C hm hs ht hL h0.2 hk (p_9.resolve_right (fun q => by omega)) p_29⟩⟩
    · refine tz_bipush (pc := 6) dX2_commonPart_6 (by decide) ?_
      exact tz_iret (pc := 8) (z := (-3)) dX2_commonPart_8 rfl (Nat.le_of_ble_eq_true rfl) (Nat.le_of_ble_eq_true rfl) ⟨Nat.le_refl _, Nat.le_add_right _ _⟩ ⟨_, rfl, (by decide), ⟨m, GX.rf C hm, Or.inl rfl, fun S hG E => by rw [show (7 - lv).toNat = 0 from by omega]; exact Or.inl ⟨rfl, by show ¬ (1 : Int) = 0; decide⟩⟩⟩

set_option maxHeartbeats 4000000 in
set_option maxRecDepth 100000 in
theorem x_commonOf {l : Launch} {G : tb_G} (hl : l.stackTraces = false) (n : Nat) (J : zJ) (s : Int) (t : Int) (hr_s : -2147483648 ≤ s ∧ s < 2147483648) (hr_t : -2147483648 ≤ t ∧ t < 2147483648) (m : Int) (L : List (Int × Int)) (C : CT J m) (hm : J 6 12 = m) (hs : 0 ≤ s ∧ s < m) (ht : 0 ≤ t ∧ t < m) (h0 : 0 ≤ J 141 4 ∧ J 141 4 ≤ 8) (hc : cpl J 6 s t) (hL : cC J L) (hk : cokJ J m L) : tz_Ok l G M_X2_commonOf 12 0 0 [.ref 141, zi s, zi t] n J (zqi (fun z J' => ∃ m', GX [] J' J m m' ∧ (z = -3 ∨ (0 ≤ z ∧ z < m')) ∧ ∀ S, S 164 21 = 0 → A0 J S → EXO (coO L 6 S s t) z J')) zN := by
  refine tz_Ok.of hl (by decide +kernel) rfl (tb_c1 rfl) (Nat.le_of_ble_eq_true rfl) ?_
  show tz_At l G M_X2_commonOf (tb_rm 12 0 0) none (tb_ZM G 0 0 (zQ n 0 (zqi (fun z J' => ∃ m', GX [] J' J m m' ∧ (z = -3 ∨ (0 ≤ z ∧ z < m')) ∧ ∀ S, S 164 21 = 0 → A0 J S → EXO (coO L 6 S s t) z J'))) (zX n 0 zN)) 0 0 n J 0 [some (.ref 141), some (zi s), some (zi t)] []
  refine tz_aload_n (pc := 0) dX2_commonOf_0 rfl rfl ?_
  refine tz_iload_n (pc := 1) dX2_commonOf_1 rfl rfl ?_
  refine tz_iload_n (pc := 2) dX2_commonOf_2 rfl rfl ?_
  refine tz_iconst (pc := 3) dX2_commonOf_3 ?_
  refine tz_cV (pc := 4) (x_commonP hl n 7 _ _ _ 1 (by omega) (by omega) (by omega) m L C hm hs ht h0 hc hL hk (by decide)) vl_X2_96 dX2_commonOf_4 o_141 rfl rfl (Nat.le_of_ble_eq_true rfl) ⟨(Nat.le_of_ble_eq_true rfl), (Nat.le_of_ble_eq_true rfl)⟩ rfl rfl (Nat.le_of_ble_eq_true rfl) (Nat.le_of_ble_eq_true rfl) (fun r9 J_4 hq9 => ?_)
  obtain ⟨z_4, rfl, hz_4, m1, g1, h1, x1⟩ := hq9
  exact tz_iret (pc := 7) (z := z_4) dX2_commonOf_7 rfl (Nat.le_of_ble_eq_true rfl) (Nat.le_of_ble_eq_true rfl) ⟨Nat.le_refl _, Nat.le_add_right _ _⟩ ⟨_, rfl, (by omega), ⟨m1, g1, h1, x1⟩⟩

theorem A0.tcl {J S : zJ} {m : Int} (E : A0 J S) (C : CT J m) (hm : J 6 12 = m) : tcl S m := fun t i ht a b => by
  have hd := C.ar ht.1 ht.2
  rw [co_h E hm ht, E.ar hd.2.2.2, ← (C.2.1 t ht.1 ht.2).1.1] at b
  have := (E.2.2.2 t i ht.1 (by have := E.2.1; omega) a b).symm
  have c := C.arg ht.1 ht.2 a b
  rw [this]
  exact ⟨by omega, c.1.1, by omega⟩
theorem A0.cok {J S : zJ} {m : Int} {L : List (Int × Int)} (E : A0 J S) (hm : J 6 12 = m) (h : cok S m L) : cokJ J m L := fun p hp => by
  obtain ⟨a, b, c⟩ := h p hp
  rw [co_h E hm a, co_h E hm b] at c
  exact ⟨a, b, c⟩
set_option maxHeartbeats 4000000 in
set_option maxRecDepth 100000 in
theorem v_common {l : Launch} {G : tb_G} (hl : l.stackTraces = false) (n : Nat) (J : zJ) (s : Int) (t : Int) (hr_s : -2147483648 ≤ s ∧ s < 2147483648) (hr_t : -2147483648 ≤ t ∧ t < 2147483648) (m : Int) (S : zJ) (pn : Int) (RR : Int → Int → Int) (hI : CI J m) (h9 : J 145 10 < 1000000000) (cc : CAL J S pn RR) (h21 : S 164 21 = 0) : tz_Ok l G M_X11_common 13 0 0 [.ref 0, zi s, zi t] n J (zqi (fun z J' => CQ J' J ∧ ((((0 ≤ s ∧ s < J 6 12) ∧ (0 ≤ t ∧ t < J 6 12)) ∧ (cpO 6 S [] s t).2 = true ∧ ED S pn RR (coO (cpO 6 S [] s t).1 6 S s t) J' z) ∨ (((0 ≤ s ∧ s < J 6 12) ∧ (0 ≤ t ∧ t < J 6 12)) ∧ (cpO 6 S [] s t).2 = false ∧ z = -2 ∧ CAL J' S pn RR) ∨ (¬ ((0 ≤ s ∧ s < J 6 12) ∧ (0 ≤ t ∧ t < J 6 12)) ∧ z = -1 ∧ CAL J' S pn RR)))) zN := by
  refine tz_Ok.of hl (by decide +kernel) rfl (tb_c1 rfl) (Nat.le_of_ble_eq_true rfl) ?_
  show tz_At l G M_X11_common (tb_rm 13 0 0) none (tb_ZM G 0 0 (zQ n 0 (zqi (fun z J' => CQ J' J ∧ ((((0 ≤ s ∧ s < J 6 12) ∧ (0 ≤ t ∧ t < J 6 12)) ∧ (cpO 6 S [] s t).2 = true ∧ ED S pn RR (coO (cpO 6 S [] s t).1 6 S s t) J' z) ∨ (((0 ≤ s ∧ s < J 6 12) ∧ (0 ≤ t ∧ t < J 6 12)) ∧ (cpO 6 S [] s t).2 = false ∧ z = -2 ∧ CAL J' S pn RR) ∨ (¬ ((0 ≤ s ∧ s < J 6 12) ∧ (0 ≤ t ∧ t < J 6 12)) ∧ z = -1 ∧ CAL J' S pn RR))))) (zX n 0 zN)) 0 0 n J 0 [some (.ref 0), some (zi s), some (zi t)] []
  have hC := hI.1.1.1
  have hm := hI.1.1.2.1
  have hL := hI.1.1.2.2
  have hb := hC.told
  have wb := cc.2.1.b hL
  refine tz_aload_n (pc := 0) dX11_common_0 rfl rfl ?_
  refine tz_fR (pc := 1) dX11_common_1 fl_X11_29 r_0_1 ?_
  refine tz_fR (pc := 4) dX11_common_4 fl_X11_49 r_5_0 ?_
  refine tz_iload_n (pc := 7) dX11_common_7 rfl rfl ?_
  refine tz_cV (pc := 8) (c_has hl n _ _ (by omega)) vl_X11_304 dX11_common_8 o_6 rfl rfl (Nat.le_of_ble_eq_true rfl) ⟨(Nat.le_of_ble_eq_true rfl), (Nat.le_of_ble_eq_true rfl)⟩ rfl rfl (Nat.le_of_ble_eq_true rfl) (Nat.le_of_ble_eq_true rfl) (fun r9 J_8 hq9 => ?_)
  obtain ⟨z_8, rfl, hz_8, rfl, rfl⟩ := hq9
  by_cases hw_11 : 0 ≤ s ∧ s < J 6 12
  · rw [show (if 0 ≤ s ∧ s < J 6 12 then 1 else 0 : Int) = 1 from if_pos hw_11]
    refine tz_if_eqF (pc := 11) (tgt := 28) (by decide) dX11_common_11 (by decide) (by decide) ?_
    refine tz_aload_n (pc := 14) dX11_common_14 rfl rfl ?_
    refine tz_fR (pc := 15) dX11_common_15 fl_X11_29 r_0_1 ?_
    refine tz_fR (pc := 18) dX11_common_18 fl_X11_49 r_5_0 ?_
    refine tz_iload_n (pc := 21) dX11_common_21 rfl rfl ?_
    refine tz_cV (pc := 22) (c_has hl n _ _ (by omega)) vl_X11_304 dX11_common_22 o_6 rfl rfl (Nat.le_of_ble_eq_true rfl) ⟨(Nat.le_of_ble_eq_true rfl), (Nat.le_of_ble_eq_true rfl)⟩ rfl rfl (Nat.le_of_ble_eq_true rfl) (Nat.le_of_ble_eq_true rfl) (fun r9 J_22 hq9 => ?_)
    obtain ⟨z_22, rfl, hz_22, rfl, rfl⟩ := hq9
    by_cases hw_25 : 0 ≤ t ∧ t < J 6 12
    · rw [show (if 0 ≤ t ∧ t < J 6 12 then 1 else 0 : Int) = 1 from if_pos hw_25]
      refine tz_if_neT (pc := 25) (tgt := 35) (by decide) dX11_common_25 (by decide) (by decide) ?_
      refine tz_aload_n (pc := 35) dX11_common_35 rfl rfl ?_
      refine tz_fR (pc := 36) dX11_common_36 fl_X11_62 r_0_7 ?_
      refine tz_iload_n (pc := 39) dX11_common_39 rfl rfl ?_
      refine tz_iload_n (pc := 40) dX11_common_40 rfl rfl ?_
      refine tz_cV (pc := 41) (x_haveCommon hl n _ _ _ (by omega) (by omega) m hC hm (by omega) (by omega)) vl_X11_338 dX11_common_41 o_141 rfl rfl (Nat.le_of_ble_eq_true rfl) ⟨(Nat.le_of_ble_eq_true rfl), (Nat.le_of_ble_eq_true rfl)⟩ rfl rfl (Nat.le_of_ble_eq_true rfl) (Nat.le_of_ble_eq_true rfl) (fun r9 J1 hq9 => ?_)
      obtain ⟨zc, rfl, hz_41, ⟨q1, q2, q3, q4⟩, q5⟩ := hq9
      have hw1 := hI.work q1 rfl
      have hI1 := hw1.1
      have cc1 := cc.wk hI q1 rfl
      have x9 := q5 S cc.1
      refine tz_if_ne (pc := 44) (tgt := 55) dX11_common_44 (by decide) (by omega) (fun h_44 => ?_) (fun h_44 => ?_)
      · refine tz_aload_n (pc := 55) dX11_common_55 rfl rfl ?_
        refine tz_fR (pc := 56) dX11_common_56 fl_X11_29 r_0_1 ?_
        refine tz_cV (pc := 59) (c_begin hl n _) vl_X11_287 dX11_common_59 o_5 rfl rfl (Nat.le_of_ble_eq_true rfl) ⟨(Nat.le_of_ble_eq_true rfl), (Nat.le_of_ble_eq_true rfl)⟩ rfl rfl (Nat.le_of_ble_eq_true rfl) (Nat.le_of_ble_eq_true rfl) (fun r9 Jb hq9 => ?_)
        obtain ⟨rfl, hj⟩ := hq9
        have hb9 : zOf (zbut [19, 61]) Jb J1 := by rw [← hj]; exact zOf.cp rfl (zOf.up rfl zOf.rf)
        have hb19 : ∀ k, ¬ k = 0 → Jb 19 k = J1 19 k := fun k hk => by rw [← hj, zcp_nc (by decide), zup_ne hk]
        have a0 : AC Jb m m := by rw [← hj]; exact hI1.begin
        have hb6 := a0.1.1.2.1
        obtain ⟨cb, kb, lb⟩ := cc1.begin hI1 hj
        refine tz_aload_n (pc := 62) dX11_common_62 rfl rfl ?_
        refine tz_aload_n (pc := 63) dX11_common_63 rfl rfl ?_
        refine tz_fR (pc := 64) dX11_common_64 fl_X11_62 r_0_7 ?_
        refine tz_iload_n (pc := 67) dX11_common_67 rfl rfl ?_
        refine tz_iload_n (pc := 68) dX11_common_68 rfl rfl ?_
        have e141 := hb9 141 rfl
        have cp9 : cpl Jb 6 s t := cpl.mono hI1.1.1.1 (fun t _ _ => ⟨congrFun (hb9 7 rfl) t, congrFun (hb9 8 rfl) t⟩) (fun k _ _ => congrFun (hb9 9 rfl) k) (fun s t q => by obtain ⟨i, a, b⟩ := q; exact ⟨i, by rw [hb9 141 rfl]; exact a, by rw [hb9 143 rfl, hb9 144 rfl]; exact b⟩) 6 s t (by omega) (by omega) (q4 (by omega))
        have ck9 : cokJ Jb m (cpO 6 S [] s t).1 := cb.1.cok a0.1.1.2.1 (cpO_k (cb.1.tcl a0.1.1.1 a0.1.1.2.1) 6 [] s t (by omega) (by omega) (fun p hp => absurd hp List.not_mem_nil))
        refine tz_cV (pc := 69) (x_commonOf hl n _ _ _ (by omega) (by omega) m (cpO 6 S [] s t).1 a0.1.1.1 a0.1.1.2.1 (by omega) (by omega) (by rw [e141]; exact q2) cp9 (x9.1.of (hb9 141 rfl) (hb9 143 rfl) (hb9 144 rfl)) ck9) vl_X11_341 dX11_common_69 o_141 rfl rfl (Nat.le_of_ble_eq_true rfl) ⟨(Nat.le_of_ble_eq_true rfl), (Nat.le_of_ble_eq_true rfl)⟩ rfl rfl (Nat.le_of_ble_eq_true rfl) (Nat.le_of_ble_eq_true rfl) (fun r9 J_69 hq9 => ?_)
        obtain ⟨z_69, rfl, hz_69, m1, g1, h1, x1⟩ := hq9
        have a1 := a0.gx0 g1 rfl
        have o1 := (x1 S h21 cb.1).q cb.2.1 a0.1.1.2.2 (g1.2.2.2.2 19 rfl) (fun k h => coO_5 6 S s t k h)
        refine tz_cV (pc := 72) (x_settled hl n _ _ (by omega) m m1 a1) vl_X11_293 dX11_common_72 o_0 rfl rfl (Nat.le_of_ble_eq_true rfl) ⟨(Nat.le_of_ble_eq_true rfl), (Nat.le_of_ble_eq_true rfl)⟩ rfl rfl (Nat.le_of_ble_eq_true rfl) (Nat.le_of_ble_eq_true rfl) (fun r9 J_72 hq9 => ?_)
        obtain ⟨z_72, rfl, hz_72, s9, s8⟩ := hq9
        exact tz_iret (pc := 75) (z := z_72) dX11_common_75 rfl (Nat.le_of_ble_eq_true rfl) (Nat.le_of_ble_eq_true rfl) ⟨Nat.le_refl _, Nat.le_add_right _ _⟩ ⟨_, rfl, (by omega), ⟨(s9.cq (by rw [g1.2.2.2.2 145 rfl, hb9 145 rfl, hw1.2.1]; omega) ((g1.2.2.2.2 0 rfl).trans ((hb9 0 rfl).trans hw1.2.2.1)) ((g1.2.2.2.2.mono (fun c hc => by have := of_decide_eq_true hc; simp [zbut]; omega)).tr ((hb9.mono (fun c hc => by have := of_decide_eq_true hc; simp [zbut]; omega)).tr hw1.2.2.2))), Or.inl ⟨by omega, x9.2.1 (by omega), act_end cc1 hI1 hj g1 rfl o1 s8⟩⟩⟩
      · refine tz_aload_n (pc := 47) dX11_common_47 rfl rfl ?_
        refine tz_iconst (pc := 48) dX11_common_48 ?_
        refine tz_bipush (pc := 49) dX11_common_49 (by decide) ?_
        refine tz_cV (pc := 51) (c_refused hl n _ _ _ (by decide) (by omega) (by decide)) vl_X11_284 dX11_common_51 o_0 rfl rfl (Nat.le_of_ble_eq_true rfl) ⟨(Nat.le_of_ble_eq_true rfl), (Nat.le_of_ble_eq_true rfl)⟩ rfl rfl (Nat.le_of_ble_eq_true rfl) (Nat.le_of_ble_eq_true rfl) (fun r9 J_51 hq9 => ?_)
        obtain ⟨z_51, rfl, hz_51, f9, rfl⟩ := hq9
        exact tz_iret (pc := 54) (z := (-2)) dX11_common_54 rfl (Nat.le_of_ble_eq_true rfl) (Nat.le_of_ble_eq_true rfl) ⟨Nat.le_refl _, Nat.le_add_right _ _⟩ ⟨_, rfl, (by decide), ⟨(SQ.cq ⟨⟨m, hI1.st f9⟩, f9 145 rfl, f9 0 rfl, (f9.mono (fun c hc => by have := of_decide_eq_true hc; simp [zbut]; omega))⟩ (by rw [hw1.2.1]; omega) hw1.2.2.1 hw1.2.2.2), Or.inr (Or.inl ⟨by omega, Bool.eq_false_iff.2 (fun u => by have := x9.2.2 u; omega), rfl, cc1.st hI1 f9⟩)⟩⟩
    · rw [show (if 0 ≤ t ∧ t < J 6 12 then 1 else 0 : Int) = 0 from if_neg hw_25]
      refine tz_if_neF (pc := 25) (tgt := 35) (by decide) dX11_common_25 (by decide) (by decide) ?_
      refine tz_aload_n (pc := 28) dX11_common_28 rfl rfl ?_
      refine tz_iconst (pc := 29) dX11_common_29 ?_
      refine tz_iconst (pc := 30) dX11_common_30 ?_
      refine tz_cV (pc := 31) (c_refused hl n _ _ _ (by decide) (by omega) (by decide)) vl_X11_284 dX11_common_31 o_0 rfl rfl (Nat.le_of_ble_eq_true rfl) ⟨(Nat.le_of_ble_eq_true rfl), (Nat.le_of_ble_eq_true rfl)⟩ rfl rfl (Nat.le_of_ble_eq_true rfl) (Nat.le_of_ble_eq_true rfl) (fun r9 J_31 hq9 => ?_)
      obtain ⟨z_31, rfl, hz_31, f9, rfl⟩ := hq9
      exact tz_iret (pc := 34) (z := (-1)) dX11_common_34 rfl (Nat.le_of_ble_eq_true rfl) (Nat.le_of_ble_eq_true rfl) ⟨Nat.le_refl _, Nat.le_add_right _ _⟩ ⟨_, rfl, (by decide), ⟨(SQ.cq ⟨⟨m, hI.st f9⟩, f9 145 rfl, f9 0 rfl, (f9.mono (fun c hc => by have := of_decide_eq_true hc; simp [zbut]; omega))⟩ (by omega) rfl zOf.rf), Or.inr (Or.inr ⟨by omega, rfl, cc.st hI f9⟩)⟩⟩
  · rw [show (if 0 ≤ s ∧ s < J 6 12 then 1 else 0 : Int) = 0 from if_neg hw_11]
    refine tz_if_eqT (pc := 11) (tgt := 28) (by decide) dX11_common_11 (by decide) (by decide) ?_
    refine tz_aload_n (pc := 28) dX11_common_28 rfl rfl ?_
    refine tz_iconst (pc := 29) dX11_common_29 ?_
    refine tz_iconst (pc := 30) dX11_common_30 ?_
    refine tz_cV (pc := 31) (c_refused hl n _ _ _ (by decide) (by omega) (by decide)) vl_X11_284 dX11_common_31 o_0 rfl rfl (Nat.le_of_ble_eq_true rfl) ⟨(Nat.le_of_ble_eq_true rfl), (Nat.le_of_ble_eq_true rfl)⟩ rfl rfl (Nat.le_of_ble_eq_true rfl) (Nat.le_of_ble_eq_true rfl) (fun r9 J_31 hq9 => ?_)
    obtain ⟨z_31, rfl, hz_31, f9, rfl⟩ := hq9
    exact tz_iret (pc := 34) (z := (-1)) dX11_common_34 rfl (Nat.le_of_ble_eq_true rfl) (Nat.le_of_ble_eq_true rfl) ⟨Nat.le_refl _, Nat.le_add_right _ _⟩ ⟨_, rfl, (by decide), ⟨(SQ.cq ⟨⟨m, hI.st f9⟩, f9 145 rfl, f9 0 rfl, (f9.mono (fun c hc => by have := of_decide_eq_true hc; simp [zbut]; omega))⟩ (by omega) rfl zOf.rf), Or.inr (Or.inr ⟨by omega, rfl, cc.st hI f9⟩)⟩⟩

end
section
/-! ===== common of the reference, exact: how it goes on ===== -/
def cM (J : zJ) (L : List (Int × Int)) : Prop := J 164 32 = L.length ∧ cLo (fun k => J 182 (2 * k)) (fun k => J 182 (2 * k + 1)) 0 L
theorem cM.of {J' J : zJ} {L : List (Int × Int)} (h : cM J L) (e1 : J' 164 32 = J 164 32) (e2 : J' 182 = J 182) : cM J' L := by
  unfold cM
  rw [e1, e2]
  exact h
/-- what commonOf tells: nothing done if full or too much; else as the functions say -/
def rcQ (k : Nat) (J0 J1 : zJ) (s t z : Int) (L0 : List (Int × Int)) : Prop := (J1 164 21 = 0 → J1 164 33 = 0 → ∃ L1, cpO k (tb0 J0) L0 s t = (L1, true) ∧ cM J1 L1 ∧ ∀ M, (tb0 J1, z) = coO (L1 ++ M) k (tb0 J0) s t) ∧ (¬ J1 164 21 = 0 → J1 164 33 = 0 ∧ ∀ L1, cpO k (tb0 J0) L0 s t = (L1, true) → ∀ M, ¬ (coO (L1 ++ M) k (tb0 J0) s t).1 164 21 = 0) ∧ (¬ J1 164 33 = 0 → (cpO k (tb0 J0) L0 s t).2 = false)
def rcP (k : Nat) (J0 J1 : zJ) (s t z : Int) : Prop := (¬ (J0 164 21 = 0 ∧ J0 164 33 = 0) → J1 = J0) ∧ (J0 164 21 = 0 → J0 164 33 = 0 → ∀ L0, cM J0 L0 → rcQ k J0 J1 s t z L0)
noncomputable def cG (L : List (Int × Int)) (k : Nat) (s t : Int) : zJ → Int → zJ × Int := fun H i => coO L k H (H 167 (3 * (0 + s) + i)) (H 167 (3 * (0 + t) + i))
theorem cG_f {L : List (Int × Int)} {k : Nat} {s t : Int} : ∀ S i, ¬ S 164 21 = 0 → ¬ (cG L k s t S i).1 164 21 = 0 := fun _ _ h => coO_f h
def zf3 (z0 z1 z2 : Int) : Nat → Int := fun j => if j = 0 then z0 else if j = 1 then z1 else z2
/-- behind i arguments -/
def rcS (k : Nat) (J Ji : zJ) (L0 : List (Int × Int)) (s t A : Int) (zf : Nat → Int) (i : Nat) : Prop := (Ji 164 21 = 0 ∧ Ji 164 33 = 0 ∧ ∃ Li, stg (cT k (tb0 J) s t) L0 A i = (Li, true) ∧ cM Ji Li ∧ ∀ M, (gst (cG (Li ++ M) k s t) (tb0 J) A i).1 = tb0 Ji ∧ ∀ j, j < i → (gst (cG (Li ++ M) k s t) (tb0 J) A (j + 1)).2 = zf j) ∨ (¬ Ji 164 21 = 0 ∧ Ji 164 33 = 0 ∧ ∀ Li, stg (cT k (tb0 J) s t) L0 A i = (Li, true) → ∀ M, ¬ (gst (cG (Li ++ M) k s t) (tb0 J) A i).1 164 21 = 0) ∨ (Ji 164 21 = 0 ∧ ¬ Ji 164 33 = 0 ∧ (stg (cT k (tb0 J) s t) L0 A i).2 = false)
theorem rcS.s {k : Nat} {J Ji Jn : zJ} {L0 : List (Int × Int)} {s t A : Int} {zf : Nat → Int} {i : Nat} (h : rcS k J Ji L0 s t A zf i) (a : ((i : Int) < A ∧ rcP k Ji Jn (tb0 Ji 167 (3 * (0 + s) + i)) (tb0 Ji 167 (3 * (0 + t) + i)) (zf i) ∧ ∀ L, cpO k (tb0 Ji) L (tb0 Ji 167 (3 * (0 + s) + i)) (tb0 Ji 167 (3 * (0 + t) + i)) = cT k (tb0 J) s t L i) ∨ (¬ (i : Int) < A ∧ Jn = Ji ∧ zf i = 0)) : rcS k J Jn L0 s t A zf (i + 1) := by
  rcases a with ⟨a, p, c⟩ | ⟨a, rfl, az⟩
  · rcases h with ⟨f, g, Li, e1, e2, e3⟩ | ⟨f, g, e⟩ | ⟨f0, f, e⟩
    · obtain ⟨q1, q2, q3⟩ := p.2 f g Li e2
      have es : stg (cT k (tb0 J) s t) L0 A (i + 1) = cpO k (tb0 Ji) Li (tb0 Ji 167 (3 * (0 + s) + i)) (tb0 Ji 167 (3 * (0 + t) + i)) := by
        rw [stg_s, e1, if_pos ⟨rfl, a⟩, c]
      have px := cpO_p k (tb0 Ji) Li (tb0 Ji 167 (3 * (0 + s) + i)) (tb0 Ji 167 (3 * (0 + t) + i))
      have gs : ∀ L1 M, pfx Li L1 → (∀ j, j < i → (gst (cG (L1 ++ M) k s t) (tb0 J) A (j + 1)).2 = zf j) ∧ gst (cG (L1 ++ M) k s t) (tb0 J) A (i + 1) = coO (L1 ++ M) k (tb0 Ji) (tb0 Ji 167 (3 * (0 + s) + i)) (tb0 Ji 167 (3 * (0 + t) + i)) := fun L1 M w => by
        obtain ⟨N, rfl⟩ := w
        have u := e3 (N ++ M)
        rw [← List.append_assoc] at u
        refine ⟨u.2, ?_⟩
        rw [gst_s, u.1]
        unfold gA
        rw [if_pos a]
        rfl
      by_cases m : Jn 164 33 = 0
      · by_cases n : Jn 164 21 = 0
        · obtain ⟨L1, r1, r2, r3⟩ := q1 n m
          rw [r1] at px
          refine Or.inl ⟨n, m, L1, es.trans r1, r2, fun M => ?_⟩
          obtain ⟨g1, g2⟩ := gs L1 M px
          rw [← r3 M] at g2
          refine ⟨by rw [g2], fun j hj => ?_⟩
          by_cases ej : j = i
          · rw [ej, g2]
          · exact g1 j (by omega)
        · refine Or.inr (Or.inl ⟨n, m, fun L1 e M => ?_⟩)
          rw [es] at e
          rw [e] at px
          rw [(gs L1 M px).2]
          exact (q2 n).2 L1 e M
      · exact Or.inr (Or.inr ⟨Decidable.byContradiction (fun n => m (q2 n).1), m, by rw [es]; exact q3 m⟩)
    · have ej : Jn = Ji := p.1 (fun w => f w.1)
      rw [ej]
      refine Or.inr (Or.inl ⟨f, g, fun L1 w M => gA_f cG_f ?_⟩)
      have b : (stg (cT k (tb0 J) s t) L0 A i).2 = true := Decidable.byContradiction (fun b => by
        rw [stg_s, if_neg (fun u => b u.1)] at w
        rw [w] at b
        exact b rfl)
      have w2 : pfx (stg (cT k (tb0 J) s t) L0 A i).1 L1 := by
        rw [stg_s, if_pos ⟨b, a⟩] at w
        have := cpO_p k (tb0 J) (stg (cT k (tb0 J) s t) L0 A i).1 (tb0 J 167 (3 * (0 + s) + i)) (tb0 J 167 (3 * (0 + t) + i))
        have e9 : cpO k (tb0 J) (stg (cT k (tb0 J) s t) L0 A i).1 (tb0 J 167 (3 * (0 + s) + i)) (tb0 J 167 (3 * (0 + t) + i)) = (L1, true) := w
        rw [e9] at this
        exact this
      obtain ⟨N, w3⟩ := w2
      have := e _ (Prod.ext rfl b) (N ++ M)
      rw [← List.append_assoc, ← w3] at this
      exact this
    · have ej : Jn = Ji := p.1 (fun w => f w.2)
      rw [ej]
      exact Or.inr (Or.inr ⟨f0, f, by rw [stg_s, if_neg (fun u => by rw [e] at u; cases u.1)]; exact e⟩)
  · have es : stg (cT k (tb0 J) s t) L0 A (i + 1) = stg (cT k (tb0 J) s t) L0 A i := by rw [stg_s, if_neg (fun u => a u.2)]
    have eg : ∀ L, gst (cG L k s t) (tb0 J) A (i + 1) = ((gst (cG L k s t) (tb0 J) A i).1, 0) := fun L => by
      rw [gst_s]
      unfold gA
      rw [if_neg a]
    rcases h with ⟨f, g, Li, e1, e2, e3⟩ | ⟨f, g, e⟩ | ⟨f0, f, e⟩
    · refine Or.inl ⟨f, g, Li, es.trans e1, e2, fun M => ⟨by rw [eg]; exact (e3 M).1, fun j hj => ?_⟩⟩
      by_cases ej : j = i
      · rw [ej, eg, az]
      · exact (e3 M).2 j (by omega)
    · exact Or.inr (Or.inl ⟨f, g, fun L1 w M => by rw [eg]; exact e L1 (es.symm.trans w) M⟩)
    · exact Or.inr (Or.inr ⟨f0, f, by rw [es]; exact e⟩)
theorem rc_end {k : Nat} {J J2 J' : zJ} {L0 : List (Int × Int)} {s t A z : Int} {zf : Nat → Int} (h : rcS k J J2 L0 s t A zf 3) (hv : ¬ (tb0 J 166 (0 + s) < 0 ∨ ¬ tb0 J 166 (0 + s) = tb0 J 166 (0 + t))) (h21 : J 164 21 = 0) (hA : oar (tb0 J) (tb0 J 166 (0 + s)) = A) (a : (¬ J2 164 33 = 0 ∧ J' = J2) ∨ (J2 164 33 = 0 ∧ (tb0 J', z) = tmO (tb0 J2) (tb0 J 166 (0 + s)) (zf 0) (zf 1) (zf 2) ∧ J' 164 33 = J2 164 33 ∧ J' 164 32 = J2 164 32 ∧ J' 182 = J2 182)) : rcQ (k + 1) J J' s t z L0 := by
  have ec : cpO (k + 1) (tb0 J) L0 s t = stg (cT k (tb0 J) s t) L0 A 3 := by
    rw [cpO_s, if_neg hv, hA]
    rfl
  have eo : ∀ L, coO L (k + 1) (tb0 J) s t = tmO (gst (cG L k s t) (tb0 J) A 3).1 (tb0 J 166 (0 + s)) (gst (cG L k s t) (tb0 J) A 1).2 (gst (cG L k s t) (tb0 J) A 2).2 (gst (cG L k s t) (tb0 J) A 3).2 := fun L => by
    rw [coO_s, if_pos (show tb0 J 164 21 = 0 from h21), if_neg hv]
    unfold gR
    rw [hA]
    rfl
  unfold rcQ
  rw [ec]
  rcases h with ⟨f, g, Li, e1, e2, e3⟩ | ⟨f, g, e⟩ | ⟨f0, f, e⟩
  · rcases a with ⟨a, _⟩ | ⟨_, a1, a2, a3, a4⟩
    · exact absurd g a
    have q : ∀ M, (tb0 J', z) = coO (Li ++ M) (k + 1) (tb0 J) s t := fun M => by
      obtain ⟨u, v⟩ := e3 M
      rw [eo, u, v 0 (by decide), v 1 (by decide), v 2 (by decide)]
      exact a1
    refine ⟨fun _ _ => ⟨Li, e1, e2.of a3 a4, q⟩, fun n => ⟨a2.trans g, fun L1 w M => ?_⟩, fun n => absurd (a2.trans g) n⟩
    have : L1 = Li := by rw [e1] at w; exact (Prod.mk.inj w).1.symm
    rw [this, ← q M]
    exact n
  · rcases a with ⟨a, _⟩ | ⟨_, a1, a2, a3, a4⟩
    · exact absurd g a
    have a5 : tb0 J' = tb0 J2 := by
      rw [tmO_f (show ¬ tb0 J2 164 21 = 0 from f)] at a1
      exact (Prod.mk.inj a1).1
    have a6 : J' 164 21 = J2 164 21 := congrFun (congrFun a5 164) 21
    refine ⟨fun n => absurd (a6.symm.trans n) f, fun _ => ⟨a2.trans g, fun L1 w M => ?_⟩, fun n => absurd (a2.trans g) n⟩
    have := e L1 w M
    rw [eo, tmO_f this]
    exact this
  · rcases a with ⟨_, a⟩ | ⟨a, _⟩
    · rw [a]
      refine ⟨fun _ n => absurd n f, fun n => absurd f0 n, fun _ => e⟩
    · exact absurd a f
theorem rc_leaf {k : Nat} {J Jc J' : zJ} {L0 : List (Int × Int)} {s t z zc : Int} (hv : tb0 J 166 (0 + s) < 0 ∨ ¬ tb0 J 166 (0 + s) = tb0 J 166 (0 + t)) (h21 : J 164 21 = 0) (ec : tb0 Jc = tb0 J) (c : ((cad L0 s t).2 = true ∧ cM Jc (cad L0 s t).1 ∧ zc = cix L0 s t ∧ Jc 164 33 = 0) ∨ ((cad L0 s t).2 = false ∧ ¬ Jc 164 33 = 0)) (a : (¬ Jc 164 33 = 0 ∧ J' = Jc) ∨ (Jc 164 33 = 0 ∧ (tb0 J', z) = tmO (tb0 Jc) (-1 - zc) 0 0 0 ∧ J' 164 33 = Jc 164 33 ∧ J' 164 32 = Jc 164 32 ∧ J' 182 = Jc 182)) : rcQ (k + 1) J J' s t z L0 := by
  have e0 : Jc 164 21 = 0 := (congrFun (congrFun ec 164) 21).trans h21
  unfold rcQ
  rw [cpO_s, if_pos hv]
  have eo : ∀ L, coO L (k + 1) (tb0 J) s t = tmO (tb0 J) (-1 - cix L s t) 0 0 0 := fun L => by rw [coO_s, if_pos (show tb0 J 164 21 = 0 from h21), if_pos hv]
  rcases c with ⟨c1, c2, c3, c4⟩ | ⟨c1, c2⟩
  · rcases a with ⟨a, _⟩ | ⟨_, a1, a2, a3, a4⟩
    · exact absurd c4 a
    have ep : cad L0 s t = ((cad L0 s t).1, true) := Prod.ext rfl c1
    have q : ∀ M, (tb0 J', z) = coO ((cad L0 s t).1 ++ M) (k + 1) (tb0 J) s t := fun M => by
      rw [eo, cad_ix ep M, ← c3, ← ec]
      exact a1
    refine ⟨fun _ _ => ⟨_, ep, c2.of a3 a4, q⟩, fun n => ⟨a2.trans c4, fun L1 w M => ?_⟩, fun n => absurd (a2.trans c4) n⟩
    have : L1 = (cad L0 s t).1 := by rw [w]
    rw [this, ← q M]
    exact n
  · rcases a with ⟨_, a⟩ | ⟨a, _⟩
    · rw [a]
      exact ⟨fun _ n => absurd n c2, fun n => absurd e0 n, fun _ => c1⟩
    · exact absurd a c2
theorem cM.ac {J J' : zJ} {L : List (Int × Int)} {u t z : Int} (c : cM J L) (h33 : J 164 33 = 0) (h : ((0 ≤ z ∧ z < J 164 32) ∧ (J 182 (2 * z) = u ∧ J 182 (2 * z + 1) = t) ∧ (∀ i, 0 ≤ i → i < z → ¬ (J 182 (2 * i) = u ∧ J 182 (2 * i + 1) = t)) ∧ J = J') ∨ ((∀ i, 0 ≤ i → i < J 164 32 → ¬ (J 182 (2 * i) = u ∧ J 182 (2 * i + 1) = t)) ∧ (((¬ J 164 33 = 0 ∨ J 164 32 = 8) ∧ J' 164 33 = 1) ∨ (J 164 32 < 8 ∧ z = J 164 32 ∧ zup (zup (zup (zup J 164 33 0) 182 (2 * J 164 32) u) 182 (2 * J 164 32 + 1) t) 164 32 (J 164 32 + 1) = J')))) : ((cad L u t).2 = true ∧ cM J' (cad L u t).1 ∧ z = cix L u t ∧ J' 164 33 = 0) ∨ ((cad L u t).2 = false ∧ ¬ J' 164 33 = 0) := by
  obtain ⟨c0, c1⟩ := c
  unfold cad
  rcases h with ⟨h1, h2, h3, rfl⟩ | ⟨hn, h⟩
  · have e := cLo_ix L 0 z u t c1 h1.1 (by omega) h2 (fun i a b => h3 i a b)
    rw [if_pos (by omega)]
    exact Or.inl ⟨rfl, ⟨c0, c1⟩, by omega, h33⟩
  · have e := cLo_no L 0 u t c1 (fun i a b => hn i a (by omega))
    rw [if_neg (by omega)]
    rcases h with ⟨h8, h9⟩ | ⟨h8, hz, rfl⟩
    · rw [if_neg (by omega)]
      exact Or.inr ⟨rfl, by omega⟩
    · rw [if_pos (by omega)]
      refine Or.inl ⟨rfl, ⟨?_, ?_⟩, by omega, rfl⟩
      · show J 164 32 + 1 = _
        rw [List.length_append, List.length_singleton]
        omega
      · have e3 : ∀ i, zup (zup (zup (zup J 164 33 0) 182 (2 * J 164 32) u) 182 (2 * J 164 32 + 1) t) 164 32 (J 164 32 + 1) 182 i = if i = 2 * J 164 32 + 1 then t else if i = 2 * J 164 32 then u else J 182 i := fun i => rfl
        refine cLo_ap L [(u, t)] 0 (cLo_cg L 0 (fun i a b => ?_) c1) ⟨⟨?_, ?_⟩, trivial⟩
        · rw [e3, e3, if_neg (by omega), if_neg (by omega), if_neg (by omega), if_neg (by omega)]
          exact ⟨rfl, rfl⟩
        · dsimp only
          rw [e3, if_neg (by omega), if_pos (by omega)]
        · dsimp only
          rw [e3, if_pos (by omega)]
end
section
/-! ===== common of the reference, exact ===== -/
theorem MS.oa {J : zJ} {s m t : Int} (hM : MS J 0 0 0 s m) (ht : 0 ≤ t ∧ t < m) : tb0 J 166 (0 + t) = J 166 (0 + t) ∧ oar (tb0 J) (tb0 J 166 (0 + t)) = mar J 0 0 t := by
  have hT := hM.told
  have hd := (hM.ar ht).2.1
  have h6 : tb0 J 166 (0 + t) = J 166 (0 + t) := by rw [tb0_6, if_pos (by omega)]
  refine ⟨h6, ?_⟩
  rw [h6]
  exact arh_cg (fun q => by rw [tb0_0, if_pos (by omega)])
theorem MS.tc {J : zJ} {s m : Int} (hM : MS J 0 0 0 s m) : tcl (tb0 J) m := fun t i ht a b => by
  have hT := hM.told
  rw [(hM.oa ht).2] at b
  have h3 := (hM.ar ht).1
  have := (hM.arg ht ⟨a, b⟩).1
  rw [tb0_7, if_pos (by omega)]
  exact ⟨by omega, by omega, by omega⟩
theorem rc_a {X : List Nat} {F : List Int} {rp : Int → Bool} {J Ji Jn : zJ} {s m mi u t z : Int} {i k : Nat} (hM : MS J 0 0 0 s m) (g : MG X F rp Ji J 0 0 0 s m mi) (e0 : Ji 170 = J 170) (hu : 0 ≤ u ∧ u < m) (ht : 0 ≤ t ∧ t < m) (hh : J 166 (0 + u) = J 166 (0 + t)) (hi : (i : Int) < mar J 0 0 u) (x : rcP k Ji Jn (J 167 (3 * (0 + u) + i)) (J 167 (3 * (0 + t) + i)) z) : (i : Int) < mar J 0 0 u ∧ rcP k Ji Jn (tb0 Ji 167 (3 * (0 + u) + i)) (tb0 Ji 167 (3 * (0 + t) + i)) z ∧ ∀ L, cpO k (tb0 Ji) L (tb0 Ji 167 (3 * (0 + u) + i)) (tb0 Ji 167 (3 * (0 + t) + i)) = cT k (tb0 J) u t L i := by
  have hT := hM.told
  have h3 := (hM.ar hu).1
  have eh := MS.hd8 (d := 0) hh
  have r1 := (hM.arg hu (i := (i : Int)) ⟨by omega, hi⟩).1
  have r2 := (hM.arg ht (i := (i : Int)) ⟨by omega, by omega⟩).1
  have w : ∀ q, (0 ≤ q ∧ q < m) → tb0 Ji 167 (3 * (0 + q) + i) = J 167 (3 * (0 + q) + i) := fun q hq => by
    rw [tb0_7, if_pos (by omega)]
    exact (g.2.1 q hq.1 hq.2).2 i (by omega) (by omega)
  have v : ∀ q, (0 ≤ q ∧ q < m) → tb0 J 167 (3 * (0 + q) + i) = J 167 (3 * (0 + q) + i) := fun q hq => by rw [tb0_7, if_pos (by omega)]
  rw [w u hu, w t ht]
  refine ⟨hi, x, fun L => ?_⟩
  unfold cT
  rw [v u hu, v t ht]
  refine cpO_cg hM.tc (fun q a b => ?_) (fun q j a b c d => ?_) (fun q => ?_) k L _ _ ⟨r1.1, by omega⟩ ⟨r2.1, by omega⟩
  · rw [tb0_6, if_pos (by omega), tb0_6, if_pos (by omega)]
    exact (g.2.1 q a b).1.1
  · rw [tb0_7, if_pos (by omega), tb0_7, if_pos (by omega)]
    exact (g.2.1 q a b).2 j c d
  · rw [tb0_0, tb0_0, e0]
theorem rc_s {k : Nat} {J : zJ} {L0 : List (Int × Int)} {s t A : Int} {zf : Nat → Int} (h21 : J 164 21 = 0) (h33 : J 164 33 = 0) (c : cM J L0) : rcS k J J L0 s t A zf 0 := Or.inl ⟨h21, h33, L0, rfl, c, fun M => ⟨rfl, fun j hj => absurd hj (Nat.not_lt_zero j)⟩⟩
theorem rc_k {J J' : zJ} {s m u t z : Int} {k : Nat} (hM : MS J 0 0 0 s m) (hu : 0 ≤ u ∧ u < m) (hk : J 168 (0 + u) ≤ k) (h21 : J 164 21 = 0) (h33 : J 164 33 = 0) (e : ∀ (k9 : Nat) L0, cM J L0 → k = k9 + 1 → rcQ (k9 + 1) J J' u t z L0) : rcP k J J' u t z := by
  have dp := (hM.ar hu).2.2.1
  obtain ⟨k9, rfl⟩ : ∃ k9, k = k9 + 1 := ⟨k - 1, by omega⟩
  exact ⟨fun q => absurd ⟨h21, h33⟩ q, fun _ _ L0 c => e k9 L0 c rfl⟩
set_option maxHeartbeats 4000000 in
set_option maxRecDepth 100000 in
theorem o_coupleOf {l : Launch} {G : tb_G} (hl : l.stackTraces = false) (n : Nat) (J : zJ) (u : Int) (t : Int) (hr_u : -2147483648 ≤ u ∧ u < 2147483648) (hr_t : -2147483648 ≤ t ∧ t < 2147483648)  (h0 : 0 ≤ J 164 32 ∧ J 164 32 ≤ 8) : tz_Ok l G M_X12_coupleOf 0 0 0 [.ref 164, zi u, zi t] n J (zqi (fun z J' => (zOf (zbut [164, 182]) J' J ∧ (∀ k, ¬ k = 32 → ¬ k = 33 → J' 164 k = J 164 k) ∧ (0 ≤ J' 164 32 ∧ J' 164 32 ≤ 8) ∧ (J' 164 33 = 0 → J 164 33 = 0 ∧ 0 ≤ z ∧ z < 8)) ∧ (((0 ≤ z ∧ z < J 164 32) ∧ (J 182 (2 * z) = u ∧ J 182 (2 * z + 1) = t) ∧ (∀ i, 0 ≤ i → i < z → ¬ (J 182 (2 * i) = u ∧ J 182 (2 * i + 1) = t)) ∧ J = J') ∨ ((∀ i, 0 ≤ i → i < J 164 32 → ¬ (J 182 (2 * i) = u ∧ J 182 (2 * i + 1) = t)) ∧ (((¬ J 164 33 = 0 ∨ J 164 32 = 8) ∧ J' 164 33 = 1) ∨ (J 164 32 < 8 ∧ z = J 164 32 ∧ zup (zup (zup (zup J 164 33 0) 182 (2 * J 164 32) u) 182 (2 * J 164 32 + 1) t) 164 32 (J 164 32 + 1) = J')))))) zN := by
  refine tz_Ok.of hl (by decide +kernel) rfl (tb_c1 rfl) (Nat.le_of_ble_eq_true rfl) ?_
  show tz_At l G M_X12_coupleOf (tb_rm 0 0 0) none (tb_ZM G 0 0 (zQ n 0 (zqi (fun z J' => (zOf (zbut [164, 182]) J' J ∧ (∀ k, ¬ k = 32 → ¬ k = 33 → J' 164 k = J 164 k) ∧ (0 ≤ J' 164 32 ∧ J' 164 32 ≤ 8) ∧ (J' 164 33 = 0 → J 164 33 = 0 ∧ 0 ≤ z ∧ z < 8)) ∧ (((0 ≤ z ∧ z < J 164 32) ∧ (J 182 (2 * z) = u ∧ J 182 (2 * z + 1) = t) ∧ (∀ i, 0 ≤ i → i < z → ¬ (J 182 (2 * i) = u ∧ J 182 (2 * i + 1) = t)) ∧ J = J') ∨ ((∀ i, 0 ≤ i → i < J 164 32 → ¬ (J 182 (2 * i) = u ∧ J 182 (2 * i + 1) = t)) ∧ (((¬ J 164 33 = 0 ∨ J 164 32 = 8) ∧ J' 164 33 = 1) ∨ (J 164 32 < 8 ∧ z = J 164 32 ∧ zup (zup (zup (zup J 164 33 0) 182 (2 * J 164 32) u) 182 (2 * J 164 32 + 1) t) 164 32 (J 164 32 + 1) = J'))))))) (zX n 0 zN)) 0 0 n J 0 [some (.ref 164), some (zi u), some (zi t), none] []
  refine tz_iconst (pc := 0) dX12_coupleOf_0 ?_
  refine tz_istore_n (pc := 1) (L2 := [_, _, _, _]) dX12_coupleOf_1 rfl (by decide) rfl ?_
  have loop2 : ∀ (f9 : Nat) (k : Int), ((J 164 32 - k).toNat) < f9 → (0 ≤ k ∧ k ≤ J 164 32) → (∀ i, 0 ≤ i → i < k → ¬ (J 182 (2 * i) = u ∧ J 182 (2 * i + 1) = t)) → tz_At l G M_X12_coupleOf (tb_rm 0 0 0) none (tb_ZM G 0 0 (zQ n 0 (zqi (fun z J' => (zOf (zbut [164, 182]) J' J ∧ (∀ k, ¬ k = 32 → ¬ k = 33 → J' 164 k = J 164 k) ∧ (0 ≤ J' 164 32 ∧ J' 164 32 ≤ 8) ∧ (J' 164 33 = 0 → J 164 33 = 0 ∧ 0 ≤ z ∧ z < 8)) ∧ (((0 ≤ z ∧ z < J 164 32) ∧ (J 182 (2 * z) = u ∧ J 182 (2 * z + 1) = t) ∧ (∀ i, 0 ≤ i → i < z → ¬ (J 182 (2 * i) = u ∧ J 182 (2 * i + 1) = t)) ∧ J = J') ∨ ((∀ i, 0 ≤ i → i < J 164 32 → ¬ (J 182 (2 * i) = u ∧ J 182 (2 * i + 1) = t)) ∧ (((¬ J 164 33 = 0 ∨ J 164 32 = 8) ∧ J' 164 33 = 1) ∨ (J 164 32 < 8 ∧ z = J 164 32 ∧ zup (zup (zup (zup J 164 33 0) 182 (2 * J 164 32) u) 182 (2 * J 164 32 + 1) t) 164 32 (J 164 32 + 1) = J'))))))) (zX n 0 zN)) 0 0 n J 2 [some (.ref 164), some (zi u), some (zi t), some (zi k)] [] := by
    intro f9
    induction f9 with
    | zero => intro k hm9; exact absurd hm9 (Nat.not_lt_zero _)
    | succ f9 ih2 =>
      intro k hm2 hk hn
      refine tz_iload_n (pc := 2) dX12_coupleOf_2 rfl rfl ?_
      refine tz_aload_n (pc := 3) dX12_coupleOf_3 rfl rfl ?_
      refine tz_fI (pc := 4) (kz := 32) (v := (J 164 32)) dX12_coupleOf_4 fl_X12_192 i_164_32 rfl rfl (fun r_4 => ?_)
      refine tz_icmp_ge (pc := 7) (tgt := 44) dX12_coupleOf_7 (by decide) (by omega) (by omega) (fun h_7 => ?_) (fun h_7 => ?_)
      · refine tz_aload_n (pc := 44) dX12_coupleOf_44 rfl rfl ?_
        refine tz_aload_n (pc := 45) dX12_coupleOf_45 rfl rfl ?_
        refine tz_fI (pc := 46) (kz := 33) (v := (J 164 33)) dX12_coupleOf_46 fl_X12_195 i_164_33 rfl rfl (fun r_46 => ?_)
        refine tz_if_ne (pc := 49) (tgt := 61) dX12_coupleOf_49 (by decide) (by omega) (fun h_49 => ?_) (fun h_49 => ?_)
        · refine tz_iconst (pc := 61) dX12_coupleOf_61 ?_
          refine tz_goto (pc := 62) (tgt := 66) dX12_coupleOf_62 (by decide) ?_
          refine tz_pZ (pc := 66) (kz := 33) dX12_coupleOf_66 fl_X12_195 i_164_33 rfl rfl (Or.inr rfl) ?_
          refine tz_aload_n (pc := 69) dX12_coupleOf_69 rfl rfl ?_
          refine tz_fI (pc := 70) (kz := 33) (v := 1) dX12_coupleOf_70 fl_X12_195 i_164_33 rfl rfl (fun _ => ?_)
          refine tz_if_eqF (pc := 73) (tgt := 78) (by decide) dX12_coupleOf_73 (by decide) (by decide) ?_
          refine tz_iconst (pc := 76) dX12_coupleOf_76 ?_
          exact tz_iret (pc := 77) (z := 0) dX12_coupleOf_77 rfl (Nat.le_of_ble_eq_true rfl) (Nat.le_of_ble_eq_true rfl) ⟨Nat.le_refl _, Nat.le_add_right _ _⟩ ⟨_, rfl, (by decide), ⟨⟨zOf.up rfl zOf.rf, fun k _ e => zup_ne e, h0, fun q9 => absurd ((zup_at (J := J) (c := 164) (k := 33) (z := 1)).symm.trans q9) (by decide)⟩, Or.inr ⟨fun i a b => hn i a (by omega), Or.inl ⟨by omega, zup_at⟩⟩⟩⟩
        · refine tz_aload_n (pc := 52) dX12_coupleOf_52 rfl rfl ?_
          refine tz_fI (pc := 53) (kz := 32) (v := (J 164 32)) dX12_coupleOf_53 fl_X12_192 i_164_32 rfl rfl (fun r_53 => ?_)
          refine tz_bipush (pc := 56) dX12_coupleOf_56 (by decide) ?_
          refine tz_icmp_ne (pc := 58) (tgt := 65) dX12_coupleOf_58 (by decide) (by omega) (by decide) (fun h_58 => ?_) (fun h_58 => ?_)
          · refine tz_iconst (pc := 65) dX12_coupleOf_65 ?_
            refine tz_pZ (pc := 66) (kz := 33) dX12_coupleOf_66 fl_X12_195 i_164_33 rfl rfl (Or.inl rfl) ?_
            refine tz_aload_n (pc := 69) dX12_coupleOf_69 rfl rfl ?_
            refine tz_fI (pc := 70) (kz := 33) (v := 0) dX12_coupleOf_70 fl_X12_195 i_164_33 rfl rfl (fun _ => ?_)
            refine tz_if_eqT (pc := 73) (tgt := 78) (by decide) dX12_coupleOf_73 (by decide) (by decide) ?_
            refine tz_aload_n (pc := 78) dX12_coupleOf_78 rfl rfl ?_
            refine tz_fR (pc := 79) dX12_coupleOf_79 fl_X12_65 r_164_31 ?_
            refine tz_iconst (pc := 82) dX12_coupleOf_82 ?_
            refine tz_aload_n (pc := 83) dX12_coupleOf_83 rfl rfl ?_
            refine tz_fI (pc := 84) (kz := 32) (v := (J 164 32)) dX12_coupleOf_84 fl_X12_192 i_164_32 rfl rfl (fun r_84 => ?_)
            refine tz_imul (pc := 87) (v := 2 * (J 164 32)) dX12_coupleOf_87 rfl ?_
            refine tz_iload_n (pc := 88) dX12_coupleOf_88 rfl rfl ?_
            refine tz_aS (pc := 89) (z := (2 * (J 164 32))) dX12_coupleOf_89 a_182 rfl (by omega) (by omega) ?_
            refine tz_aload_n (pc := 90) dX12_coupleOf_90 rfl rfl ?_
            refine tz_fR (pc := 91) dX12_coupleOf_91 fl_X12_65 r_164_31 ?_
            refine tz_iconst (pc := 94) dX12_coupleOf_94 ?_
            refine tz_aload_n (pc := 95) dX12_coupleOf_95 rfl rfl ?_
            refine tz_fI (pc := 96) (kz := 32) (v := (J 164 32)) dX12_coupleOf_96 fl_X12_192 i_164_32 rfl rfl (fun r_96 => ?_)
            refine tz_imul (pc := 99) (v := 2 * (J 164 32)) dX12_coupleOf_99 rfl ?_
            refine tz_iconst (pc := 100) dX12_coupleOf_100 ?_
            refine tz_iadd (pc := 101) (v := (2 * (J 164 32)) + 1) dX12_coupleOf_101 rfl ?_
            refine tz_iload_n (pc := 102) dX12_coupleOf_102 rfl rfl ?_
            refine tz_aS (pc := 103) (z := ((2 * (J 164 32)) + 1)) dX12_coupleOf_103 a_182 rfl (by omega) (by omega) ?_
            refine tz_aload_n (pc := 104) dX12_coupleOf_104 rfl rfl ?_
            refine tz_dup (pc := 105) dX12_coupleOf_105 rfl ?_
            refine tz_fI (pc := 106) (kz := 32) (v := (J 164 32)) dX12_coupleOf_106 fl_X12_192 i_164_32 rfl rfl (fun r_106 => ?_)
            refine tz_iconst (pc := 109) dX12_coupleOf_109 ?_
            refine tz_iadd (pc := 110) (v := (J 164 32) + 1) dX12_coupleOf_110 rfl ?_
            refine tz_pI (pc := 111) (kz := 32) dX12_coupleOf_111 fl_X12_192 i_164_32 rfl rfl (by omega) ?_
            refine tz_aload_n (pc := 114) dX12_coupleOf_114 rfl rfl ?_
            refine tz_fI (pc := 115) (kz := 32) (v := ((J 164 32) + 1)) dX12_coupleOf_115 fl_X12_192 i_164_32 rfl rfl (fun r_115 => ?_)
            refine tz_iconst (pc := 118) dX12_coupleOf_118 ?_
            refine tz_isub (pc := 119) (v := ((J 164 32) + 1) - 1) dX12_coupleOf_119 rfl ?_
            exact tz_iret (pc := 120) (z := (((J 164 32) + 1) - 1)) dX12_coupleOf_120 rfl (Nat.le_of_ble_eq_true rfl) (Nat.le_of_ble_eq_true rfl) ⟨Nat.le_refl _, Nat.le_add_right _ _⟩ ⟨_, rfl, (by omega), ⟨⟨zOf.up rfl (zOf.up rfl (zOf.up rfl (zOf.up rfl zOf.rf))), fun k e1 e2 => by rw [zup_ne e1]; show zup J 164 33 0 164 k = _; exact zup_ne e2, by rw [zup_at]; omega, fun q9 => by omega⟩, Or.inr ⟨fun i a b => hn i a (by omega), Or.inr ⟨by omega, by omega, rfl⟩⟩⟩⟩
          · refine tz_iconst (pc := 61) dX12_coupleOf_61 ?_
            refine tz_goto (pc := 62) (tgt := 66) dX12_coupleOf_62 (by decide) ?_
            refine tz_pZ (pc := 66) (kz := 33) dX12_coupleOf_66 fl_X12_195 i_164_33 rfl rfl (Or.inr rfl) ?_
            refine tz_aload_n (pc := 69) dX12_coupleOf_69 rfl rfl ?_
            refine tz_fI (pc := 70) (kz := 33) (v := 1) dX12_coupleOf_70 fl_X12_195 i_164_33 rfl rfl (fun _ => ?_)
            refine tz_if_eqF (pc := 73) (tgt := 78) (by decide) dX12_coupleOf_73 (by decide) (by decide) ?_
            refine tz_iconst (pc := 76) dX12_coupleOf_76 ?_
            exact tz_iret (pc := 77) (z := 0) dX12_coupleOf_77 rfl (Nat.le_of_ble_eq_true rfl) (Nat.le_of_ble_eq_true rfl) ⟨Nat.le_refl _, Nat.le_add_right _ _⟩ ⟨_, rfl, (by decide), ⟨⟨zOf.up rfl zOf.rf, fun k _ e => zup_ne e, h0, fun q9 => absurd ((zup_at (J := J) (c := 164) (k := 33) (z := 1)).symm.trans q9) (by decide)⟩, Or.inr ⟨fun i a b => hn i a (by omega), Or.inl ⟨by omega, zup_at⟩⟩⟩⟩
      · refine tz_aload_n (pc := 10) dX12_coupleOf_10 rfl rfl ?_
        refine tz_fR (pc := 11) dX12_coupleOf_11 fl_X12_65 r_164_31 ?_
        refine tz_iconst (pc := 14) dX12_coupleOf_14 ?_
        refine tz_iload_n (pc := 15) dX12_coupleOf_15 rfl rfl ?_
        refine tz_imul (pc := 16) (v := 2 * k) dX12_coupleOf_16 rfl ?_
        refine tz_aL (pc := 17) (z := (2 * k)) (v := (J 182 (2 * k))) dX12_coupleOf_17 a_182 rfl (by omega) rfl (fun r_17 => ?_)
        refine tz_iload_n (pc := 18) dX12_coupleOf_18 rfl rfl ?_
        refine tz_icmp_ne (pc := 19) (tgt := 38) dX12_coupleOf_19 (by decide) (by omega) (by omega) (fun h_19 => ?_) (fun h_19 => ?_)
        · refine tz_iinc (pc := 38) (z := k + 1) (L2 := [_, _, _, _]) dX12_coupleOf_38 rfl (by omega) rfl ?_
          refine tz_goto (pc := 41) (tgt := 2) dX12_coupleOf_41 (by decide) ?_
          exact ih2 (k + 1) (by omega) (by omega) (fun i a b => (Decidable.em (i = k)).elim (fun e => by rw [e]; omega) (fun e => hn i a (by omega)))
        · refine tz_aload_n (pc := 22) dX12_coupleOf_22 rfl rfl ?_
          refine tz_fR (pc := 23) dX12_coupleOf_23 fl_X12_65 r_164_31 ?_
          refine tz_iconst (pc := 26) dX12_coupleOf_26 ?_
          refine tz_iload_n (pc := 27) dX12_coupleOf_27 rfl rfl ?_
          refine tz_imul (pc := 28) (v := 2 * k) dX12_coupleOf_28 rfl ?_
          refine tz_iconst (pc := 29) dX12_coupleOf_29 ?_
          refine tz_iadd (pc := 30) (v := (2 * k) + 1) dX12_coupleOf_30 rfl ?_
          refine tz_aL (pc := 31) (z := ((2 * k) + 1)) (v := (J 182 ((2 * k) + 1))) dX12_coupleOf_31 a_182 rfl (by omega) rfl (fun r_31 => ?_)
          refine tz_iload_n (pc := 32) dX12_coupleOf_32 rfl rfl ?_
          refine tz_icmp_ne (pc := 33) (tgt := 38) dX12_coupleOf_33 (by decide) (by omega) (by omega) (fun h_33 => ?_) (fun h_33 => ?_)
          · refine tz_iinc (pc := 38) (z := k + 1) (L2 := [_, _, _, _]) dX12_coupleOf_38 rfl (by omega) rfl ?_
            refine tz_goto (pc := 41) (tgt := 2) dX12_coupleOf_41 (by decide) ?_
            exact ih2 (k + 1) (by omega) (by omega) (fun i a b => (Decidable.em (i = k)).elim (fun e => by rw [e]; omega) (fun e => hn i a (by omega)))
          · refine tz_iload_n (pc := 36) dX12_coupleOf_36 rfl rfl ?_
            exact tz_iret (pc := 37) (z := k) dX12_coupleOf_37 rfl (Nat.le_of_ble_eq_true rfl) (Nat.le_of_ble_eq_true rfl) ⟨Nat.le_refl _, Nat.le_add_right _ _⟩ ⟨_, rfl, (by omega), ⟨⟨zOf.rf, fun _ _ _ => rfl, h0, fun q9 => by omega⟩, Or.inl ⟨by omega, ⟨by omega, by omega⟩, hn, rfl⟩⟩⟩
  exact loop2 _ 0 (Nat.lt_succ_self _) (by omega) (fun i a b => by omega)

set_option maxHeartbeats 4000000 in
set_option maxRecDepth 100000 in
theorem o_commonR {l : Launch} {G : tb_G} (hl : l.stackTraces = false) (n : Nat) : ∀ (r9 : Nat) (J : zJ) (u : Int) (t : Int) (hr_u : -2147483648 ≤ u ∧ u < 2147483648) (hr_t : -2147483648 ≤ t ∧ t < 2147483648) (s m : Int) (hM : MS J 0 0 0 s m) (h9s : J 164 9 = s) (hs : 0 ≤ u ∧ u < m) (ht : 0 ≤ t ∧ t < m) (h0 : 0 ≤ J 164 32 ∧ J 164 32 ≤ 8), ((J 168 (0 + u)).toNat) < r9 → tz_Ok l G M_X12_commonOf (4 + 1 * r9) 0 0 [.ref 164, zi u, zi t] n J (zqi (fun z J' => ∃ m', MG [182] [32, 33] (fun _ => false) J' J 0 0 0 s m m' ∧ (J' 164 21 = 0 → J' 164 33 = 0 → 0 ≤ z ∧ z < m') ∧ (J' 164 33 = 0 → J 164 33 = 0) ∧ (0 ≤ J' 164 32 ∧ J' 164 32 ≤ 8) ∧ ∀ k : Nat, J 168 (0 + u) ≤ k → rcP k J J' u t z)) zN := by
  intro r9
  induction r9 with
  | zero => intro J u t hr_u hr_t s m hM h9s hs ht h0 hm9; exact absurd hm9 (Nat.not_lt_zero _)
  | succ r9 ih =>
    intro J u t hr_u hr_t s m hM h9s hs ht h0 hm9
    refine tz_Ok.of hl (by decide +kernel) rfl (tb_c1 rfl) (Nat.le_of_ble_eq_true rfl) ?_
    show tz_At l G M_X12_commonOf (tb_rm (4 + 1 * (r9 + 1)) 0 0) none (tb_ZM G 0 0 (zQ n 0 (zqi (fun z J' => ∃ m', MG [182] [32, 33] (fun _ => false) J' J 0 0 0 s m m' ∧ (J' 164 21 = 0 → J' 164 33 = 0 → 0 ≤ z ∧ z < m') ∧ (J' 164 33 = 0 → J 164 33 = 0) ∧ (0 ≤ J' 164 32 ∧ J' 164 32 ≤ 8) ∧ ∀ k : Nat, J 168 (0 + u) ≤ k → rcP k J J' u t z))) (zX n 0 zN)) 0 0 n J 0 [some (.ref 164), some (zi u), some (zi t), none, none, none, none] []
    have hT := hM.told
    have ha := hM.ar hs
    have hb := hM.ar ht
    have g0 : MG [182] [32, 33] (fun _ => false) J J 0 0 0 s m m := MG.rf hM
    refine tz_aload_n (pc := 0) dX12_commonOf_0 rfl rfl ?_
    refine tz_fI (pc := 1) (kz := 21) (v := (J 164 21)) dX12_commonOf_1 fl_X12_92 i_164_21 rfl rfl (fun r_1 => ?_)
    refine tz_if_ne (pc := 4) (tgt := 14) dX12_commonOf_4 (by decide) (by omega) (fun h_4 => ?_) (fun h_4 => ?_)
    · refine tz_iconst (pc := 14) dX12_commonOf_14 ?_
      exact tz_iret (pc := 15) (z := 0) dX12_commonOf_15 rfl (Nat.le_of_ble_eq_true rfl) (Nat.le_of_ble_eq_true rfl) ⟨Nat.le_refl _, Nat.le_add_right _ _⟩ ⟨_, rfl, (by decide), ⟨m, g0, fun q9 q8 => by omega, fun q9 => by omega, h0, fun k hk => ⟨fun _ => rfl, fun a b => by exfalso; omega⟩⟩⟩
    · refine tz_aload_n (pc := 7) dX12_commonOf_7 rfl rfl ?_
      refine tz_fI (pc := 8) (kz := 33) (v := (J 164 33)) dX12_commonOf_8 fl_X12_195 i_164_33 rfl rfl (fun r_8 => ?_)
      refine tz_if_eq (pc := 11) (tgt := 16) dX12_commonOf_11 (by decide) (by omega) (fun h_11 => ?_) (fun h_11 => ?_)
      · refine tz_aload_n (pc := 16) dX12_commonOf_16 rfl rfl ?_
        refine tz_iload_n (pc := 17) dX12_commonOf_17 rfl rfl ?_
        refine tz_cV (pc := 18) (m_isVar hl n _ _ (by omega) 0 0 0 s m hM (by omega)) vl_X12_78 dX12_commonOf_18 o_164 rfl rfl (Nat.le_of_ble_eq_true rfl) ⟨(show 1 + 1 ≤ 4 + 1 * (r9 + 1) by omega), (show 8 + (2 + 11) + 40 * (1) ≤ 40 * (4 + 1 * (r9 + 1)) by omega)⟩ rfl rfl (Nat.le_of_ble_eq_true rfl) (Nat.le_of_ble_eq_true rfl) (fun r9 J_18 hq9 => ?_)
        obtain ⟨z_18, rfl, hz_18, rfl, rfl⟩ := hq9
        by_cases hw_21 : J 166 (0 + u) < 0
        · rw [show (if J 166 (0 + u) < 0 then 1 else 0 : Int) = 1 from if_pos hw_21]
          refine tz_if_neT (pc := 21) (tgt := 37) (by decide) dX12_commonOf_21 (by decide) (by decide) ?_
          refine tz_aload_n (pc := 37) dX12_commonOf_37 rfl rfl ?_
          refine tz_iload_n (pc := 38) dX12_commonOf_38 rfl rfl ?_
          refine tz_iload_n (pc := 39) dX12_commonOf_39 rfl rfl ?_
          refine tz_cV (pc := 40) (o_coupleOf hl n _ _ _ (by omega) (by omega) h0) vl_X12_198 dX12_commonOf_40 o_164 rfl rfl (Nat.le_of_ble_eq_true rfl) ⟨(show 0 + 1 ≤ 4 + 1 * (r9 + 1) by omega), (show 8 + (4 + 11) + 40 * (0) ≤ 40 * (4 + 1 * (r9 + 1)) by omega)⟩ rfl rfl (Nat.le_of_ble_eq_true rfl) (Nat.le_of_ble_eq_true rfl) (fun r9 J_40 hq9 => ?_)
          obtain ⟨z_40, rfl, hz_40, ⟨c1, c2, c3, c4⟩, c5⟩ := hq9
          have q_40 : MG [182] [32, 33] (fun _ => false) J_40 J 0 0 0 s m m := (MG.rf hM).off (fun k hk => c2 k (by simp at hk; omega) (by simp at hk; omega)) (fun k _ => congrFun (c1 165 rfl) k) (c1.mono (zbut_sub (fun c hc => by simp at hc ⊢; omega))) ⟨rfl, rfl, rfl, rfl⟩ rfl ⟨rfl, rfl, rfl, rfl⟩
          have t_40 : tb0 J_40 = tb0 J := tb0_of (c2 9 (by decide) (by decide)) (c2 21 (by decide) (by decide)) (fun k _ _ => by rw [c1 165 rfl]) (fun k _ _ => ⟨by rw [c1 166 rfl], by rw [c1 168 rfl]⟩) (fun k _ _ => by rw [c1 167 rfl]) (fun k _ _ => ⟨by rw [c1 169 rfl], by rw [c1 170 rfl], by rw [c1 171 rfl]⟩)
          refine tz_istore_n (pc := 43) (L2 := [_, _, _, _, _, _, _]) dX12_commonOf_43 rfl (by decide) rfl ?_
          refine tz_aload_n (pc := 44) dX12_commonOf_44 rfl rfl ?_
          refine tz_fI (pc := 45) (kz := 33) (v := (J_40 164 33)) dX12_commonOf_45 fl_X12_195 i_164_33 rfl rfl (fun r_45 => ?_)
          refine tz_if_eq (pc := 48) (tgt := 55) dX12_commonOf_48 (by decide) (by omega) (fun h_48 => ?_) (fun h_48 => ?_)
          · refine tz_aload_n (pc := 55) dX12_commonOf_55 rfl rfl ?_
            refine tz_iload_n (pc := 56) dX12_commonOf_56 rfl rfl ?_
            have l0_57 := (q_40).1.2
            have t0_57 := (q_40).1.1.told
            refine tz_cV (pc := 57) (o_varTerm hl n _ _ (by omega) s m (q_40).1.1 (((q_40).2.2.1.2.2.1 9 (by decide)).trans h9s) (by omega)) vl_X12_180 dX12_commonOf_57 o_164 rfl rfl (Nat.le_of_ble_eq_true rfl) ⟨(show 3 + 1 ≤ 4 + 1 * (r9 + 1) by omega), (show 8 + (2 + 11) + 40 * (3) ≤ 40 * (4 + 1 * (r9 + 1)) by omega)⟩ rfl rfl (Nat.le_of_ble_eq_true rfl) (Nat.le_of_ble_eq_true rfl) (fun r9 J_57 hq9 => ?_)
            obtain ⟨z_57, rfl, hz_57, x_57, m_57, g_57, h_57⟩ := hq9
            have q_57 := MG.tr q_40 (MG.mono g_57 (fun _ h => by simp at h) (fun _ h => by simp at h) (fun _ h => h))
            have f_57 := g_57.2.2.2
            have l_57 := g_57.1.2
            exact tz_iret (pc := 60) (z := z_57) dX12_commonOf_60 rfl (Nat.le_of_ble_eq_true rfl) (Nat.le_of_ble_eq_true rfl) ⟨Nat.le_refl _, Nat.le_add_right _ _⟩ ⟨_, rfl, (by omega), ⟨m_57, q_57, fun q9 q8 => h_57 q9, fun q9 => by rw [g_57.2.2.1.2.2.1 33 (by decide)] at q9; omega, by rw [g_57.2.2.1.2.2.1 32 (by decide)]; exact c3, fun k hk => rc_k hM hs hk (by omega) (by omega) (fun k9 L0 c _ => rc_leaf (by rw [(hM.oa hs).1, (hM.oa ht).1]; omega) (by omega) t_40 (c.ac (by omega) c5) (Or.inr ⟨by omega, Prod.ext x_57.1 x_57.2, g_57.2.2.1.2.2.1 33 (by decide), g_57.2.2.1.2.2.1 32 (by decide), g_57.2.2.1.2.2.2 182 rfl⟩))⟩⟩
          · refine tz_iconst (pc := 51) dX12_commonOf_51 ?_
            refine tz_goto (pc := 52) (tgt := 60) dX12_commonOf_52 (by decide) ?_
            exact tz_iret (pc := 60) (z := 0) dX12_commonOf_60 rfl (Nat.le_of_ble_eq_true rfl) (Nat.le_of_ble_eq_true rfl) ⟨Nat.le_refl _, Nat.le_add_right _ _⟩ ⟨_, rfl, (by decide), ⟨m, q_40, fun q9 q8 => by omega, fun q9 => by omega, c3, fun k hk => rc_k hM hs hk (by omega) (by omega) (fun k9 L0 c _ => rc_leaf (by rw [(hM.oa hs).1, (hM.oa ht).1]; omega) (by omega) t_40 (c.ac (by omega) c5) (Or.inl ⟨by omega, rfl⟩))⟩⟩
        · rw [show (if J 166 (0 + u) < 0 then 1 else 0 : Int) = 0 from if_neg hw_21]
          refine tz_if_neF (pc := 21) (tgt := 37) (by decide) dX12_commonOf_21 (by decide) (by decide) ?_
          refine tz_aload_n (pc := 24) dX12_commonOf_24 rfl rfl ?_
          refine tz_iload_n (pc := 25) dX12_commonOf_25 rfl rfl ?_
          refine tz_cV (pc := 26) (m_head hl n _ _ (by omega) 0 0 0 s m hM (by omega)) vl_X12_74 dX12_commonOf_26 o_164 rfl rfl (Nat.le_of_ble_eq_true rfl) ⟨(show 0 + 1 ≤ 4 + 1 * (r9 + 1) by omega), (show 8 + (2 + 11) + 40 * (0) ≤ 40 * (4 + 1 * (r9 + 1)) by omega)⟩ rfl rfl (Nat.le_of_ble_eq_true rfl) (Nat.le_of_ble_eq_true rfl) (fun r9 J_26 hq9 => ?_)
          obtain ⟨z_26, rfl, hz_26, rfl, rfl⟩ := hq9
          refine tz_aload_n (pc := 29) dX12_commonOf_29 rfl rfl ?_
          refine tz_iload_n (pc := 30) dX12_commonOf_30 rfl rfl ?_
          refine tz_cV (pc := 31) (m_head hl n _ _ (by omega) 0 0 0 s m hM (by omega)) vl_X12_74 dX12_commonOf_31 o_164 rfl rfl (Nat.le_of_ble_eq_true rfl) ⟨(show 0 + 1 ≤ 4 + 1 * (r9 + 1) by omega), (show 8 + (2 + 11) + 40 * (0) ≤ 40 * (4 + 1 * (r9 + 1)) by omega)⟩ rfl rfl (Nat.le_of_ble_eq_true rfl) (Nat.le_of_ble_eq_true rfl) (fun r9 J_31 hq9 => ?_)
          obtain ⟨z_31, rfl, hz_31, rfl, rfl⟩ := hq9
          refine tz_icmp_eq (pc := 34) (tgt := 61) dX12_commonOf_34 (by decide) (by omega) (by omega) (fun h_34 => ?_) (fun h_34 => ?_)
          · refine tz_aload_n (pc := 61) dX12_commonOf_61 rfl rfl ?_
            refine tz_iload_n (pc := 62) dX12_commonOf_62 rfl rfl ?_
            refine tz_cV (pc := 63) (m_arity hl n _ _ (by omega) 0 0 0 s m hM (by omega)) vl_X12_111 dX12_commonOf_63 o_164 rfl rfl (Nat.le_of_ble_eq_true rfl) ⟨(show 2 + 1 ≤ 4 + 1 * (r9 + 1) by omega), (show 8 + (2 + 11) + 40 * (2) ≤ 40 * (4 + 1 * (r9 + 1)) by omega)⟩ rfl rfl (Nat.le_of_ble_eq_true rfl) (Nat.le_of_ble_eq_true rfl) (fun r9 J_63 hq9 => ?_)
            obtain ⟨z_63, rfl, hz_63, rfl, rfl⟩ := hq9
            have he := MS.hd8 (J := J) (b := 0) (d := 0) (t := u) (u := t) (by omega)
            refine tz_istore_n (pc := 66) (L2 := [_, _, _, _, _, _, _]) dX12_commonOf_66 rfl (by decide) rfl ?_
            refine tz_iload_n (pc := 67) dX12_commonOf_67 rfl rfl ?_
            refine tz_if_le (pc := 68) (tgt := 90) dX12_commonOf_68 (by decide) (by omega) (fun h_68 => ?_) (fun h_68 => ?_)
            · refine tz_iconst (pc := 90) dX12_commonOf_90 ?_
              refine tz_istore (pc := 91) (L2 := [_, _, _, _, _, _, _]) dX12_commonOf_91 (by decide) rfl ?_
              refine tz_iload_n (pc := 93) dX12_commonOf_93 rfl rfl ?_
              refine tz_iconst (pc := 94) dX12_commonOf_94 ?_
              refine tz_icmp_le (pc := 95) (tgt := 117) dX12_commonOf_95 (by decide) (by omega) (by decide) (fun h_95 => ?_) (fun h_95 => ?_)
              · refine tz_iconst (pc := 117) dX12_commonOf_117 ?_
                refine tz_istore (pc := 118) (L2 := [_, _, _, _, _, _, _]) dX12_commonOf_118 (by decide) rfl ?_
                refine tz_iload_n (pc := 120) dX12_commonOf_120 rfl rfl ?_
                refine tz_iconst (pc := 121) dX12_commonOf_121 ?_
                refine tz_icmp_le (pc := 122) (tgt := 144) dX12_commonOf_122 (by decide) (by omega) (by decide) (fun h_122 => ?_) (fun h_122 => ?_)
                · refine tz_iconst (pc := 144) dX12_commonOf_144 ?_
                  refine tz_istore (pc := 145) (L2 := [_, _, _, _, _, _, _]) dX12_commonOf_145 (by decide) rfl ?_
                  refine tz_aload_n (pc := 147) dX12_commonOf_147 rfl rfl ?_
                  refine tz_fI (pc := 148) (kz := 33) (v := (J 164 33)) dX12_commonOf_148 fl_X12_195 i_164_33 rfl rfl (fun r_148 => ?_)
                  refine tz_if_eq (pc := 151) (tgt := 158) dX12_commonOf_151 (by decide) (by omega) (fun h_151 => ?_) (fun h_151 => ?_)
                  · refine tz_aload_n (pc := 158) dX12_commonOf_158 rfl rfl ?_
                    refine tz_iload_n (pc := 159) dX12_commonOf_159 rfl rfl ?_
                    refine tz_iload (pc := 160) dX12_commonOf_160 rfl ?_
                    refine tz_iload (pc := 162) dX12_commonOf_162 rfl ?_
                    refine tz_iload (pc := 164) dX12_commonOf_164 rfl ?_
                    have l0_166 := (g0).1.2
                    have t0_166 := (g0).1.1.told
                    refine tz_cV (pc := 166) (o_remade hl n _ _ _ _ _ (by omega) (by omega) (by omega) (by omega) s m (g0).1.1 (((g0).2.2.1.2.2.1 9 (by decide)).trans h9s) (by omega) (fun q9 => by have e9 := (g0).ar hs ((g0).2.2.1.2.2.2 170 rfl); rw [e9]; omega)) vl_X12_152 dX12_commonOf_166 o_164 rfl rfl (Nat.le_of_ble_eq_true rfl) ⟨(show 3 + 1 ≤ 4 + 1 * (r9 + 1) by omega), (show 8 + (5 + 11) + 40 * (3) ≤ 40 * (4 + 1 * (r9 + 1)) by omega)⟩ rfl rfl (Nat.le_of_ble_eq_true rfl) (Nat.le_of_ble_eq_true rfl) (fun r9 J_166 hq9 => ?_)
                    obtain ⟨z_166, rfl, hz_166, m_166, g_166, h_166, x_166⟩ := hq9
                    have q_166 := MG.tr g0 (MG.mono g_166 (fun _ h => by simp at h) (fun _ h => by simp at h) (fun _ h => h))
                    have f_166 := g_166.2.2.2
                    have l_166 := g_166.1.2
                    exact tz_iret (pc := 169) (z := z_166) dX12_commonOf_169 rfl (Nat.le_of_ble_eq_true rfl) (Nat.le_of_ble_eq_true rfl) ⟨Nat.le_refl _, Nat.le_add_right _ _⟩ ⟨_, rfl, (by omega), ⟨m_166, q_166, fun q9 q8 => h_166 q9, fun q9 => by rw [g_166.2.2.1.2.2.1 33 (by decide)] at q9; omega, by rw [g_166.2.2.1.2.2.1 32 (by decide)]; exact h0, fun k hk => rc_k hM hs hk (by omega) (by omega) (fun k9 L0 c hk9 => rc_end (k := k9) (A := mar J 0 0 u) (zf := zf3 (0) (0) (0)) (rcS.s (rcS.s (rcS.s (rc_s (by omega) (by omega) c) (Or.inr ⟨by show ¬ ((0 : Nat) : Int) < _; omega, rfl, rfl⟩)) (Or.inr ⟨by show ¬ ((1 : Nat) : Int) < _; omega, rfl, rfl⟩)) (Or.inr ⟨by show ¬ ((2 : Nat) : Int) < _; omega, rfl, rfl⟩)) (by rw [(hM.oa hs).1, (hM.oa ht).1]; omega) (by omega) (hM.oa hs).2 (Or.inr ⟨by omega, by have e7 := x_166; rw [show J 166 (0 + u) = J 166 (0 + u) from ((g0).2.1 u hs.1 hs.2).1.1, ← (hM.oa hs).1] at e7; exact e7, g_166.2.2.1.2.2.1 33 (by decide), g_166.2.2.1.2.2.1 32 (by decide), g_166.2.2.1.2.2.2 182 rfl⟩))⟩⟩
                  · refine tz_iconst (pc := 154) dX12_commonOf_154 ?_
                    refine tz_goto (pc := 155) (tgt := 169) dX12_commonOf_155 (by decide) ?_
                    exact tz_iret (pc := 169) (z := 0) dX12_commonOf_169 rfl (Nat.le_of_ble_eq_true rfl) (Nat.le_of_ble_eq_true rfl) ⟨Nat.le_refl _, Nat.le_add_right _ _⟩ ⟨_, rfl, (by decide), ⟨m, g0, fun q9 q8 => by omega, fun q9 => by omega, h0, fun k hk => ⟨fun _ => rfl, fun a b => by exfalso; omega⟩⟩⟩
                · refine tz_aload_n (pc := 125) dX12_commonOf_125 rfl rfl ?_
                  refine tz_aload_n (pc := 126) dX12_commonOf_126 rfl rfl ?_
                  refine tz_iload_n (pc := 127) dX12_commonOf_127 rfl rfl ?_
                  refine tz_iconst (pc := 128) dX12_commonOf_128 ?_
                  refine tz_cV (pc := 129) (m_arg hl n _ _ _ (by omega) (by decide) 0 0 0 s m hM (by omega) (by omega)) vl_X12_88 dX12_commonOf_129 o_164 rfl rfl (Nat.le_of_ble_eq_true rfl) ⟨(show 0 + 1 ≤ 4 + 1 * (r9 + 1) by omega), (show 8 + (3 + 11) + 40 * (0) ≤ 40 * (4 + 1 * (r9 + 1)) by omega)⟩ rfl rfl (Nat.le_of_ble_eq_true rfl) (Nat.le_of_ble_eq_true rfl) (fun r9 J_129 hq9 => ?_)
                  obtain ⟨z_129, rfl, hz_129, rfl, rfl⟩ := hq9
                  refine tz_aload_n (pc := 132) dX12_commonOf_132 rfl rfl ?_
                  refine tz_iload_n (pc := 133) dX12_commonOf_133 rfl rfl ?_
                  refine tz_iconst (pc := 134) dX12_commonOf_134 ?_
                  refine tz_cV (pc := 135) (m_arg hl n _ _ _ (by omega) (by decide) 0 0 0 s m hM (by omega) (by omega)) vl_X12_88 dX12_commonOf_135 o_164 rfl rfl (Nat.le_of_ble_eq_true rfl) ⟨(show 0 + 1 ≤ 4 + 1 * (r9 + 1) by omega), (show 8 + (3 + 11) + 40 * (0) ≤ 40 * (4 + 1 * (r9 + 1)) by omega)⟩ rfl rfl (Nat.le_of_ble_eq_true rfl) (Nat.le_of_ble_eq_true rfl) (fun r9 J_135 hq9 => ?_)
                  obtain ⟨z_135, rfl, hz_135, rfl, rfl⟩ := hq9
                  have l0_138 := (g0).1.2
                  have t0_138 := (g0).1.1.told
                  have a_138 := hM.arg (t := u) (i := 2) hs (by omega)
                  have e_138 := hM.arg (t := t) (i := 2) ht (by omega)
                  have o_138 : 0 ≤ J 164 32 ∧ J 164 32 ≤ 8 := h0
                  refine tz_cV (pc := 138) (ih _ _ _ (by omega) (by omega) s m (g0).1.1 (((g0).2.2.1.2.2.1 9 (by decide)).trans h9s) (by omega) (by omega) o_138 (by rw [((g0).2.1 _ (by omega) (by omega)).1.2]; omega)) vl_X12_201 dX12_commonOf_138 o_164 rfl rfl (Nat.le_of_ble_eq_true rfl) ⟨(show (4 + 1 * r9) + 1 ≤ 4 + 1 * (r9 + 1) by omega), (show 8 + (7 + 11) + 40 * ((4 + 1 * r9)) ≤ 40 * (4 + 1 * (r9 + 1)) by omega)⟩ rfl rfl (Nat.le_of_ble_eq_true rfl) (Nat.le_of_ble_eq_true rfl) (fun r9 J_138 hq9 => ?_)
                  obtain ⟨z_138, rfl, hz_138, m_138, g_138, h_138, i_138, k_138, x_138⟩ := hq9
                  have q_138 := MG.tr g0 g_138
                  have f_138 := g_138.2.2.2
                  have l_138 := g_138.1.2
                  have y_138 : J 168 (0 + J 167 (3 * (0 + u) + 2)) = J 168 (0 + J 167 (3 * (0 + u) + 2)) := ((g0).2.1 _ (by omega) (by omega)).1.2
                  refine tz_goto (pc := 141) (tgt := 145) dX12_commonOf_141 (by decide) ?_
                  refine tz_istore (pc := 145) (L2 := [_, _, _, _, _, _, _]) dX12_commonOf_145 (by decide) rfl ?_
                  refine tz_aload_n (pc := 147) dX12_commonOf_147 rfl rfl ?_
                  refine tz_fI (pc := 148) (kz := 33) (v := (J_138 164 33)) dX12_commonOf_148 fl_X12_195 i_164_33 rfl rfl (fun r_148 => ?_)
                  refine tz_if_eq (pc := 151) (tgt := 158) dX12_commonOf_151 (by decide) (by omega) (fun h_151 => ?_) (fun h_151 => ?_)
                  · refine tz_aload_n (pc := 158) dX12_commonOf_158 rfl rfl ?_
                    refine tz_iload_n (pc := 159) dX12_commonOf_159 rfl rfl ?_
                    refine tz_iload (pc := 160) dX12_commonOf_160 rfl ?_
                    refine tz_iload (pc := 162) dX12_commonOf_162 rfl ?_
                    refine tz_iload (pc := 164) dX12_commonOf_164 rfl ?_
                    have l0_166 := (q_138).1.2
                    have t0_166 := (q_138).1.1.told
                    refine tz_cV (pc := 166) (o_remade hl n _ _ _ _ _ (by omega) (by omega) (by omega) (by omega) s m_138 (q_138).1.1 (((q_138).2.2.1.2.2.1 9 (by decide)).trans h9s) (by omega) (fun q9 => by have e9 := (q_138).ar hs ((q_138).2.2.1.2.2.2 170 rfl); rw [e9]; omega)) vl_X12_152 dX12_commonOf_166 o_164 rfl rfl (Nat.le_of_ble_eq_true rfl) ⟨(show 3 + 1 ≤ 4 + 1 * (r9 + 1) by omega), (show 8 + (5 + 11) + 40 * (3) ≤ 40 * (4 + 1 * (r9 + 1)) by omega)⟩ rfl rfl (Nat.le_of_ble_eq_true rfl) (Nat.le_of_ble_eq_true rfl) (fun r9 J_166 hq9 => ?_)
                    obtain ⟨z_166, rfl, hz_166, m_166, g_166, h_166, x_166⟩ := hq9
                    have q_166 := MG.tr q_138 (MG.mono g_166 (fun _ h => by simp at h) (fun _ h => by simp at h) (fun _ h => h))
                    have f_166 := g_166.2.2.2
                    have l_166 := g_166.1.2
                    exact tz_iret (pc := 169) (z := z_166) dX12_commonOf_169 rfl (Nat.le_of_ble_eq_true rfl) (Nat.le_of_ble_eq_true rfl) ⟨Nat.le_refl _, Nat.le_add_right _ _⟩ ⟨_, rfl, (by omega), ⟨m_166, q_166, fun q9 q8 => h_166 q9, fun q9 => by rw [g_166.2.2.1.2.2.1 33 (by decide)] at q9; omega, by rw [g_166.2.2.1.2.2.1 32 (by decide)]; exact k_138, fun k hk => rc_k hM hs hk (by omega) (by omega) (fun k9 L0 c hk9 => rc_end (k := k9) (A := mar J 0 0 u) (zf := zf3 (0) (0) (z_138)) (rcS.s (rcS.s (rcS.s (rc_s (by omega) (by omega) c) (Or.inr ⟨by show ¬ ((0 : Nat) : Int) < _; omega, rfl, rfl⟩)) (Or.inr ⟨by show ¬ ((1 : Nat) : Int) < _; omega, rfl, rfl⟩)) (Or.inl (rc_a hM g0 ((g0).2.2.1.2.2.2 170 rfl) hs ht (by omega) (by show ((2 : Nat) : Int) < _; omega) (x_138 k9 (by rw [y_138]; have d9 := (hM.td u hs.1 hs.2).2.2 2 (by decide) (by omega); dsimp only at d9; unfold mag at d9; omega))))) (by rw [(hM.oa hs).1, (hM.oa ht).1]; omega) (by omega) (hM.oa hs).2 (Or.inr ⟨by omega, by have e7 := x_166; rw [show J_138 166 (0 + u) = J 166 (0 + u) from ((q_138).2.1 u hs.1 hs.2).1.1, ← (hM.oa hs).1] at e7; exact e7, g_166.2.2.1.2.2.1 33 (by decide), g_166.2.2.1.2.2.1 32 (by decide), g_166.2.2.1.2.2.2 182 rfl⟩))⟩⟩
                  · refine tz_iconst (pc := 154) dX12_commonOf_154 ?_
                    refine tz_goto (pc := 155) (tgt := 169) dX12_commonOf_155 (by decide) ?_
                    exact tz_iret (pc := 169) (z := 0) dX12_commonOf_169 rfl (Nat.le_of_ble_eq_true rfl) (Nat.le_of_ble_eq_true rfl) ⟨Nat.le_refl _, Nat.le_add_right _ _⟩ ⟨_, rfl, (by decide), ⟨m_138, q_138, fun q9 q8 => by omega, fun q9 => by omega, k_138, fun k hk => rc_k hM hs hk (by omega) (by omega) (fun k9 L0 c hk9 => rc_end (k := k9) (A := mar J 0 0 u) (zf := zf3 (0) (0) (z_138)) (rcS.s (rcS.s (rcS.s (rc_s (by omega) (by omega) c) (Or.inr ⟨by show ¬ ((0 : Nat) : Int) < _; omega, rfl, rfl⟩)) (Or.inr ⟨by show ¬ ((1 : Nat) : Int) < _; omega, rfl, rfl⟩)) (Or.inl (rc_a hM g0 ((g0).2.2.1.2.2.2 170 rfl) hs ht (by omega) (by show ((2 : Nat) : Int) < _; omega) (x_138 k9 (by rw [y_138]; have d9 := (hM.td u hs.1 hs.2).2.2 2 (by decide) (by omega); dsimp only at d9; unfold mag at d9; omega))))) (by rw [(hM.oa hs).1, (hM.oa ht).1]; omega) (by omega) (hM.oa hs).2 (Or.inl ⟨by omega, rfl⟩))⟩⟩
              · refine tz_aload_n (pc := 98) dX12_commonOf_98 rfl rfl ?_
                refine tz_aload_n (pc := 99) dX12_commonOf_99 rfl rfl ?_
                refine tz_iload_n (pc := 100) dX12_commonOf_100 rfl rfl ?_
                refine tz_iconst (pc := 101) dX12_commonOf_101 ?_
                refine tz_cV (pc := 102) (m_arg hl n _ _ _ (by omega) (by decide) 0 0 0 s m hM (by omega) (by omega)) vl_X12_88 dX12_commonOf_102 o_164 rfl rfl (Nat.le_of_ble_eq_true rfl) ⟨(show 0 + 1 ≤ 4 + 1 * (r9 + 1) by omega), (show 8 + (3 + 11) + 40 * (0) ≤ 40 * (4 + 1 * (r9 + 1)) by omega)⟩ rfl rfl (Nat.le_of_ble_eq_true rfl) (Nat.le_of_ble_eq_true rfl) (fun r9 J_102 hq9 => ?_)
                obtain ⟨z_102, rfl, hz_102, rfl, rfl⟩ := hq9
                refine tz_aload_n (pc := 105) dX12_commonOf_105 rfl rfl ?_
                refine tz_iload_n (pc := 106) dX12_commonOf_106 rfl rfl ?_
                refine tz_iconst (pc := 107) dX12_commonOf_107 ?_
                refine tz_cV (pc := 108) (m_arg hl n _ _ _ (by omega) (by decide) 0 0 0 s m hM (by omega) (by omega)) vl_X12_88 dX12_commonOf_108 o_164 rfl rfl (Nat.le_of_ble_eq_true rfl) ⟨(show 0 + 1 ≤ 4 + 1 * (r9 + 1) by omega), (show 8 + (3 + 11) + 40 * (0) ≤ 40 * (4 + 1 * (r9 + 1)) by omega)⟩ rfl rfl (Nat.le_of_ble_eq_true rfl) (Nat.le_of_ble_eq_true rfl) (fun r9 J_108 hq9 => ?_)
                obtain ⟨z_108, rfl, hz_108, rfl, rfl⟩ := hq9
                have l0_111 := (g0).1.2
                have t0_111 := (g0).1.1.told
                have a_111 := hM.arg (t := u) (i := 1) hs (by omega)
                have e_111 := hM.arg (t := t) (i := 1) ht (by omega)
                have o_111 : 0 ≤ J 164 32 ∧ J 164 32 ≤ 8 := h0
                refine tz_cV (pc := 111) (ih _ _ _ (by omega) (by omega) s m (g0).1.1 (((g0).2.2.1.2.2.1 9 (by decide)).trans h9s) (by omega) (by omega) o_111 (by rw [((g0).2.1 _ (by omega) (by omega)).1.2]; omega)) vl_X12_201 dX12_commonOf_111 o_164 rfl rfl (Nat.le_of_ble_eq_true rfl) ⟨(show (4 + 1 * r9) + 1 ≤ 4 + 1 * (r9 + 1) by omega), (show 8 + (7 + 11) + 40 * ((4 + 1 * r9)) ≤ 40 * (4 + 1 * (r9 + 1)) by omega)⟩ rfl rfl (Nat.le_of_ble_eq_true rfl) (Nat.le_of_ble_eq_true rfl) (fun r9 J_111 hq9 => ?_)
                obtain ⟨z_111, rfl, hz_111, m_111, g_111, h_111, i_111, k_111, x_111⟩ := hq9
                have q_111 := MG.tr g0 g_111
                have f_111 := g_111.2.2.2
                have l_111 := g_111.1.2
                have y_111 : J 168 (0 + J 167 (3 * (0 + u) + 1)) = J 168 (0 + J 167 (3 * (0 + u) + 1)) := ((g0).2.1 _ (by omega) (by omega)).1.2
                refine tz_goto (pc := 114) (tgt := 118) dX12_commonOf_114 (by decide) ?_
                refine tz_istore (pc := 118) (L2 := [_, _, _, _, _, _, _]) dX12_commonOf_118 (by decide) rfl ?_
                refine tz_iload_n (pc := 120) dX12_commonOf_120 rfl rfl ?_
                refine tz_iconst (pc := 121) dX12_commonOf_121 ?_
                refine tz_icmp_le (pc := 122) (tgt := 144) dX12_commonOf_122 (by decide) (by omega) (by decide) (fun h_122 => ?_) (fun h_122 => ?_)
                · refine tz_iconst (pc := 144) dX12_commonOf_144 ?_
                  refine tz_istore (pc := 145) (L2 := [_, _, _, _, _, _, _]) dX12_commonOf_145 (by decide) rfl ?_
                  refine tz_aload_n (pc := 147) dX12_commonOf_147 rfl rfl ?_
                  refine tz_fI (pc := 148) (kz := 33) (v := (J_111 164 33)) dX12_commonOf_148 fl_X12_195 i_164_33 rfl rfl (fun r_148 => ?_)
                  refine tz_if_eq (pc := 151) (tgt := 158) dX12_commonOf_151 (by decide) (by omega) (fun h_151 => ?_) (fun h_151 => ?_)
                  · refine tz_aload_n (pc := 158) dX12_commonOf_158 rfl rfl ?_
                    refine tz_iload_n (pc := 159) dX12_commonOf_159 rfl rfl ?_
                    refine tz_iload (pc := 160) dX12_commonOf_160 rfl ?_
                    refine tz_iload (pc := 162) dX12_commonOf_162 rfl ?_
                    refine tz_iload (pc := 164) dX12_commonOf_164 rfl ?_
                    have l0_166 := (q_111).1.2
                    have t0_166 := (q_111).1.1.told
                    refine tz_cV (pc := 166) (o_remade hl n _ _ _ _ _ (by omega) (by omega) (by omega) (by omega) s m_111 (q_111).1.1 (((q_111).2.2.1.2.2.1 9 (by decide)).trans h9s) (by omega) (fun q9 => by have e9 := (q_111).ar hs ((q_111).2.2.1.2.2.2 170 rfl); rw [e9]; omega)) vl_X12_152 dX12_commonOf_166 o_164 rfl rfl (Nat.le_of_ble_eq_true rfl) ⟨(show 3 + 1 ≤ 4 + 1 * (r9 + 1) by omega), (show 8 + (5 + 11) + 40 * (3) ≤ 40 * (4 + 1 * (r9 + 1)) by omega)⟩ rfl rfl (Nat.le_of_ble_eq_true rfl) (Nat.le_of_ble_eq_true rfl) (fun r9 J_166 hq9 => ?_)
                    obtain ⟨z_166, rfl, hz_166, m_166, g_166, h_166, x_166⟩ := hq9
                    have q_166 := MG.tr q_111 (MG.mono g_166 (fun _ h => by simp at h) (fun _ h => by simp at h) (fun _ h => h))
                    have f_166 := g_166.2.2.2
                    have l_166 := g_166.1.2
                    exact tz_iret (pc := 169) (z := z_166) dX12_commonOf_169 rfl (Nat.le_of_ble_eq_true rfl) (Nat.le_of_ble_eq_true rfl) ⟨Nat.le_refl _, Nat.le_add_right _ _⟩ ⟨_, rfl, (by omega), ⟨m_166, q_166, fun q9 q8 => h_166 q9, fun q9 => by rw [g_166.2.2.1.2.2.1 33 (by decide)] at q9; omega, by rw [g_166.2.2.1.2.2.1 32 (by decide)]; exact k_111, fun k hk => rc_k hM hs hk (by omega) (by omega) (fun k9 L0 c hk9 => rc_end (k := k9) (A := mar J 0 0 u) (zf := zf3 (0) (z_111) (0)) (rcS.s (rcS.s (rcS.s (rc_s (by omega) (by omega) c) (Or.inr ⟨by show ¬ ((0 : Nat) : Int) < _; omega, rfl, rfl⟩)) (Or.inl (rc_a hM g0 ((g0).2.2.1.2.2.2 170 rfl) hs ht (by omega) (by show ((1 : Nat) : Int) < _; omega) (x_111 k9 (by rw [y_111]; have d9 := (hM.td u hs.1 hs.2).2.2 1 (by decide) (by omega); dsimp only at d9; unfold mag at d9; omega))))) (Or.inr ⟨by show ¬ ((2 : Nat) : Int) < _; omega, rfl, rfl⟩)) (by rw [(hM.oa hs).1, (hM.oa ht).1]; omega) (by omega) (hM.oa hs).2 (Or.inr ⟨by omega, by have e7 := x_166; rw [show J_111 166 (0 + u) = J 166 (0 + u) from ((q_111).2.1 u hs.1 hs.2).1.1, ← (hM.oa hs).1] at e7; exact e7, g_166.2.2.1.2.2.1 33 (by decide), g_166.2.2.1.2.2.1 32 (by decide), g_166.2.2.1.2.2.2 182 rfl⟩))⟩⟩
                  · refine tz_iconst (pc := 154) dX12_commonOf_154 ?_
                    refine tz_goto (pc := 155) (tgt := 169) dX12_commonOf_155 (by decide) ?_
                    exact tz_iret (pc := 169) (z := 0) dX12_commonOf_169 rfl (Nat.le_of_ble_eq_true rfl) (Nat.le_of_ble_eq_true rfl) ⟨Nat.le_refl _, Nat.le_add_right _ _⟩ ⟨_, rfl, (by decide), ⟨m_111, q_111, fun q9 q8 => by omega, fun q9 => by omega, k_111, fun k hk => rc_k hM hs hk (by omega) (by omega) (fun k9 L0 c hk9 => rc_end (k := k9) (A := mar J 0 0 u) (zf := zf3 (0) (z_111) (0)) (rcS.s (rcS.s (rcS.s (rc_s (by omega) (by omega) c) (Or.inr ⟨by show ¬ ((0 : Nat) : Int) < _; omega, rfl, rfl⟩)) (Or.inl (rc_a hM g0 ((g0).2.2.1.2.2.2 170 rfl) hs ht (by omega) (by show ((1 : Nat) : Int) < _; omega) (x_111 k9 (by rw [y_111]; have d9 := (hM.td u hs.1 hs.2).2.2 1 (by decide) (by omega); dsimp only at d9; unfold mag at d9; omega))))) (Or.inr ⟨by show ¬ ((2 : Nat) : Int) < _; omega, rfl, rfl⟩)) (by rw [(hM.oa hs).1, (hM.oa ht).1]; omega) (by omega) (hM.oa hs).2 (Or.inl ⟨by omega, rfl⟩))⟩⟩
                · refine tz_aload_n (pc := 125) dX12_commonOf_125 rfl rfl ?_
                  refine tz_aload_n (pc := 126) dX12_commonOf_126 rfl rfl ?_
                  refine tz_iload_n (pc := 127) dX12_commonOf_127 rfl rfl ?_
                  refine tz_iconst (pc := 128) dX12_commonOf_128 ?_
                  have l_129 := (q_111).1.2
                  have tt_129 := (q_111).1.1.told
                  refine tz_cV (pc := 129) (m_arg hl n _ _ _ (by omega) (by decide) 0 0 0 s m_111 (q_111).1.1 (by omega) (by omega)) vl_X12_88 dX12_commonOf_129 o_164 rfl rfl (Nat.le_of_ble_eq_true rfl) ⟨(show 0 + 1 ≤ 4 + 1 * (r9 + 1) by omega), (show 8 + (3 + 11) + 40 * (0) ≤ 40 * (4 + 1 * (r9 + 1)) by omega)⟩ rfl rfl (Nat.le_of_ble_eq_true rfl) (Nat.le_of_ble_eq_true rfl) (fun r9 J_129 hq9 => ?_)
                  obtain ⟨z_129, rfl, hz_129, rfl, hv_129⟩ := hq9
                  have he_129 : J_111 167 (3 * (0 + u) + 2) = J 167 (3 * (0 + u) + 2) := ((q_111).2.1 u hs.1 hs.2).2 2 (by omega) (by omega)
                  rw [he_129] at hv_129
                  obtain rfl : J 167 (3 * (0 + u) + 2) = z_129 := hv_129
                  refine tz_aload_n (pc := 132) dX12_commonOf_132 rfl rfl ?_
                  refine tz_iload_n (pc := 133) dX12_commonOf_133 rfl rfl ?_
                  refine tz_iconst (pc := 134) dX12_commonOf_134 ?_
                  have l_135 := (q_111).1.2
                  have tt_135 := (q_111).1.1.told
                  refine tz_cV (pc := 135) (m_arg hl n _ _ _ (by omega) (by decide) 0 0 0 s m_111 (q_111).1.1 (by omega) (by omega)) vl_X12_88 dX12_commonOf_135 o_164 rfl rfl (Nat.le_of_ble_eq_true rfl) ⟨(show 0 + 1 ≤ 4 + 1 * (r9 + 1) by omega), (show 8 + (3 + 11) + 40 * (0) ≤ 40 * (4 + 1 * (r9 + 1)) by omega)⟩ rfl rfl (Nat.le_of_ble_eq_true rfl) (Nat.le_of_ble_eq_true rfl) (fun r9 J_135 hq9 => ?_)
                  obtain ⟨z_135, rfl, hz_135, rfl, hv_135⟩ := hq9
                  have he_135 : J_111 167 (3 * (0 + t) + 2) = J 167 (3 * (0 + t) + 2) := ((q_111).2.1 t ht.1 ht.2).2 2 (by omega) (by omega)
                  rw [he_135] at hv_135
                  obtain rfl : J 167 (3 * (0 + t) + 2) = z_135 := hv_135
                  have l0_138 := (q_111).1.2
                  have t0_138 := (q_111).1.1.told
                  have a_138 := hM.arg (t := u) (i := 2) hs (by omega)
                  have e_138 := hM.arg (t := t) (i := 2) ht (by omega)
                  have o_138 : 0 ≤ J_111 164 32 ∧ J_111 164 32 ≤ 8 := k_111
                  refine tz_cV (pc := 138) (ih _ _ _ (by omega) (by omega) s m_111 (q_111).1.1 (((q_111).2.2.1.2.2.1 9 (by decide)).trans h9s) (by omega) (by omega) o_138 (by rw [((q_111).2.1 _ (by omega) (by omega)).1.2]; omega)) vl_X12_201 dX12_commonOf_138 o_164 rfl rfl (Nat.le_of_ble_eq_true rfl) ⟨(show (4 + 1 * r9) + 1 ≤ 4 + 1 * (r9 + 1) by omega), (show 8 + (7 + 11) + 40 * ((4 + 1 * r9)) ≤ 40 * (4 + 1 * (r9 + 1)) by omega)⟩ rfl rfl (Nat.le_of_ble_eq_true rfl) (Nat.le_of_ble_eq_true rfl) (fun r9 J_138 hq9 => ?_)
                  obtain ⟨z_138, rfl, hz_138, m_138, g_138, h_138, i_138, k_138, x_138⟩ := hq9
                  have q_138 := MG.tr q_111 g_138
                  have f_138 := g_138.2.2.2
                  have l_138 := g_138.1.2
                  have y_138 : J_111 168 (0 + J 167 (3 * (0 + u) + 2)) = J 168 (0 + J 167 (3 * (0 + u) + 2)) := ((q_111).2.1 _ (by omega) (by omega)).1.2
                  refine tz_goto (pc := 141) (tgt := 145) dX12_commonOf_141 (by decide) ?_
                  refine tz_istore (pc := 145) (L2 := [_, _, _, _, _, _, _]) dX12_commonOf_145 (by decide) rfl ?_
                  refine tz_aload_n (pc := 147) dX12_commonOf_147 rfl rfl ?_
                  refine tz_fI (pc := 148) (kz := 33) (v := (J_138 164 33)) dX12_commonOf_148 fl_X12_195 i_164_33 rfl rfl (fun r_148 => ?_)
                  refine tz_if_eq (pc := 151) (tgt := 158) dX12_commonOf_151 (by decide) (by omega) (fun h_151 => ?_) (fun h_151 => ?_)
                  · refine tz_aload_n (pc := 158) dX12_commonOf_158 rfl rfl ?_
                    refine tz_iload_n (pc := 159) dX12_commonOf_159 rfl rfl ?_
                    refine tz_iload (pc := 160) dX12_commonOf_160 rfl ?_
                    refine tz_iload (pc := 162) dX12_commonOf_162 rfl ?_
                    refine tz_iload (pc := 164) dX12_commonOf_164 rfl ?_
                    have l0_166 := (q_138).1.2
                    have t0_166 := (q_138).1.1.told
                    refine tz_cV (pc := 166) (o_remade hl n _ _ _ _ _ (by omega) (by omega) (by omega) (by omega) s m_138 (q_138).1.1 (((q_138).2.2.1.2.2.1 9 (by decide)).trans h9s) (by omega) (fun q9 => by have e9 := (q_138).ar hs ((q_138).2.2.1.2.2.2 170 rfl); rw [e9]; omega)) vl_X12_152 dX12_commonOf_166 o_164 rfl rfl (Nat.le_of_ble_eq_true rfl) ⟨(show 3 + 1 ≤ 4 + 1 * (r9 + 1) by omega), (show 8 + (5 + 11) + 40 * (3) ≤ 40 * (4 + 1 * (r9 + 1)) by omega)⟩ rfl rfl (Nat.le_of_ble_eq_true rfl) (Nat.le_of_ble_eq_true rfl) (fun r9 J_166 hq9 => ?_)
                    obtain ⟨z_166, rfl, hz_166, m_166, g_166, h_166, x_166⟩ := hq9
                    have q_166 := MG.tr q_138 (MG.mono g_166 (fun _ h => by simp at h) (fun _ h => by simp at h) (fun _ h => h))
                    have f_166 := g_166.2.2.2
                    have l_166 := g_166.1.2
                    exact tz_iret (pc := 169) (z := z_166) dX12_commonOf_169 rfl (Nat.le_of_ble_eq_true rfl) (Nat.le_of_ble_eq_true rfl) ⟨Nat.le_refl _, Nat.le_add_right _ _⟩ ⟨_, rfl, (by omega), ⟨m_166, q_166, fun q9 q8 => h_166 q9, fun q9 => by rw [g_166.2.2.1.2.2.1 33 (by decide)] at q9; omega, by rw [g_166.2.2.1.2.2.1 32 (by decide)]; exact k_138, fun k hk => rc_k hM hs hk (by omega) (by omega) (fun k9 L0 c hk9 => rc_end (k := k9) (A := mar J 0 0 u) (zf := zf3 (0) (z_111) (z_138)) (rcS.s (rcS.s (rcS.s (rc_s (by omega) (by omega) c) (Or.inr ⟨by show ¬ ((0 : Nat) : Int) < _; omega, rfl, rfl⟩)) (Or.inl (rc_a hM g0 ((g0).2.2.1.2.2.2 170 rfl) hs ht (by omega) (by show ((1 : Nat) : Int) < _; omega) (x_111 k9 (by rw [y_111]; have d9 := (hM.td u hs.1 hs.2).2.2 1 (by decide) (by omega); dsimp only at d9; unfold mag at d9; omega))))) (Or.inl (rc_a hM q_111 ((q_111).2.2.1.2.2.2 170 rfl) hs ht (by omega) (by show ((2 : Nat) : Int) < _; omega) (x_138 k9 (by rw [y_138]; have d9 := (hM.td u hs.1 hs.2).2.2 2 (by decide) (by omega); dsimp only at d9; unfold mag at d9; omega))))) (by rw [(hM.oa hs).1, (hM.oa ht).1]; omega) (by omega) (hM.oa hs).2 (Or.inr ⟨by omega, by have e7 := x_166; rw [show J_138 166 (0 + u) = J 166 (0 + u) from ((q_138).2.1 u hs.1 hs.2).1.1, ← (hM.oa hs).1] at e7; exact e7, g_166.2.2.1.2.2.1 33 (by decide), g_166.2.2.1.2.2.1 32 (by decide), g_166.2.2.1.2.2.2 182 rfl⟩))⟩⟩
                  · refine tz_iconst (pc := 154) dX12_commonOf_154 ?_
                    refine tz_goto (pc := 155) (tgt := 169) dX12_commonOf_155 (by decide) ?_
                    exact tz_iret (pc := 169) (z := 0) dX12_commonOf_169 rfl (Nat.le_of_ble_eq_true rfl) (Nat.le_of_ble_eq_true rfl) ⟨Nat.le_refl _, Nat.le_add_right _ _⟩ ⟨_, rfl, (by decide), ⟨m_138, q_138, fun q9 q8 => by omega, fun q9 => by omega, k_138, fun k hk => rc_k hM hs hk (by omega) (by omega) (fun k9 L0 c hk9 => rc_end (k := k9) (A := mar J 0 0 u) (zf := zf3 (0) (z_111) (z_138)) (rcS.s (rcS.s (rcS.s (rc_s (by omega) (by omega) c) (Or.inr ⟨by show ¬ ((0 : Nat) : Int) < _; omega, rfl, rfl⟩)) (Or.inl (rc_a hM g0 ((g0).2.2.1.2.2.2 170 rfl) hs ht (by omega) (by show ((1 : Nat) : Int) < _; omega) (x_111 k9 (by rw [y_111]; have d9 := (hM.td u hs.1 hs.2).2.2 1 (by decide) (by omega); dsimp only at d9; unfold mag at d9; omega))))) (Or.inl (rc_a hM q_111 ((q_111).2.2.1.2.2.2 170 rfl) hs ht (by omega) (by show ((2 : Nat) : Int) < _; omega) (x_138 k9 (by rw [y_138]; have d9 := (hM.td u hs.1 hs.2).2.2 2 (by decide) (by omega); dsimp only at d9; unfold mag at d9; omega))))) (by rw [(hM.oa hs).1, (hM.oa ht).1]; omega) (by omega) (hM.oa hs).2 (Or.inl ⟨by omega, rfl⟩))⟩⟩
            · refine tz_aload_n (pc := 71) dX12_commonOf_71 rfl rfl ?_
              refine tz_aload_n (pc := 72) dX12_commonOf_72 rfl rfl ?_
              refine tz_iload_n (pc := 73) dX12_commonOf_73 rfl rfl ?_
              refine tz_iconst (pc := 74) dX12_commonOf_74 ?_
              refine tz_cV (pc := 75) (m_arg hl n _ _ _ (by omega) (by decide) 0 0 0 s m hM (by omega) (by omega)) vl_X12_88 dX12_commonOf_75 o_164 rfl rfl (Nat.le_of_ble_eq_true rfl) ⟨(show 0 + 1 ≤ 4 + 1 * (r9 + 1) by omega), (show 8 + (3 + 11) + 40 * (0) ≤ 40 * (4 + 1 * (r9 + 1)) by omega)⟩ rfl rfl (Nat.le_of_ble_eq_true rfl) (Nat.le_of_ble_eq_true rfl) (fun r9 J_75 hq9 => ?_)
              obtain ⟨z_75, rfl, hz_75, rfl, rfl⟩ := hq9
              refine tz_aload_n (pc := 78) dX12_commonOf_78 rfl rfl ?_
              refine tz_iload_n (pc := 79) dX12_commonOf_79 rfl rfl ?_
              refine tz_iconst (pc := 80) dX12_commonOf_80 ?_
              refine tz_cV (pc := 81) (m_arg hl n _ _ _ (by omega) (by decide) 0 0 0 s m hM (by omega) (by omega)) vl_X12_88 dX12_commonOf_81 o_164 rfl rfl (Nat.le_of_ble_eq_true rfl) ⟨(show 0 + 1 ≤ 4 + 1 * (r9 + 1) by omega), (show 8 + (3 + 11) + 40 * (0) ≤ 40 * (4 + 1 * (r9 + 1)) by omega)⟩ rfl rfl (Nat.le_of_ble_eq_true rfl) (Nat.le_of_ble_eq_true rfl) (fun r9 J_81 hq9 => ?_)
              obtain ⟨z_81, rfl, hz_81, rfl, rfl⟩ := hq9
              have l0_84 := (g0).1.2
              have t0_84 := (g0).1.1.told
              have a_84 := hM.arg (t := u) (i := 0) hs (by omega)
              have e_84 := hM.arg (t := t) (i := 0) ht (by omega)
              have o_84 : 0 ≤ J 164 32 ∧ J 164 32 ≤ 8 := h0
              refine tz_cV (pc := 84) (ih _ _ _ (by omega) (by omega) s m (g0).1.1 (((g0).2.2.1.2.2.1 9 (by decide)).trans h9s) (by omega) (by omega) o_84 (by rw [((g0).2.1 _ (by omega) (by omega)).1.2]; omega)) vl_X12_201 dX12_commonOf_84 o_164 rfl rfl (Nat.le_of_ble_eq_true rfl) ⟨(show (4 + 1 * r9) + 1 ≤ 4 + 1 * (r9 + 1) by omega), (show 8 + (7 + 11) + 40 * ((4 + 1 * r9)) ≤ 40 * (4 + 1 * (r9 + 1)) by omega)⟩ rfl rfl (Nat.le_of_ble_eq_true rfl) (Nat.le_of_ble_eq_true rfl) (fun r9 J_84 hq9 => ?_)
              obtain ⟨z_84, rfl, hz_84, m_84, g_84, h_84, i_84, k_84, x_84⟩ := hq9
              have q_84 := MG.tr g0 g_84
              have f_84 := g_84.2.2.2
              have l_84 := g_84.1.2
              have y_84 : J 168 (0 + J 167 (3 * (0 + u) + 0)) = J 168 (0 + J 167 (3 * (0 + u) + 0)) := ((g0).2.1 _ (by omega) (by omega)).1.2
              refine tz_goto (pc := 87) (tgt := 91) dX12_commonOf_87 (by decide) ?_
              refine tz_istore (pc := 91) (L2 := [_, _, _, _, _, _, _]) dX12_commonOf_91 (by decide) rfl ?_
              refine tz_iload_n (pc := 93) dX12_commonOf_93 rfl rfl ?_
              refine tz_iconst (pc := 94) dX12_commonOf_94 ?_
              refine tz_icmp_le (pc := 95) (tgt := 117) dX12_commonOf_95 (by decide) (by omega) (by decide) (fun h_95 => ?_) (fun h_95 => ?_)
              · refine tz_iconst (pc := 117) dX12_commonOf_117 ?_
                refine tz_istore (pc := 118) (L2 := [_, _, _, _, _, _, _]) dX12_commonOf_118 (by decide) rfl ?_
                refine tz_iload_n (pc := 120) dX12_commonOf_120 rfl rfl ?_
                refine tz_iconst (pc := 121) dX12_commonOf_121 ?_
                refine tz_icmp_le (pc := 122) (tgt := 144) dX12_commonOf_122 (by decide) (by omega) (by decide) (fun h_122 => ?_) (fun h_122 => ?_)
                · refine tz_iconst (pc := 144) dX12_commonOf_144 ?_
                  refine tz_istore (pc := 145) (L2 := [_, _, _, _, _, _, _]) dX12_commonOf_145 (by decide) rfl ?_
                  refine tz_aload_n (pc := 147) dX12_commonOf_147 rfl rfl ?_
                  refine tz_fI (pc := 148) (kz := 33) (v := (J_84 164 33)) dX12_commonOf_148 fl_X12_195 i_164_33 rfl rfl (fun r_148 => ?_)
                  refine tz_if_eq (pc := 151) (tgt := 158) dX12_commonOf_151 (by decide) (by omega) (fun h_151 => ?_) (fun h_151 => ?_)
                  · refine tz_aload_n (pc := 158) dX12_commonOf_158 rfl rfl ?_
                    refine tz_iload_n (pc := 159) dX12_commonOf_159 rfl rfl ?_
                    refine tz_iload (pc := 160) dX12_commonOf_160 rfl ?_
                    refine tz_iload (pc := 162) dX12_commonOf_162 rfl ?_
                    refine tz_iload (pc := 164) dX12_commonOf_164 rfl ?_
                    have l0_166 := (q_84).1.2
                    have t0_166 := (q_84).1.1.told
                    refine tz_cV (pc := 166) (o_remade hl n _ _ _ _ _ (by omega) (by omega) (by omega) (by omega) s m_84 (q_84).1.1 (((q_84).2.2.1.2.2.1 9 (by decide)).trans h9s) (by omega) (fun q9 => by have e9 := (q_84).ar hs ((q_84).2.2.1.2.2.2 170 rfl); rw [e9]; omega)) vl_X12_152 dX12_commonOf_166 o_164 rfl rfl (Nat.le_of_ble_eq_true rfl) ⟨(show 3 + 1 ≤ 4 + 1 * (r9 + 1) by omega), (show 8 + (5 + 11) + 40 * (3) ≤ 40 * (4 + 1 * (r9 + 1)) by omega)⟩ rfl rfl (Nat.le_of_ble_eq_true rfl) (Nat.le_of_ble_eq_true rfl) (fun r9 J_166 hq9 => ?_)
                    obtain ⟨z_166, rfl, hz_166, m_166, g_166, h_166, x_166⟩ := hq9
                    have q_166 := MG.tr q_84 (MG.mono g_166 (fun _ h => by simp at h) (fun _ h => by simp at h) (fun _ h => h))
                    have f_166 := g_166.2.2.2
                    have l_166 := g_166.1.2
                    exact tz_iret (pc := 169) (z := z_166) dX12_commonOf_169 rfl (Nat.le_of_ble_eq_true rfl) (Nat.le_of_ble_eq_true rfl) ⟨Nat.le_refl _, Nat.le_add_right _ _⟩ ⟨_, rfl, (by omega), ⟨m_166, q_166, fun q9 q8 => h_166 q9, fun q9 => by rw [g_166.2.2.1.2.2.1 33 (by decide)] at q9; omega, by rw [g_166.2.2.1.2.2.1 32 (by decide)]; exact k_84, fun k hk => rc_k hM hs hk (by omega) (by omega) (fun k9 L0 c hk9 => rc_end (k := k9) (A := mar J 0 0 u) (zf := zf3 (z_84) (0) (0)) (rcS.s (rcS.s (rcS.s (rc_s (by omega) (by omega) c) (Or.inl (rc_a hM g0 ((g0).2.2.1.2.2.2 170 rfl) hs ht (by omega) (by show ((0 : Nat) : Int) < _; omega) (x_84 k9 (by rw [y_84]; have d9 := (hM.td u hs.1 hs.2).2.2 0 (by decide) (by omega); dsimp only at d9; unfold mag at d9; omega))))) (Or.inr ⟨by show ¬ ((1 : Nat) : Int) < _; omega, rfl, rfl⟩)) (Or.inr ⟨by show ¬ ((2 : Nat) : Int) < _; omega, rfl, rfl⟩)) (by rw [(hM.oa hs).1, (hM.oa ht).1]; omega) (by omega) (hM.oa hs).2 (Or.inr ⟨by omega, by have e7 := x_166; rw [show J_84 166 (0 + u) = J 166 (0 + u) from ((q_84).2.1 u hs.1 hs.2).1.1, ← (hM.oa hs).1] at e7; exact e7, g_166.2.2.1.2.2.1 33 (by decide), g_166.2.2.1.2.2.1 32 (by decide), g_166.2.2.1.2.2.2 182 rfl⟩))⟩⟩
                  · refine tz_iconst (pc := 154) dX12_commonOf_154 ?_
                    refine tz_goto (pc := 155) (tgt := 169) dX12_commonOf_155 (by decide) ?_
                    exact tz_iret (pc := 169) (z := 0) dX12_commonOf_169 rfl (Nat.le_of_ble_eq_true rfl) (Nat.le_of_ble_eq_true rfl) ⟨Nat.le_refl _, Nat.le_add_right _ _⟩ ⟨_, rfl, (by decide), ⟨m_84, q_84, fun q9 q8 => by omega, fun q9 => by omega, k_84, fun k hk => rc_k hM hs hk (by omega) (by omega) (fun k9 L0 c hk9 => rc_end (k := k9) (A := mar J 0 0 u) (zf := zf3 (z_84) (0) (0)) (rcS.s (rcS.s (rcS.s (rc_s (by omega) (by omega) c) (Or.inl (rc_a hM g0 ((g0).2.2.1.2.2.2 170 rfl) hs ht (by omega) (by show ((0 : Nat) : Int) < _; omega) (x_84 k9 (by rw [y_84]; have d9 := (hM.td u hs.1 hs.2).2.2 0 (by decide) (by omega); dsimp only at d9; unfold mag at d9; omega))))) (Or.inr ⟨by show ¬ ((1 : Nat) : Int) < _; omega, rfl, rfl⟩)) (Or.inr ⟨by show ¬ ((2 : Nat) : Int) < _; omega, rfl, rfl⟩)) (by rw [(hM.oa hs).1, (hM.oa ht).1]; omega) (by omega) (hM.oa hs).2 (Or.inl ⟨by omega, rfl⟩))⟩⟩
                · refine tz_aload_n (pc := 125) dX12_commonOf_125 rfl rfl ?_
                  refine tz_aload_n (pc := 126) dX12_commonOf_126 rfl rfl ?_
                  refine tz_iload_n (pc := 127) dX12_commonOf_127 rfl rfl ?_
                  refine tz_iconst (pc := 128) dX12_commonOf_128 ?_
                  have l_129 := (q_84).1.2
                  have tt_129 := (q_84).1.1.told
                  refine tz_cV (pc := 129) (m_arg hl n _ _ _ (by omega) (by decide) 0 0 0 s m_84 (q_84).1.1 (by omega) (by omega)) vl_X12_88 dX12_commonOf_129 o_164 rfl rfl (Nat.le_of_ble_eq_true rfl) ⟨(show 0 + 1 ≤ 4 + 1 * (r9 + 1) by omega), (show 8 + (3 + 11) + 40 * (0) ≤ 40 * (4 + 1 * (r9 + 1)) by omega)⟩ rfl rfl (Nat.le_of_ble_eq_true rfl) (Nat.le_of_ble_eq_true rfl) (fun r9 J_129 hq9 => ?_)
                  obtain ⟨z_129, rfl, hz_129, rfl, hv_129⟩ := hq9
                  have he_129 : J_84 167 (3 * (0 + u) + 2) = J 167 (3 * (0 + u) + 2) := ((q_84).2.1 u hs.1 hs.2).2 2 (by omega) (by omega)
                  rw [he_129] at hv_129
                  obtain rfl : J 167 (3 * (0 + u) + 2) = z_129 := hv_129
                  refine tz_aload_n (pc := 132) dX12_commonOf_132 rfl rfl ?_
                  refine tz_iload_n (pc := 133) dX12_commonOf_133 rfl rfl ?_
                  refine tz_iconst (pc := 134) dX12_commonOf_134 ?_
                  have l_135 := (q_84).1.2
                  have tt_135 := (q_84).1.1.told
                  refine tz_cV (pc := 135) (m_arg hl n _ _ _ (by omega) (by decide) 0 0 0 s m_84 (q_84).1.1 (by omega) (by omega)) vl_X12_88 dX12_commonOf_135 o_164 rfl rfl (Nat.le_of_ble_eq_true rfl) ⟨(show 0 + 1 ≤ 4 + 1 * (r9 + 1) by omega), (show 8 + (3 + 11) + 40 * (0) ≤ 40 * (4 + 1 * (r9 + 1)) by omega)⟩ rfl rfl (Nat.le_of_ble_eq_true rfl) (Nat.le_of_ble_eq_true rfl) (fun r9 J_135 hq9 => ?_)
                  obtain ⟨z_135, rfl, hz_135, rfl, hv_135⟩ := hq9
                  have he_135 : J_84 167 (3 * (0 + t) + 2) = J 167 (3 * (0 + t) + 2) := ((q_84).2.1 t ht.1 ht.2).2 2 (by omega) (by omega)
                  rw [he_135] at hv_135
                  obtain rfl : J 167 (3 * (0 + t) + 2) = z_135 := hv_135
                  have l0_138 := (q_84).1.2
                  have t0_138 := (q_84).1.1.told
                  have a_138 := hM.arg (t := u) (i := 2) hs (by omega)
                  have e_138 := hM.arg (t := t) (i := 2) ht (by omega)
                  have o_138 : 0 ≤ J_84 164 32 ∧ J_84 164 32 ≤ 8 := k_84
                  refine tz_cV (pc := 138) (ih _ _ _ (by omega) (by omega) s m_84 (q_84).1.1 (((q_84).2.2.1.2.2.1 9 (by decide)).trans h9s) (by omega) (by omega) o_138 (by rw [((q_84).2.1 _ (by omega) (by omega)).1.2]; omega)) vl_X12_201 dX12_commonOf_138 o_164 rfl rfl (Nat.le_of_ble_eq_true rfl) ⟨(show (4 + 1 * r9) + 1 ≤ 4 + 1 * (r9 + 1) by omega), (show 8 + (7 + 11) + 40 * ((4 + 1 * r9)) ≤ 40 * (4 + 1 * (r9 + 1)) by omega)⟩ rfl rfl (Nat.le_of_ble_eq_true rfl) (Nat.le_of_ble_eq_true rfl) (fun r9 J_138 hq9 => ?_)
                  obtain ⟨z_138, rfl, hz_138, m_138, g_138, h_138, i_138, k_138, x_138⟩ := hq9
                  have q_138 := MG.tr q_84 g_138
                  have f_138 := g_138.2.2.2
                  have l_138 := g_138.1.2
                  have y_138 : J_84 168 (0 + J 167 (3 * (0 + u) + 2)) = J 168 (0 + J 167 (3 * (0 + u) + 2)) := ((q_84).2.1 _ (by omega) (by omega)).1.2
                  refine tz_goto (pc := 141) (tgt := 145) dX12_commonOf_141 (by decide) ?_
                  refine tz_istore (pc := 145) (L2 := [_, _, _, _, _, _, _]) dX12_commonOf_145 (by decide) rfl ?_
                  refine tz_aload_n (pc := 147) dX12_commonOf_147 rfl rfl ?_
                  refine tz_fI (pc := 148) (kz := 33) (v := (J_138 164 33)) dX12_commonOf_148 fl_X12_195 i_164_33 rfl rfl (fun r_148 => ?_)
                  refine tz_if_eq (pc := 151) (tgt := 158) dX12_commonOf_151 (by decide) (by omega) (fun h_151 => ?_) (fun h_151 => ?_)
                  · refine tz_aload_n (pc := 158) dX12_commonOf_158 rfl rfl ?_
                    refine tz_iload_n (pc := 159) dX12_commonOf_159 rfl rfl ?_
                    refine tz_iload (pc := 160) dX12_commonOf_160 rfl ?_
                    refine tz_iload (pc := 162) dX12_commonOf_162 rfl ?_
                    refine tz_iload (pc := 164) dX12_commonOf_164 rfl ?_
                    have l0_166 := (q_138).1.2
                    have t0_166 := (q_138).1.1.told
                    refine tz_cV (pc := 166) (o_remade hl n _ _ _ _ _ (by omega) (by omega) (by omega) (by omega) s m_138 (q_138).1.1 (((q_138).2.2.1.2.2.1 9 (by decide)).trans h9s) (by omega) (fun q9 => by have e9 := (q_138).ar hs ((q_138).2.2.1.2.2.2 170 rfl); rw [e9]; omega)) vl_X12_152 dX12_commonOf_166 o_164 rfl rfl (Nat.le_of_ble_eq_true rfl) ⟨(show 3 + 1 ≤ 4 + 1 * (r9 + 1) by omega), (show 8 + (5 + 11) + 40 * (3) ≤ 40 * (4 + 1 * (r9 + 1)) by omega)⟩ rfl rfl (Nat.le_of_ble_eq_true rfl) (Nat.le_of_ble_eq_true rfl) (fun r9 J_166 hq9 => ?_)
                    obtain ⟨z_166, rfl, hz_166, m_166, g_166, h_166, x_166⟩ := hq9
                    have q_166 := MG.tr q_138 (MG.mono g_166 (fun _ h => by simp at h) (fun _ h => by simp at h) (fun _ h => h))
                    have f_166 := g_166.2.2.2
                    have l_166 := g_166.1.2
                    exact tz_iret (pc := 169) (z := z_166) dX12_commonOf_169 rfl (Nat.le_of_ble_eq_true rfl) (Nat.le_of_ble_eq_true rfl) ⟨Nat.le_refl _, Nat.le_add_right _ _⟩ ⟨_, rfl, (by omega), ⟨m_166, q_166, fun q9 q8 => h_166 q9, fun q9 => by rw [g_166.2.2.1.2.2.1 33 (by decide)] at q9; omega, by rw [g_166.2.2.1.2.2.1 32 (by decide)]; exact k_138, fun k hk => rc_k hM hs hk (by omega) (by omega) (fun k9 L0 c hk9 => rc_end (k := k9) (A := mar J 0 0 u) (zf := zf3 (z_84) (0) (z_138)) (rcS.s (rcS.s (rcS.s (rc_s (by omega) (by omega) c) (Or.inl (rc_a hM g0 ((g0).2.2.1.2.2.2 170 rfl) hs ht (by omega) (by show ((0 : Nat) : Int) < _; omega) (x_84 k9 (by rw [y_84]; have d9 := (hM.td u hs.1 hs.2).2.2 0 (by decide) (by omega); dsimp only at d9; unfold mag at d9; omega))))) (Or.inr ⟨by show ¬ ((1 : Nat) : Int) < _; omega, rfl, rfl⟩)) (Or.inl (rc_a hM q_84 ((q_84).2.2.1.2.2.2 170 rfl) hs ht (by omega) (by show ((2 : Nat) : Int) < _; omega) (x_138 k9 (by rw [y_138]; have d9 := (hM.td u hs.1 hs.2).2.2 2 (by decide) (by omega); dsimp only at d9; unfold mag at d9; omega))))) (by rw [(hM.oa hs).1, (hM.oa ht).1]; omega) (by omega) (hM.oa hs).2 (Or.inr ⟨by omega, by have e7 := x_166; rw [show J_138 166 (0 + u) = J 166 (0 + u) from ((q_138).2.1 u hs.1 hs.2).1.1, ← (hM.oa hs).1] at e7; exact e7, g_166.2.2.1.2.2.1 33 (by decide), g_166.2.2.1.2.2.1 32 (by decide), g_166.2.2.1.2.2.2 182 rfl⟩))⟩⟩
                  · refine tz_iconst (pc := 154) dX12_commonOf_154 ?_
                    refine tz_goto (pc := 155) (tgt := 169) dX12_commonOf_155 (by decide) ?_
                    exact tz_iret (pc := 169) (z := 0) dX12_commonOf_169 rfl (Nat.le_of_ble_eq_true rfl) (Nat.le_of_ble_eq_true rfl) ⟨Nat.le_refl _, Nat.le_add_right _ _⟩ ⟨_, rfl, (by decide), ⟨m_138, q_138, fun q9 q8 => by omega, fun q9 => by omega, k_138, fun k hk => rc_k hM hs hk (by omega) (by omega) (fun k9 L0 c hk9 => rc_end (k := k9) (A := mar J 0 0 u) (zf := zf3 (z_84) (0) (z_138)) (rcS.s (rcS.s (rcS.s (rc_s (by omega) (by omega) c) (Or.inl (rc_a hM g0 ((g0).2.2.1.2.2.2 170 rfl) hs ht (by omega) (by show ((0 : Nat) : Int) < _; omega) (x_84 k9 (by rw [y_84]; have d9 := (hM.td u hs.1 hs.2).2.2 0 (by decide) (by omega); dsimp only at d9; unfold mag at d9; omega))))) (Or.inr ⟨by show ¬ ((1 : Nat) : Int) < _; omega, rfl, rfl⟩)) (Or.inl (rc_a hM q_84 ((q_84).2.2.1.2.2.2 170 rfl) hs ht (by omega) (by show ((2 : Nat) : Int) < _; omega) (x_138 k9 (by rw [y_138]; have d9 := (hM.td u hs.1 hs.2).2.2 2 (by decide) (by omega); dsimp only at d9; unfold mag at d9; omega))))) (by rw [(hM.oa hs).1, (hM.oa ht).1]; omega) (by omega) (hM.oa hs).2 (Or.inl ⟨by omega, rfl⟩))⟩⟩
              · refine tz_aload_n (pc := 98) dX12_commonOf_98 rfl rfl ?_
                refine tz_aload_n (pc := 99) dX12_commonOf_99 rfl rfl ?_
                refine tz_iload_n (pc := 100) dX12_commonOf_100 rfl rfl ?_
                refine tz_iconst (pc := 101) dX12_commonOf_101 ?_
                have l_102 := (q_84).1.2
                have tt_102 := (q_84).1.1.told
                refine tz_cV (pc := 102) (m_arg hl n _ _ _ (by omega) (by decide) 0 0 0 s m_84 (q_84).1.1 (by omega) (by omega)) vl_X12_88 dX12_commonOf_102 o_164 rfl rfl (Nat.le_of_ble_eq_true rfl) ⟨(show 0 + 1 ≤ 4 + 1 * (r9 + 1) by omega), (show 8 + (3 + 11) + 40 * (0) ≤ 40 * (4 + 1 * (r9 + 1)) by omega)⟩ rfl rfl (Nat.le_of_ble_eq_true rfl) (Nat.le_of_ble_eq_true rfl) (fun r9 J_102 hq9 => ?_)
                obtain ⟨z_102, rfl, hz_102, rfl, hv_102⟩ := hq9
                have he_102 : J_84 167 (3 * (0 + u) + 1) = J 167 (3 * (0 + u) + 1) := ((q_84).2.1 u hs.1 hs.2).2 1 (by omega) (by omega)
                rw [he_102] at hv_102
                obtain rfl : J 167 (3 * (0 + u) + 1) = z_102 := hv_102
                refine tz_aload_n (pc := 105) dX12_commonOf_105 rfl rfl ?_
                refine tz_iload_n (pc := 106) dX12_commonOf_106 rfl rfl ?_
                refine tz_iconst (pc := 107) dX12_commonOf_107 ?_
                have l_108 := (q_84).1.2
                have tt_108 := (q_84).1.1.told
                refine tz_cV (pc := 108) (m_arg hl n _ _ _ (by omega) (by decide) 0 0 0 s m_84 (q_84).1.1 (by omega) (by omega)) vl_X12_88 dX12_commonOf_108 o_164 rfl rfl (Nat.le_of_ble_eq_true rfl) ⟨(show 0 + 1 ≤ 4 + 1 * (r9 + 1) by omega), (show 8 + (3 + 11) + 40 * (0) ≤ 40 * (4 + 1 * (r9 + 1)) by omega)⟩ rfl rfl (Nat.le_of_ble_eq_true rfl) (Nat.le_of_ble_eq_true rfl) (fun r9 J_108 hq9 => ?_)
                obtain ⟨z_108, rfl, hz_108, rfl, hv_108⟩ := hq9
                have he_108 : J_84 167 (3 * (0 + t) + 1) = J 167 (3 * (0 + t) + 1) := ((q_84).2.1 t ht.1 ht.2).2 1 (by omega) (by omega)
                rw [he_108] at hv_108
                obtain rfl : J 167 (3 * (0 + t) + 1) = z_108 := hv_108
                have l0_111 := (q_84).1.2
                have t0_111 := (q_84).1.1.told
                have a_111 := hM.arg (t := u) (i := 1) hs (by omega)
                have e_111 := hM.arg (t := t) (i := 1) ht (by omega)
                have o_111 : 0 ≤ J_84 164 32 ∧ J_84 164 32 ≤ 8 := k_84
                refine tz_cV (pc := 111) (ih _ _ _ (by omega) (by omega) s m_84 (q_84).1.1 (((q_84).2.2.1.2.2.1 9 (by decide)).trans h9s) (by omega) (by omega) o_111 (by rw [((q_84).2.1 _ (by omega) (by omega)).1.2]; omega)) vl_X12_201 dX12_commonOf_111 o_164 rfl rfl (Nat.le_of_ble_eq_true rfl) ⟨(show (4 + 1 * r9) + 1 ≤ 4 + 1 * (r9 + 1) by omega), (show 8 + (7 + 11) + 40 * ((4 + 1 * r9)) ≤ 40 * (4 + 1 * (r9 + 1)) by omega)⟩ rfl rfl (Nat.le_of_ble_eq_true rfl) (Nat.le_of_ble_eq_true rfl) (fun r9 J_111 hq9 => ?_)
                obtain ⟨z_111, rfl, hz_111, m_111, g_111, h_111, i_111, k_111, x_111⟩ := hq9
                have q_111 := MG.tr q_84 g_111
                have f_111 := g_111.2.2.2
                have l_111 := g_111.1.2
                have y_111 : J_84 168 (0 + J 167 (3 * (0 + u) + 1)) = J 168 (0 + J 167 (3 * (0 + u) + 1)) := ((q_84).2.1 _ (by omega) (by omega)).1.2
                refine tz_goto (pc := 114) (tgt := 118) dX12_commonOf_114 (by decide) ?_
                refine tz_istore (pc := 118) (L2 := [_, _, _, _, _, _, _]) dX12_commonOf_118 (by decide) rfl ?_
                refine tz_iload_n (pc := 120) dX12_commonOf_120 rfl rfl ?_
                refine tz_iconst (pc := 121) dX12_commonOf_121 ?_
                refine tz_icmp_le (pc := 122) (tgt := 144) dX12_commonOf_122 (by decide) (by omega) (by decide) (fun h_122 => ?_) (fun h_122 => ?_)
                · refine tz_iconst (pc := 144) dX12_commonOf_144 ?_
                  refine tz_istore (pc := 145) (L2 := [_, _, _, _, _, _, _]) dX12_commonOf_145 (by decide) rfl ?_
                  refine tz_aload_n (pc := 147) dX12_commonOf_147 rfl rfl ?_
                  refine tz_fI (pc := 148) (kz := 33) (v := (J_111 164 33)) dX12_commonOf_148 fl_X12_195 i_164_33 rfl rfl (fun r_148 => ?_)
                  refine tz_if_eq (pc := 151) (tgt := 158) dX12_commonOf_151 (by decide) (by omega) (fun h_151 => ?_) (fun h_151 => ?_)
                  · refine tz_aload_n (pc := 158) dX12_commonOf_158 rfl rfl ?_
                    refine tz_iload_n (pc := 159) dX12_commonOf_159 rfl rfl ?_
                    refine tz_iload (pc := 160) dX12_commonOf_160 rfl ?_
                    refine tz_iload (pc := 162) dX12_commonOf_162 rfl ?_
                    refine tz_iload (pc := 164) dX12_commonOf_164 rfl ?_
                    have l0_166 := (q_111).1.2
                    have t0_166 := (q_111).1.1.told
                    refine tz_cV (pc := 166) (o_remade hl n _ _ _ _ _ (by omega) (by omega) (by omega) (by omega) s m_111 (q_111).1.1 (((q_111).2.2.1.2.2.1 9 (by decide)).trans h9s) (by omega) (fun q9 => by have e9 := (q_111).ar hs ((q_111).2.2.1.2.2.2 170 rfl); rw [e9]; omega)) vl_X12_152 dX12_commonOf_166 o_164 rfl rfl (Nat.le_of_ble_eq_true rfl) ⟨(show 3 + 1 ≤ 4 + 1 * (r9 + 1) by omega), (show 8 + (5 + 11) + 40 * (3) ≤ 40 * (4 + 1 * (r9 + 1)) by omega)⟩ rfl rfl (Nat.le_of_ble_eq_true rfl) (Nat.le_of_ble_eq_true rfl) (fun r9 J_166 hq9 => ?_)
                    obtain ⟨z_166, rfl, hz_166, m_166, g_166, h_166, x_166⟩ := hq9
                    have q_166 := MG.tr q_111 (MG.mono g_166 (fun _ h => by simp at h) (fun _ h => by simp at h) (fun _ h => h))
                    have f_166 := g_166.2.2.2
                    have l_166 := g_166.1.2
                    exact tz_iret (pc := 169) (z := z_166) dX12_commonOf_169 rfl (Nat.le_of_ble_eq_true rfl) (Nat.le_of_ble_eq_true rfl) ⟨Nat.le_refl _, Nat.le_add_right _ _⟩ ⟨_, rfl, (by omega), ⟨m_166, q_166, fun q9 q8 => h_166 q9, fun q9 => by rw [g_166.2.2.1.2.2.1 33 (by decide)] at q9; omega, by rw [g_166.2.2.1.2.2.1 32 (by decide)]; exact k_111, fun k hk => rc_k hM hs hk (by omega) (by omega) (fun k9 L0 c hk9 => rc_end (k := k9) (A := mar J 0 0 u) (zf := zf3 (z_84) (z_111) (0)) (rcS.s (rcS.s (rcS.s (rc_s (by omega) (by omega) c) (Or.inl (rc_a hM g0 ((g0).2.2.1.2.2.2 170 rfl) hs ht (by omega) (by show ((0 : Nat) : Int) < _; omega) (x_84 k9 (by rw [y_84]; have d9 := (hM.td u hs.1 hs.2).2.2 0 (by decide) (by omega); dsimp only at d9; unfold mag at d9; omega))))) (Or.inl (rc_a hM q_84 ((q_84).2.2.1.2.2.2 170 rfl) hs ht (by omega) (by show ((1 : Nat) : Int) < _; omega) (x_111 k9 (by rw [y_111]; have d9 := (hM.td u hs.1 hs.2).2.2 1 (by decide) (by omega); dsimp only at d9; unfold mag at d9; omega))))) (Or.inr ⟨by show ¬ ((2 : Nat) : Int) < _; omega, rfl, rfl⟩)) (by rw [(hM.oa hs).1, (hM.oa ht).1]; omega) (by omega) (hM.oa hs).2 (Or.inr ⟨by omega, by have e7 := x_166; rw [show J_111 166 (0 + u) = J 166 (0 + u) from ((q_111).2.1 u hs.1 hs.2).1.1, ← (hM.oa hs).1] at e7; exact e7, g_166.2.2.1.2.2.1 33 (by decide), g_166.2.2.1.2.2.1 32 (by decide), g_166.2.2.1.2.2.2 182 rfl⟩))⟩⟩
                  · refine tz_iconst (pc := 154) dX12_commonOf_154 ?_
                    refine tz_goto (pc := 155) (tgt := 169) dX12_commonOf_155 (by decide) ?_
                    exact tz_iret (pc := 169) (z := 0) dX12_commonOf_169 rfl (Nat.le_of_ble_eq_true rfl) (Nat.le_of_ble_eq_true rfl) ⟨Nat.le_refl _, Nat.le_add_right _ _⟩ ⟨_, rfl, (by decide), ⟨m_111, q_111, fun q9 q8 => by omega, fun q9 => by omega, k_111, fun k hk => rc_k hM hs hk (by omega) (by omega) (fun k9 L0 c hk9 => rc_end (k := k9) (A := mar J 0 0 u) (zf := zf3 (z_84) (z_111) (0)) (rcS.s (rcS.s (rcS.s (rc_s (by omega) (by omega) c) (Or.inl (rc_a hM g0 ((g0).2.2.1.2.2.2 170 rfl) hs ht (by omega) (by show ((0 : Nat) : Int) < _; omega) (x_84 k9 (by rw [y_84]; have d9 := (hM.td u hs.1 hs.2).2.2 0 (by decide) (by omega); dsimp only at d9; unfold mag at d9; omega))))) (Or.inl (rc_a hM q_84 ((q_84).2.2.1.2.2.2 170 rfl) hs ht (by omega) (by show ((1 : Nat) : Int) < _; omega) (x_111 k9 (by rw [y_111]; have d9 := (hM.td u hs.1 hs.2).2.2 1 (by decide) (by omega); dsimp only at d9; unfold mag at d9; omega))))) (Or.inr ⟨by show ¬ ((2 : Nat) : Int) < _; omega, rfl, rfl⟩)) (by rw [(hM.oa hs).1, (hM.oa ht).1]; omega) (by omega) (hM.oa hs).2 (Or.inl ⟨by omega, rfl⟩))⟩⟩
                · refine tz_aload_n (pc := 125) dX12_commonOf_125 rfl rfl ?_
                  refine tz_aload_n (pc := 126) dX12_commonOf_126 rfl rfl ?_
                  refine tz_iload_n (pc := 127) dX12_commonOf_127 rfl rfl ?_
                  refine tz_iconst (pc := 128) dX12_commonOf_128 ?_
                  have l_129 := (q_111).1.2
                  have tt_129 := (q_111).1.1.told
                  refine tz_cV (pc := 129) (m_arg hl n _ _ _ (by omega) (by decide) 0 0 0 s m_111 (q_111).1.1 (by omega) (by omega)) vl_X12_88 dX12_commonOf_129 o_164 rfl rfl (Nat.le_of_ble_eq_true rfl) ⟨(show 0 + 1 ≤ 4 + 1 * (r9 + 1) by omega), (show 8 + (3 + 11) + 40 * (0) ≤ 40 * (4 + 1 * (r9 + 1)) by omega)⟩ rfl rfl (Nat.le_of_ble_eq_true rfl) (Nat.le_of_ble_eq_true rfl) (fun r9 J_129 hq9 => ?_)
                  obtain ⟨z_129, rfl, hz_129, rfl, hv_129⟩ := hq9
                  have he_129 : J_111 167 (3 * (0 + u) + 2) = J 167 (3 * (0 + u) + 2) := ((q_111).2.1 u hs.1 hs.2).2 2 (by omega) (by omega)
                  rw [he_129] at hv_129
                  obtain rfl : J 167 (3 * (0 + u) + 2) = z_129 := hv_129
                  refine tz_aload_n (pc := 132) dX12_commonOf_132 rfl rfl ?_
                  refine tz_iload_n (pc := 133) dX12_commonOf_133 rfl rfl ?_
                  refine tz_iconst (pc := 134) dX12_commonOf_134 ?_
                  have l_135 := (q_111).1.2
                  have tt_135 := (q_111).1.1.told
                  refine tz_cV (pc := 135) (m_arg hl n _ _ _ (by omega) (by decide) 0 0 0 s m_111 (q_111).1.1 (by omega) (by omega)) vl_X12_88 dX12_commonOf_135 o_164 rfl rfl (Nat.le_of_ble_eq_true rfl) ⟨(show 0 + 1 ≤ 4 + 1 * (r9 + 1) by omega), (show 8 + (3 + 11) + 40 * (0) ≤ 40 * (4 + 1 * (r9 + 1)) by omega)⟩ rfl rfl (Nat.le_of_ble_eq_true rfl) (Nat.le_of_ble_eq_true rfl) (fun r9 J_135 hq9 => ?_)
                  obtain ⟨z_135, rfl, hz_135, rfl, hv_135⟩ := hq9
                  have he_135 : J_111 167 (3 * (0 + t) + 2) = J 167 (3 * (0 + t) + 2) := ((q_111).2.1 t ht.1 ht.2).2 2 (by omega) (by omega)
                  rw [he_135] at hv_135
                  obtain rfl : J 167 (3 * (0 + t) + 2) = z_135 := hv_135
                  have l0_138 := (q_111).1.2
                  have t0_138 := (q_111).1.1.told
                  have a_138 := hM.arg (t := u) (i := 2) hs (by omega)
                  have e_138 := hM.arg (t := t) (i := 2) ht (by omega)
                  have o_138 : 0 ≤ J_111 164 32 ∧ J_111 164 32 ≤ 8 := k_111
                  refine tz_cV (pc := 138) (ih _ _ _ (by omega) (by omega) s m_111 (q_111).1.1 (((q_111).2.2.1.2.2.1 9 (by decide)).trans h9s) (by omega) (by omega) o_138 (by rw [((q_111).2.1 _ (by omega) (by omega)).1.2]; omega)) vl_X12_201 dX12_commonOf_138 o_164 rfl rfl (Nat.le_of_ble_eq_true rfl) ⟨(show (4 + 1 * r9) + 1 ≤ 4 + 1 * (r9 + 1) by omega), (show 8 + (7 + 11) + 40 * ((4 + 1 * r9)) ≤ 40 * (4 + 1 * (r9 + 1)) by omega)⟩ rfl rfl (Nat.le_of_ble_eq_true rfl) (Nat.le_of_ble_eq_true rfl) (fun r9 J_138 hq9 => ?_)
                  obtain ⟨z_138, rfl, hz_138, m_138, g_138, h_138, i_138, k_138, x_138⟩ := hq9
                  have q_138 := MG.tr q_111 g_138
                  have f_138 := g_138.2.2.2
                  have l_138 := g_138.1.2
                  have y_138 : J_111 168 (0 + J 167 (3 * (0 + u) + 2)) = J 168 (0 + J 167 (3 * (0 + u) + 2)) := ((q_111).2.1 _ (by omega) (by omega)).1.2
                  refine tz_goto (pc := 141) (tgt := 145) dX12_commonOf_141 (by decide) ?_
                  refine tz_istore (pc := 145) (L2 := [_, _, _, _, _, _, _]) dX12_commonOf_145 (by decide) rfl ?_
                  refine tz_aload_n (pc := 147) dX12_commonOf_147 rfl rfl ?_
                  refine tz_fI (pc := 148) (kz := 33) (v := (J_138 164 33)) dX12_commonOf_148 fl_X12_195 i_164_33 rfl rfl (fun r_148 => ?_)
                  refine tz_if_eq (pc := 151) (tgt := 158) dX12_commonOf_151 (by decide) (by omega) (fun h_151 => ?_) (fun h_151 => ?_)
                  · refine tz_aload_n (pc := 158) dX12_commonOf_158 rfl rfl ?_
                    refine tz_iload_n (pc := 159) dX12_commonOf_159 rfl rfl ?_
                    refine tz_iload (pc := 160) dX12_commonOf_160 rfl ?_
                    refine tz_iload (pc := 162) dX12_commonOf_162 rfl ?_
                    refine tz_iload (pc := 164) dX12_commonOf_164 rfl ?_
                    have l0_166 := (q_138).1.2
                    have t0_166 := (q_138).1.1.told
                    refine tz_cV (pc := 166) (o_remade hl n _ _ _ _ _ (by omega) (by omega) (by omega) (by omega) s m_138 (q_138).1.1 (((q_138).2.2.1.2.2.1 9 (by decide)).trans h9s) (by omega) (fun q9 => by have e9 := (q_138).ar hs ((q_138).2.2.1.2.2.2 170 rfl); rw [e9]; omega)) vl_X12_152 dX12_commonOf_166 o_164 rfl rfl (Nat.le_of_ble_eq_true rfl) ⟨(show 3 + 1 ≤ 4 + 1 * (r9 + 1) by omega), (show 8 + (5 + 11) + 40 * (3) ≤ 40 * (4 + 1 * (r9 + 1)) by omega)⟩ rfl rfl (Nat.le_of_ble_eq_true rfl) (Nat.le_of_ble_eq_true rfl) (fun r9 J_166 hq9 => ?_)
                    obtain ⟨z_166, rfl, hz_166, m_166, g_166, h_166, x_166⟩ := hq9
                    have q_166 := MG.tr q_138 (MG.mono g_166 (fun _ h => by simp at h) (fun _ h => by simp at h) (fun _ h => h))
                    have f_166 := g_166.2.2.2
                    have l_166 := g_166.1.2
                    exact tz_iret (pc := 169) (z := z_166) dX12_commonOf_169 rfl (Nat.le_of_ble_eq_true rfl) (Nat.le_of_ble_eq_true rfl) ⟨Nat.le_refl _, Nat.le_add_right _ _⟩ ⟨_, rfl, (by omega), ⟨m_166, q_166, fun q9 q8 => h_166 q9, fun q9 => by rw [g_166.2.2.1.2.2.1 33 (by decide)] at q9; omega, by rw [g_166.2.2.1.2.2.1 32 (by decide)]; exact k_138, fun k hk => rc_k hM hs hk (by omega) (by omega) (fun k9 L0 c hk9 => rc_end (k := k9) (A := mar J 0 0 u) (zf := zf3 (z_84) (z_111) (z_138)) (rcS.s (rcS.s (rcS.s (rc_s (by omega) (by omega) c) (Or.inl (rc_a hM g0 ((g0).2.2.1.2.2.2 170 rfl) hs ht (by omega) (by show ((0 : Nat) : Int) < _; omega) (x_84 k9 (by rw [y_84]; have d9 := (hM.td u hs.1 hs.2).2.2 0 (by decide) (by omega); dsimp only at d9; unfold mag at d9; omega))))) (Or.inl (rc_a hM q_84 ((q_84).2.2.1.2.2.2 170 rfl) hs ht (by omega) (by show ((1 : Nat) : Int) < _; omega) (x_111 k9 (by rw [y_111]; have d9 := (hM.td u hs.1 hs.2).2.2 1 (by decide) (by omega); dsimp only at d9; unfold mag at d9; omega))))) (Or.inl (rc_a hM q_111 ((q_111).2.2.1.2.2.2 170 rfl) hs ht (by omega) (by show ((2 : Nat) : Int) < _; omega) (x_138 k9 (by rw [y_138]; have d9 := (hM.td u hs.1 hs.2).2.2 2 (by decide) (by omega); dsimp only at d9; unfold mag at d9; omega))))) (by rw [(hM.oa hs).1, (hM.oa ht).1]; omega) (by omega) (hM.oa hs).2 (Or.inr ⟨by omega, by have e7 := x_166; rw [show J_138 166 (0 + u) = J 166 (0 + u) from ((q_138).2.1 u hs.1 hs.2).1.1, ← (hM.oa hs).1] at e7; exact e7, g_166.2.2.1.2.2.1 33 (by decide), g_166.2.2.1.2.2.1 32 (by decide), g_166.2.2.1.2.2.2 182 rfl⟩))⟩⟩
                  · refine tz_iconst (pc := 154) dX12_commonOf_154 ?_
                    refine tz_goto (pc := 155) (tgt := 169) dX12_commonOf_155 (by decide) ?_
                    exact tz_iret (pc := 169) (z := 0) dX12_commonOf_169 rfl (Nat.le_of_ble_eq_true rfl) (Nat.le_of_ble_eq_true rfl) ⟨Nat.le_refl _, Nat.le_add_right _ _⟩ ⟨_, rfl, (by decide), ⟨m_138, q_138, fun q9 q8 => by omega, fun q9 => by omega, k_138, fun k hk => rc_k hM hs hk (by omega) (by omega) (fun k9 L0 c hk9 => rc_end (k := k9) (A := mar J 0 0 u) (zf := zf3 (z_84) (z_111) (z_138)) (rcS.s (rcS.s (rcS.s (rc_s (by omega) (by omega) c) (Or.inl (rc_a hM g0 ((g0).2.2.1.2.2.2 170 rfl) hs ht (by omega) (by show ((0 : Nat) : Int) < _; omega) (x_84 k9 (by rw [y_84]; have d9 := (hM.td u hs.1 hs.2).2.2 0 (by decide) (by omega); dsimp only at d9; unfold mag at d9; omega))))) (Or.inl (rc_a hM q_84 ((q_84).2.2.1.2.2.2 170 rfl) hs ht (by omega) (by show ((1 : Nat) : Int) < _; omega) (x_111 k9 (by rw [y_111]; have d9 := (hM.td u hs.1 hs.2).2.2 1 (by decide) (by omega); dsimp only at d9; unfold mag at d9; omega))))) (Or.inl (rc_a hM q_111 ((q_111).2.2.1.2.2.2 170 rfl) hs ht (by omega) (by show ((2 : Nat) : Int) < _; omega) (x_138 k9 (by rw [y_138]; have d9 := (hM.td u hs.1 hs.2).2.2 2 (by decide) (by omega); dsimp only at d9; unfold mag at d9; omega))))) (by rw [(hM.oa hs).1, (hM.oa ht).1]; omega) (by omega) (hM.oa hs).2 (Or.inl ⟨by omega, rfl⟩))⟩⟩
          · refine tz_aload_n (pc := 37) dX12_commonOf_37 rfl rfl ?_
            refine tz_iload_n (pc := 38) dX12_commonOf_38 rfl rfl ?_
            refine tz_iload_n (pc := 39) dX12_commonOf_39 rfl rfl ?_
            refine tz_cV (pc := 40) (o_coupleOf hl n _ _ _ (by omega) (by omega) h0) vl_X12_198 dX12_commonOf_40 o_164 rfl rfl (Nat.le_of_ble_eq_true rfl) ⟨(show 0 + 1 ≤ 4 + 1 * (r9 + 1) by omega), (show 8 + (4 + 11) + 40 * (0) ≤ 40 * (4 + 1 * (r9 + 1)) by omega)⟩ rfl rfl (Nat.le_of_ble_eq_true rfl) (Nat.le_of_ble_eq_true rfl) (fun r9 J_40 hq9 => ?_)
            obtain ⟨z_40, rfl, hz_40, ⟨c1, c2, c3, c4⟩, c5⟩ := hq9
            have q_40 : MG [182] [32, 33] (fun _ => false) J_40 J 0 0 0 s m m := (MG.rf hM).off (fun k hk => c2 k (by simp at hk; omega) (by simp at hk; omega)) (fun k _ => congrFun (c1 165 rfl) k) (c1.mono (zbut_sub (fun c hc => by simp at hc ⊢; omega))) ⟨rfl, rfl, rfl, rfl⟩ rfl ⟨rfl, rfl, rfl, rfl⟩
            have t_40 : tb0 J_40 = tb0 J := tb0_of (c2 9 (by decide) (by decide)) (c2 21 (by decide) (by decide)) (fun k _ _ => by rw [c1 165 rfl]) (fun k _ _ => ⟨by rw [c1 166 rfl], by rw [c1 168 rfl]⟩) (fun k _ _ => by rw [c1 167 rfl]) (fun k _ _ => ⟨by rw [c1 169 rfl], by rw [c1 170 rfl], by rw [c1 171 rfl]⟩)
            refine tz_istore_n (pc := 43) (L2 := [_, _, _, _, _, _, _]) dX12_commonOf_43 rfl (by decide) rfl ?_
            refine tz_aload_n (pc := 44) dX12_commonOf_44 rfl rfl ?_
            refine tz_fI (pc := 45) (kz := 33) (v := (J_40 164 33)) dX12_commonOf_45 fl_X12_195 i_164_33 rfl rfl (fun r_45 => ?_)
            refine tz_if_eq (pc := 48) (tgt := 55) dX12_commonOf_48 (by decide) (by omega) (fun h_48 => ?_) (fun h_48 => ?_)
            · refine tz_aload_n (pc := 55) dX12_commonOf_55 rfl rfl ?_
              refine tz_iload_n (pc := 56) dX12_commonOf_56 rfl rfl ?_
              have l0_57 := (q_40).1.2
              have t0_57 := (q_40).1.1.told
              refine tz_cV (pc := 57) (o_varTerm hl n _ _ (by omega) s m (q_40).1.1 (((q_40).2.2.1.2.2.1 9 (by decide)).trans h9s) (by omega)) vl_X12_180 dX12_commonOf_57 o_164 rfl rfl (Nat.le_of_ble_eq_true rfl) ⟨(show 3 + 1 ≤ 4 + 1 * (r9 + 1) by omega), (show 8 + (2 + 11) + 40 * (3) ≤ 40 * (4 + 1 * (r9 + 1)) by omega)⟩ rfl rfl (Nat.le_of_ble_eq_true rfl) (Nat.le_of_ble_eq_true rfl) (fun r9 J_57 hq9 => ?_)
              obtain ⟨z_57, rfl, hz_57, x_57, m_57, g_57, h_57⟩ := hq9
              have q_57 := MG.tr q_40 (MG.mono g_57 (fun _ h => by simp at h) (fun _ h => by simp at h) (fun _ h => h))
              have f_57 := g_57.2.2.2
              have l_57 := g_57.1.2
              exact tz_iret (pc := 60) (z := z_57) dX12_commonOf_60 rfl (Nat.le_of_ble_eq_true rfl) (Nat.le_of_ble_eq_true rfl) ⟨Nat.le_refl _, Nat.le_add_right _ _⟩ ⟨_, rfl, (by omega), ⟨m_57, q_57, fun q9 q8 => h_57 q9, fun q9 => by rw [g_57.2.2.1.2.2.1 33 (by decide)] at q9; omega, by rw [g_57.2.2.1.2.2.1 32 (by decide)]; exact c3, fun k hk => rc_k hM hs hk (by omega) (by omega) (fun k9 L0 c _ => rc_leaf (by rw [(hM.oa hs).1, (hM.oa ht).1]; omega) (by omega) t_40 (c.ac (by omega) c5) (Or.inr ⟨by omega, Prod.ext x_57.1 x_57.2, g_57.2.2.1.2.2.1 33 (by decide), g_57.2.2.1.2.2.1 32 (by decide), g_57.2.2.1.2.2.2 182 rfl⟩))⟩⟩
            · refine tz_iconst (pc := 51) dX12_commonOf_51 ?_
              refine tz_goto (pc := 52) (tgt := 60) dX12_commonOf_52 (by decide) ?_
              exact tz_iret (pc := 60) (z := 0) dX12_commonOf_60 rfl (Nat.le_of_ble_eq_true rfl) (Nat.le_of_ble_eq_true rfl) ⟨Nat.le_refl _, Nat.le_add_right _ _⟩ ⟨_, rfl, (by decide), ⟨m, q_40, fun q9 q8 => by omega, fun q9 => by omega, c3, fun k hk => rc_k hM hs hk (by omega) (by omega) (fun k9 L0 c _ => rc_leaf (by rw [(hM.oa hs).1, (hM.oa ht).1]; omega) (by omega) t_40 (c.ac (by omega) c5) (Or.inl ⟨by omega, rfl⟩))⟩⟩
      · refine tz_iconst (pc := 14) dX12_commonOf_14 ?_
        exact tz_iret (pc := 15) (z := 0) dX12_commonOf_15 rfl (Nat.le_of_ble_eq_true rfl) (Nat.le_of_ble_eq_true rfl) ⟨Nat.le_refl _, Nat.le_add_right _ _⟩ ⟨_, rfl, (by decide), ⟨m, g0, fun q9 q8 => by omega, fun q9 => by omega, h0, fun k hk => ⟨fun _ => rfl, fun a b => by exfalso; omega⟩⟩⟩

theorem o_common {l : Launch} {G : tb_G} (hl : l.stackTraces = false) (n : Nat) (J : zJ) (u t : Int) (hr_u : -2147483648 ≤ u ∧ u < 2147483648) (hr_t : -2147483648 ≤ t ∧ t < 2147483648) (s m : Int) (hM : MS J 0 0 0 s m) (h9s : J 164 9 = s) (hs : 0 ≤ u ∧ u < m) (ht : 0 ≤ t ∧ t < m) (h0 : 0 ≤ J 164 32 ∧ J 164 32 ≤ 8) : tz_Ok l G M_X12_commonOf 11 0 0 [.ref 164, zi u, zi t] n J (zqi (fun z J' => ∃ m', MG [182] [32, 33] (fun _ => false) J' J 0 0 0 s m m' ∧ (J' 164 21 = 0 → J' 164 33 = 0 → 0 ≤ z ∧ z < m') ∧ (J' 164 33 = 0 → J 164 33 = 0) ∧ (0 ≤ J' 164 32 ∧ J' 164 32 ≤ 8) ∧ ∀ k : Nat, J 168 (0 + u) ≤ k → rcP k J J' u t z)) zN := o_commonR hl n 7 J u t hr_u hr_t s m hM h9s hs ht h0 (by have := (hM.ar hs).2.2.1; omega)
end
section
/-! ===== common of the reference, exact: the call ===== -/
/-- an act that is refused behind begin -/
theorem mact_fail {Jb Jo J' S : zJ} {n m : Int} {R : Int → Int → Int} (hb : tb0 Jb = S) (hS : S 165 0 = m) (hm : m ≤ 400) (hA : ∀ q, 0 ≤ q → q < 63 → Jb 165 (63 + q) = S 165 q) (u : MUr Jb n R) (hn : 0 ≤ n ∧ n ≤ 40) (h11 : 0 ≤ Jb 164 11 ∧ Jb 164 11 < 40) (p : MOP Jo Jb m) (k3 : zOf (zbut [172]) J' (zmv Jo 165 63 0 63)) : (MBT J' S ∧ MUr J' n R) ∧ MFI J' Jb := by
  obtain ⟨pf, p5, ⟨p9, p10, p11⟩, p6, p7, p0⟩ := p
  have mb := MBT.tb hb (by omega)
  refine ⟨⟨⟨⟨?_, fun k a b => ?_⟩, fun k a b => ?_, fun t a b => ?_, fun k a b => ?_⟩, u.of ?_ ?_ (fun k a => ?_)⟩, pf.tr ⟨fun k a => ?_, fun k _ _ => ⟨by rw [k3 166 rfl]; rfl, by rw [k3 168 rfl]; rfl⟩, fun k _ _ => by rw [k3 167 rfl]; rfl, by rw [k3 164 rfl]; rfl, by rw [k3 164 rfl]; rfl⟩⟩
  · rw [k3 164 rfl]; exact p9.trans mb.1.1
  · rw [k3 169 rfl, k3 170 rfl, k3 171 rfl]
    obtain ⟨q1, q2, q3⟩ := p0 k a b
    obtain ⟨r1, r2, r3⟩ := mb.1.2 k a b
    exact ⟨q1.trans r1, q2.trans r2, q3.trans r3⟩
  · rw [k3 165 rfl, zmv5, if_pos (by omega), show 63 + (k - 0) = 63 + k from by omega, p5 _ (by omega)]
    exact hA k a b
  · rw [k3 166 rfl, k3 168 rfl]
    obtain ⟨q1, q2⟩ := p6 t a (by omega)
    obtain ⟨r1, r2⟩ := mb.2.2.1 t a b
    exact ⟨q1.trans r1, q2.trans r2⟩
  · rw [k3 167 rfl]
    exact (p7 k a (by omega)).trans (mb.2.2.2 k a b)
  · rw [k3 164 rfl]; exact p10
  · rw [k3 164 rfl]; exact p11
  · rw [k3 165 rfl, zmv5, if_neg (by omega)]; exact p5 k (by omega)
  · rw [k3 165 rfl, zmv5, if_neg (by omega)]
def MCO (S : zJ) (n : Int) (R : Int → Int → Int) (x y : Int) (J' : zJ) (z : Int) : Prop := ((cpO 6 S [] x y).2 = true ∧ MED S n R (coO (cpO 6 S [] x y).1 6 S x y) J' z) ∨ ((cpO 6 S [] x y).2 = false ∧ (z = -2 ∨ z = -3) ∧ MBT J' S ∧ MUr J' n R)
theorem com_end {Jb Jc Jo J' S : zJ} {n m a z x y : Int} {R : Int → Int → Int} (hb : tb0 Jb = S) (hS : S 165 0 = m) (hm : m ≤ 400) (hA : ∀ q, 0 ≤ q → q < 63 → Jb 165 (63 + q) = S 165 q) (u : MUr Jb n R) (hn : 0 ≤ n ∧ n ≤ 40) (h11 : 0 ≤ Jb 164 11 ∧ Jb 164 11 < 40) (p : MOP Jo Jb m) (hc : tb0 Jc = S) (q : rcQ 6 Jc Jo x y a []) (hm' : Jo 165 0 ≤ 400) (h9 : ¬ (Jo 164 21 = 0 ∧ ¬ Jo 164 33 = 0)) (k : (¬ Jo 164 21 = 0 ∧ -3 = z ∧ zOf (zbut [172]) J' (zmv Jo 165 63 0 63)) ∨ (Jo 164 21 = 0 ∧ a = z ∧ ((¬ Jo 164 10 = 40 ∧ zkL Jo = J') ∨ (Jo 164 10 = 40 ∧ zkF Jo = J')))) : MCO S n R x y J' z ∧ MFI J' Jb := by
  obtain ⟨q1, q2, q3⟩ := q
  rw [hc] at q1 q2 q3
  by_cases f : Jo 164 21 = 0
  · have g : Jo 164 33 = 0 := Decidable.byContradiction (fun g => h9 ⟨f, g⟩)
    obtain ⟨L1, r1, r2, r3⟩ := q1 f g
    have r := r3 []
    rw [List.append_nil] at r
    have e1 : (cpO 6 S [] x y).1 = L1 := by rw [r1]
    have w := mact_end (F := coO L1 6 S x y) hb hS hm hA u hn h11 p (congrArg Prod.fst r) (by rw [← congrArg Prod.fst r]; exact hm') (fun _ => congrArg Prod.snd r) k
    unfold MCO
    rw [e1]
    exact ⟨Or.inl ⟨by rw [r1], w.1⟩, w.2⟩
  · rcases k with ⟨_, k2, k3⟩ | ⟨k1, _⟩
    · obtain ⟨w1, w2⟩ := mact_fail hb hS hm hA u hn h11 p k3
      refine ⟨?_, w2⟩
      by_cases b : (cpO 6 S [] x y).2 = true
      · have r := (q2 f).2 (cpO 6 S [] x y).1 (Prod.ext rfl b) []
        rw [List.append_nil] at r
        exact Or.inl ⟨b, Or.inl ⟨r, k2.symm, w1⟩⟩
      · exact Or.inr ⟨Bool.eq_false_iff.2 b, Or.inr k2.symm, w1⟩
    · exact absurd k1 f
theorem com_fail {Jb Jc Jo J' S : zJ} {n m a z x y : Int} {R : Int → Int → Int} (hb : tb0 Jb = S) (hS : S 165 0 = m) (hm : m ≤ 400) (hA : ∀ q, 0 ≤ q → q < 63 → Jb 165 (63 + q) = S 165 q) (u : MUr Jb n R) (hn : 0 ≤ n ∧ n ≤ 40) (h11 : 0 ≤ Jb 164 11 ∧ Jb 164 11 < 40) (p : MOP Jo Jb m) (hc : tb0 Jc = S) (q : rcQ 6 Jc Jo x y a []) (g : ¬ Jo 164 33 = 0) (hz : -2 = z) (k3 : zOf (zbut [172]) J' (zmv Jo 165 63 0 63)) : MCO S n R x y J' z ∧ MFI J' Jb := by
  obtain ⟨q1, q2, q3⟩ := q
  rw [hc] at q1 q2 q3
  obtain ⟨w1, w2⟩ := mact_fail hb hS hm hA u hn h11 p k3
  exact ⟨Or.inr ⟨q3 g, Or.inl hz.symm, w1⟩, w2⟩
theorem MOP.mgc {Jo Jb : zJ} {s m m' v : Int} (g : MG [182] [32, 33] (fun _ => false) Jo (zup Jb 164 32 v) 0 0 0 s m m') : MOP Jo Jb m := by
  obtain ⟨g1, g2, ⟨f1, f2, f3, f4⟩, g4⟩ := g
  refine ⟨⟨fun k a => f2 k (by omega) rfl, fun k a b => f1.1 k (by omega), fun k a b => f1.2 k (by omega), f3 12 (by decide), f3 13 (by decide)⟩, fun k a => f2 k (by omega) rfl, ⟨f3 9 (by decide), f3 10 (by decide), f3 11 (by decide)⟩, fun t a b => ?_, fun k a b => ?_, fun k _ _ => ⟨by rw [f4 169 rfl]; rfl, by rw [f4 170 rfl]; rfl, by rw [f4 171 rfl]; rfl⟩⟩
  · have := (g2 t a b).1
    rw [Int.zero_add] at this
    exact this
  · have := (g2 (k / 3) (by omega) (by omega)).2 (k % 3) (by omega) (by omega)
    rw [show 3 * (0 + k / 3) + k % 3 = k from by omega] at this
    exact this
theorem tb0_co {J : zJ} {v : Int} : tb0 (zup J 164 32 v) = tb0 J := tb0_of rfl rfl (fun k _ _ => rfl) (fun k _ _ => ⟨rfl, rfl⟩) (fun k _ _ => rfl) (fun k _ _ => ⟨rfl, rfl, rfl⟩)
theorem cM_0 {J : zJ} : cM (zup J 164 32 0) [] := ⟨rfl, trivial⟩
theorem AEC {S J' Jb J : zJ} {n z x y : Int} {R : Int → Int → Int} {P : Prop} (q : MQr J' J) (b : MFI Jb J) (e : MCO S n R x y J' z ∧ MFI J' Jb) (p : P) : MQr J' J ∧ MFI J' J ∧ ((P ∧ MCO S n R x y J' z) ∨ (¬ P ∧ z = -1 ∧ MBT J' S ∧ MUr J' n R)) := ⟨q, b.tr e.2, Or.inl ⟨p, e.1⟩⟩
set_option maxHeartbeats 4000000 in
set_option maxRecDepth 100000 in
theorem v_qcommon {l : Launch} {G : tb_G} (hl : l.stackTraces = false) (n : Nat) (J : zJ) (x : Int) (y : Int) (hr_x : -2147483648 ≤ x ∧ x < 2147483648) (hr_y : -2147483648 ≤ y ∧ y < 2147483648) (m : Int) (pn : Int) (RR : Int → Int → Int) (hI : MI J m) (u9 : MUr J pn RR) : tz_Ok l G M_X12_common 12 0 0 [.ref 164, zi x, zi y] n J (zqi (fun z J' => MQr J' J ∧ MFI J' J ∧ ((((0 ≤ x ∧ x < J 165 0) ∧ (0 ≤ y ∧ y < J 165 0)) ∧ MCO (tbz J) pn RR x y J' z) ∨ (¬ ((0 ≤ x ∧ x < J 165 0) ∧ (0 ≤ y ∧ y < J 165 0)) ∧ z = -1 ∧ MBT J' (tbz J) ∧ MUr J' pn RR)))) zN := by
  refine tz_Ok.of hl (by decide +kernel) rfl (tb_c1 rfl) (Nat.le_of_ble_eq_true rfl) ?_
  show tz_At l G M_X12_common (tb_rm 12 0 0) none (tb_ZM G 0 0 (zQ n 0 (zqi (fun z J' => MQr J' J ∧ MFI J' J ∧ ((((0 ≤ x ∧ x < J 165 0) ∧ (0 ≤ y ∧ y < J 165 0)) ∧ MCO (tbz J) pn RR x y J' z) ∨ (¬ ((0 ≤ x ∧ x < J 165 0) ∧ (0 ≤ y ∧ y < J 165 0)) ∧ z = -1 ∧ MBT J' (tbz J) ∧ MUr J' pn RR))))) (zX n 0 zN)) 0 0 n J 0 [some (.ref 164), some (zi x), some (zi y), none] []
  have hT := hI.told
  have hW := hI.row
  have hM := hI.1
  have hL := hI.2.1
  refine tz_aload_n (pc := 0) dX12_common_0 rfl rfl ?_
  refine tz_iconst (pc := 1) dX12_common_1 ?_
  refine tz_pI (pc := 2) (kz := 8) dX12_common_2 fl_X12_68 i_164_8 rfl rfl (by decide) ?_
  refine tz_aload_n (pc := 5) dX12_common_5 rfl rfl ?_
  refine tz_iload_n (pc := 6) dX12_common_6 rfl rfl ?_
  refine tz_cV (pc := 7) (m_isTerm hl n _ _ (by omega) (by rw [(show ((zup J 164 8 0) : zJ) 165 0 = (J 165 0) from rfl)]; omega)) vl_X12_376 dX12_common_7 o_164 rfl rfl (Nat.le_of_ble_eq_true rfl) ⟨(Nat.le_of_ble_eq_true rfl), (Nat.le_of_ble_eq_true rfl)⟩ rfl rfl (Nat.le_of_ble_eq_true rfl) (Nat.le_of_ble_eq_true rfl) (fun r9 J_7 hq9 => ?_)
  obtain ⟨z_7, rfl, hz_7, rfl, ht_7⟩ := hq9
  rw [(show ((zup J 164 8 0) : zJ) 165 0 = (J 165 0) from rfl)] at ht_7
  refine tz_if_eq (pc := 10) (tgt := 21) dX12_common_10 (by decide) (by omega) (fun h_10 => ?_) (fun h_10 => ?_)
  · refine tz_aload_n (pc := 21) dX12_common_21 rfl rfl ?_
    refine tz_iconst (pc := 22) dX12_common_22 ?_
    refine tz_iconst (pc := 23) dX12_common_23 ?_
    refine tz_cV (pc := 24) (m_refuses hl n _ _ _ (by decide) (by decide) (by decide)) vl_X12_391 dX12_common_24 o_164 rfl rfl (Nat.le_of_ble_eq_true rfl) ⟨(Nat.le_of_ble_eq_true rfl), (Nat.le_of_ble_eq_true rfl)⟩ rfl rfl (Nat.le_of_ble_eq_true rfl) (Nat.le_of_ble_eq_true rfl) (fun r9 J_24 hq9 => ?_)
    obtain ⟨z_24, rfl, hz_24, rfl, f_24⟩ := hq9
    have y_24 : MZ J_24 J := MZ.tr (MZ.up (k := 8) MZ.rf (by decide)) (MZ.c f_24 (by decide))
    exact tz_iret (pc := 27) (z := (-1)) dX12_common_27 rfl (Nat.le_of_ble_eq_true rfl) (Nat.le_of_ble_eq_true rfl) ⟨Nat.le_refl _, Nat.le_add_right _ _⟩ ⟨_, rfl, (by decide), ⟨MQr.z hI y_24, MFI.z y_24, Or.inr ⟨by omega, rfl, MBT.z hI y_24, u9.z y_24⟩⟩⟩
  · refine tz_aload_n (pc := 13) dX12_common_13 rfl rfl ?_
    refine tz_iload_n (pc := 14) dX12_common_14 rfl rfl ?_
    refine tz_cV (pc := 15) (m_isTerm hl n _ _ (by omega) (by rw [(show ((zup J 164 8 0) : zJ) 165 0 = (J 165 0) from rfl)]; omega)) vl_X12_376 dX12_common_15 o_164 rfl rfl (Nat.le_of_ble_eq_true rfl) ⟨(Nat.le_of_ble_eq_true rfl), (Nat.le_of_ble_eq_true rfl)⟩ rfl rfl (Nat.le_of_ble_eq_true rfl) (Nat.le_of_ble_eq_true rfl) (fun r9 J_15 hq9 => ?_)
    obtain ⟨z_15, rfl, hz_15, rfl, ht_15⟩ := hq9
    rw [(show ((zup J 164 8 0) : zJ) 165 0 = (J 165 0) from rfl)] at ht_15
    refine tz_if_ne (pc := 18) (tgt := 28) dX12_common_18 (by decide) (by omega) (fun h_18 => ?_) (fun h_18 => ?_)
    · refine tz_aload_n (pc := 28) dX12_common_28 rfl rfl ?_
      refine tz_cV (pc := 29) (m_begins hl n _) vl_X12_400 dX12_common_29 o_164 rfl rfl (Nat.le_of_ble_eq_true rfl) ⟨(Nat.le_of_ble_eq_true rfl), (Nat.le_of_ble_eq_true rfl)⟩ rfl rfl (Nat.le_of_ble_eq_true rfl) (Nat.le_of_ble_eq_true rfl) (fun r9 J_29 hq9 => ?_)
      obtain ⟨rfl, hj_29⟩ := hq9
      have a_29 : AM J_29 J m m := by rw [← hj_29]; exact AM.begin (hI.z (MZ.up (k := 8) MZ.rf (by decide))) ⟨MZ.lo (MZ.up (k := 8) MZ.rf (by decide)), SC.z (MZ.up (k := 8) MZ.rf (by decide))⟩
      have br_29 : ∀ k, (k < 63 ∨ 126 ≤ k) → J_29 165 k = ((zup J 164 8 0) : zJ) 165 k := fun k hk => by rw [← hj_29]; exact zbg_r hk
      have bl_29 : ∀ k, ¬ k = 34 → ¬ k = 33 → ¬ k = 21 → J_29 164 k = ((zup J 164 8 0) : zJ) 164 k := fun k u v w => by rw [← hj_29]; exact zbg_f u v w
      have bo_29 : zOf (zbut [164, 165]) J_29 (zup J 164 8 0) := by rw [← hj_29]; exact zbg_of
      have b3_29 : J_29 164 21 = 0 ∧ J_29 164 33 = 0 ∧ J_29 164 34 = 0 := by rw [← hj_29]; exact ⟨rfl, rfl, rfl⟩
      have s9_29 : J_29 164 9 = J 164 9 := (bl_29 9 (by decide) (by decide) (by decide)).trans ((MZ.up (k := 8) MZ.rf (by decide)).2 9 (by decide) (by decide))
      obtain ⟨⟨bt_29, bs_29, bm_29, ba_29⟩, bu_29, bn_29, bf_29, bi_29⟩ := mbeg hI (MZ.up (k := 8) MZ.rf (by decide)) hj_29 u9
      refine tz_aload_n (pc := 32) dX12_common_32 rfl rfl ?_
      refine tz_iconst (pc := 33) dX12_common_33 ?_
      refine tz_pI (pc := 34) (kz := 32) dX12_common_34 fl_X12_192 i_164_32 rfl rfl (by decide) ?_
      refine tz_aload_n (pc := 37) dX12_common_37 rfl rfl ?_
      refine tz_iload_n (pc := 38) dX12_common_38 rfl rfl ?_
      refine tz_iload_n (pc := 39) dX12_common_39 rfl rfl ?_
      refine tz_cV (pc := 40) (o_common hl n _ _ _ (by omega) (by omega) (J_29 164 9) m (AM.z a_29 (MZ.up (k := 32) (v := 0) MZ.rf (by decide)) (fun q => q)).1.1 rfl (by omega) (by omega) (by show 0 ≤ zup J_29 164 32 0 164 32 ∧ zup J_29 164 32 0 164 32 ≤ 8; rw [zup_at]; decide)) vl_X12_201 dX12_common_40 o_164 rfl rfl (Nat.le_of_ble_eq_true rfl) ⟨(Nat.le_of_ble_eq_true rfl), (Nat.le_of_ble_eq_true rfl)⟩ rfl rfl (Nat.le_of_ble_eq_true rfl) (Nat.le_of_ble_eq_true rfl) (fun r9 J_40 hq9 => ?_)
      obtain ⟨z_40, rfl, hz_40, m_40, g_40, h_40, i_40, j_40, x_40⟩ := hq9
      have a_40 := AM.grow0 (AM.z a_29 (MZ.up (k := 32) (v := 0) MZ.rf (by decide)) (fun q => q)) g_40 (fun c hc => by simp at hc; omega) (fun k x y => by simp; omega) rfl
      have lm_40 := a_40.1.2.2
      have d9 := ((a_29).1.1.ar (t := x) (by omega)).2.2.1
      have e_40 := (x_40 6 d9.2).2 b3_29.1 b3_29.2.1 [] cM_0
      refine tz_istore_n (pc := 43) (L2 := [_, _, _, _]) dX12_common_43 rfl (by decide) rfl ?_
      refine tz_aload_n (pc := 44) dX12_common_44 rfl rfl ?_
      refine tz_fI (pc := 45) (kz := 21) (v := (J_40 164 21)) dX12_common_45 fl_X12_92 i_164_21 rfl rfl (fun r_45 => ?_)
      refine tz_if_ne (pc := 48) (tgt := 68) dX12_common_48 (by decide) (by omega) (fun h_48 => ?_) (fun h_48 => ?_)
      · refine tz_aload_n (pc := 68) dX12_common_68 rfl rfl ?_
        refine tz_iload_n (pc := 69) dX12_common_69 rfl rfl ?_
        refine tz_cV (pc := 70) (m_keeps hl n _ _ (by omega) (a_40).2.2.2.1.1.1 (a_40).2.2.2.1.1.2) vl_X12_403 dX12_common_70 o_164 rfl rfl (Nat.le_of_ble_eq_true rfl) ⟨(Nat.le_of_ble_eq_true rfl), (Nat.le_of_ble_eq_true rfl)⟩ rfl rfl (Nat.le_of_ble_eq_true rfl) (Nat.le_of_ble_eq_true rfl) (fun r9 J_70 hq9 => ?_)
        obtain ⟨z_70, rfl, hz_70, k_70⟩ := hq9
        exact tz_iret (pc := 73) (z := z_70) dX12_common_73 rfl (Nat.le_of_ble_eq_true rfl) (Nat.le_of_ble_eq_true rfl) ⟨Nat.le_refl _, Nat.le_add_right _ _⟩ ⟨_, rfl, (by omega), (AEC (AM.keep a_40 k_70) bi_29 (com_end bt_29 bs_29 bm_29 ba_29 bu_29 bn_29 bf_29 (MOP.mgc g_40) (tb0_co.trans bt_29) e_40 (by have t9 := g_40.1.1.told; have s9 := g_40.1.1.2.2.2.2.1; omega) (by omega) k_70) (by omega))⟩
      · refine tz_aload_n (pc := 51) dX12_common_51 rfl rfl ?_
        refine tz_fI (pc := 52) (kz := 33) (v := (J_40 164 33)) dX12_common_52 fl_X12_195 i_164_33 rfl rfl (fun r_52 => ?_)
        refine tz_if_eq (pc := 55) (tgt := 68) dX12_common_55 (by decide) (by omega) (fun h_55 => ?_) (fun h_55 => ?_)
        · refine tz_aload_n (pc := 68) dX12_common_68 rfl rfl ?_
          refine tz_iload_n (pc := 69) dX12_common_69 rfl rfl ?_
          refine tz_cV (pc := 70) (m_keeps hl n _ _ (by omega) (a_40).2.2.2.1.1.1 (a_40).2.2.2.1.1.2) vl_X12_403 dX12_common_70 o_164 rfl rfl (Nat.le_of_ble_eq_true rfl) ⟨(Nat.le_of_ble_eq_true rfl), (Nat.le_of_ble_eq_true rfl)⟩ rfl rfl (Nat.le_of_ble_eq_true rfl) (Nat.le_of_ble_eq_true rfl) (fun r9 J_70 hq9 => ?_)
          obtain ⟨z_70, rfl, hz_70, k_70⟩ := hq9
          exact tz_iret (pc := 73) (z := z_70) dX12_common_73 rfl (Nat.le_of_ble_eq_true rfl) (Nat.le_of_ble_eq_true rfl) ⟨Nat.le_refl _, Nat.le_add_right _ _⟩ ⟨_, rfl, (by omega), (AEC (AM.keep a_40 k_70) bi_29 (com_end bt_29 bs_29 bm_29 ba_29 bu_29 bn_29 bf_29 (MOP.mgc g_40) (tb0_co.trans bt_29) e_40 (by have t9 := g_40.1.1.told; have s9 := g_40.1.1.2.2.2.2.1; omega) (by omega) k_70) (by omega))⟩
        · refine tz_aload_n (pc := 58) dX12_common_58 rfl rfl ?_
          refine tz_iconst (pc := 59) dX12_common_59 ?_
          refine tz_bipush (pc := 60) dX12_common_60 (by decide) ?_
          refine tz_cV (pc := 62) (m_fails hl n _ _ _ (by decide) (by decide) (by decide)) vl_X12_394 dX12_common_62 o_164 rfl rfl (Nat.le_of_ble_eq_true rfl) ⟨(Nat.le_of_ble_eq_true rfl), (Nat.le_of_ble_eq_true rfl)⟩ rfl rfl (Nat.le_of_ble_eq_true rfl) (Nat.le_of_ble_eq_true rfl) (fun r9 J_62 hq9 => ?_)
          obtain ⟨z_62, rfl, hz_62, e_62, f_62⟩ := hq9
          refine tz_goto (pc := 65) (tgt := 73) dX12_common_65 (by decide) ?_
          exact tz_iret (pc := 73) (z := z_62) dX12_common_73 rfl (Nat.le_of_ble_eq_true rfl) (Nat.le_of_ble_eq_true rfl) ⟨Nat.le_refl _, Nat.le_add_right _ _⟩ ⟨_, rfl, (by omega), (AEC (AM.fail a_40 f_62) bi_29 (com_fail bt_29 bs_29 bm_29 ba_29 bu_29 bn_29 bf_29 (MOP.mgc g_40) (tb0_co.trans bt_29) e_40 (by omega) e_62 f_62) (by omega))⟩
    · refine tz_aload_n (pc := 21) dX12_common_21 rfl rfl ?_
      refine tz_iconst (pc := 22) dX12_common_22 ?_
      refine tz_iconst (pc := 23) dX12_common_23 ?_
      refine tz_cV (pc := 24) (m_refuses hl n _ _ _ (by decide) (by decide) (by decide)) vl_X12_391 dX12_common_24 o_164 rfl rfl (Nat.le_of_ble_eq_true rfl) ⟨(Nat.le_of_ble_eq_true rfl), (Nat.le_of_ble_eq_true rfl)⟩ rfl rfl (Nat.le_of_ble_eq_true rfl) (Nat.le_of_ble_eq_true rfl) (fun r9 J_24 hq9 => ?_)
      obtain ⟨z_24, rfl, hz_24, rfl, f_24⟩ := hq9
      have y_24 : MZ J_24 J := MZ.tr (MZ.up (k := 8) MZ.rf (by decide)) (MZ.c f_24 (by decide))
      exact tz_iret (pc := 27) (z := (-1)) dX12_common_27 rfl (Nat.le_of_ble_eq_true rfl) (Nat.le_of_ble_eq_true rfl) ⟨Nat.le_refl _, Nat.le_add_right _ _⟩ ⟨_, rfl, (by decide), ⟨MQr.z hI y_24, MFI.z y_24, Or.inr ⟨by omega, rfl, MBT.z hI y_24, u9.z y_24⟩⟩⟩

end
section
/-! ===== rings of bindings, as a property ===== -/
theorem Occ.iff {J : zJ} {b d t v : Int} : Occ J b d t v ↔ (J 166 (b + t) < 0 ∧ v = -1 - J 166 (b + t)) ∨ ∃ i, (0 ≤ i ∧ i < mar J b d t) ∧ Occ J b d (J 167 (3 * (b + t) + i)) v := by
  constructor
  · rintro ⟨k, o⟩
    cases k with
    | zero => exact o.elim
    | succ k => exact o.imp id (fun ⟨i, hi, o⟩ => ⟨i, hi, k, o⟩)
  · rintro (⟨a, e⟩ | ⟨i, hi, o⟩)
    · rw [e]; exact Occ.v a
    · exact Occ.a hi o
theorem bt_z {v : Int} (h : 0 ≤ v ∧ v < 8) : ¬ bt 0 v := by
  have h1 : v = 0 ∨ v = 1 ∨ v = 2 ∨ v = 3 ∨ v = 4 ∨ v = 5 ∨ v = 6 ∨ v = 7 := by omega
  rcases h1 with h1 | h1 | h1 | h1 | h1 | h1 | h1 | h1 <;> (subst h1; unfold bt; decide)
theorem bt_shlI {u v : Int} (hu : 0 ≤ u ∧ u < 8) (hv : 0 ≤ v ∧ v < 8) : bt (zshl 1 u) v ↔ v = u := by
  have h1 : v = 0 ∨ v = 1 ∨ v = 2 ∨ v = 3 ∨ v = 4 ∨ v = 5 ∨ v = 6 ∨ v = 7 := by omega
  have h2 : u = 0 ∨ u = 1 ∨ u = 2 ∨ u = 3 ∨ u = 4 ∨ u = 5 ∨ u = 6 ∨ u = 7 := by omega
  rcases h1 with h1 | h1 | h1 | h1 | h1 | h1 | h1 | h1 <;> subst h1 <;> rcases h2 with h2 | h2 | h2 | h2 | h2 | h2 | h2 | h2 <;> subst h2 <;> (unfold bt; decide)
theorem bt_and3r {a b c v : Int} (h : zand (zand (zand (zshr a v) (zshr b v)) (zshr c v)) 1 = 1) : bt a v ∧ bt b v ∧ bt c v := by
  have h' : ((Int32.ofInt a >>> (Int32.ofInt v &&& 31)) &&& 1) &&& ((Int32.ofInt b >>> (Int32.ofInt v &&& 31)) &&& 1) &&& ((Int32.ofInt c >>> (Int32.ofInt v &&& 31)) &&& 1) = 1 := by
    rw [← i1_and, ← i1_and]
    unfold zand zshr at h
    simp only [Int32.ofInt_toInt] at h
    rw [show Int32.ofInt 1 = 1 from rfl] at h
    exact Int32.toInt_inj.1 (h.trans rfl)
  rw [bt_iff, bt_iff, bt_iff]
  rcases i1_01 (Int32.ofInt a >>> (Int32.ofInt v &&& 31)) with h1 | h1 <;> rcases i1_01 (Int32.ofInt b >>> (Int32.ofInt v &&& 31)) with h2 | h2 <;> rcases i1_01 (Int32.ofInt c >>> (Int32.ofInt v &&& 31)) with h3 | h3 <;> rw [h1, h2, h3] at h' <;> rw [h1, h2, h3] <;> first | exact ⟨rfl, rfl, rfl⟩ | exact absurd h' (by decide)
/-- the class's table and the function's, a term -/
theorem A0.tm {J S : zJ} {m t : Int} (E : A0 J S) (C : CT J m) (hm : J 6 12 = m) (ht : 0 ≤ t ∧ t < m) : S 166 (0 + t) = J 7 t ∧ mar S 0 0 t = J 8 t ∧ ∀ i, 0 ≤ i → i < J 8 t → S 167 (3 * (0 + t) + i) = J 9 (t * 3 + i) := by
  have e6 := E.2.1
  have hd := (C.ar ht.1 ht.2).2.2
  have h7 : S 166 (0 + t) = J 7 t := (E.2.2.1 t ht.1 (by omega)).1.symm
  refine ⟨h7, ?_, fun i a b => (E.2.2.2 t i ht.1 (by omega) a b).symm⟩
  show arh (fun k => S 170 (0 + k)) (S 166 (0 + t)) = _
  rw [h7, (C.2.1 t ht.1 ht.2).1.1]
  exact E.ar hd.2
theorem A0.ocx {J S : zJ} {m : Int} (E : A0 J S) (C : CT J m) (hm : J 6 12 = m) : ∀ (n : Nat) (t : Int), (0 ≤ t ∧ t < m) → J 12 t ≤ n → ∀ v, (0 ≤ v ∧ v < 8) → (bt (J 13 t) v ↔ Occ S 0 0 t v)
  | 0, t, ht, hd, v, hv => by have := (C.nums ht.1 ht.2).2.2; omega
  | n + 1, t, ht, hd, v, hv => by
    obtain ⟨e1, e2, e3⟩ := E.tm C hm ht
    have h13 := (C.2.1 t ht.1 ht.2).1.2.2.2
    have ha := C.ar ht.1 ht.2
    have g : ∀ i, 0 ≤ i → i < J 8 t → (bt (J 13 (J 9 (t * 3 + i))) v ↔ Occ S 0 0 (S 167 (3 * (0 + t) + i)) v) := fun i a b => by
      have := C.arg ht.1 ht.2 a b
      rw [e3 i a b]
      exact A0.ocx E C hm n _ ⟨this.1.1, by omega⟩ (by omega) v hv
    rw [Occ.iff, e1, e2, h13]
    have z0 : bt (zv0 J t) v ↔ (J 7 t < 0 ∧ v = -1 - J 7 t) := by
      unfold zv0
      by_cases q : J 7 t < 0
      · rw [if_pos q, z_nn ⟨ha.2.2.1, q⟩, bt_shlI (by omega) hv]
        exact ⟨fun w => ⟨q, w⟩, fun w => w.2⟩
      · rw [if_neg q]
        exact ⟨fun w => absurd w (bt_z hv), fun w => absurd w.1 q⟩
    unfold zv3
    by_cases h0 : J 8 t ≤ 0
    · rw [if_pos h0, z0]
      exact ⟨Or.inl, fun q => q.elim id (fun ⟨i, hi, _⟩ => by omega)⟩
    · rw [if_neg h0]
      have g0 := g 0 (by decide) (by omega)
      by_cases h1 : J 8 t ≤ 1
      · rw [if_pos h1, bt_or, z0, g0]
        refine or_congr Iff.rfl ⟨fun q => ⟨0, by omega, q⟩, fun ⟨i, hi, o⟩ => ?_⟩
        have : i = 0 := by omega
        subst this
        exact o
      · rw [if_neg h1]
        have g1 := g 1 (by decide) (by omega)
        by_cases h2 : J 8 t ≤ 2
        · rw [if_pos h2, bt_or, bt_or, z0, g0, g1, or_assoc]
          refine or_congr Iff.rfl ⟨fun q => q.elim (fun q => ⟨0, by omega, q⟩) (fun q => ⟨1, by omega, q⟩), fun ⟨i, hi, o⟩ => ?_⟩
          have : i = 0 ∨ i = 1 := by omega
          rcases this with this | this
          · subst this; exact Or.inl o
          · subst this; exact Or.inr o
        · rw [if_neg h2]
          have g2 := g 2 (by decide) (by omega)
          rw [bt_or, bt_or, bt_or, z0, g0, g1, g2, or_assoc, or_assoc]
          refine or_congr Iff.rfl ⟨fun q => q.elim (fun q => ⟨0, by omega, q⟩) (fun q => q.elim (fun q => ⟨1, by omega, q⟩) (fun q => ⟨2, by omega, q⟩)), fun ⟨i, hi, o⟩ => ?_⟩
          have : i = 0 ∨ i = 1 ∨ i = 2 := by omega
          rcases this with this | this | this
          · subst this; exact Or.inl o
          · subst this; exact Or.inr (Or.inl o)
          · subst this; exact Or.inr (Or.inr o)
theorem A0.oc {J S : zJ} {m t v : Int} (E : A0 J S) (C : CT J m) (hm : J 6 12 = m) (ht : 0 ≤ t ∧ t < m) (hv : 0 ≤ v ∧ v < 8) : bt (J 13 t) v ↔ Occ S 0 0 t v := E.ocx C hm (J 12 t).toNat t ht (by have := (C.nums ht.1 ht.2).2.2; omega) v hv
/-- what leads on: v is bound, and its term tells u -/
def WTb (S : zJ) (β : Int → Int) (rk : Int → Nat) (P : Int → Prop) : Prop := ∀ v, (0 ≤ v ∧ v < 8) → P v → ¬ β v = -1 → ∀ u, Occ S 0 0 (β v) u → P u ∧ (¬ β u = -1 → rk u < rk v)
/-- no ring from a term -/
def NRb (S : zJ) (β : Int → Int) (t : Int) : Prop := ∃ (rk : Int → Nat) (P : Int → Prop), (∀ v, rk v ≤ 8) ∧ (∀ v, Occ S 0 0 t v → P v) ∧ WTb S β rk P
/-- it surely leads on, by whatever shows that there is no ring -/
def SDb (S : zJ) (β : Int → Int) (v u : Int) : Prop := ¬ β v = -1 ∧ ∀ (rk : Int → Nat) (P : Int → Prop), WTb S β rk P → P v → P u ∧ (¬ β u = -1 → rk u < rk v)
theorem SDb.tr {S : zJ} {β : Int → Int} {v w u : Int} (h : SDb S β v w) (g : SDb S β w u) : SDb S β v u := ⟨h.1, fun rk P q p => by
  obtain ⟨a, b⟩ := h.2 rk P q p
  obtain ⟨c, d⟩ := g.2 rk P q a
  exact ⟨c, fun e => Nat.lt_trans (d e) (b g.1)⟩⟩
theorem SDb.b {S : zJ} {β : Int → Int} {v u : Int} (hv : 0 ≤ v ∧ v < 8) (h : ¬ β v = -1) (o : Occ S 0 0 (β v) u) : SDb S β v u := ⟨h, fun _ _ q p => q v hv p h u o⟩
/-- what comes of a term -/
def RTb (S : zJ) (β : Int → Int) (t u : Int) : Prop := Occ S 0 0 t u ∨ ∃ v, Occ S 0 0 t v ∧ SDb S β v u
theorem RTb.no {S : zJ} {β : Int → Int} {t u : Int} (h : RTb S β t u) (g : SDb S β u u) : ¬ NRb S β t := fun ⟨rk, P, _, h2, h3⟩ => by
  have pu : P u := h.elim (h2 u) (fun ⟨v, o, q⟩ => (q.2 rk P h3 (h2 v o)).1)
  exact Nat.lt_irrefl _ ((g.2 rk P h3 pu).2 g.1)
theorem MS.ocx {J : zJ} {s m : Int} (hM : MS J 0 0 0 s m) : ∀ (k : Nat) (t v : Int), (0 ≤ t ∧ t < m) → (occ (tb0 J) 0 0 k t v ↔ occ J 0 0 k t v)
  | 0, _, _, _ => Iff.rfl
  | k + 1, t, v, ht => by
    have hT := hM.told
    have e := hM.oa ht
    have e2 : mar (tb0 J) 0 0 t = mar J 0 0 t := e.2
    have h3 := (hM.ar ht).1
    unfold occ
    rw [e.1, e2]
    refine or_congr Iff.rfl ⟨fun ⟨i, hi, o⟩ => ⟨i, hi, ?_⟩, fun ⟨i, hi, o⟩ => ⟨i, hi, ?_⟩⟩
    · have a := (hM.arg ht hi).1
      rw [tb0_7, if_pos (by omega)] at o
      exact (MS.ocx hM k _ v ⟨a.1, by omega⟩).1 o
    · have a := (hM.arg ht hi).1
      rw [tb0_7, if_pos (by omega)]
      exact (MS.ocx hM k _ v ⟨a.1, by omega⟩).2 o
theorem MS.oc {J : zJ} {s m t v : Int} (hM : MS J 0 0 0 s m) (ht : 0 ≤ t ∧ t < m) : Occ (tb0 J) 0 0 t v ↔ Occ J 0 0 t v := ⟨fun ⟨k, o⟩ => ⟨k, (hM.ocx k t v ht).1 o⟩, fun ⟨k, o⟩ => ⟨k, (hM.ocx k t v ht).2 o⟩⟩
theorem NR.b {J : zJ} {β : Int → Int} {s m t : Int} (hM : MS J 0 0 0 s m) (hy : gOK (J 175) m) (hβ : ∀ v, 0 ≤ v → v < 8 → β v = J 175 v) (ht : 0 ≤ t ∧ t < m) (h : NR J 0 0 t) : NRb (tb0 J) β t := by
  obtain ⟨rk, P, h1, h2, h3⟩ := h
  refine ⟨rk, P, h1, fun v o => h2 v ((hM.oc ht).1 o), fun v hv p b u o => ?_⟩
  rw [hβ v hv.1 hv.2] at b o
  have y := hy v hv.1 hv.2
  have o1 := (hM.oc (by omega)).1 o
  have hu := o1.rg hM (by omega)
  rw [hβ u hu.1 hu.2]
  exact h3 v hv p b u o1
theorem NRb.cg {S : zJ} {β γ : Int → Int} {t : Int} (h : NRb S β t) (e : ∀ v, 0 ≤ v → v < 8 → γ v = β v) (hb : ∀ v u, (0 ≤ v ∧ v < 8) → ¬ β v = -1 → Occ S 0 0 (β v) u → 0 ≤ u ∧ u < 8) : NRb S γ t := by
  obtain ⟨rk, P, h1, h2, h3⟩ := h
  refine ⟨rk, P, h1, h2, fun v hv p b u o => ?_⟩
  rw [e v hv.1 hv.2] at b o
  have hu := hb v u hv b o
  rw [e u hu.1 hu.2]
  exact h3 v hv p b u o
theorem NRb.j {J : zJ} {β : Int → Int} {s m t : Int} (hM : MS J 0 0 0 s m) (hy : gOK (J 175) m) (hβ : ∀ v, 0 ≤ v → v < 8 → β v = J 175 v) (ht : 0 ≤ t ∧ t < m) (h : NRb (tb0 J) β t) : NR J 0 0 t := by
  obtain ⟨rk, P, h1, h2, h3⟩ := h
  refine ⟨rk, P, h1, fun v o => h2 v ((hM.oc ht).2 o), fun v hv p b u o => ?_⟩
  have y := hy v hv.1 hv.2
  have hu := o.rg hM (by omega)
  have o1 := (hM.oc (by omega)).2 o
  have b' := b
  rw [← hβ v hv.1 hv.2] at b' o1
  rw [← hβ u hu.1 hu.2]
  exact h3 v hv p b' u o1
end
section
/-! ===== hasRing of the class, exact ===== -/
def ldT (J : zJ) (v u : Int) : Prop := ¬ J 19 (7 + v) = -1 ∧ bt (J 13 (J 19 (7 + v))) u
def clq (f : Int → Int → Prop) (Q : Int → Prop) : Prop := ∀ v u, (0 ≤ v ∧ v < 8) → (0 ≤ u ∧ u < 8) → Q v → f v u → Q u
def rcl (f : Int → Int → Prop) (x y : Int) : Prop := (∀ u, (0 ≤ u ∧ u < 8) → bt x u → bt y u) ∧ ∀ Q : Int → Prop, clq f Q → (∀ u, (0 ≤ u ∧ u < 8) → bt x u → Q u) → ∀ u, (0 ≤ u ∧ u < 8) → bt y u → Q u
theorem rcl.rf {f : Int → Int → Prop} {x : Int} : rcl f x x := ⟨fun _ _ q => q, fun _ _ h => h⟩
theorem rcl.tr {f : Int → Int → Prop} {x y z : Int} (h : rcl f x y) (g : rcl f y z) : rcl f x z := ⟨fun u hu q => g.1 u hu (h.1 u hu q), fun Q c q => g.2 Q c (h.2 Q c q)⟩
theorem rcl.up {f : Int → Int → Prop} {x x2 v y : Int} (h : rcl f x x2) (hv : 0 ≤ v ∧ v < 8) (b : bt x2 v) (hy : ∀ u, bt y u → f v u) : rcl f x (zor x2 y) := ⟨fun u hu q => bt_or.2 (Or.inl (h.1 u hu q)), fun Q c q u hu b2 => (bt_or.1 b2).elim (h.2 Q c q u hu) (fun b3 => c v u hv hu (h.2 Q c q v hv b) (hy u b3))⟩
def bc (x : Int) : Nat := cnt (fun k => decide (zand (zshr x k) 1 = 1)) 8
theorem bc_lt {x y : Int} (h : ∀ u, (0 ≤ u ∧ u < 8) → bt x u → bt y u) (e : ∃ u, (0 ≤ u ∧ u < 8) ∧ bt y u ∧ ¬ bt x u) : bc x < bc y := by
  obtain ⟨u, hu, e1, e2⟩ := e
  exact cnt_lt 8 (fun k a c q => decide_eq_true (p := zand (zshr y k) 1 = 1) (h k ⟨a, by omega⟩ (of_decide_eq_true (p := zand (zshr x k) 1 = 1) q))) ⟨u, ⟨hu.1, by omega⟩, decide_eq_true (p := zand (zshr y u) 1 = 1) e1, decide_eq_false (p := zand (zshr x u) 1 = 1) e2⟩
theorem bc_8 (x : Int) : bc x ≤ 8 := cnt_n 8
theorem bc_1 {f : Int → Int → Prop} {x : Int} : clq f (bt x) ∨ 1 ≤ bc x := by
  by_cases e : ∃ u, (0 ≤ u ∧ u < 8) ∧ bt x u
  · obtain ⟨u, hu, e⟩ := e
    have := cnt_lt (p := fun k => decide (zand (zshr x k) 1 = 1)) (q := fun _ => false) 8 (fun k a c q => absurd q (by decide)) ⟨u, ⟨hu.1, by omega⟩, decide_eq_true (p := zand (zshr x u) 1 = 1) e, rfl⟩
    exact Or.inr (by unfold bc; omega)
  · exact Or.inl (fun v u hv _ q => absurd ⟨v, hv, q⟩ e)
theorem rcl.go {f : Int → Int → Prop} {x x2 k : Int} (hk : 0 ≤ k) (h : rcl f x x2) (i2 : ∀ w u, (0 ≤ w ∧ w < 8) → (0 ≤ u ∧ u < 8) → bt x w → f w u → bt x2 u) (c : clq f (bt x) ∨ k + 1 ≤ bc x) : clq f (bt x2) ∨ k + 1 + 1 ≤ bc x2 := by
  by_cases q : clq f (bt x)
  · left
    intro v u hv hu b g
    exact h.1 u hu (q v u hv hu (h.2 (bt x) q (fun _ _ w => w) v hv b) g)
  · right
    have e : ∃ u, (0 ≤ u ∧ u < 8) ∧ bt x2 u ∧ ¬ bt x u := Classical.byContradiction (fun n => q (fun v u hv hu b g => Classical.byContradiction (fun m => n ⟨u, hu, i2 v u hv hu b g, m⟩)))
    have := bc_lt h.1 e
    rcases c with c | c
    · exact absurd c q
    · omega
theorem i2_s {f : Int → Int → Prop} {x x2 x3 v : Int} (h : ∀ w u, (0 ≤ w ∧ w < v) → (0 ≤ u ∧ u < 8) → bt x w → f w u → bt x2 u) (hx : ∀ u, bt x2 u → bt x3 u) (hv : ∀ u, (0 ≤ u ∧ u < 8) → bt x v → f v u → bt x3 u) : ∀ w u, (0 ≤ w ∧ w < v + 1) → (0 ≤ u ∧ u < 8) → bt x w → f w u → bt x3 u := fun w u hw hu b g => by
  by_cases e : w = v
  · subst e; exact hv u hu b g
  · exact hx u (h w u (by omega) hu b g)
theorem A0.org {J S : zJ} {m : Int} (E : A0 J S) (C : CT J m) (hm : J 6 12 = m) : ∀ (k : Nat) (t v : Int), (0 ≤ t ∧ t < m) → occ S 0 0 k t v → 0 ≤ v ∧ v < 8
  | 0, _, _, _, o => o.elim
  | k + 1, t, v, ht, o => by
    obtain ⟨e1, e2, e3⟩ := E.tm C hm ht
    have ha := C.ar ht.1 ht.2
    rcases o with ⟨o1, o2⟩ | ⟨i, hi, o⟩
    · omega
    · rw [e2] at hi
      rw [e3 i hi.1 hi.2] at o
      have := C.arg ht.1 ht.2 hi.1 hi.2
      exact A0.org E C hm k _ v ⟨this.1.1, by omega⟩ o
theorem ring_y {J S : zJ} {β : Int → Int} {m t v z0 z1 : Int} (E : A0 J S) (C : CT J m) (hm : J 6 12 = m) (hβ : ∀ v, 0 ≤ v → v < 8 → β v = J 19 (7 + v)) (hr : rOK J 19 7 m) (ht : 0 ≤ t ∧ t < m) (r0 : rcl (ldT J) (J 13 t) z0) (hv : 0 ≤ v ∧ v < 8) (b : bt z0 v) (hb : ¬ J 19 (7 + v) = -1) (r1 : rcl (ldT J) (J 13 (J 19 (7 + v))) z1) (b1 : bt z1 v) : ¬ NRb S β t := by
  rintro ⟨rk, P, h1, h2, h3⟩
  have st : ∀ w u, (0 ≤ w ∧ w < 8) → (0 ≤ u ∧ u < 8) → P w → ldT J w u → P u ∧ (¬ β u = -1 → rk u < rk w) := fun w u hw hu p g => by
    have y := hr w hw.1 hw.2
    have e := hβ w hw.1 hw.2
    have g1 := g.1
    refine h3 w hw p (by omega) u ?_
    rw [e]
    exact (E.oc C hm (by omega) hu).1 g.2
  have pv : P v := r0.2 P (fun w u hw hu p g => (st w u hw hu p g).1) (fun u hu q => h2 u ((E.oc C hm ht hu).1 q)) v hv b
  have q := r1.2 (fun u => P u ∧ (¬ β u = -1 → rk u < rk v)) (fun w u hw hu p g => by
    obtain ⟨a, c⟩ := st w u hw hu p.1 g
    have e := hβ w hw.1 hw.2
    have g1 := g.1
    exact ⟨a, fun d => Nat.lt_trans (c d) (p.2 (by omega))⟩) (fun u hu q => st v u hv hu pv ⟨hb, q⟩) v hv b1
  have e := hβ v hv.1 hv.2
  exact Nat.lt_irrefl _ (q.2 (by omega))
/-- all that a variable leads to -/
def RSv (J : zJ) (v u : Int) : Prop := ∀ Q : Int → Prop, clq (ldT J) Q → (∀ u, (0 ≤ u ∧ u < 8) → bt (J 13 (J 19 (7 + v))) u → Q u) → Q u
theorem ring_n {J S : zJ} {β : Int → Int} {m t z0 : Int} (E : A0 J S) (C : CT J m) (hm : J 6 12 = m) (hβ : ∀ v, 0 ≤ v → v < 8 → β v = J 19 (7 + v)) (hr : rOK J 19 7 m) (ht : 0 ≤ t ∧ t < m) (r0 : rcl (ldT J) (J 13 t) z0) (c0 : clq (ldT J) (bt z0)) (hn : ∀ w, 0 ≤ w → w < 8 → bt z0 w → ¬ J 19 (7 + w) = -1 → ∃ z, rcl (ldT J) (J 13 (J 19 (7 + w))) z ∧ clq (ldT J) (bt z) ∧ ¬ bt z w) : NRb S β t := by
  refine ⟨fun v => cnt (fun k => @decide (RSv J v k) (Classical.propDecidable _)) 8, fun v => (0 ≤ v ∧ v < 8) ∧ bt z0 v, fun v => cnt_n 8, fun v o => ?_, fun v hv p b u o => ?_⟩
  · have hv : 0 ≤ v ∧ v < 8 := o.elim (fun k o => E.org C hm k t v ht o)
    exact ⟨hv, r0.1 v hv ((E.oc C hm ht hv).2 o)⟩
  · have y := hr v hv.1 hv.2
    have e := hβ v hv.1 hv.2
    rw [e] at b o
    have hu : 0 ≤ u ∧ u < 8 := o.elim (fun k o => E.org C hm k _ u (by omega) o)
    have g : ldT J v u := ⟨b, (E.oc C hm (by omega) hu).2 o⟩
    have zu := c0 v u hv hu p.2 g
    refine ⟨⟨hu, zu⟩, fun bu => ?_⟩
    rw [hβ u hu.1 hu.2] at bu
    obtain ⟨z, q1, q2, q3⟩ := hn u hu.1 hu.2 zu bu
    refine cnt_lt 8 (fun k a c q => @decide_eq_true _ (Classical.propDecidable _) ?_) ⟨u, ⟨hu.1, by omega⟩, @decide_eq_true _ (Classical.propDecidable _) ?_, @decide_eq_false _ (Classical.propDecidable _) ?_⟩
    · have q' : RSv J u k := @of_decide_eq_true _ (Classical.propDecidable _) q
      intro Q c1 c2
      exact q' Q c1 (fun w hw bw => c1 u w hu hw (c2 u hu g.2) ⟨bu, bw⟩)
    · intro Q c1 c2
      exact c2 u hu g.2
    · intro q'
      exact q3 (q' (bt z) q2 q1.1)
set_option maxHeartbeats 4000000 in
set_option maxRecDepth 100000 in
theorem x_reached {l : Launch} {G : tb_G} (hl : l.stackTraces = false) (n : Nat) (J : zJ) (bs : Int) (hr_bs : -2147483648 ≤ bs ∧ bs < 2147483648) (m : Int) (C : CT J m) (hr : rOK J 19 7 m) : tz_Ok l G M_X2_reachedFrom 0 0 0 [.ref 141, zi bs, .ref 19, zi 7] n J (zqi (fun z J' => J = J' ∧ rcl (ldT J) bs z ∧ clq (ldT J) (bt z))) zN := by
  refine tz_Ok.of hl (by decide +kernel) rfl (tb_c1 rfl) (Nat.le_of_ble_eq_true rfl) ?_
  show tz_At l G M_X2_reachedFrom (tb_rm 0 0 0) none (tb_ZM G 0 0 (zQ n 0 (zqi (fun z J' => J = J' ∧ rcl (ldT J) bs z ∧ clq (ldT J) (bt z)))) (zX n 0 zN)) 0 0 n J 0 [some (.ref 141), some (zi bs), some (.ref 19), some (zi 7), none, none, none, none] []
  have hb := C.told
  refine tz_iload_n (pc := 0) dX2_reachedFrom_0 rfl rfl ?_
  refine tz_istore (pc := 1) (L2 := [_, _, _, _, _, _, _, _]) dX2_reachedFrom_1 (by decide) rfl ?_
  refine tz_iconst (pc := 3) dX2_reachedFrom_3 ?_
  refine tz_istore (pc := 4) (L2 := [_, _, _, _, _, _, _, _]) dX2_reachedFrom_4 (by decide) rfl ?_
  have loop6 : ∀ (f9 : Nat) (x : Int) (k : Int) (d6 : Option Value) (d7 : Option Value), ((8 - k).toNat) < f9 → (-2147483648 ≤ x ∧ x < 2147483648) → (0 ≤ k ∧ k ≤ 8) → (rcl (ldT J) bs x) → (clq (ldT J) (bt x) ∨ k + 1 ≤ bc x) → tz_At l G M_X2_reachedFrom (tb_rm 0 0 0) none (tb_ZM G 0 0 (zQ n 0 (zqi (fun z J' => J = J' ∧ rcl (ldT J) bs z ∧ clq (ldT J) (bt z)))) (zX n 0 zN)) 0 0 n J 6 [some (.ref 141), some (zi bs), some (.ref 19), some (zi 7), some (zi x), some (zi k), d6, d7] [] := by
    intro f9
    induction f9 with
    | zero => intro x k d6 d7 hm9; exact absurd hm9 (Nat.not_lt_zero _)
    | succ f9 ih6 =>
      intro x k d6 d7 hm6 hx hk i0 ic
      refine tz_iload (pc := 6) dX2_reachedFrom_6 rfl ?_
      refine tz_bipush (pc := 8) dX2_reachedFrom_8 (by decide) ?_
      refine tz_icmp_ge (pc := 10) (tgt := 74) dX2_reachedFrom_10 (by decide) (by omega) (by decide) (fun h_10 => ?_) (fun h_10 => ?_)
      · refine tz_iload (pc := 74) dX2_reachedFrom_74 rfl ?_
        exact tz_iret (pc := 76) (z := x) dX2_reachedFrom_76 rfl (Nat.le_of_ble_eq_true rfl) (Nat.le_of_ble_eq_true rfl) ⟨Nat.le_refl _, Nat.le_add_right _ _⟩ ⟨_, rfl, (by omega), ⟨rfl, i0, ic.elim id (fun q => by have := bc_8 x; omega)⟩⟩
      · refine tz_iconst (pc := 13) dX2_reachedFrom_13 ?_
        refine tz_istore (pc := 14) (L2 := [_, _, _, _, _, _, _, _]) dX2_reachedFrom_14 (by decide) rfl ?_
        have loop16 : ∀ (f9 : Nat) (x2 : Int) (v : Int) (e7 : Option Value), ((8 - v).toNat) < f9 → (-2147483648 ≤ x2 ∧ x2 < 2147483648) → (0 ≤ v ∧ v ≤ 8) → (rcl (ldT J) x x2) → (∀ w u, (0 ≤ w ∧ w < v) → (0 ≤ u ∧ u < 8) → bt x w → ldT J w u → bt x2 u) → tz_At l G M_X2_reachedFrom (tb_rm 0 0 0) none (tb_ZM G 0 0 (zQ n 0 (zqi (fun z J' => J = J' ∧ rcl (ldT J) bs z ∧ clq (ldT J) (bt z)))) (zX n 0 zN)) 0 0 n J 16 [some (.ref 141), some (zi bs), some (.ref 19), some (zi 7), some (zi x2), some (zi k), some (zi v), e7] [] := by
          intro f9
          induction f9 with
          | zero => intro x2 v e7 hm9; exact absurd hm9 (Nat.not_lt_zero _)
          | succ f9 ih16 =>
            intro x2 v e7 hm16 hx2 hv i1 i2
            have hq := hr v
            refine tz_iload (pc := 16) dX2_reachedFrom_16 rfl ?_
            refine tz_bipush (pc := 18) dX2_reachedFrom_18 (by decide) ?_
            refine tz_icmp_ge (pc := 20) (tgt := 68) dX2_reachedFrom_20 (by decide) (by omega) (by decide) (fun h_20 => ?_) (fun h_20 => ?_)
            · refine tz_iinc (pc := 68) (z := k + 1) (L2 := [_, _, _, _, _, _, _, _]) dX2_reachedFrom_68 rfl (by omega) rfl ?_
              refine tz_goto (pc := 71) (tgt := 6) dX2_reachedFrom_71 (by decide) ?_
              exact ih6 _ (k + 1) _ _ (by omega) hx2 (by omega) (i0.tr i1) (i1.go hk.1 (fun a u ha hu bx g => i2 a u (by omega) hu bx g) ic)
            · refine tz_aload_n (pc := 23) dX2_reachedFrom_23 rfl rfl ?_
              refine tz_iload_n (pc := 24) dX2_reachedFrom_24 rfl rfl ?_
              refine tz_iload (pc := 25) dX2_reachedFrom_25 rfl ?_
              refine tz_iadd (pc := 27) (v := 7 + v) dX2_reachedFrom_27 rfl ?_
              refine tz_aL (pc := 28) (z := (7 + v)) (v := (J 19 (7 + v))) dX2_reachedFrom_28 a_19 rfl (by omega) rfl (fun r_28 => ?_)
              refine tz_istore (pc := 29) (L2 := [_, _, _, _, _, _, _, _]) dX2_reachedFrom_29 (by decide) rfl ?_
              refine tz_iload (pc := 31) dX2_reachedFrom_31 rfl ?_
              refine tz_iload (pc := 33) dX2_reachedFrom_33 rfl ?_
              refine tz_ishr (pc := 35) (v := zshr x2 v) dX2_reachedFrom_35 rfl ?_
              refine tz_iconst (pc := 36) dX2_reachedFrom_36 ?_
              refine tz_iand (pc := 37) (v := zand (zshr x2 v) 1) dX2_reachedFrom_37 rfl ?_
              have r_37 := zand_rg (zshr x2 v) 1
              refine tz_if_eq (pc := 38) (tgt := 62) dX2_reachedFrom_38 (by decide) (zand_rg _ _) (fun h_38 => ?_) (fun h_38 => ?_)
              · refine tz_iinc (pc := 62) (z := v + 1) (L2 := [_, _, _, _, _, _, _, _]) dX2_reachedFrom_62 rfl (by omega) rfl ?_
                refine tz_goto (pc := 65) (tgt := 16) dX2_reachedFrom_65 (by decide) ?_
                exact ih16 _ (v + 1) _ (by omega) (by omega) (by omega) i1 (i2_s i2 (fun _ q => q) (fun u hu bx g => by first | exact absurd (i1.1 v (by omega) bx) (by unfold bt; omega) | exact absurd (show J 19 (7 + v) = -1 by omega) g.1))
              · refine tz_iload (pc := 41) dX2_reachedFrom_41 rfl ?_
                refine tz_iconst (pc := 43) dX2_reachedFrom_43 ?_
                refine tz_icmp_eq (pc := 44) (tgt := 62) dX2_reachedFrom_44 (by decide) (by omega) (by decide) (fun h_44 => ?_) (fun h_44 => ?_)
                · refine tz_iinc (pc := 62) (z := v + 1) (L2 := [_, _, _, _, _, _, _, _]) dX2_reachedFrom_62 rfl (by omega) rfl ?_
                  refine tz_goto (pc := 65) (tgt := 16) dX2_reachedFrom_65 (by decide) ?_
                  exact ih16 _ (v + 1) _ (by omega) (by omega) (by omega) i1 (i2_s i2 (fun _ q => q) (fun u hu bx g => by first | exact absurd (i1.1 v (by omega) bx) (by unfold bt; omega) | exact absurd (show J 19 (7 + v) = -1 by omega) g.1))
                · refine tz_iload (pc := 47) dX2_reachedFrom_47 rfl ?_
                  refine tz_aload_n (pc := 49) dX2_reachedFrom_49 rfl rfl ?_
                  refine tz_fR (pc := 50) dX2_reachedFrom_50 fl_X2_28 r_141_0 ?_
                  refine tz_fR (pc := 53) dX2_reachedFrom_53 fl_X2_56 r_6_7 ?_
                  refine tz_iload (pc := 56) dX2_reachedFrom_56 rfl ?_
                  refine tz_aL (pc := 58) (z := (J 19 (7 + v))) (v := (J 13 (J 19 (7 + v)))) dX2_reachedFrom_58 a_13 rfl (by omega) rfl (fun r_58 => ?_)
                  refine tz_ior (pc := 59) (v := zor x2 (J 13 (J 19 (7 + v)))) dX2_reachedFrom_59 rfl ?_
                  have r_59 := zor_rg x2 (J 13 (J 19 (7 + v)))
                  refine tz_istore (pc := 60) (L2 := [_, _, _, _, _, _, _, _]) dX2_reachedFrom_60 (by decide) rfl ?_
                  refine tz_iinc (pc := 62) (z := v + 1) (L2 := [_, _, _, _, _, _, _, _]) dX2_reachedFrom_62 rfl (by omega) rfl ?_
                  refine tz_goto (pc := 65) (tgt := 16) dX2_reachedFrom_65 (by decide) ?_
                  exact ih16 _ (v + 1) _ (by omega) (by omega) (by omega) (i1.up (by omega) (show zand (zshr x2 v) 1 = 1 by have := z_and (zshr x2 v) (m := 1) 1 (by decide) (by decide); omega) (fun u q => ⟨by omega, q⟩)) (i2_s i2 (fun _ q => bt_or.2 (Or.inl q)) (fun u hu bx g => bt_or.2 (Or.inr g.2)))
        exact loop16 _ _ 0 _ (Nat.lt_succ_self _) hx (by omega) rcl.rf (fun w u hw => by omega)
  exact loop6 _ _ 0 none none (Nat.lt_succ_self _) hr_bs (by omega) rcl.rf (bc_1.imp id (fun q => by omega))

set_option maxHeartbeats 4000000 in
set_option maxRecDepth 100000 in
theorem x_hasRing {l : Launch} {G : tb_G} (hl : l.stackTraces = false) (n : Nat) (J : zJ) (t : Int) (hr_t : -2147483648 ≤ t ∧ t < 2147483648) (m : Int) (C : CT J m) (hm : J 6 12 = m) (hr : rOK J 19 7 m) (ht : 0 ≤ t ∧ t < m) : tz_Ok l G M_X2_hasRing 1 0 0 [.ref 141, zi t, .ref 19, zi 7] n J (zqi (fun z J' => J = J' ∧ (z = 0 ∨ z = 1) ∧ (z = 0 → ∀ S β, A0 J S → (∀ v, 0 ≤ v → v < 8 → β v = J 19 (7 + v)) → NRb S β t) ∧ (z = 1 → ∀ S β, A0 J S → (∀ v, 0 ≤ v → v < 8 → β v = J 19 (7 + v)) → ¬ NRb S β t))) zN := by
  refine tz_Ok.of hl (by decide +kernel) rfl (tb_c1 rfl) (Nat.le_of_ble_eq_true rfl) ?_
  show tz_At l G M_X2_hasRing (tb_rm 1 0 0) none (tb_ZM G 0 0 (zQ n 0 (zqi (fun z J' => J = J' ∧ (z = 0 ∨ z = 1) ∧ (z = 0 → ∀ S β, A0 J S → (∀ v, 0 ≤ v → v < 8 → β v = J 19 (7 + v)) → NRb S β t) ∧ (z = 1 → ∀ S β, A0 J S → (∀ v, 0 ≤ v → v < 8 → β v = J 19 (7 + v)) → ¬ NRb S β t)))) (zX n 0 zN)) 0 0 n J 0 [some (.ref 141), some (zi t), some (.ref 19), some (zi 7), none, none, none] []
  have hb := C.told
  refine tz_aload_n (pc := 0) dX2_hasRing_0 rfl rfl ?_
  refine tz_aload_n (pc := 1) dX2_hasRing_1 rfl rfl ?_
  refine tz_fR (pc := 2) dX2_hasRing_2 fl_X2_28 r_141_0 ?_
  refine tz_fR (pc := 5) dX2_hasRing_5 fl_X2_56 r_6_7 ?_
  refine tz_iload_n (pc := 8) dX2_hasRing_8 rfl rfl ?_
  refine tz_aL (pc := 9) (z := t) (v := (J 13 t)) dX2_hasRing_9 a_13 rfl (by omega) rfl (fun r_9 => ?_)
  refine tz_aload_n (pc := 10) dX2_hasRing_10 rfl rfl ?_
  refine tz_iload_n (pc := 11) dX2_hasRing_11 rfl rfl ?_
  refine tz_cV (pc := 12) (x_reached hl n _ _ (by omega) m C hr) vl_X2_59 dX2_hasRing_12 o_141 rfl rfl (Nat.le_of_ble_eq_true rfl) ⟨(Nat.le_of_ble_eq_true rfl), (Nat.le_of_ble_eq_true rfl)⟩ rfl rfl (Nat.le_of_ble_eq_true rfl) (Nat.le_of_ble_eq_true rfl) (fun r9 J_12 hq9 => ?_)
  obtain ⟨z_12, rfl, hz_12, rfl, r0_12, c0_12⟩ := hq9
  refine tz_istore (pc := 15) (L2 := [_, _, _, _, _, _, _]) dX2_hasRing_15 (by decide) rfl ?_
  refine tz_iconst (pc := 17) dX2_hasRing_17 ?_
  refine tz_istore (pc := 18) (L2 := [_, _, _, _, _, _, _]) dX2_hasRing_18 (by decide) rfl ?_
  have loop20 : ∀ (f9 : Nat) (v : Int) (d6 : Option Value), ((8 - v).toNat) < f9 → (0 ≤ v ∧ v ≤ 8) → (∀ w, 0 ≤ w → w < v → bt z_12 w → ¬ J 19 (7 + w) = -1 → ∃ z, rcl (ldT J) (J 13 (J 19 (7 + w))) z ∧ clq (ldT J) (bt z) ∧ ¬ bt z w) → tz_At l G M_X2_hasRing (tb_rm 1 0 0) none (tb_ZM G 0 0 (zQ n 0 (zqi (fun z J' => J = J' ∧ (z = 0 ∨ z = 1) ∧ (z = 0 → ∀ S β, A0 J S → (∀ v, 0 ≤ v → v < 8 → β v = J 19 (7 + v)) → NRb S β t) ∧ (z = 1 → ∀ S β, A0 J S → (∀ v, 0 ≤ v → v < 8 → β v = J 19 (7 + v)) → ¬ NRb S β t)))) (zX n 0 zN)) 0 0 n J 20 [some (.ref 141), some (zi t), some (.ref 19), some (zi 7), some (zi z_12), some (zi v), d6] [] := by
    intro f9
    induction f9 with
    | zero => intro v d6 hm9; exact absurd hm9 (Nat.not_lt_zero _)
    | succ f9 ih20 =>
      intro v d6 hm20 hv hh
      have hq := hr v
      refine tz_iload (pc := 20) dX2_hasRing_20 rfl ?_
      refine tz_bipush (pc := 22) dX2_hasRing_22 (by decide) ?_
      refine tz_icmp_ge (pc := 24) (tgt := 83) dX2_hasRing_24 (by decide) (by omega) (by decide) (fun h_24 => ?_) (fun h_24 => ?_)
      · refine tz_iconst (pc := 83) dX2_hasRing_83 ?_
        exact tz_zret (pc := 84) (z := 0) dX2_hasRing_84 rfl (Or.inl rfl) (Nat.le_of_ble_eq_true rfl) (Nat.le_of_ble_eq_true rfl) ⟨Nat.le_refl _, Nat.le_add_right _ _⟩ ⟨_, rfl, (by decide), ⟨rfl, Or.inl rfl, fun _ S β E hβ => ring_n E C hm hβ hr ht r0_12 c0_12 (fun w a b => hh w a (by omega)), fun q => absurd q (by decide)⟩⟩
      · refine tz_aload_n (pc := 27) dX2_hasRing_27 rfl rfl ?_
        refine tz_iload_n (pc := 28) dX2_hasRing_28 rfl rfl ?_
        refine tz_iload (pc := 29) dX2_hasRing_29 rfl ?_
        refine tz_iadd (pc := 31) (v := 7 + v) dX2_hasRing_31 rfl ?_
        refine tz_aL (pc := 32) (z := (7 + v)) (v := (J 19 (7 + v))) dX2_hasRing_32 a_19 rfl (by omega) rfl (fun r_32 => ?_)
        refine tz_istore (pc := 33) (L2 := [_, _, _, _, _, _, _]) dX2_hasRing_33 (by decide) rfl ?_
        refine tz_iload (pc := 35) dX2_hasRing_35 rfl ?_
        refine tz_iload (pc := 37) dX2_hasRing_37 rfl ?_
        refine tz_ishr (pc := 39) (v := zshr z_12 v) dX2_hasRing_39 rfl ?_
        refine tz_iconst (pc := 40) dX2_hasRing_40 ?_
        refine tz_iand (pc := 41) (v := zand (zshr z_12 v) 1) dX2_hasRing_41 rfl ?_
        have r_41 := zand_rg (zshr z_12 v) 1
        refine tz_if_eq (pc := 42) (tgt := 77) dX2_hasRing_42 (by decide) (zand_rg _ _) (fun h_42 => ?_) (fun h_42 => ?_)
        · refine tz_iinc (pc := 77) (z := v + 1) (L2 := [_, _, _, _, _, _, _]) dX2_hasRing_77 rfl (by omega) rfl ?_
          refine tz_goto (pc := 80) (tgt := 20) dX2_hasRing_80 (by decide) ?_
          exact ih20 (v + 1) _ (by omega) (by omega) (fun w a b q1 q2 => (Decidable.em (w = v)).elim (fun e => by rw [e] at q1 q2 ⊢; first | exact ⟨z_64, r0_64, c0_64, by unfold bt; omega⟩ | exact absurd (show J 19 (7 + v) = -1 by omega) q2 | exact absurd q1 (by unfold bt; omega)) (fun e => hh w a (by omega) q1 q2))
        · refine tz_iload (pc := 45) dX2_hasRing_45 rfl ?_
          refine tz_iconst (pc := 47) dX2_hasRing_47 ?_
          refine tz_icmp_eq (pc := 48) (tgt := 77) dX2_hasRing_48 (by decide) (by omega) (by decide) (fun h_48 => ?_) (fun h_48 => ?_)
          · refine tz_iinc (pc := 77) (z := v + 1) (L2 := [_, _, _, _, _, _, _]) dX2_hasRing_77 rfl (by omega) rfl ?_
            refine tz_goto (pc := 80) (tgt := 20) dX2_hasRing_80 (by decide) ?_
            exact ih20 (v + 1) _ (by omega) (by omega) (fun w a b q1 q2 => (Decidable.em (w = v)).elim (fun e => by rw [e] at q1 q2 ⊢; first | exact ⟨z_64, r0_64, c0_64, by unfold bt; omega⟩ | exact absurd (show J 19 (7 + v) = -1 by omega) q2 | exact absurd q1 (by unfold bt; omega)) (fun e => hh w a (by omega) q1 q2))
          · refine tz_aload_n (pc := 51) dX2_hasRing_51 rfl rfl ?_
            refine tz_aload_n (pc := 52) dX2_hasRing_52 rfl rfl ?_
            refine tz_fR (pc := 53) dX2_hasRing_53 fl_X2_28 r_141_0 ?_
            refine tz_fR (pc := 56) dX2_hasRing_56 fl_X2_56 r_6_7 ?_
            refine tz_iload (pc := 59) dX2_hasRing_59 rfl ?_
            refine tz_aL (pc := 61) (z := (J 19 (7 + v))) (v := (J 13 (J 19 (7 + v)))) dX2_hasRing_61 a_13 rfl (by omega) rfl (fun r_61 => ?_)
            refine tz_aload_n (pc := 62) dX2_hasRing_62 rfl rfl ?_
            refine tz_iload_n (pc := 63) dX2_hasRing_63 rfl rfl ?_
            refine tz_cV (pc := 64) (x_reached hl n _ _ (by omega) m C hr) vl_X2_59 dX2_hasRing_64 o_141 rfl rfl (Nat.le_of_ble_eq_true rfl) ⟨(Nat.le_of_ble_eq_true rfl), (Nat.le_of_ble_eq_true rfl)⟩ rfl rfl (Nat.le_of_ble_eq_true rfl) (Nat.le_of_ble_eq_true rfl) (fun r9 J_64 hq9 => ?_)
            obtain ⟨z_64, rfl, hz_64, rfl, r0_64, c0_64⟩ := hq9
            refine tz_iload (pc := 67) dX2_hasRing_67 rfl ?_
            refine tz_ishr (pc := 69) (v := zshr z_64 v) dX2_hasRing_69 rfl ?_
            refine tz_iconst (pc := 70) dX2_hasRing_70 ?_
            refine tz_iand (pc := 71) (v := zand (zshr z_64 v) 1) dX2_hasRing_71 rfl ?_
            have r_71 := zand_rg (zshr z_64 v) 1
            refine tz_if_eq (pc := 72) (tgt := 77) dX2_hasRing_72 (by decide) (zand_rg _ _) (fun h_72 => ?_) (fun h_72 => ?_)
            · refine tz_iinc (pc := 77) (z := v + 1) (L2 := [_, _, _, _, _, _, _]) dX2_hasRing_77 rfl (by omega) rfl ?_
              refine tz_goto (pc := 80) (tgt := 20) dX2_hasRing_80 (by decide) ?_
              exact ih20 (v + 1) _ (by omega) (by omega) (fun w a b q1 q2 => (Decidable.em (w = v)).elim (fun e => by rw [e] at q1 q2 ⊢; first | exact ⟨z_64, r0_64, c0_64, by unfold bt; omega⟩ | exact absurd (show J 19 (7 + v) = -1 by omega) q2 | exact absurd q1 (by unfold bt; omega)) (fun e => hh w a (by omega) q1 q2))
            · refine tz_iconst (pc := 75) dX2_hasRing_75 ?_
              exact tz_zret (pc := 76) (z := 1) dX2_hasRing_76 rfl (Or.inr rfl) (Nat.le_of_ble_eq_true rfl) (Nat.le_of_ble_eq_true rfl) ⟨Nat.le_refl _, Nat.le_add_right _ _⟩ ⟨_, rfl, (by decide), ⟨rfl, Or.inr rfl, fun q => absurd q (by decide), fun _ S β E hβ => ring_y E C hm hβ hr ht r0_12 (v := v) (by omega) (by have := z_and (zshr z_12 v) (m := 1) 1 (by decide) (by decide); show zand (zshr z_12 v) 1 = 1; omega) (by omega) r0_64 (by have := z_and (zshr z_64 v) (m := 1) 1 (by decide) (by decide); show zand (zshr z_64 v) 1 = 1; omega)⟩⟩
  exact loop20 _ 0 none (Nat.lt_succ_self _) (by omega) (fun w a b => by omega)

end
section
/-! ===== variablesIn, isRing of the reference, exact ===== -/
def vxR (J : zJ) (b d t i v : Int) : Prop := (J 166 (b + t) < 0 ∧ v = -1 - J 166 (b + t)) ∨ ∃ j, (0 ≤ j ∧ j < i) ∧ Occ J b d (J 167 (3 * (b + t) + j)) v
theorem vx_0 {J : zJ} {b d t : Int} (h : ¬ J 166 (b + t) < 0) : ∀ v, (0 ≤ v ∧ v < 8) → (bt 0 v ↔ vxR J b d t 0 v) := fun v hv => ⟨fun q => absurd q (bt_z hv), fun q => q.elim (fun q => absurd q.1 h) (fun ⟨j, hj, _⟩ => by omega)⟩
theorem vx_v {J : zJ} {b d t : Int} (h : J 166 (b + t) < 0) (h8 : -8 ≤ J 166 (b + t)) : ∀ v, (0 ≤ v ∧ v < 8) → (bt (zshl 1 (-1 - J 166 (b + t))) v ↔ vxR J b d t 0 v) := fun v hv => by
  rw [bt_shlI (by omega) hv]
  exact ⟨fun q => Or.inl ⟨h, q⟩, fun q => q.elim (fun q => q.2) (fun ⟨j, hj, _⟩ => by omega)⟩
theorem vx_s {J : zJ} {b d t i q z : Int} (hi : 0 ≤ i) (h : ∀ v, (0 ≤ v ∧ v < 8) → (bt q v ↔ vxR J b d t i v)) (hz : ∀ v, (0 ≤ v ∧ v < 8) → (bt z v ↔ Occ J b d (J 167 (3 * (b + t) + i)) v)) : ∀ v, (0 ≤ v ∧ v < 8) → (bt (zor q z) v ↔ vxR J b d t (i + 1) v) := fun v hv => by
  rw [bt_or, h v hv, hz v hv]
  unfold vxR
  rw [or_assoc]
  refine or_congr Iff.rfl ⟨fun q => q.elim (fun ⟨j, hj, o⟩ => ⟨j, by omega, o⟩) (fun o => ⟨i, by omega, o⟩), fun ⟨j, hj, o⟩ => ?_⟩
  by_cases e : j = i
  · subst e; exact Or.inr o
  · exact Or.inl ⟨j, by omega, o⟩
theorem vx_e {J : zJ} {b d t i q : Int} (h : ∀ v, (0 ≤ v ∧ v < 8) → (bt q v ↔ vxR J b d t i v)) (hi : i = mar J b d t) : ∀ v, (0 ≤ v ∧ v < 8) → (bt q v ↔ Occ J b d t v) := fun v hv => by
  rw [h v hv, Occ.iff, hi]
  exact Iff.rfl
set_option maxHeartbeats 4000000 in
set_option maxRecDepth 100000 in
theorem m_varsXR {l : Launch} {G : tb_G} (hl : l.stackTraces = false) (n : Nat) : ∀ (r9 : Nat) (J : zJ) (t : Int) (hr_t : -2147483648 ≤ t ∧ t < 2147483648) (b r d s m : Int) (hM : MS J b r d s m) (ht : 0 ≤ t ∧ t < m), ((J 168 (b + t)).toNat) < r9 → tz_Ok l G M_X12_variablesIn (3 + 1 * r9) 0 0 [.ref 164, zi t] n J (zqi (fun z J' => J = J' ∧ ∀ v, (0 ≤ v ∧ v < 8) → (bt z v ↔ Occ J b d t v))) zN := by
  intro r9
  induction r9 with
  | zero => intro J t hr_t b r d s m hM ht hm9; exact absurd hm9 (Nat.not_lt_zero _)
  | succ r9 ih =>
    intro J t hr_t b r d s m hM ht hm9
    refine tz_Ok.of hl (by decide +kernel) rfl (tb_c1 rfl) (Nat.le_of_ble_eq_true rfl) ?_
    show tz_At l G M_X12_variablesIn (tb_rm (3 + 1 * (r9 + 1)) 0 0) none (tb_ZM G 0 0 (zQ n 0 (zqi (fun z J' => J = J' ∧ ∀ v, (0 ≤ v ∧ v < 8) → (bt z v ↔ Occ J b d t v)))) (zX n 0 zN)) 0 0 n J 0 [some (.ref 164), some (zi t), none, none] []
    obtain ⟨hM1, hM2, hM3, hM4, hM5, hM6⟩ := id hM
    have hT := hM.told
    have ha := hM.ar ht
    refine tz_aload_n (pc := 0) dX12_variablesIn_0 rfl rfl ?_
    refine tz_iload_n (pc := 1) dX12_variablesIn_1 rfl rfl ?_
    refine tz_cV (pc := 2) (m_isVar hl n _ _ (by omega) b r d s m hM (by omega)) vl_X12_78 dX12_variablesIn_2 o_164 rfl rfl (Nat.le_of_ble_eq_true rfl) ⟨(show 1 + 1 ≤ 3 + 1 * (r9 + 1) by omega), (show 8 + (2 + 11) + 40 * (1) ≤ 40 * (3 + 1 * (r9 + 1)) by omega)⟩ rfl rfl (Nat.le_of_ble_eq_true rfl) (Nat.le_of_ble_eq_true rfl) (fun r9 J_2 hq9 => ?_)
    obtain ⟨z_2, rfl, hz_2, rfl, rfl⟩ := hq9
    by_cases hw_5 : J 166 (b + t) < 0
    · rw [show (if J 166 (b + t) < 0 then 1 else 0 : Int) = 1 from if_pos hw_5]
      refine tz_if_eqF (pc := 5) (tgt := 18) (by decide) dX12_variablesIn_5 (by decide) (by decide) ?_
      refine tz_iconst (pc := 8) dX12_variablesIn_8 ?_
      refine tz_aload_n (pc := 9) dX12_variablesIn_9 rfl rfl ?_
      refine tz_iload_n (pc := 10) dX12_variablesIn_10 rfl rfl ?_
      refine tz_cV (pc := 11) (m_varOf hl n _ _ (by omega) b r d s m hM (by omega)) vl_X12_123 dX12_variablesIn_11 o_164 rfl rfl (Nat.le_of_ble_eq_true rfl) ⟨(show 1 + 1 ≤ 3 + 1 * (r9 + 1) by omega), (show 8 + (2 + 11) + 40 * (1) ≤ 40 * (3 + 1 * (r9 + 1)) by omega)⟩ rfl rfl (Nat.le_of_ble_eq_true rfl) (Nat.le_of_ble_eq_true rfl) (fun r9 J_11 hq9 => ?_)
      obtain ⟨z_11, rfl, hz_11, rfl, rfl⟩ := hq9
      refine tz_ishl (pc := 14) (v := zshl 1 (-1 - J 166 (b + t))) dX12_variablesIn_14 rfl ?_
      have r_14 := zshl_rg 1 (-1 - J 166 (b + t))
      refine tz_goto (pc := 15) (tgt := 19) dX12_variablesIn_15 (by decide) ?_
      refine tz_istore_n (pc := 19) (L2 := [_, _, _, _]) dX12_variablesIn_19 rfl (by decide) rfl ?_
      refine tz_iconst (pc := 20) dX12_variablesIn_20 ?_
      refine tz_istore_n (pc := 21) (L2 := [_, _, _, _]) dX12_variablesIn_21 rfl (by decide) rfl ?_
      have loop22 : ∀ (f9 : Nat) (q : Int) (i : Int), ((3 - i).toNat) < f9 → (-2147483648 ≤ q ∧ q < 2147483648) → (0 ≤ i ∧ i ≤ mar J b d t) → (∀ v, (0 ≤ v ∧ v < 8) → (bt q v ↔ vxR J b d t i v)) → tz_At l G M_X12_variablesIn (tb_rm (3 + 1 * (r9 + 1)) 0 0) none (tb_ZM G 0 0 (zQ n 0 (zqi (fun z J' => J = J' ∧ ∀ v, (0 ≤ v ∧ v < 8) → (bt z v ↔ Occ J b d t v)))) (zX n 0 zN)) 0 0 n J 22 [some (.ref 164), some (zi t), some (zi q), some (zi i)] [] := by
        intro f9
        induction f9 with
        | zero => intro q i hm9; exact absurd hm9 (Nat.not_lt_zero _)
        | succ f9 ih22 =>
          intro q i hm22 hq hi h1
          refine tz_iload_n (pc := 22) dX12_variablesIn_22 rfl rfl ?_
          refine tz_aload_n (pc := 23) dX12_variablesIn_23 rfl rfl ?_
          refine tz_iload_n (pc := 24) dX12_variablesIn_24 rfl rfl ?_
          refine tz_cV (pc := 25) (m_arity hl n _ _ (by omega) b r d s m hM (by omega)) vl_X12_111 dX12_variablesIn_25 o_164 rfl rfl (Nat.le_of_ble_eq_true rfl) ⟨(show 2 + 1 ≤ 3 + 1 * (r9 + 1) by omega), (show 8 + (2 + 11) + 40 * (2) ≤ 40 * (3 + 1 * (r9 + 1)) by omega)⟩ rfl rfl (Nat.le_of_ble_eq_true rfl) (Nat.le_of_ble_eq_true rfl) (fun r9 J_25 hq9 => ?_)
          obtain ⟨z_25, rfl, hz_25, rfl, rfl⟩ := hq9
          refine tz_icmp_ge (pc := 28) (tgt := 50) dX12_variablesIn_28 (by decide) (by omega) (by omega) (fun h_28 => ?_) (fun h_28 => ?_)
          · refine tz_iload_n (pc := 50) dX12_variablesIn_50 rfl rfl ?_
            exact tz_iret (pc := 51) (z := q) dX12_variablesIn_51 rfl (Nat.le_of_ble_eq_true rfl) (Nat.le_of_ble_eq_true rfl) ⟨Nat.le_refl _, Nat.le_add_right _ _⟩ ⟨_, rfl, (by omega), ⟨rfl, vx_e h1 (by omega)⟩⟩
          · refine tz_iload_n (pc := 31) dX12_variablesIn_31 rfl rfl ?_
            refine tz_aload_n (pc := 32) dX12_variablesIn_32 rfl rfl ?_
            refine tz_aload_n (pc := 33) dX12_variablesIn_33 rfl rfl ?_
            refine tz_iload_n (pc := 34) dX12_variablesIn_34 rfl rfl ?_
            refine tz_iload_n (pc := 35) dX12_variablesIn_35 rfl rfl ?_
            refine tz_cV (pc := 36) (m_arg hl n _ _ _ (by omega) (by omega) b r d s m hM (by omega) (by omega)) vl_X12_88 dX12_variablesIn_36 o_164 rfl rfl (Nat.le_of_ble_eq_true rfl) ⟨(show 0 + 1 ≤ 3 + 1 * (r9 + 1) by omega), (show 8 + (3 + 11) + 40 * (0) ≤ 40 * (3 + 1 * (r9 + 1)) by omega)⟩ rfl rfl (Nat.le_of_ble_eq_true rfl) (Nat.le_of_ble_eq_true rfl) (fun r9 J_36 hq9 => ?_)
            obtain ⟨z_36, rfl, hz_36, rfl, rfl⟩ := hq9
            have hg := hM.arg (t := t) (i := i) ht (by omega)
            refine tz_cV (pc := 39) (ih _ _ (by omega) b r d s m hM (by omega) (by omega)) vl_X12_126 dX12_variablesIn_39 o_164 rfl rfl (Nat.le_of_ble_eq_true rfl) ⟨(show (3 + 1 * r9) + 1 ≤ 3 + 1 * (r9 + 1) by omega), (show 8 + (4 + 11) + 40 * ((3 + 1 * r9)) ≤ 40 * (3 + 1 * (r9 + 1)) by omega)⟩ rfl rfl (Nat.le_of_ble_eq_true rfl) (Nat.le_of_ble_eq_true rfl) (fun r9 J_39 hq9 => ?_)
            obtain ⟨z_39, rfl, hz_39, rfl, hz9⟩ := hq9
            refine tz_ior (pc := 42) (v := zor q z_39) dX12_variablesIn_42 rfl ?_
            have r_42 := zor_rg q z_39
            refine tz_istore_n (pc := 43) (L2 := [_, _, _, _]) dX12_variablesIn_43 rfl (by decide) rfl ?_
            refine tz_iinc (pc := 44) (z := i + 1) (L2 := [_, _, _, _]) dX12_variablesIn_44 rfl (by omega) rfl ?_
            refine tz_goto (pc := 47) (tgt := 22) dX12_variablesIn_47 (by decide) ?_
            exact ih22 _ (i + 1) (by omega) (by omega) (by omega) (vx_s (by omega) h1 hz9)
      exact loop22 _ _ 0 (Nat.lt_succ_self _) (zshl_rg _ _) (by omega) (vx_v (by omega) (by omega))
    · rw [show (if J 166 (b + t) < 0 then 1 else 0 : Int) = 0 from if_neg hw_5]
      refine tz_if_eqT (pc := 5) (tgt := 18) (by decide) dX12_variablesIn_5 (by decide) (by decide) ?_
      refine tz_iconst (pc := 18) dX12_variablesIn_18 ?_
      refine tz_istore_n (pc := 19) (L2 := [_, _, _, _]) dX12_variablesIn_19 rfl (by decide) rfl ?_
      refine tz_iconst (pc := 20) dX12_variablesIn_20 ?_
      refine tz_istore_n (pc := 21) (L2 := [_, _, _, _]) dX12_variablesIn_21 rfl (by decide) rfl ?_
      have loop22 : ∀ (f9 : Nat) (q : Int) (i : Int), ((3 - i).toNat) < f9 → (-2147483648 ≤ q ∧ q < 2147483648) → (0 ≤ i ∧ i ≤ mar J b d t) → (∀ v, (0 ≤ v ∧ v < 8) → (bt q v ↔ vxR J b d t i v)) → tz_At l G M_X12_variablesIn (tb_rm (3 + 1 * (r9 + 1)) 0 0) none (tb_ZM G 0 0 (zQ n 0 (zqi (fun z J' => J = J' ∧ ∀ v, (0 ≤ v ∧ v < 8) → (bt z v ↔ Occ J b d t v)))) (zX n 0 zN)) 0 0 n J 22 [some (.ref 164), some (zi t), some (zi q), some (zi i)] [] := by
        intro f9
        induction f9 with
        | zero => intro q i hm9; exact absurd hm9 (Nat.not_lt_zero _)
        | succ f9 ih22 =>
          intro q i hm22 hq hi h1
          refine tz_iload_n (pc := 22) dX12_variablesIn_22 rfl rfl ?_
          refine tz_aload_n (pc := 23) dX12_variablesIn_23 rfl rfl ?_
          refine tz_iload_n (pc := 24) dX12_variablesIn_24 rfl rfl ?_
          refine tz_cV (pc := 25) (m_arity hl n _ _ (by omega) b r d s m hM (by omega)) vl_X12_111 dX12_variablesIn_25 o_164 rfl rfl (Nat.le_of_ble_eq_true rfl) ⟨(show 2 + 1 ≤ 3 + 1 * (r9 + 1) by omega), (show 8 + (2 + 11) + 40 * (2) ≤ 40 * (3 + 1 * (r9 + 1)) by omega)⟩ rfl rfl (Nat.le_of_ble_eq_true rfl) (Nat.le_of_ble_eq_true rfl) (fun r9 J_25 hq9 => ?_)
          obtain ⟨z_25, rfl, hz_25, rfl, rfl⟩ := hq9
          refine tz_icmp_ge (pc := 28) (tgt := 50) dX12_variablesIn_28 (by decide) (by omega) (by omega) (fun h_28 => ?_) (fun h_28 => ?_)
          · refine tz_iload_n (pc := 50) dX12_variablesIn_50 rfl rfl ?_
            exact tz_iret (pc := 51) (z := q) dX12_variablesIn_51 rfl (Nat.le_of_ble_eq_true rfl) (Nat.le_of_ble_eq_true rfl) ⟨Nat.le_refl _, Nat.le_add_right _ _⟩ ⟨_, rfl, (by omega), ⟨rfl, vx_e h1 (by omega)⟩⟩
          · refine tz_iload_n (pc := 31) dX12_variablesIn_31 rfl rfl ?_
            refine tz_aload_n (pc := 32) dX12_variablesIn_32 rfl rfl ?_
            refine tz_aload_n (pc := 33) dX12_variablesIn_33 rfl rfl ?_
            refine tz_iload_n (pc := 34) dX12_variablesIn_34 rfl rfl ?_
            refine tz_iload_n (pc := 35) dX12_variablesIn_35 rfl rfl ?_
            refine tz_cV (pc := 36) (m_arg hl n _ _ _ (by omega) (by omega) b r d s m hM (by omega) (by omega)) vl_X12_88 dX12_variablesIn_36 o_164 rfl rfl (Nat.le_of_ble_eq_true rfl) ⟨(show 0 + 1 ≤ 3 + 1 * (r9 + 1) by omega), (show 8 + (3 + 11) + 40 * (0) ≤ 40 * (3 + 1 * (r9 + 1)) by omega)⟩ rfl rfl (Nat.le_of_ble_eq_true rfl) (Nat.le_of_ble_eq_true rfl) (fun r9 J_36 hq9 => ?_)
            obtain ⟨z_36, rfl, hz_36, rfl, rfl⟩ := hq9
            have hg := hM.arg (t := t) (i := i) ht (by omega)
            refine tz_cV (pc := 39) (ih _ _ (by omega) b r d s m hM (by omega) (by omega)) vl_X12_126 dX12_variablesIn_39 o_164 rfl rfl (Nat.le_of_ble_eq_true rfl) ⟨(show (3 + 1 * r9) + 1 ≤ 3 + 1 * (r9 + 1) by omega), (show 8 + (4 + 11) + 40 * ((3 + 1 * r9)) ≤ 40 * (3 + 1 * (r9 + 1)) by omega)⟩ rfl rfl (Nat.le_of_ble_eq_true rfl) (Nat.le_of_ble_eq_true rfl) (fun r9 J_39 hq9 => ?_)
            obtain ⟨z_39, rfl, hz_39, rfl, hz9⟩ := hq9
            refine tz_ior (pc := 42) (v := zor q z_39) dX12_variablesIn_42 rfl ?_
            have r_42 := zor_rg q z_39
            refine tz_istore_n (pc := 43) (L2 := [_, _, _, _]) dX12_variablesIn_43 rfl (by decide) rfl ?_
            refine tz_iinc (pc := 44) (z := i + 1) (L2 := [_, _, _, _]) dX12_variablesIn_44 rfl (by omega) rfl ?_
            refine tz_goto (pc := 47) (tgt := 22) dX12_variablesIn_47 (by decide) ?_
            exact ih22 _ (i + 1) (by omega) (by omega) (by omega) (vx_s (by omega) h1 hz9)
      exact loop22 _ _ 0 (Nat.lt_succ_self _) (by decide) (by omega) (vx_0 (by omega))

theorem m_varsX {l : Launch} {G : tb_G} (hl : l.stackTraces = false) (n : Nat) (J : zJ) (t : Int) (hr_t : -2147483648 ≤ t ∧ t < 2147483648) (b r d s m : Int) (hM : MS J b r d s m) (ht : 0 ≤ t ∧ t < m) : tz_Ok l G M_X12_variablesIn 10 0 0 [.ref 164, zi t] n J (zqi (fun z J' => J = J' ∧ ∀ v, (0 ≤ v ∧ v < 8) → (bt z v ↔ Occ J b d t v))) zN := m_varsXR hl n 7 J t hr_t b r d s m hM ht (by have := (hM.ar ht).2.2.1; omega)
theorem Occ.ci {J' J : zJ} {b d t v : Int} (f : zOf (zbut [176]) J' J) : Occ J' b d t v ↔ Occ J b d t v := ⟨fun ⟨k, o⟩ => ⟨k, (occ_cg (f 166 rfl) (f 167 rfl) (f 170 rfl) k t v).1 o⟩, fun o => o.cg f⟩
theorem EX.sd {J : zJ} {f2 f1 : Int → Int} {j i : Int} (h : EX f2 f1 j i) (hj : 0 ≤ j ∧ j < 8) (p : ∀ v u, (0 ≤ v ∧ v < 8) → (0 ≤ u ∧ u < 8) → bt (f1 v) u → SDb J (J 175) v u) : ∀ v u, (0 ≤ v ∧ v < 8) → (0 ≤ u ∧ u < 8) → bt (f2 v) u → SDb J (J 175) v u := fun v u hv hu q => by
  rcases (h v u hv).1 q with q | ⟨_, q1, q2⟩
  · exact p v u hv hu q
  · exact (p v j hv hj q1).tr (p j u hj hu q2)
theorem sd_s {J J1 : zJ} {k z : Int} (h : ∀ v u, (0 ≤ v ∧ v < k) → (0 ≤ u ∧ u < 8) → bt (J1 176 v) u → SDb J (J 175) v u) (hz : ∀ u, (0 ≤ u ∧ u < 8) → bt z u → SDb J (J 175) k u) : ∀ v u, (0 ≤ v ∧ v < k + 1) → (0 ≤ u ∧ u < 8) → bt (zup J1 176 k z 176 v) u → SDb J (J 175) v u := fun v u hv hu q => by
  have e : zup J1 176 k z 176 v = if v = k then z else J1 176 v := rfl
  rw [e] at q
  by_cases w : v = k
  · rw [if_pos w] at q
    rw [w]
    exact hz u hu q
  · rw [if_neg w] at q
    exact h v u (by omega) hu q
set_option maxHeartbeats 4000000 in
set_option maxRecDepth 100000 in
theorem o_ring {l : Launch} {G : tb_G} (hl : l.stackTraces = false) (n : Nat) (J : zJ) (t : Int) (hr_t : -2147483648 ≤ t ∧ t < 2147483648) (s m : Int) (hM : MS J 0 0 0 s m) (ht : 0 ≤ t ∧ t < m) (hy : gOK (J 175) m) : tz_Ok l G M_X12_isRing 11 0 0 [.ref 164, zi t] n J (zqi (fun z J' => zOf (zbut [176]) J' J ∧ (z = 0 ∨ z = 1) ∧ (z = 0 → NR J 0 0 t) ∧ (z = 1 → ¬ NR J 0 0 t))) zN := by
  refine tz_Ok.of hl (by decide +kernel) rfl (tb_c1 rfl) (Nat.le_of_ble_eq_true rfl) ?_
  show tz_At l G M_X12_isRing (tb_rm 11 0 0) none (tb_ZM G 0 0 (zQ n 0 (zqi (fun z J' => zOf (zbut [176]) J' J ∧ (z = 0 ∨ z = 1) ∧ (z = 0 → NR J 0 0 t) ∧ (z = 1 → ¬ NR J 0 0 t)))) (zX n 0 zN)) 0 0 n J 0 [some (.ref 164), some (zi t), none, none, none, none] []
  have hT := hM.told
  refine tz_iconst (pc := 0) dX12_isRing_0 ?_
  refine tz_istore_n (pc := 1) (L2 := [_, _, _, _, _, _]) dX12_isRing_1 rfl (by decide) rfl ?_
  refine tz_iconst (pc := 2) dX12_isRing_2 ?_
  refine tz_istore_n (pc := 3) (L2 := [_, _, _, _, _, _]) dX12_isRing_3 rfl (by decide) rfl ?_
  have loop4 : ∀ (f9 : Nat) (w : Int) (k : Int) (J1 : zJ), ((8 - k).toNat) < f9 → (-2147483648 ≤ w ∧ w < 2147483648) → (0 ≤ k ∧ k ≤ 8) → (zOf (zbut [176]) J1 J) → (NB J (J1 176) 0 0 k) → (∀ v, 0 ≤ v → v < k → ¬ J 175 v = -1 → bt w v) → (∀ v u, (0 ≤ v ∧ v < k) → (0 ≤ u ∧ u < 8) → bt (J1 176 v) u → SDb J (J 175) v u) → tz_At l G M_X12_isRing (tb_rm 11 0 0) none (tb_ZM G 0 0 (zQ n 0 (zqi (fun z J' => zOf (zbut [176]) J' J ∧ (z = 0 ∨ z = 1) ∧ (z = 0 → NR J 0 0 t) ∧ (z = 1 → ¬ NR J 0 0 t)))) (zX n 0 zN)) 0 0 n J1 4 [some (.ref 164), some (zi t), some (zi w), some (zi k), none, none] [] := by
    intro f9
    induction f9 with
    | zero => intro w k J1 hm9; exact absurd hm9 (Nat.not_lt_zero _)
    | succ f9 ih4 =>
      intro w k J1 hm4 hw hk f1 h1 h2 h6
      refine tz_iload_n (pc := 4) dX12_isRing_4 rfl rfl ?_
      refine tz_bipush (pc := 5) dX12_isRing_5 (by decide) ?_
      refine tz_icmp_ge (pc := 7) (tgt := 66) dX12_isRing_7 (by decide) (by omega) (by decide) (fun h_7 => ?_) (fun h_7 => ?_)
      · have hW : ∀ v, 0 ≤ v → v < 8 → ¬ J 175 v = -1 → bt w v := fun v a c => h2 v a (by omega)
        refine tz_iconst (pc := 66) dX12_isRing_66 ?_
        refine tz_istore_n (pc := 67) (L2 := [_, _, _, _, _, _]) dX12_isRing_67 rfl (by decide) rfl ?_
        have loop68 : ∀ (f9 : Nat) (j : Int) (d4 : Option Value) (J2 : zJ), ((8 - j).toNat) < f9 → (0 ≤ j ∧ j ≤ 8) → (zOf (zbut [176]) J2 J) → (NB J (J2 176) 0 0 8) → (TP (J2 176) j) → (∀ v u, (0 ≤ v ∧ v < 8) → (0 ≤ u ∧ u < 8) → bt (J2 176 v) u → SDb J (J 175) v u) → tz_At l G M_X12_isRing (tb_rm 11 0 0) none (tb_ZM G 0 0 (zQ n 0 (zqi (fun z J' => zOf (zbut [176]) J' J ∧ (z = 0 ∨ z = 1) ∧ (z = 0 → NR J 0 0 t) ∧ (z = 1 → ¬ NR J 0 0 t)))) (zX n 0 zN)) 0 0 n J2 68 [some (.ref 164), some (zi t), some (zi w), some (zi j), d4, none] [] := by
          intro f9
          induction f9 with
          | zero => intro j d4 J2 hm9; exact absurd hm9 (Nat.not_lt_zero _)
          | succ f9 ih68 =>
            intro j d4 J2 hm68 hj g1 p1 p2 p3
            refine tz_iload_n (pc := 68) dX12_isRing_68 rfl rfl ?_
            refine tz_bipush (pc := 69) dX12_isRing_69 (by decide) ?_
            refine tz_icmp_ge (pc := 71) (tgt := 127) dX12_isRing_71 (by decide) (by omega) (by decide) (fun h_71 => ?_) (fun h_71 => ?_)
            · have p8 : TP (J2 176) 8 := by have e : j = 8 := (by omega); subst e; exact p2
              refine tz_aload_n (pc := 127) dX12_isRing_127 rfl rfl ?_
              refine tz_iload_n (pc := 128) dX12_isRing_128 rfl rfl ?_
              refine tz_cV (pc := 129) (m_varsX hl n _ _ (by omega) 0 0 0 s m (hM.c176 g1) (by omega)) vl_X12_126 dX12_isRing_129 o_164 rfl rfl (Nat.le_of_ble_eq_true rfl) ⟨(Nat.le_of_ble_eq_true rfl), (Nat.le_of_ble_eq_true rfl)⟩ rfl rfl (Nat.le_of_ble_eq_true rfl) (Nat.le_of_ble_eq_true rfl) (fun r9 J_129 hq9 => ?_)
              obtain ⟨z_129, rfl, hz_129, rfl, hx_129⟩ := hq9
              have ho_129 : ∀ v, (0 ≤ v ∧ v < 8) → (bt z_129 v ↔ Occ J 0 0 t v) := fun v hv => by rw [hx_129 v hv, Occ.ci g1]
              refine tz_istore_n (pc := 132) (L2 := [_, _, _, _, _, _]) dX12_isRing_132 rfl (by decide) rfl ?_
              refine tz_iload_n (pc := 133) dX12_isRing_133 rfl rfl ?_
              refine tz_istore (pc := 134) (L2 := [_, _, _, _, _, _]) dX12_isRing_134 (by decide) rfl ?_
              refine tz_iconst (pc := 136) dX12_isRing_136 ?_
              refine tz_istore (pc := 137) (L2 := [_, _, _, _, _, _]) dX12_isRing_137 (by decide) rfl ?_
              have loop139 : ∀ (f9 : Nat) (x : Int) (k : Int), ((8 - k).toNat) < f9 → (-2147483648 ≤ x ∧ x < 2147483648) → (0 ≤ k ∧ k ≤ 8) → (∀ u, bt z_129 u → bt x u) → (∀ v u, 0 ≤ v → v < k → bt z_129 v → bt (J2 176 v) u → bt x u) → (∀ u, (0 ≤ u ∧ u < 8) → bt x u → RTb J (J 175) t u) → tz_At l G M_X12_isRing (tb_rm 11 0 0) none (tb_ZM G 0 0 (zQ n 0 (zqi (fun z J' => zOf (zbut [176]) J' J ∧ (z = 0 ∨ z = 1) ∧ (z = 0 → NR J 0 0 t) ∧ (z = 1 → ¬ NR J 0 0 t)))) (zX n 0 zN)) 0 0 n J2 139 [some (.ref 164), some (zi t), some (zi w), some (zi x), some (zi z_129), some (zi k)] [] := by
                intro f9
                induction f9 with
                | zero => intro x k hm9; exact absurd hm9 (Nat.not_lt_zero _)
                | succ f9 ih139 =>
                  intro x k hm139 hx hk h3 h4 h7
                  refine tz_iload (pc := 139) dX12_isRing_139 rfl ?_
                  refine tz_bipush (pc := 141) dX12_isRing_141 (by decide) ?_
                  refine tz_icmp_ge (pc := 143) (tgt := 173) dX12_isRing_143 (by decide) (by omega) (by decide) (fun h_143 => ?_) (fun h_143 => ?_)
                  · have h4e : ∀ v u, 0 ≤ v → v < 8 → bt z_129 v → bt (J2 176 v) u → bt x u := fun v u a c => h4 v u a (by omega)
                    refine tz_iconst (pc := 173) dX12_isRing_173 ?_
                    refine tz_istore (pc := 174) (L2 := [_, _, _, _, _, _]) dX12_isRing_174 (by decide) rfl ?_
                    have loop176 : ∀ (f9 : Nat) (k : Int), ((8 - k).toNat) < f9 → (0 ≤ k ∧ k ≤ 8) → (∀ v, 0 ≤ v → v < k → ¬ (bt x v ∧ bt w v ∧ bt (J2 176 v) v)) → tz_At l G M_X12_isRing (tb_rm 11 0 0) none (tb_ZM G 0 0 (zQ n 0 (zqi (fun z J' => zOf (zbut [176]) J' J ∧ (z = 0 ∨ z = 1) ∧ (z = 0 → NR J 0 0 t) ∧ (z = 1 → ¬ NR J 0 0 t)))) (zX n 0 zN)) 0 0 n J2 176 [some (.ref 164), some (zi t), some (zi w), some (zi x), some (zi z_129), some (zi k)] [] := by
                      intro f9
                      induction f9 with
                      | zero => intro k hm9; exact absurd hm9 (Nat.not_lt_zero _)
                      | succ f9 ih176 =>
                        intro k hm176 hk h5
                        refine tz_iload (pc := 176) dX12_isRing_176 rfl ?_
                        refine tz_bipush (pc := 178) dX12_isRing_178 (by decide) ?_
                        refine tz_icmp_ge (pc := 180) (tgt := 217) dX12_isRing_180 (by decide) (by omega) (by decide) (fun h_180 => ?_) (fun h_180 => ?_)
                        · refine tz_iconst (pc := 217) dX12_isRing_217 ?_
                          exact tz_zret (pc := 218) (z := 0) dX12_isRing_218 rfl (Or.inl rfl) (Nat.le_of_ble_eq_true rfl) (Nat.le_of_ble_eq_true rfl) ⟨Nat.le_refl _, Nat.le_add_right _ _⟩ ⟨_, rfl, (by decide), ⟨g1, Or.inl rfl, fun _ => nr_mk hM hy p1 hW p8 (fun v o => (ho_129 v (o.rg hM ht)).2 o) h3 h4e (fun v a c => h5 v a (by omega)), fun q => absurd q (by decide)⟩⟩
                        · refine tz_iload_n (pc := 183) dX12_isRing_183 rfl rfl ?_
                          refine tz_iload (pc := 184) dX12_isRing_184 rfl ?_
                          refine tz_ishr (pc := 186) (v := zshr x k) dX12_isRing_186 rfl ?_
                          refine tz_iload_n (pc := 187) dX12_isRing_187 rfl rfl ?_
                          refine tz_iload (pc := 188) dX12_isRing_188 rfl ?_
                          refine tz_ishr (pc := 190) (v := zshr w k) dX12_isRing_190 rfl ?_
                          refine tz_iand (pc := 191) (v := zand (zshr x k) (zshr w k)) dX12_isRing_191 rfl ?_
                          refine tz_aload_n (pc := 192) dX12_isRing_192 rfl rfl ?_
                          refine tz_fR (pc := 193) dX12_isRing_193 fl_X12_47 r_164_24 ?_
                          refine tz_iload (pc := 196) dX12_isRing_196 rfl ?_
                          refine tz_aL (pc := 198) (z := k) (v := (J2 176 k)) dX12_isRing_198 a_176 rfl (by omega) rfl (fun r_198 => ?_)
                          refine tz_iload (pc := 199) dX12_isRing_199 rfl ?_
                          refine tz_ishr (pc := 201) (v := zshr (J2 176 k) k) dX12_isRing_201 rfl ?_
                          refine tz_iand (pc := 202) (v := zand (zand (zshr x k) (zshr w k)) (zshr (J2 176 k) k)) dX12_isRing_202 rfl ?_
                          refine tz_iconst (pc := 203) dX12_isRing_203 ?_
                          refine tz_iand (pc := 204) (v := zand (zand (zand (zshr x k) (zshr w k)) (zshr (J2 176 k) k)) 1) dX12_isRing_204 rfl ?_
                          refine tz_iconst (pc := 205) dX12_isRing_205 ?_
                          refine tz_icmp_ne (pc := 206) (tgt := 211) dX12_isRing_206 (by decide) (zand_rg _ _) (by decide) (fun h_206 => ?_) (fun h_206 => ?_)
                          · refine tz_iinc (pc := 211) (z := k + 1) (L2 := [_, _, _, _, _, _]) dX12_isRing_211 rfl (by omega) rfl ?_
                            refine tz_goto (pc := 214) (tgt := 176) dX12_isRing_214 (by decide) ?_
                            exact ih176 (k + 1) (by omega) (by omega) (rg_s h5 (fun q => h_206 (bt_and3 q.1 q.2.1 q.2.2)))
                          · refine tz_iconst (pc := 209) dX12_isRing_209 ?_
                            exact tz_zret (pc := 210) (z := 1) dX12_isRing_210 rfl (Or.inr rfl) (Nat.le_of_ble_eq_true rfl) (Nat.le_of_ble_eq_true rfl) ⟨Nat.le_refl _, Nat.le_add_right _ _⟩ ⟨_, rfl, (by decide), ⟨g1, Or.inr rfl, fun q => absurd q (by decide), fun _ => RTb.no (h7 k (by omega) (bt_and3r h_206).1) (p3 k k (by omega) (by omega) (bt_and3r h_206).2.2)⟩⟩
                    exact loop176 _ 0 (Nat.lt_succ_self _) (by omega) (fun v a c => by omega)
                  · refine tz_iload (pc := 146) dX12_isRing_146 rfl ?_
                    refine tz_iload (pc := 148) dX12_isRing_148 rfl ?_
                    refine tz_ishr (pc := 150) (v := zshr z_129 k) dX12_isRing_150 rfl ?_
                    refine tz_iconst (pc := 151) dX12_isRing_151 ?_
                    refine tz_iand (pc := 152) (v := zand (zshr z_129 k) 1) dX12_isRing_152 rfl ?_
                    refine tz_iconst (pc := 153) dX12_isRing_153 ?_
                    refine tz_icmp_ne (pc := 154) (tgt := 167) dX12_isRing_154 (by decide) (zand_rg _ _) (by decide) (fun h_154 => ?_) (fun h_154 => ?_)
                    · refine tz_iinc (pc := 167) (z := k + 1) (L2 := [_, _, _, _, _, _]) dX12_isRing_167 rfl (by omega) rfl ?_
                      refine tz_goto (pc := 170) (tgt := 139) dX12_isRing_170 (by decide) ?_
                      exact ih139 _ (k + 1) (by omega) (by omega) (by omega) h3 (sn_s h4 (fun u q => q) (fun u q => absurd q h_154)) h7
                    · refine tz_iload_n (pc := 157) dX12_isRing_157 rfl rfl ?_
                      refine tz_aload_n (pc := 158) dX12_isRing_158 rfl rfl ?_
                      refine tz_fR (pc := 159) dX12_isRing_159 fl_X12_47 r_164_24 ?_
                      refine tz_iload (pc := 162) dX12_isRing_162 rfl ?_
                      refine tz_aL (pc := 164) (z := k) (v := (J2 176 k)) dX12_isRing_164 a_176 rfl (by omega) rfl (fun r_164 => ?_)
                      refine tz_ior (pc := 165) (v := zor x (J2 176 k)) dX12_isRing_165 rfl ?_
                      refine tz_istore_n (pc := 166) (L2 := [_, _, _, _, _, _]) dX12_isRing_166 rfl (by decide) rfl ?_
                      refine tz_iinc (pc := 167) (z := k + 1) (L2 := [_, _, _, _, _, _]) dX12_isRing_167 rfl (by omega) rfl ?_
                      refine tz_goto (pc := 170) (tgt := 139) dX12_isRing_170 (by decide) ?_
                      exact ih139 _ (k + 1) (by omega) (zor_rg _ _) (by omega) (fun u q => bt_or.2 (Or.inl (h3 u q))) (sn_s h4 (fun u q => bt_or.2 (Or.inl q)) (fun u _ q => bt_or.2 (Or.inr q))) (fun u hu q => (bt_or.1 q).elim (h7 u hu) (fun q => Or.inr ⟨k, (ho_129 k (by omega)).1 h_154, p3 k u (by omega) hu q⟩))
              exact loop139 _ _ 0 (Nat.lt_succ_self _) (by omega) (by omega) (fun u q => q) (fun v u a c => by omega) (fun u hu q => Or.inl ((ho_129 u hu).1 q))
            · refine tz_iconst (pc := 74) dX12_isRing_74 ?_
              refine tz_istore (pc := 75) (L2 := [_, _, _, _, _, _]) dX12_isRing_75 (by decide) rfl ?_
              have loop77 : ∀ (f9 : Nat) (i : Int) (J3 : zJ), ((8 - i).toNat) < f9 → (0 ≤ i ∧ i ≤ 8) → (zOf (zbut [176]) J3 J) → (EX (J3 176) (J2 176) j i) → tz_At l G M_X12_isRing (tb_rm 11 0 0) none (tb_ZM G 0 0 (zQ n 0 (zqi (fun z J' => zOf (zbut [176]) J' J ∧ (z = 0 ∨ z = 1) ∧ (z = 0 → NR J 0 0 t) ∧ (z = 1 → ¬ NR J 0 0 t)))) (zX n 0 zN)) 0 0 n J3 77 [some (.ref 164), some (zi t), some (zi w), some (zi j), some (zi i), none] [] := by
                intro f9
                induction f9 with
                | zero => intro i J3 hm9; exact absurd hm9 (Nat.not_lt_zero _)
                | succ f9 ih77 =>
                  intro i J3 hm77 hi f2 e2
                  have hj : 0 ≤ j ∧ j < 8 := by omega
                  refine tz_iload (pc := 77) dX12_isRing_77 rfl ?_
                  refine tz_bipush (pc := 79) dX12_isRing_79 (by decide) ?_
                  refine tz_icmp_ge (pc := 81) (tgt := 121) dX12_isRing_81 (by decide) (by omega) (by decide) (fun h_81 => ?_) (fun h_81 => ?_)
                  · have e8 : EX (J3 176) (J2 176) j 8 := by have e : i = 8 := (by omega); subst e; exact e2
                    refine tz_iinc (pc := 121) (z := j + 1) (L2 := [_, _, _, _, _, _]) dX12_isRing_121 rfl (by omega) rfl ?_
                    refine tz_goto (pc := 124) (tgt := 68) dX12_isRing_124 (by decide) ?_
                    exact ih68 (j + 1) _ _ (by omega) (by omega) f2 (fun v a c q u o => e8.mo ⟨a, c⟩ (p1 v a c q u o)) (e8.e hj p2) (e8.sd hj p3)
                  · refine tz_aload_n (pc := 84) dX12_isRing_84 rfl rfl ?_
                    refine tz_fR (pc := 85) dX12_isRing_85 fl_X12_47 r_164_24 ?_
                    refine tz_iload (pc := 88) dX12_isRing_88 rfl ?_
                    refine tz_aL (pc := 90) (z := i) (v := (J3 176 i)) dX12_isRing_90 a_176 rfl (by omega) rfl (fun r_90 => ?_)
                    refine tz_iload_n (pc := 91) dX12_isRing_91 rfl rfl ?_
                    refine tz_ishr (pc := 92) (v := zshr (J3 176 i) j) dX12_isRing_92 rfl ?_
                    refine tz_iconst (pc := 93) dX12_isRing_93 ?_
                    refine tz_iand (pc := 94) (v := zand (zshr (J3 176 i) j) 1) dX12_isRing_94 rfl ?_
                    refine tz_iconst (pc := 95) dX12_isRing_95 ?_
                    refine tz_icmp_ne (pc := 96) (tgt := 115) dX12_isRing_96 (by decide) (zand_rg _ _) (by decide) (fun h_96 => ?_) (fun h_96 => ?_)
                    · refine tz_iinc (pc := 115) (z := i + 1) (L2 := [_, _, _, _, _, _]) dX12_isRing_115 rfl (by omega) rfl ?_
                      refine tz_goto (pc := 118) (tgt := 77) dX12_isRing_118 (by decide) ?_
                      exact ih77 (i + 1) _ (by omega) (by omega) f2 (e2.st hj (by omega) (fun v hv => rfl) (Or.inr ⟨h_96, rfl⟩))
                    · refine tz_aload_n (pc := 99) dX12_isRing_99 rfl rfl ?_
                      refine tz_fR (pc := 100) dX12_isRing_100 fl_X12_47 r_164_24 ?_
                      refine tz_iload (pc := 103) dX12_isRing_103 rfl ?_
                      refine tz_dup2 (pc := 105) dX12_isRing_105 rfl rfl ?_
                      refine tz_aL (pc := 106) (z := i) (v := (J3 176 i)) dX12_isRing_106 a_176 rfl (by omega) rfl (fun r_106 => ?_)
                      refine tz_aload_n (pc := 107) dX12_isRing_107 rfl rfl ?_
                      refine tz_fR (pc := 108) dX12_isRing_108 fl_X12_47 r_164_24 ?_
                      refine tz_iload_n (pc := 111) dX12_isRing_111 rfl rfl ?_
                      refine tz_aL (pc := 112) (z := j) (v := (J3 176 j)) dX12_isRing_112 a_176 rfl (by omega) rfl (fun r_112 => ?_)
                      refine tz_ior (pc := 113) (v := zor (J3 176 i) (J3 176 j)) dX12_isRing_113 rfl ?_
                      refine tz_aS (pc := 114) (z := i) dX12_isRing_114 a_176 rfl (by omega) (zor_rg _ _) ?_
                      refine tz_iinc (pc := 115) (z := i + 1) (L2 := [_, _, _, _, _, _]) dX12_isRing_115 rfl (by omega) rfl ?_
                      refine tz_goto (pc := 118) (tgt := 77) dX12_isRing_118 (by decide) ?_
                      exact ih77 (i + 1) _ (by omega) (by omega) (zOf.up rfl f2) (e2.st hj (by omega) (fun v hv => zup_ne hv) (Or.inl ⟨h_96, zup_at⟩))
              exact loop77 _ 0 _ (Nat.lt_succ_self _) (by omega) g1 EX.z
        exact loop68 _ 0 none _ (Nat.lt_succ_self _) (by omega) f1 (fun v a c => h1 v a (by omega)) (fun i v u hi => by omega) (fun v u hv => h6 v u (by omega))
      · refine tz_aload_n (pc := 10) dX12_isRing_10 rfl rfl ?_
        refine tz_fR (pc := 11) dX12_isRing_11 fl_X12_47 r_164_24 ?_
        refine tz_iload_n (pc := 14) dX12_isRing_14 rfl rfl ?_
        refine tz_aload_n (pc := 15) dX12_isRing_15 rfl rfl ?_
        refine tz_fR (pc := 16) dX12_isRing_16 fl_X12_44 r_164_23 ?_
        refine tz_iload_n (pc := 19) dX12_isRing_19 rfl rfl ?_
        refine tz_aL (pc := 20) (z := k) (v := (J 175 k)) dX12_isRing_20 a_175 rfl (by omega) (Eq.trans (congrFun (f1 175 rfl) k) rfl) (fun r_20 => ?_)
        refine tz_iconst (pc := 21) dX12_isRing_21 ?_
        have hv8 := hy k (by omega) (by omega)
        refine tz_icmp_ne (pc := 22) (tgt := 29) dX12_isRing_22 (by decide) (by omega) (by decide) (fun h_22 => ?_) (fun h_22 => ?_)
        · refine tz_aload_n (pc := 29) dX12_isRing_29 rfl rfl ?_
          refine tz_aload_n (pc := 30) dX12_isRing_30 rfl rfl ?_
          refine tz_fR (pc := 31) dX12_isRing_31 fl_X12_44 r_164_23 ?_
          refine tz_iload_n (pc := 34) dX12_isRing_34 rfl rfl ?_
          refine tz_aL (pc := 35) (z := k) (v := (J 175 k)) dX12_isRing_35 a_175 rfl (by omega) (Eq.trans (congrFun (f1 175 rfl) k) rfl) (fun r_35 => ?_)
          have hv9 := hy k (by omega) (by omega)
          refine tz_cV (pc := 36) (m_varsX hl n _ _ (by omega) 0 0 0 s m (hM.c176 f1) (by omega)) vl_X12_126 dX12_isRing_36 o_164 rfl rfl (Nat.le_of_ble_eq_true rfl) ⟨(Nat.le_of_ble_eq_true rfl), (Nat.le_of_ble_eq_true rfl)⟩ rfl rfl (Nat.le_of_ble_eq_true rfl) (Nat.le_of_ble_eq_true rfl) (fun r9 J_36 hq9 => ?_)
          obtain ⟨z_36, rfl, hz_36, rfl, hx_36⟩ := hq9
          have ho_36 : ∀ v, (0 ≤ v ∧ v < 8) → (bt z_36 v ↔ Occ J 0 0 (J 175 k) v) := fun v hv => by have q9 := hx_36 v hv; rw [Occ.ci f1] at q9; exact q9
          refine tz_aS (pc := 39) (z := k) dX12_isRing_39 a_176 rfl (by omega) (by omega) ?_
          refine tz_iload_n (pc := 40) dX12_isRing_40 rfl rfl ?_
          refine tz_aload_n (pc := 41) dX12_isRing_41 rfl rfl ?_
          refine tz_fR (pc := 42) dX12_isRing_42 fl_X12_44 r_164_23 ?_
          refine tz_iload_n (pc := 45) dX12_isRing_45 rfl rfl ?_
          refine tz_aL (pc := 46) (z := k) (v := (J 175 k)) dX12_isRing_46 a_175 rfl (by omega) (Eq.trans (congrFun (f1 175 rfl) k) rfl) (fun r_46 => ?_)
          refine tz_iconst (pc := 47) dX12_isRing_47 ?_
          refine tz_icmp_ne (pc := 48) (tgt := 55) dX12_isRing_48 (by decide) (by omega) (by decide) (fun h_48 => ?_) (fun h_48 => ?_)
          · refine tz_iconst (pc := 55) dX12_isRing_55 ?_
            refine tz_iload_n (pc := 56) dX12_isRing_56 rfl rfl ?_
            refine tz_ishl (pc := 57) (v := zshl 1 k) dX12_isRing_57 rfl ?_
            have r_57 := zshl_rg 1 k
            refine tz_ior (pc := 58) (v := zor w (zshl 1 k)) dX12_isRing_58 rfl ?_
            refine tz_istore_n (pc := 59) (L2 := [_, _, _, _, _, _]) dX12_isRing_59 rfl (by decide) rfl ?_
            refine tz_iinc (pc := 60) (z := k + 1) (L2 := [_, _, _, _, _, _]) dX12_isRing_60 rfl (by omega) rfl ?_
            refine tz_goto (pc := 63) (tgt := 4) dX12_isRing_63 (by decide) ?_
            exact ih4 _ (k + 1) _ (by omega) (zor_rg _ _) (by omega) (zOf.up rfl f1) (nb_s h1 (fun _ u o => (ho_36 u (o.rg hM (by omega))).2 o)) (wb_s h2 (fun _ => bt_shl (by omega))) (sd_s h6 (fun u hu q => SDb.b (by omega) (by omega) ((ho_36 u hu).1 q)))
          · refine tz_iconst (pc := 51) dX12_isRing_51 ?_
            refine tz_goto (pc := 52) (tgt := 58) dX12_isRing_52 (by decide) ?_
            refine tz_ior (pc := 58) (v := zor w 0) dX12_isRing_58 rfl ?_
            refine tz_istore_n (pc := 59) (L2 := [_, _, _, _, _, _]) dX12_isRing_59 rfl (by decide) rfl ?_
            refine tz_iinc (pc := 60) (z := k + 1) (L2 := [_, _, _, _, _, _]) dX12_isRing_60 rfl (by omega) rfl ?_
            refine tz_goto (pc := 63) (tgt := 4) dX12_isRing_63 (by decide) ?_
            exact ih4 _ (k + 1) _ (by omega) (zor_rg _ _) (by omega) (zOf.up rfl f1) (nb_s h1 (fun _ u o => (ho_36 u (o.rg hM (by omega))).2 o)) (wb_s h2 (fun q => absurd (show J 175 k = -1 by omega) q)) (sd_s h6 (fun u hu q => SDb.b (by omega) (by omega) ((ho_36 u hu).1 q)))
        · refine tz_iconst (pc := 25) dX12_isRing_25 ?_
          refine tz_goto (pc := 26) (tgt := 39) dX12_isRing_26 (by decide) ?_
          refine tz_aS (pc := 39) (z := k) dX12_isRing_39 a_176 rfl (by omega) (by decide) ?_
          refine tz_iload_n (pc := 40) dX12_isRing_40 rfl rfl ?_
          refine tz_aload_n (pc := 41) dX12_isRing_41 rfl rfl ?_
          refine tz_fR (pc := 42) dX12_isRing_42 fl_X12_44 r_164_23 ?_
          refine tz_iload_n (pc := 45) dX12_isRing_45 rfl rfl ?_
          refine tz_aL (pc := 46) (z := k) (v := (J 175 k)) dX12_isRing_46 a_175 rfl (by omega) (Eq.trans (congrFun (f1 175 rfl) k) rfl) (fun r_46 => ?_)
          refine tz_iconst (pc := 47) dX12_isRing_47 ?_
          refine tz_icmp_ne (pc := 48) (tgt := 55) dX12_isRing_48 (by decide) (by omega) (by decide) (fun h_48 => ?_) (fun h_48 => ?_)
          · refine tz_iconst (pc := 55) dX12_isRing_55 ?_
            refine tz_iload_n (pc := 56) dX12_isRing_56 rfl rfl ?_
            refine tz_ishl (pc := 57) (v := zshl 1 k) dX12_isRing_57 rfl ?_
            have r_57 := zshl_rg 1 k
            refine tz_ior (pc := 58) (v := zor w (zshl 1 k)) dX12_isRing_58 rfl ?_
            refine tz_istore_n (pc := 59) (L2 := [_, _, _, _, _, _]) dX12_isRing_59 rfl (by decide) rfl ?_
            refine tz_iinc (pc := 60) (z := k + 1) (L2 := [_, _, _, _, _, _]) dX12_isRing_60 rfl (by omega) rfl ?_
            refine tz_goto (pc := 63) (tgt := 4) dX12_isRing_63 (by decide) ?_
            exact ih4 _ (k + 1) _ (by omega) (zor_rg _ _) (by omega) (zOf.up rfl f1) (nb_s h1 (fun q => absurd (show J 175 k = -1 by omega) q)) (wb_s h2 (fun _ => bt_shl (by omega))) (sd_s h6 (fun u hu q => absurd q (bt_z hu)))
          · refine tz_iconst (pc := 51) dX12_isRing_51 ?_
            refine tz_goto (pc := 52) (tgt := 58) dX12_isRing_52 (by decide) ?_
            refine tz_ior (pc := 58) (v := zor w 0) dX12_isRing_58 rfl ?_
            refine tz_istore_n (pc := 59) (L2 := [_, _, _, _, _, _]) dX12_isRing_59 rfl (by decide) rfl ?_
            refine tz_iinc (pc := 60) (z := k + 1) (L2 := [_, _, _, _, _, _]) dX12_isRing_60 rfl (by omega) rfl ?_
            refine tz_goto (pc := 63) (tgt := 4) dX12_isRing_63 (by decide) ?_
            exact ih4 _ (k + 1) _ (by omega) (zor_rg _ _) (by omega) (zOf.up rfl f1) (nb_s h1 (fun q => absurd (show J 175 k = -1 by omega) q)) (wb_s h2 (fun q => absurd (show J 175 k = -1 by omega) q)) (sd_s h6 (fun u hu q => absurd q (bt_z hu)))
  exact loop4 _ 0 0 _ (Nat.lt_succ_self _) (by decide) (by omega) zOf.rf (fun v a c => by omega) (fun v a c => by omega) (fun v u hv => by omega)

end
section
/-! ===== what comes of a term when each of its terms is another one: closing, and what classes are ===== -/
/-- ρ: what a term leads to; as deep as k allows -/
noncomputable def grO (ρ : Int → Int) : Nat → zJ → Int → zJ × Int
  | 0, G, _ => if G 164 21 = 0 then (zup G 164 21 1, 0) else (G, 0)
  | k + 1, G, t => if G 164 21 = 0 then (if G 166 (0 + ρ t) < 0 then (G, ρ t) else gR (fun H i => grO ρ k H (H 167 (3 * (0 + ρ t) + i))) G (G 166 (0 + ρ t))) else (G, 0)
theorem grO_s {ρ : Int → Int} {k : Nat} {G : zJ} {t : Int} : grO ρ (k + 1) G t = if G 164 21 = 0 then (if G 166 (0 + ρ t) < 0 then (G, ρ t) else gR (fun H i => grO ρ k H (H 167 (3 * (0 + ρ t) + i))) G (G 166 (0 + ρ t))) else (G, 0) := rfl
theorem grO_F {ρ : Int → Int} {k : Nat} {G : zJ} {t : Int} (h : ¬ G 164 21 = 0) : grO ρ k G t = (G, 0) := by
  cases k with
  | zero => show (if G 164 21 = 0 then _ else _) = _; rw [if_neg h]
  | succ k => rw [grO_s, if_neg h]
theorem grO_f {ρ : Int → Int} {k : Nat} {G : zJ} {t : Int} (h : ¬ G 164 21 = 0) : ¬ (grO ρ k G t).1 164 21 = 0 := by
  rw [grO_F h]; exact h
theorem grO_0 {ρ : Int → Int} {G : zJ} {t : Int} (h : G 164 21 = 0) : grO ρ 0 G t = (zup G 164 21 1, 0) := by
  show (if G 164 21 = 0 then _ else _) = _; rw [if_pos h]
theorem grO_0f {ρ : Int → Int} {G : zJ} {t : Int} : ¬ (grO ρ 0 G t).1 164 21 = 0 := by
  by_cases h : G 164 21 = 0
  · rw [grO_0 h]; show ¬ (1 : Int) = 0; decide
  · exact grO_f h
theorem grO_r {ρ : Int → Int} {k : Nat} {G : zJ} {t u : Int} (e : ρ t = ρ u) : grO ρ k G t = grO ρ k G u := by
  cases k with
  | zero => rfl
  | succ k => rw [grO_s, grO_s, e]
theorem gR_5 {T : zJ → Int → zJ × Int} (hT : ∀ S i q, ¬ q = 0 → (T S i).1 165 q = S 165 q) {G : zJ} {h q : Int} (hq : ¬ q = 0) : (gR T G h).1 165 q = G 165 q := by
  have a : ∀ i, (gst T G (oar G h) i).1 165 q = G 165 q := fun i => by
    induction i with
    | zero => rfl
    | succ i ih =>
      rw [gst_s]
      unfold gA
      split
      · rw [hT _ _ q hq]; exact ih
      · exact ih
  unfold gR
  rw [tmO_5 hq, a]
theorem grO_5 {ρ : Int → Int} : ∀ (k : Nat) (S : zJ) (t q : Int), ¬ q = 0 → (grO ρ k S t).1 165 q = S 165 q
  | 0, S, t, q, h => by
    by_cases e : S 164 21 = 0
    · rw [grO_0 e]; rfl
    · rw [grO_F e]
  | k + 1, S, t, q, h => by
    rw [grO_s]
    split
    · split
      · rfl
      · exact gR_5 (fun S i q hq => grO_5 k S _ q hq) h
    · rfl
/-! ===== the class's side ===== -/
/-- what the class answers, and where it is then; too deep comes out later -/
def EXK (I : zJ → Prop) (k : Nat) (F : zJ × Int) (z : Int) (J' : zJ) : Prop := (z = -3 ∧ ¬ F.1 164 21 = 0) ∨ (0 ≤ z ∧ ¬ F.1 164 21 = 0 ∧ k < J' 12 z) ∨ (0 ≤ z ∧ F.1 164 21 = 0 ∧ A0 J' F.1 ∧ z = F.2 ∧ I J')
/-- the table has grown -/
def GJ (J' J : zJ) (m m' : Int) : Prop := m ≤ m' ∧ CT J' m' ∧ J' 6 12 = m' ∧ zSU J' J m ∧ (J' 1 = J 1 ∧ J' 3 = J 3)
theorem GJ.rf {J : zJ} {m : Int} (C : CT J m) (hm : J 6 12 = m) : GJ J J m m := ⟨Int.le_refl _, C, hm, zSU.rf, rfl, rfl⟩
theorem GJ.tr {J3 J2 J1 : zJ} {m1 m2 m3 : Int} (g : GJ J2 J1 m1 m2) (h : GJ J3 J2 m2 m3) : GJ J3 J1 m1 m3 := ⟨by have := g.1; have := h.1; omega, h.2.1, h.2.2.1, (h.2.2.2.1.cut g.1).tr g.2.2.2.1, h.2.2.2.2.1.trans g.2.2.2.2.1, h.2.2.2.2.2.trans g.2.2.2.2.2⟩
theorem GX.j {X : List Nat} {J' J : zJ} {m m' : Int} (g : GX X J' J m m') (hX : zbut (6 :: 7 :: 8 :: 9 :: 10 :: 11 :: 12 :: 13 :: 14 :: 15 :: 16 :: 17 :: X) 1 = true ∧ zbut (6 :: 7 :: 8 :: 9 :: 10 :: 11 :: 12 :: 13 :: 14 :: 15 :: 16 :: 17 :: X) 3 = true) : GJ J' J m m' := ⟨g.1, g.2.1, g.2.2.1, g.2.2.2.1, g.2.2.2.2 1 hX.1, g.2.2.2.2 3 hX.2⟩
/-- c is what a term comes to, all of it there -/
def GCj (ρ : Int → Int) (J : zJ) (m t c : Int) : Prop := (0 ≤ c ∧ c < m) ∧ ∀ (J' : zJ) (m' : Int) (S' : zJ), GJ J' J m m' → S' 164 21 = 0 → A0 J' S' → ∀ k : Nat, (grO ρ k S' t = (S', c) ∧ J' 12 c ≤ k) ∨ (¬ (grO ρ k S' t).1 164 21 = 0 ∧ k < J' 12 c)
theorem GCj.gr {ρ : Int → Int} {J1 J : zJ} {m m1 t c : Int} (h : GCj ρ J m t c) (g : GJ J1 J m m1) : GCj ρ J1 m1 t c := ⟨by have := h.1; have := g.1; omega, fun J' m' S' g' => h.2 J' m' S' (g.tr g')⟩
theorem GCj.rr {ρ : Int → Int} {J : zJ} {m t u c : Int} (h : GCj ρ J m t c) (e : ρ u = ρ t) : GCj ρ J m u c := ⟨h.1, fun J' m' S' g h2 E k => by rw [grO_r e]; exact h.2 J' m' S' g h2 E k⟩
theorem GCj.of {ρ : Int → Int} {J1 J : zJ} {m t c : Int} (h : GCj ρ J m t c) (e : ∀ q, q < 18 → J1 q = J q) : GCj ρ J1 m t c := ⟨h.1, fun J' m' S' g h2 E k => h.2 J' m' S' ⟨g.1, g.2.1, g.2.2.1, by
  have s := g.2.2.2.1
  unfold zSU at s ⊢
  rw [e 7 (by decide), e 8 (by decide), e 9 (by decide), e 10 (by decide), e 11 (by decide), e 12 (by decide), e 13 (by decide), e 14 (by decide), e 15 (by decide)] at s
  exact s, g.2.2.2.2.1.trans (e 1 (by decide)), g.2.2.2.2.2.trans (e 3 (by decide))⟩ h2 E k⟩
theorem GCj.ex {ρ : Int → Int} {I : zJ → Prop} {J S : zJ} {m t c : Int} {k : Nat} (h : GCj ρ J m t c) (C : CT J m) (hm : J 6 12 = m) (hS : S 164 21 = 0) (E : A0 J S) (i : I J) : EXK I k (grO ρ k S t) c J := by
  rcases h.2 J m S (GJ.rf C hm) hS E k with ⟨a, b⟩ | ⟨a, b⟩
  · rw [a]; exact Or.inr (Or.inr ⟨h.1.1, hS, E, rfl, i⟩)
  · exact Or.inr (Or.inl ⟨h.1.1, a, b⟩)
/-- a term that is itself, without arguments -/
theorem ct_d1 {J : zJ} {m t : Int} (C : CT J m) (ht : 0 ≤ t ∧ t < m) (hv : J 7 t < 0) : J 12 t = 1 := by
  have h := C.1.1.2.2.1 t ht.1 ht.2
  rcases h.2.2.2 with h | ⟨i, hi, _⟩
  · exact h
  · unfold arh at hi
    rw [if_pos hv] at hi
    omega
theorem gcj_v {ρ : Int → Int} {J : zJ} {m t : Int} (ht : 0 ≤ t ∧ t < m) (hv : J 7 t < 0) (e : ρ t = t) : GCj ρ J m t t := ⟨ht, fun J' m' S' g hS E k => by
  have s := g.2.2.2.1.1 t ht.1 ht.2
  have m1 := g.1
  have d : J' 12 t = 1 := ct_d1 g.2.1 ⟨ht.1, by omega⟩ (by rw [s.1]; exact hv)
  have eh := (E.tm g.2.1 g.2.2.1 ⟨ht.1, by omega⟩).1
  cases k with
  | zero => exact Or.inr ⟨grO_0f, by omega⟩
  | succ k =>
    rw [grO_s, if_pos hS, e, eh, s.1, if_pos hv]
    exact Or.inl ⟨rfl, by omega⟩⟩
theorem madeP.is {J J' : zJ} {m h a b c z : Int} (p : madeP J m h a b c z J') (hz : 0 ≤ z) : isT J' z h a b c ∧ okA (arh (J 3) h) a b c ∧ 0 ≤ z ∧ z < J' 6 12 := by
  obtain ⟨f, s, p⟩ := p
  have e3 : J' 3 = J 3 := f 3 rfl
  rcases p with ⟨⟨pz, _⟩, _⟩ | ⟨⟨q1, q2, q3⟩, m1, _⟩ | ⟨⟨pz, _, _, q3, _⟩, m1, _, q4⟩
  · omega
  · refine ⟨?_, q3, q1.1, by omega⟩
    obtain ⟨i0, i1, i2, i3⟩ := q2
    unfold isT
    rw [e3, (s.1 z q1.1 q1.2).1, s.2 (z * 3 + 0) (by omega) (by omega), s.2 (z * 3 + 1) (by omega) (by omega), s.2 (z * 3 + 2) (by omega) (by omega)]
    exact ⟨i0, i1, i2, i3⟩
  · rw [pz]
    exact ⟨q4, q3, by omega, by omega⟩
/-- the term of a head and arguments that are there -/
theorem A0.fnd {J g : zJ} {m h a b c z : Int} (E : A0 J g) (h0 : g 164 21 = 0) (C : CT J m) (hm : J 6 12 = m) (hh : h < J 1 3) (hz : 0 ≤ z ∧ z < m) (i : isT J z h a b c) : tmO g h a b c = (g, z) := by
  have e6 := E.2.1
  have hA := E.ar hh
  have hx : (0 < arh (J 3) h → a = a) ∧ (1 < arh (J 3) h → b = b) ∧ (2 < arh (J 3) h → c = c) := ⟨fun _ => rfl, fun _ => rfl, fun _ => rfl⟩
  have q : ofi g h a b c = z := by
    unfold ofi
    refine fnB_eq hz.1 (by omega) (fun t u v => dcB_t (fun k => ?_)) (Or.inr (dcB_f (fun k => k ?_)))
    · rw [hA] at k
      have := isT_u C hh (q := t) (q' := z) (by omega) hz ((E.nm C hm hx (by omega)).1 k) i
      omega
    · rw [hA]
      exact (E.nm C hm hx hz).2 i
  unfold tmO
  rw [if_pos h0, q, if_pos (by omega)]
/-- args of it, as deep as it -/
theorem ct_dpi {J : zJ} {m z h a b c : Int} (C : CT J m) (hz : 0 ≤ z ∧ z < m) (i : isT J z h a b c) : (0 < arh (J 3) h → J 12 a < J 12 z) ∧ (1 < arh (J 3) h → J 12 b < J 12 z) ∧ (2 < arh (J 3) h → J 12 c < J 12 z) ∧ (J 12 z = 1 ∨ (0 < arh (J 3) h ∧ J 12 z = J 12 a + 1) ∨ (1 < arh (J 3) h ∧ J 12 z = J 12 b + 1) ∨ (2 < arh (J 3) h ∧ J 12 z = J 12 c + 1)) := by
  have q := C.1.1.2.2.1 z hz.1 hz.2
  have h3 := C.1.1.ar hz.1 hz.2
  obtain ⟨i0, i1, i2, i3⟩ := i
  have q3 := q.2.2.1
  have q4 := q.2.2.2
  rw [i0] at q3 q4 h3
  dsimp only at q3 q4
  refine ⟨fun y => ?_, fun y => ?_, fun y => ?_, ?_⟩
  · have := (q3 0 (by decide) y).2; rw [i1 y] at this; exact this
  · have := (q3 1 (by decide) y).2; rw [i2 y] at this; exact this
  · have := (q3 2 (by decide) y).2; rw [i3 y] at this; exact this
  · rcases q4 with q4 | ⟨j, hj, q4⟩
    · exact Or.inl q4
    · have : j = 0 ∨ j = 1 ∨ j = 2 := by omega
      rcases this with rfl | rfl | rfl
      · rw [i1 hj.2] at q4; exact Or.inr (Or.inl ⟨hj.2, q4⟩)
      · rw [i2 hj.2] at q4; exact Or.inr (Or.inr (Or.inl ⟨hj.2, q4⟩))
      · rw [i3 hj.2] at q4; exact Or.inr (Or.inr (Or.inr ⟨hj.2, q4⟩))
theorem isT.gr {J' J : zJ} {m m' z h a b c : Int} (i : isT J z h a b c) (hz : 0 ≤ z ∧ z < m) (g : GJ J' J m m') : isT J' z h a b c := by
  have s := g.2.2.2.1
  obtain ⟨i0, i1, i2, i3⟩ := i
  unfold isT
  rw [g.2.2.2.2.2, (s.1 z hz.1 hz.2).1, s.2 (z * 3 + 0) (by omega) (by omega), s.2 (z * 3 + 1) (by omega) (by omega), s.2 (z * 3 + 2) (by omega) (by omega)]
  exact ⟨i0, i1, i2, i3⟩
/-- a stage of the arguments, where what is there already comes -/
theorem gA_gc {T : zJ → Int → zJ × Int} {G : zJ} {A i c : Int} {k : Nat} {d : Int} (h : i < A → (T G i = (G, c) ∧ d ≤ k) ∨ (¬ (T G i).1 164 21 = 0 ∧ k < d)) : ((gA T G A i).1 = G ∧ (i < A → (gA T G A i).2 = c ∧ d ≤ k)) ∨ (i < A ∧ ¬ (gA T G A i).1 164 21 = 0 ∧ k < d) := by
  unfold gA
  by_cases q : i < A
  · rw [if_pos q]
    rcases h q with ⟨a, b⟩ | ⟨a, b⟩
    · rw [a]; exact Or.inl ⟨rfl, fun _ => ⟨rfl, b⟩⟩
    · exact Or.inr ⟨q, a, b⟩
  · rw [if_neg q]
    exact Or.inl ⟨rfl, fun p => absurd p q⟩
theorem gcj_c {ρ : Int → Int} {J : zJ} {m t x z0 z1 z2 z : Int} (C : CT J m) (hm : J 6 12 = m) (hx : 0 ≤ x ∧ x < m) (hv : 0 ≤ J 7 x) (e : ρ t = x) (c0 : 0 < J 8 x → GCj ρ J m (J 9 (x * 3 + 0)) z0) (c1 : 1 < J 8 x → GCj ρ J m (J 9 (x * 3 + 1)) z1) (c2 : 2 < J 8 x → GCj ρ J m (J 9 (x * 3 + 2)) z2) (hz : 0 ≤ z ∧ z < m) (i : isT J z (J 7 x) z0 z1 z2) : GCj ρ J m t z := ⟨hz, fun J' m' S' g hS E k => by
  have m1 := g.1
  have s := g.2.2.2.1
  have ha := C.ar hx.1 hx.2
  have i' := i.gr hz g
  have hm' := g.2.2.1
  have C' := g.2.1
  obtain ⟨p0, p1, p2, p3⟩ := ct_dpi C' (z := z) ⟨hz.1, by omega⟩ i'
  have e8 : J' 8 x = J 8 x := (s.1 x hx.1 hx.2).2.1
  have e7 : J' 7 x = J 7 x := (s.1 x hx.1 hx.2).1
  have hA : arh (J' 3) (J 7 x) = J 8 x := by rw [← e8, ← e7]; exact (C'.2.1 x hx.1 (by omega)).1.1.symm
  rw [hA] at p0 p1 p2 p3
  obtain ⟨t1, t2, t3⟩ := E.tm C' hm' (t := x) ⟨hx.1, by omega⟩
  rw [e8] at t2 t3
  rw [e7] at t1
  have hd := (C'.nums hz.1 (by omega)).2.2
  cases k with
  | zero => exact Or.inr ⟨grO_0f, by omega⟩
  | succ k =>
    rw [grO_s, if_pos hS, e, t1, if_neg (by omega)]
    have oA : oar S' (J 7 x) = J 8 x := by rw [← t2]; unfold mar; rw [t1]; rfl
    have ar : ∀ j, 0 ≤ j → j < J 8 x → S' 167 (3 * (0 + x) + j) = J 9 (x * 3 + j) := fun j a b => by rw [t3 j a b]; exact s.2 (x * 3 + j) (by omega) (by omega)
    have st0 := gA_gc (T := fun H i => grO ρ k H (H 167 (3 * (0 + x) + i))) (G := S') (A := J 8 x) (i := 0) (c := z0) (k := k) (d := J' 12 z0) (fun y => by
      rw [ar 0 (by decide) y]; exact (c0 y).2 J' m' S' g hS E k)
    have st1 := gA_gc (T := fun H i => grO ρ k H (H 167 (3 * (0 + x) + i))) (G := S') (A := J 8 x) (i := 1) (c := z1) (k := k) (d := J' 12 z1) (fun y => by
      rw [ar 1 (by decide) y]; exact (c1 y).2 J' m' S' g hS E k)
    have st2 := gA_gc (T := fun H i => grO ρ k H (H 167 (3 * (0 + x) + i))) (G := S') (A := J 8 x) (i := 2) (c := z2) (k := k) (d := J' 12 z2) (fun y => by
      rw [ar 2 (by decide) y]; exact (c2 y).2 J' m' S' g hS E k)
    have fT : ∀ S i, ¬ S 164 21 = 0 → ¬ ((fun (H : zJ) (i : Int) => grO ρ k H (H 167 (3 * (0 + x) + i))) S i).1 164 21 = 0 := fun S i h => grO_f h
    have g1 : gst (fun H i => grO ρ k H (H 167 (3 * (0 + x) + i))) S' (J 8 x) 1 = gA (fun H i => grO ρ k H (H 167 (3 * (0 + x) + i))) S' (J 8 x) 0 := rfl
    rcases st0 with ⟨a0, b0⟩ | ⟨a0, b0, b0'⟩
    · have g2 : gst (fun H i => grO ρ k H (H 167 (3 * (0 + x) + i))) S' (J 8 x) 2 = gA (fun H i => grO ρ k H (H 167 (3 * (0 + x) + i))) S' (J 8 x) 1 := by rw [gst_s, g1, a0]; rfl
      rcases st1 with ⟨a1, b1⟩ | ⟨a1, b1, b1'⟩
      · have g3 : gst (fun H i => grO ρ k H (H 167 (3 * (0 + x) + i))) S' (J 8 x) 3 = gA (fun H i => grO ρ k H (H 167 (3 * (0 + x) + i))) S' (J 8 x) 2 := by rw [gst_s, g2, a1]; rfl
        rcases st2 with ⟨a2, b2⟩ | ⟨a2, b2, b2'⟩
        · left
          unfold gR
          rw [oA, g3, g2, g1, a2]
          refine ⟨?_, by omega⟩
          refine E.fnd hS C' hm' (by rw [← e7]; exact (C'.ar hx.1 (by omega)).2.2.2) ⟨hz.1, by omega⟩ ?_
          obtain ⟨j0, j1, j2, j3⟩ := i'
          rw [hA] at j1 j2 j3
          refine ⟨j0, fun y => ?_, fun y => ?_, fun y => ?_⟩
          · rw [hA] at y; rw [j1 y, (b0 y).1]
          · rw [hA] at y; rw [j2 y, (b1 y).1]
          · rw [hA] at y; rw [j3 y, (b2 y).1]
        · right
          refine ⟨gR_f ?_, by have := p2 a2; omega⟩
          rw [oA, g3]; exact b2
      · right
        refine ⟨gR_f ?_, by have := p1 a1; omega⟩
        rw [oA]
        exact gst_f fT (i := 2) (by rw [g2]; exact b1) 1
    · right
      refine ⟨gR_f ?_, by have := p0 a0; omega⟩
      rw [oA]
      exact gst_f fT (i := 1) (by rw [g1]; exact b0) 2⟩
/-- what an argument's call tells (or that there is none) -/
def AGD (X : List Nat) (I : zJ → Prop) (k : Nat) (T : zJ → Int → zJ × Int) (J1 J : zJ) (A i z m m1 : Int) : Prop := (i < A ∧ GX X J1 J m m1 ∧ (z = -3 ∨ (0 ≤ z ∧ z < m1)) ∧ (∀ S, S 164 21 = 0 → A0 J S → I J → EXK I k (T S i) z J1)) ∨ (¬ i < A ∧ J1 = J ∧ m1 = m)
theorem AGD.gr {X : List Nat} {I : zJ → Prop} {k : Nat} {T : zJ → Int → zJ × Int} {J1 J : zJ} {A i z m m1 : Int} (a : AGD X I k T J1 J A i z m m1) (C : CT J m) (hm : J 6 12 = m) : GX X J1 J m m1 := by
  rcases a with ⟨_, g, _⟩ | ⟨_, e, e'⟩
  · exact g
  · rw [e, e']; exact GX.rf C hm
theorem AGD.rg {X : List Nat} {I : zJ → Prop} {k : Nat} {T : zJ → Int → zJ × Int} {J1 J : zJ} {A i z m m1 : Int} (a : AGD X I k T J1 J A i z m m1) (h : i < A) : z = -3 ∨ (0 ≤ z ∧ z < m1) := by
  rcases a with ⟨_, _, q, _⟩ | ⟨q, _⟩
  · exact q
  · exact absurd h q
def SGK (I : zJ → Prop) (r : zJ × Int) (J1 : zJ) (z A i : Int) : Prop := r.1 164 21 = 0 ∧ A0 J1 r.1 ∧ I J1 ∧ (i < A → 0 ≤ z ∧ z = r.2)
theorem gd_st {X : List Nat} {I : zJ → Prop} {k : Nat} {T : zJ → Int → zJ × Int} {G J1 J : zJ} {A i z m m1 : Int} (hG : G 164 21 = 0) (E : A0 J G) (hI : I J) (a : AGD X I k T J1 J A i z m m1) : (i < A ∧ (z = -3 ∨ (0 ≤ z ∧ k < J1 12 z)) ∧ ¬ (gA T G A i).1 164 21 = 0) ∨ SGK I (gA T G A i) J1 z A i := by
  unfold gA
  rcases a with ⟨h1, _, _, h2⟩ | ⟨h1, h2, _⟩
  · rw [if_pos h1]
    rcases h2 G hG E hI with ⟨q1, q2⟩ | ⟨q0, q1, q2⟩ | ⟨q1, q2, q3, q4, q5⟩
    · exact Or.inl ⟨h1, Or.inl q1, q2⟩
    · exact Or.inl ⟨h1, Or.inr ⟨q0, q2⟩, q1⟩
    · exact Or.inr ⟨q2, q3, q5, fun _ => ⟨q1, q4⟩⟩
  · rw [if_neg h1, h2]
    exact Or.inr ⟨hG, E, hI, fun q => absurd q h1⟩
theorem madeP.ct {J J' : zJ} {m h a b c z : Int} (p : madeP J m h a b c z J') : CT J' (J' 6 12) := by
  obtain ⟨f, s, p⟩ := p
  rcases p with ⟨_, m1, c⟩ | ⟨_, m1, c⟩ | ⟨_, m1, c, _⟩ <;> (rw [m1]; exact c)
theorem bad_z {J2 J' : zJ} {A m2 h z0 z1 z2 z : Int} {k : Nat} (hm2 : 0 ≤ m2) (p : madeP J2 m2 h z0 z1 z2 z J') (ea : arh (J2 3) h = A) (hb : (0 < A ∧ (z0 = -3 ∨ ((0 ≤ z0 ∧ z0 < m2) ∧ k < J2 12 z0))) ∨ (1 < A ∧ (z1 = -3 ∨ ((0 ≤ z1 ∧ z1 < m2) ∧ k < J2 12 z1))) ∨ (2 < A ∧ (z2 = -3 ∨ ((0 ≤ z2 ∧ z2 < m2) ∧ k < J2 12 z2)))) : z = -3 ∨ (0 ≤ z ∧ ((k + 1 : Nat) : Int) < J' 12 z) := by
  by_cases hz : 0 ≤ z
  · right
    obtain ⟨i, ok, hr⟩ := p.is hz
    obtain ⟨p0, p1, p2, _⟩ := ct_dpi p.ct hr i
    have e3 : J' 3 = J2 3 := p.1 3 rfl
    rw [e3, ea] at p0 p1 p2
    rw [ea] at ok
    obtain ⟨o0, o1, o2⟩ := ok
    have d : ∀ u, (0 ≤ u ∧ u < m2) → J' 12 u = J2 12 u := fun u hu => (p.2.1.1 u hu.1 hu.2).2.2.2.2.1
    rcases hb with ⟨b, q | ⟨q, r⟩⟩ | ⟨b, q | ⟨q, r⟩⟩ | ⟨b, q | ⟨q, r⟩⟩
    · have := o0 b; omega
    · have := p0 b; rw [d z0 q] at this; omega
    · have := o1 b; omega
    · have := p1 b; rw [d z1 q] at this; omega
    · have := o2 b; omega
    · have := p2 b; rw [d z2 q] at this; omega
  · left
    obtain ⟨_, _, p⟩ := p
    rcases p with ⟨⟨pz, _⟩, _⟩ | ⟨⟨q, _⟩, _⟩ | ⟨⟨q, _⟩, q2, q3, _⟩
    · exact pz
    · omega
    · omega
theorem gpD {X : List Nat} {I : zJ → Prop} {k : Nat} (hX : zbut (6 :: 7 :: 8 :: 9 :: 10 :: 11 :: 12 :: 13 :: 14 :: 15 :: 16 :: 17 :: X) 1 = true ∧ zbut (6 :: 7 :: 8 :: 9 :: 10 :: 11 :: 12 :: 13 :: 14 :: 15 :: 16 :: 17 :: X) 3 = true) {T : zJ → Int → zJ × Int} (hT : ∀ S i, ¬ S 164 21 = 0 → ¬ (T S i).1 164 21 = 0) {G J J0 J1 J2 J' : zJ} {h A m m0 m1 m2 z0 z1 z2 z : Int} (hG : G 164 21 = 0) (E : A0 J G) (i0 : I J) (C : CT J m) (hm : J 6 12 = m) (hh : -8 ≤ h ∧ h < J 1 3) (hA : arh (J 3) h = A) (a0 : AGD X I k T J0 J A 0 z0 m m0) (a1 : AGD X I k T J1 J0 A 1 z1 m0 m1) (a2 : AGD X I k T J2 J1 A 2 z2 m1 m2) (hI : I J2 → I J') (p : madeP J2 m2 h z0 z1 z2 z J') : EXK I (k + 1) (gR T G h) z J' := by
  have g0 := a0.gr C hm
  have g1 := a1.gr g0.2.1 g0.2.2.1
  have g2 := a2.gr g1.2.1 g1.2.2.1
  have g20 := (g0.tr g1).tr g2
  have g21 := g1.tr g2
  have l0 := g0.1
  have l1 := g1.1
  have l2 := g2.1
  have eA : oar G h = A := (E.ar hh.2).trans hA
  have e3 : J2 3 = J 3 := g20.2.2.2.2 3 hX.2
  have e1 : J2 1 = J 1 := g20.2.2.2.2 1 hX.1
  have ea : arh (J2 3) h = A := by rw [e3, hA]
  have d0 : ∀ u, (0 ≤ u ∧ u < m0) → J2 12 u = J0 12 u := fun u hu => (g21.2.2.2.1.1 u hu.1 hu.2).2.2.2.2.1
  have d1 : ∀ u, (0 ≤ u ∧ u < m1) → J2 12 u = J1 12 u := fun u hu => (g2.2.2.2.1.1 u hu.1 hu.2).2.2.2.2.1
  have fin : ((0 < A ∧ (z0 = -3 ∨ ((0 ≤ z0 ∧ z0 < m2) ∧ k < J2 12 z0))) ∨ (1 < A ∧ (z1 = -3 ∨ ((0 ≤ z1 ∧ z1 < m2) ∧ k < J2 12 z1))) ∨ (2 < A ∧ (z2 = -3 ∨ ((0 ≤ z2 ∧ z2 < m2) ∧ k < J2 12 z2)))) → ¬ (gst T G A 3).1 164 21 = 0 → EXK I (k + 1) (gR T G h) z J' := fun hb hf => by
    have f : ¬ (gR T G h).1 164 21 = 0 := gR_f (by rw [eA]; exact hf)
    rcases bad_z g2.2.1.told.2.1 p ea hb with q | ⟨q1, q2⟩
    · exact Or.inl ⟨q, f⟩
    · exact Or.inr (Or.inl ⟨q1, f, q2⟩)
  rcases gd_st hG E i0 a0 with ⟨y, q, r⟩ | q0
  · refine fin (Or.inl ⟨y, ?_⟩) (gst_f hT (i := 1) r 2)
    have w := a0.rg y
    rcases q with q | ⟨q, q'⟩
    · exact Or.inl q
    · exact Or.inr ⟨by omega, by rw [d0 z0 (by omega)]; exact q'⟩
  · have s1 : gst T G A 1 = gA T G A 0 := rfl
    rcases gd_st q0.1 q0.2.1 q0.2.2.1 a1 with ⟨y, q, r⟩ | q1
    · refine fin (Or.inr (Or.inl ⟨y, ?_⟩)) (gst_f hT (i := 2) r 1)
      have w := a1.rg y
      rcases q with q | ⟨q, q'⟩
      · exact Or.inl q
      · exact Or.inr ⟨by omega, by rw [d1 z1 (by omega)]; exact q'⟩
    · rcases gd_st q1.1 q1.2.1 q1.2.2.1 a2 with ⟨y, q, r⟩ | q2
      · refine fin (Or.inr (Or.inr ⟨y, ?_⟩)) r
        have w := a2.rg y
        rcases q with q | ⟨q, q'⟩
        · exact Or.inl q
        · exact Or.inr ⟨by omega, q'⟩
      · have b0 : 0 < A → 0 ≤ z0 ∧ z0 < m2 := fun u => by
          have r := q0.2.2.2 u
          have w := a0.rg u
          omega
        have b1 : 1 < A → 0 ≤ z1 ∧ z1 < m2 := fun u => by
          have r := q1.2.2.2 u
          have w := a1.rg u
          omega
        have b2 : 2 < A → 0 ≤ z2 ∧ z2 < m2 := fun u => by
          have r := q2.2.2.2 u
          have w := a2.rg u
          omega
        unfold gR
        rw [eA]
        have := q2.2.1.made q2.1 g2.2.1 g2.2.2.1 (h := h) (a := z0) (b := z1) (c := z2) (x := (gst T G A 1).2) (y := (gst T G A 2).2) (w := (gst T G A 3).2) (by rw [e1]; exact hh) (by rw [ea]; exact ⟨fun u => (q0.2.2.2 u).2, fun u => (q1.2.2.2 u).2, fun u => (q2.2.2.2 u).2⟩) (by rw [ea]; exact ⟨b0, b1, b2⟩) p
        rcases this with ⟨u, v⟩ | ⟨u, v, w, x⟩
        · exact Or.inl ⟨u.2, v⟩
        · exact Or.inr (Or.inr ⟨u, v, w, x, hI q2.2.2.1⟩)
/-! ===== what a variable leads to ===== -/
def rho (β h : Int → Int) : Nat → Int → Int
  | 0, t => t
  | j + 1, t => if h t < 0 ∧ ¬ β (-1 - h t) = -1 then rho β h j (β (-1 - h t)) else t
theorem rho_s {β h : Int → Int} {j : Nat} {t : Int} : rho β h (j + 1) t = if h t < 0 ∧ ¬ β (-1 - h t) = -1 then rho β h j (β (-1 - h t)) else t := rfl
theorem rho_n {β h : Int → Int} {t : Int} (e : ¬ (h t < 0 ∧ ¬ β (-1 - h t) = -1)) : ∀ j, rho β h j t = t
  | 0 => rfl
  | j + 1 => by rw [rho_s, if_neg e]
/-- it hangs on no more steps than there are ranks -/
theorem rho_q {β h : Int → Int} {O : Int → Int → Prop} {rk : Int → Nat} {P : Int → Prop} {m : Int} (h8 : ∀ t, (0 ≤ t ∧ t < m) → -8 ≤ h t) (hb : ∀ v, 0 ≤ v → v < 8 → -1 ≤ β v ∧ β v < m) (hO : ∀ t, (0 ≤ t ∧ t < m) → h t < 0 → O t (-1 - h t)) (hR : ∀ v, (0 ≤ v ∧ v < 8) → P v → ¬ β v = -1 → ∀ u, O (β v) u → P u ∧ (¬ β u = -1 → rk u < rk v)) : ∀ (q : Nat) (t : Int), (0 ≤ t ∧ t < m) → (∀ v, O t v → P v ∧ (¬ β v = -1 → rk v < q)) → ∀ j i : Nat, q ≤ j → q ≤ i → rho β h j t = rho β h i t
  | 0, t, ht, hq, j, i, _, _ => by
    have n : ¬ (h t < 0 ∧ ¬ β (-1 - h t) = -1) := fun w => Nat.not_lt_zero _ ((hq _ (hO t ht w.1)).2 w.2)
    rw [rho_n n, rho_n n]
  | q + 1, t, ht, hq, j, i, hj, hi => by
    obtain ⟨j, rfl⟩ : ∃ j', j = j' + 1 := ⟨j - 1, by omega⟩
    obtain ⟨i, rfl⟩ : ∃ i', i = i' + 1 := ⟨i - 1, by omega⟩
    rw [rho_s, rho_s]
    by_cases w : h t < 0 ∧ ¬ β (-1 - h t) = -1
    · rw [if_pos w, if_pos w]
      have b := hq _ (hO t ht w.1)
      have r := b.2 w.2
      have e8 := h8 t ht
      have v8 := hb (-1 - h t) (by omega) (by omega)
      refine rho_q h8 hb hO hR q _ ⟨by omega, v8.2⟩ (fun u o => ?_) j i (by omega) (by omega)
      obtain ⟨x, y⟩ := hR _ (by omega) b.1 w.2 u o
      exact ⟨x, fun n => by have := y n; omega⟩
    · rw [if_neg w, if_neg w]
/-- ranks below 8 -/
theorem NRb.n {S : zJ} {β : Int → Int} {t : Int} (h : NRb S β t) (hb : ∀ v u, (0 ≤ v ∧ v < 8) → ¬ β v = -1 → Occ S 0 0 (β v) u → 0 ≤ u ∧ u < 8) : ∃ (rk : Int → Nat) (P : Int → Prop), (∀ v, (0 ≤ v ∧ v < 8) → P v → ¬ β v = -1 → rk v < 8) ∧ (∀ v, Occ S 0 0 t v → P v) ∧ WTb S β rk P := by
  obtain ⟨rk, P, _, h2, h3⟩ := h
  refine ⟨fun v => cnt (fun u => @decide (P u ∧ ¬ β u = -1 ∧ rk u < rk v) (Classical.propDecidable _)) 8, P, fun v hv p b => ?_, h2, fun v hv p b u o => ?_⟩
  · have := cnt_lt (p := fun _ => true) (q := fun u => @decide (P u ∧ ¬ β u = -1 ∧ rk u < rk v) (Classical.propDecidable _)) 8 (fun _ _ _ _ => rfl) ⟨v, ⟨hv.1, by omega⟩, rfl, @decide_eq_false _ (Classical.propDecidable _) (fun w => Nat.lt_irrefl _ w.2.2)⟩
    have e := cnt_n (p := fun _ => true) 8
    exact Nat.lt_of_lt_of_le this e
  · obtain ⟨a, c⟩ := h3 v hv p b u o
    refine ⟨a, fun bu => ?_⟩
    have l := c bu
    have hu := hb v u hv b o
    refine cnt_lt 8 (fun k _ _ q => ?_) ⟨u, ⟨hu.1, by omega⟩, @decide_eq_true _ (Classical.propDecidable _) ⟨a, bu, l⟩, @decide_eq_false _ (Classical.propDecidable _) (fun w => Nat.lt_irrefl _ w.2.2)⟩
    have q' := @of_decide_eq_true _ (Classical.propDecidable _) q
    exact @decide_eq_true _ (Classical.propDecidable _) ⟨q'.1, q'.2.1, Nat.lt_trans q'.2.2 l⟩
/-- closing a term -/
noncomputable def cloF (S : zJ) (t : Int) : zJ × Int := grO (rho (fun v => S 165 (1 + v) - 1) (fun t => S 166 (0 + t)) 8) 6 S t
end
