theorem LV.none {J : zJ} {n k1 k2 : Nat} {i : Int} (h : LV J n k1 k2 i) : LV J n k1 k2 (i + 6) := by
  obtain ⟨a1, a2, a3, a4, a5, ⟨a6, a7⟩, a8⟩ := h
  exact ⟨a1, a2, a3, by omega, by omega, ⟨by omega, by omega⟩, a8⟩
set_option maxHeartbeats 4000000 in
set_option maxRecDepth 100000 in
theorem law_loop {l : Launch} {G : tb_G} {Lx : Nat} {xs : Nat → Int32} (hl : l.stackTraces = false) (hx : Lx ≤ 3072) : ∀ (f9 : Nat) (i : Int) (k1 k2 n : Nat) (J : zJ) (d5 d6 : Option Value), ((Lx : Int) - i).toNat < f9 → (0 ≤ i ∧ i ≤ 3078) → LVr J n k1 k2 i → tz_At l G M_L_law room_1 (some (Lx, xs)) tb_LZ k1 k2 n J 23 [some (.ref tb_sc), some (.ref 0), some (.ref 164), some (.ref 183), some (zi i), d5, d6] [] := by
  intro f9
  induction f9 with
  | zero => intro i k1 k2 n J d5 d6 hm; exact absurd hm (Nat.not_lt_zero _)
  | succ f9 ih =>
    intro i k1 k2 n J d5 d6 hm hi h
    have h8 : 6 * (k1 : Int) ≤ 1104 + 7 * i ∧ 6 * (k2 : Int) ≤ 325950 + 21 * i := h.1.2.2.2.2.2.1
    by_cases hc : i + 6 ≤ (Lx : Int)
    · have nx : ∀ (k1 k2 n : Nat) (J : zJ) (d5 d6 : Option Value), LVr J n k1 k2 (i + 6) → tz_At l G M_L_law room_1 (some (Lx, xs)) tb_LZ k1 k2 n J 1330 [some (.ref tb_sc), some (.ref 0), some (.ref 164), some (.ref 183), some (zi i), d5, d6] [] := by
        intro k1 k2 n J d5 d6 h2
        refine tz_iinc (pc := 1330) (z := i + 6) (L2 := [_, _, _, _, _, _, _]) dL_law_1330 rfl (by omega) rfl ?_
        refine tz_goto (pc := 1333) (tgt := 23) dL_law_1333 (by decide) ?_
        exact ih (i + 6) _ _ _ _ _ _ (by omega) (by omega) h2
      refine tz_iload (pc := 23) dL_law_23 rfl ?_
      refine tz_aload_n (pc := 25) dL_law_25 rfl rfl ?_
      refine tz_slen (pc := 26) rfl dL_law_26 ?_
      refine tz_bipush (pc := 27) dL_law_27 (by decide) ?_
      refine tz_isub (pc := 29) (v := (Lx : Int) - 6) dL_law_29 rfl ?_
      refine tz_icmp_gtF (pc := 30) (tgt := 1336) (by omega) dL_law_30 (by decide) (by omega) (by omega) ?_
      refine tz_aload_n (pc := 33) dL_law_33 rfl rfl ?_
      refine tz_iload (pc := 34) dL_law_34 rfl ?_
      refine tz_sld (pc := 36) (z := i) rfl dL_law_36 (by omega) (by omega) (fun r_36 => ?_)
      refine tz_bipush (pc := 37) dL_law_37 (by decide) ?_
      refine tz_iand (pc := 39) (v := zand ((xs (Int.toNat i)).toInt) 63) dL_law_39 rfl ?_
      have hj := z_and (xs (Int.toNat i)).toInt (m := 63) 6 (by decide) (by decide)
      generalize zand (xs (Int.toNat i)).toInt 63 = j at hj ⊢
      by_cases hs_40 : j < 0 ∨ 32 < j
      · refine tz_tabOut (pc := 40) (tgt := 1330) dL_law_40 (by omega) hs_40 (by decide) ?_
        exact nx _ _ _ _ _ _ ⟨LV.none h.1, h.2⟩
      · have hs9 : j = 0 ∨ j = 1 ∨ j = 2 ∨ j = 3 ∨ j = 4 ∨ j = 5 ∨ j = 6 ∨ j = 7 ∨ j = 8 ∨ j = 9 ∨ j = 10 ∨ j = 11 ∨ j = 12 ∨ j = 13 ∨ j = 14 ∨ j = 15 ∨ j = 16 ∨ j = 17 ∨ j = 18 ∨ j = 19 ∨ j = 20 ∨ j = 21 ∨ j = 22 ∨ j = 23 ∨ j = 24 ∨ j = 25 ∨ j = 26 ∨ j = 27 ∨ j = 28 ∨ j = 29 ∨ j = 30 ∨ j = 31 ∨ j = 32 := by omega
        rcases hs9 with hc_40 | hc_40 | hc_40 | hc_40 | hc_40 | hc_40 | hc_40 | hc_40 | hc_40 | hc_40 | hc_40 | hc_40 | hc_40 | hc_40 | hc_40 | hc_40 | hc_40 | hc_40 | hc_40 | hc_40 | hc_40 | hc_40 | hc_40 | hc_40 | hc_40 | hc_40 | hc_40 | hc_40 | hc_40 | hc_40 | hc_40 | hc_40 | hc_40
        · refine tz_tabIn (pc := 40) (tgt := 188) 0 dL_law_40 hc_40 (by decide) rfl (by decide) ?_
          exact law_feed hl i (by omega) hx _ _ h nx
        · refine tz_tabIn (pc := 40) (tgt := 261) 1 dL_law_40 hc_40 (by decide) rfl (by decide) ?_
          exact law_bank hl i (by omega) hx _ _ h nx
        · refine tz_tabIn (pc := 40) (tgt := 289) 2 dL_law_40 hc_40 (by decide) rfl (by decide) ?_
          exact law_fault hl i (by omega) hx _ _ h nx
        · refine tz_tabIn (pc := 40) (tgt := 302) 3 dL_law_40 hc_40 (by decide) rfl (by decide) ?_
          exact law_count hl i (by omega) hx _ _ h nx
        · refine tz_tabIn (pc := 40) (tgt := 330) 4 dL_law_40 hc_40 (by decide) rfl (by decide) ?_
          exact law_symbol hl i (by omega) hx _ _ h nx
        · refine tz_tabIn (pc := 40) (tgt := 370) 5 dL_law_40 hc_40 (by decide) rfl (by decide) ?_
          exact law_term hl i (by omega) hx _ _ h nx
        · refine tz_tabIn (pc := 40) (tgt := 410) 6 dL_law_40 hc_40 (by decide) rfl (by decide) ?_
          exact law_argument hl i (by omega) hx _ _ h nx
        · refine tz_tabIn (pc := 40) (tgt := 450) 7 dL_law_40 hc_40 (by decide) rfl (by decide) ?_
          exact law_place hl i (by omega) hx _ _ h nx
        · refine tz_tabIn (pc := 40) (tgt := 490) 8 dL_law_40 hc_40 (by decide) rfl (by decide) ?_
          exact law_order hl i (by omega) hx _ _ h nx
        · refine tz_tabIn (pc := 40) (tgt := 530) 9 dL_law_40 hc_40 (by decide) rfl (by decide) ?_
          exact law_find hl i (by omega) hx _ _ h nx
        · refine tz_tabIn (pc := 40) (tgt := 570) 10 dL_law_40 hc_40 (by decide) rfl (by decide) ?_
          exact law_rule hl i (by omega) hx _ _ h nx
        · refine tz_tabIn (pc := 40) (tgt := 610) 11 dL_law_40 hc_40 (by decide) rfl (by decide) ?_
          exact law_entry hl i (by omega) hx _ _ h nx
        · refine tz_tabIn (pc := 40) (tgt := 638) 12 dL_law_40 hc_40 (by decide) rfl (by decide) ?_
          exact law_memo hl i (by omega) hx _ _ h nx
        · refine tz_tabIn (pc := 40) (tgt := 678) 13 dL_law_40 hc_40 (by decide) rfl (by decide) ?_
          exact law_bound hl i (by omega) hx _ _ h nx
        · refine tz_tabIn (pc := 40) (tgt := 706) 14 dL_law_40 hc_40 (by decide) rfl (by decide) ?_
          exact law_variable hl i (by omega) hx _ _ h nx
        · refine tz_tabIn (pc := 40) (tgt := 731) 15 dL_law_40 hc_40 (by decide) rfl (by decide) ?_
          exact law_make hl i (by omega) hx _ _ h nx
        · refine tz_tabIn (pc := 40) (tgt := 792) 16 dL_law_40 hc_40 (by decide) rfl (by decide) ?_
          exact law_bind hl i (by omega) hx _ _ h nx
        · refine tz_tabIn (pc := 40) (tgt := 829) 17 dL_law_40 hc_40 (by decide) rfl (by decide) ?_
          exact law_apply hl i (by omega) hx _ _ h nx
        · refine tz_tabIn (pc := 40) (tgt := 854) 18 dL_law_40 hc_40 (by decide) rfl (by decide) ?_
          exact law_close hl i (by omega) hx _ _ h nx
        · refine tz_tabIn (pc := 40) (tgt := 879) 19 dL_law_40 hc_40 (by decide) rfl (by decide) ?_
          exact law_unify hl i (by omega) hx _ _ h nx
        · refine tz_tabIn (pc := 40) (tgt := 916) 20 dL_law_40 hc_40 (by decide) rfl (by decide) ?_
          exact law_match hl i (by omega) hx _ _ h nx
        · refine tz_tabIn (pc := 40) (tgt := 953) 21 dL_law_40 hc_40 (by decide) rfl (by decide) ?_
          exact law_common hl i (by omega) hx _ _ h nx
        · refine tz_tabIn (pc := 40) (tgt := 990) 22 dL_law_40 hc_40 (by decide) rfl (by decide) ?_
          exact law_normal hl i (by omega) hx _ _ h nx
        · refine tz_tabIn (pc := 40) (tgt := 1015) 23 dL_law_40 hc_40 (by decide) rfl (by decide) ?_
          exact law_put hl i (by omega) hx _ _ h nx
        · refine tz_tabIn (pc := 40) (tgt := 1064) 24 dL_law_40 hc_40 (by decide) rfl (by decide) ?_
          exact law_rules hl i (by omega) hx _ _ h nx
        · refine tz_tabIn (pc := 40) (tgt := 1101) 25 dL_law_40 hc_40 (by decide) rfl (by decide) ?_
          exact law_enter hl i (by omega) hx _ _ h nx
        · refine tz_tabIn (pc := 40) (tgt := 1126) 26 dL_law_40 hc_40 (by decide) rfl (by decide) ?_
          exact law_leave hl i (by omega) hx _ _ h nx
        · refine tz_tabIn (pc := 40) (tgt := 1151) 27 dL_law_40 hc_40 (by decide) rfl (by decide) ?_
          exact law_room hl i (by omega) hx _ _ h nx
        · refine tz_tabIn (pc := 40) (tgt := 1176) 28 dL_law_40 hc_40 (by decide) rfl (by decide) ?_
          exact law_draw hl i (by omega) hx _ _ h nx
        · refine tz_tabIn (pc := 40) (tgt := 1213) 29 dL_law_40 hc_40 (by decide) rfl (by decide) ?_
          exact law_undo hl i (by omega) hx _ _ h nx
        · refine tz_tabIn (pc := 40) (tgt := 1226) 30 dL_law_40 hc_40 (by decide) rfl (by decide) ?_
          exact law_years hl i (by omega) hx _ _ h nx
        · refine tz_tabIn (pc := 40) (tgt := 1306) 31 dL_law_40 hc_40 (by decide) rfl (by decide) ?_
          exact law_image hl i (by omega) hx _ _ h nx
        · refine tz_tabIn (pc := 40) (tgt := 1317) 32 dL_law_40 hc_40 (by decide) rfl (by decide) ?_
          exact law_restore hl i (by omega) hx _ _ h nx
    · refine tz_iload (pc := 23) dL_law_23 rfl ?_
      refine tz_aload_n (pc := 25) dL_law_25 rfl rfl ?_
      refine tz_slen (pc := 26) rfl dL_law_26 ?_
      refine tz_bipush (pc := 27) dL_law_27 (by decide) ?_
      refine tz_isub (pc := 29) (v := (Lx : Int) - 6) dL_law_29 rfl ?_
      refine tz_icmp_gtT (pc := 30) (tgt := 1336) (by omega) dL_law_30 (by decide) (by omega) (by omega) ?_
      refine tz_iconst (pc := 1336) dL_law_1336 ?_
      exact tz_lret (pc := 1337) dL_law_1337 (by omega) (by omega)
theorem zj0 {c : Nat} {k : Int} {v : Int32} {z : Int} (h : tb_I0 c k.toNat = v) (hz : v.toInt = z) : zj tb_I0 c k = z := by
  show (tb_I0 c k.toNat).toInt = z
  rw [h, hz]
theorem i0_b : ∀ b ∈ List.range 256, tb_I0 16 b = -1 := by decide +kernel
theorem i0_l : ∀ k ∈ List.range 61, tb_I0 19 k = (if k = 1 then 4 else if 7 ≤ k ∧ k < 15 then -1 else 0) := by decide +kernel
theorem i0_146 : ∀ k ∈ List.range 800, tb_I0 146 k = 0 := by decide +kernel
theorem i0_165 : ∀ k ∈ List.range 63, tb_I0 165 k = (if k = 39 then 4 else 0) := by decide +kernel
theorem ci0 : CI (zj tb_I0) 0 := by
  have e3 : zj tb_I0 1 3 = 0 := zj0 (v := 0) (by decide +kernel) (by decide)
  have e10 : zj tb_I0 145 10 = 0 := zj0 (v := 0) (by decide +kernel) (by decide)
  have e13 : zj tb_I0 0 13 = 0 := zj0 (v := 0) (by decide +kernel) (by decide)
  have e5 : zj tb_I0 5 5 = 0 := zj0 (v := 0) (by decide +kernel) (by decide)
  have e6 : zj tb_I0 5 6 = 0 := zj0 (v := 0) (by decide +kernel) (by decide)
  refine ⟨⟨⟨⟨⟨?_, ?_⟩, fun t a b => by omega, fun b x y => ⟨Or.inl ?_, fun t a b => by omega⟩⟩, zj0 (v := 0) (by decide +kernel) (by decide), LI.new (by decide) (fun k x y => ?_)⟩, ⟨by omega, fun k x y => ?_⟩, ⟨⟨by omega, zj0 (v := -1) (by decide +kernel) (by decide)⟩, Or.inl (zj0 (v := 0) (by decide +kernel) (by decide))⟩⟩, by omega, fun k x y => by omega⟩
  · unfold cTT
    rw [e3]
    exact ⟨⟨by decide, fun k a b => by omega⟩, by decide, fun t a b => by omega, fun s t a b => by omega⟩
  · unfold cSW
    rw [e3]
    intro k a b
    omega
  · exact zj0 (i0_b b.toNat (List.mem_range.mpr (by omega))) (by decide)
  · rw [show zj tb_I0 19 k = (tb_I0 19 k.toNat).toInt from rfl, i0_l k.toNat (List.mem_range.mpr (by omega))]
    by_cases h1 : k = 1
    · rw [if_pos h1, if_pos (by omega)]; decide
    · rw [if_neg h1, if_neg (by omega)]
      by_cases h7 : 7 ≤ k ∧ k < 15
      · rw [if_pos h7, if_pos (by omega)]; decide
      · rw [if_neg h7, if_neg (by omega)]; decide
  · rw [e10, zj0 (z := 0) (i0_146 k.toNat (List.mem_range.mpr (by omega))) (by decide)]
    decide
theorem mi0 : MI (zj tb_I0) 0 := by
  have f : ∀ k : Nat, tb_I0 164 k = 0 → ∀ z : Int, z.toNat = k → zj tb_I0 164 z = 0 := fun k h z e => zj0 (v := 0) (by rw [e]; exact h) (by decide)
  have e9 : zj tb_I0 164 9 = 0 := f 9 (by decide +kernel) 9 rfl
  have e10 : zj tb_I0 164 10 = 0 := f 10 (by decide +kernel) 10 rfl
  have e11 : zj tb_I0 164 11 = 0 := f 11 (by decide +kernel) 11 rfl
  have e14 : zj tb_I0 164 14 = 0 := f 14 (by decide +kernel) 14 rfl
  have e15 : zj tb_I0 164 15 = 0 := f 15 (by decide +kernel) 15 rfl
  have e16 : zj tb_I0 164 16 = 0 := f 16 (by decide +kernel) 16 rfl
  have e17 : zj tb_I0 164 17 = 0 := f 17 (by decide +kernel) 17 rfl
  have e19 : zj tb_I0 164 19 = 0 := f 19 (by decide +kernel) 19 rfl
  have r : ∀ k : Int, 0 ≤ k → k < 63 → zj tb_I0 165 k = if k = 39 then 4 else 0 := fun k a b => by
    rw [show zj tb_I0 165 k = (tb_I0 165 k.toNat).toInt from rfl, i0_165 k.toNat (List.mem_range.mpr (by omega))]
    by_cases h1 : k = 39
    · rw [if_pos h1, if_pos (by omega)]; decide
    · rw [if_neg h1, if_neg (by omega)]; decide
  have r0 : ∀ k : Int, 0 ≤ k → k < 63 → ¬ k = 39 → zj tb_I0 165 k = 0 := fun k a b c => by rw [r k a b, if_neg c]
  have r39 : zj tb_I0 165 39 = 4 := by rw [r 39 (by decide) (by decide), if_pos rfl]
  have z9 := r0 9 (by decide) (by decide) (by decide)
  have z26 := r0 26 (by decide) (by decide) (by decide)
  have z40 := r0 40 (by decide) (by decide) (by decide)
  refine ⟨⟨Or.inl ⟨rfl, rfl, rfl⟩, e15, e16, e17, r0 0 (by decide) (by decide) (by decide), ?_⟩, ⟨⟨by omega, fun k a b => by omega⟩, ⟨by omega, by omega, fun k a b => by omega⟩, ⟨by omega, fun k a b => by omega⟩, fun v a b => ?_⟩, ?_, by omega, Or.inl e14⟩
  · rw [e9]
    exact ⟨⟨by decide, fun k a b => by omega⟩, by decide, fun t a b => by omega, fun s t a b => by omega⟩
  · have := r0 v (by omega) (by omega) (by omega)
    omega
  · rw [e10, e11]
    exact ⟨by decide, fun k a b => by omega⟩
theorem al0 : AL (zj tb_I0) := by
  have f : ∀ k : Nat, tb_I0 164 k = 0 → ∀ z : Int, z.toNat = k → zj tb_I0 164 z = 0 := fun k h z e => zj0 (v := 0) (by rw [e]; exact h) (by decide)
  have e9 : zj tb_I0 164 9 = 0 := f 9 (by decide +kernel) 9 rfl
  have e10 : zj tb_I0 164 10 = 0 := f 10 (by decide +kernel) 10 rfl
  have e14 : zj tb_I0 164 14 = 0 := f 14 (by decide +kernel) 14 rfl
  have e13 : zj tb_I0 1 3 = 0 := zj0 (v := 0) (by decide +kernel) (by decide)
  have e6 : zj tb_I0 6 12 = 0 := zj0 (v := 0) (by decide +kernel) (by decide)
  have e56 : zj tb_I0 5 6 = 0 := zj0 (v := 0) (by decide +kernel) (by decide)
  have r : ∀ k : Int, 0 ≤ k → k < 63 → zj tb_I0 165 k = if k = 39 then 4 else 0 := fun k a b => by
    rw [show zj tb_I0 165 k = (tb_I0 165 k.toNat).toInt from rfl, i0_165 k.toNat (List.mem_range.mpr (by omega))]
    by_cases h1 : k = 39
    · rw [if_pos h1, if_pos (by omega)]; decide
    · rw [if_neg h1, if_neg (by omega)]; decide
  have q : ∀ k : Int, 0 ≤ k → k < 61 → zj tb_I0 19 k = if k = 1 then 4 else if 7 ≤ k ∧ k < 15 then -1 else 0 := fun k a b => by
    rw [show zj tb_I0 19 k = (tb_I0 19 k.toNat).toInt from rfl, i0_l k.toNat (List.mem_range.mpr (by omega))]
    by_cases h1 : k = 1
    · rw [if_pos h1, if_pos (by omega)]; decide
    · rw [if_neg h1, if_neg (by omega)]
      by_cases h7 : 7 ≤ k ∧ k < 15
      · rw [if_pos h7, if_pos (by omega)]; decide
      · rw [if_neg h7, if_neg (by omega)]; decide
  generalize zj tb_I0 = J at *
  have z : ∀ k, 0 ≤ k → k < 63 → tbz J 165 k = if k = 39 then 4 else 0 := fun k a b => (show tbz J 165 k = J 165 k from if_pos ⟨a, b⟩).trans (r k a b)
  have z0 : tbz J 165 0 = 0 := (z 0 (by decide) (by decide)).trans (if_neg (by decide))
  have z9 : tbz J 165 9 = 0 := (z 9 (by decide) (by decide)).trans (if_neg (by decide))
  have z26 : tbz J 165 26 = 0 := (z 26 (by decide) (by decide)).trans (if_neg (by decide))
  have z40 : tbz J 165 40 = 0 := (z 40 (by decide) (by decide)).trans (if_neg (by decide))
  have s9 : tbz J 164 9 = 0 := e9
  refine ⟨0, (fun _ _ => 0), ⟨⟨⟨e13.trans s9.symm, fun k a b => absurd b (by rw [s9]; omega)⟩, e6.trans z0.symm, fun t a b => absurd b (by rw [z0]; omega), fun t i a b => absurd b (by rw [z0]; omega)⟩, ⟨⟨?_, ?_, ?_⟩, ⟨?_, fun i a b => absurd b (by rw [z9]; omega)⟩, ⟨?_, fun i a b => absurd b (by rw [z26]; omega)⟩, ⟨?_, fun i a b => absurd b (by rw [z40]; omega)⟩, fun v a b => ?_⟩, e56, fun k a b => absurd b (by omega)⟩, ⟨e10, fun k a b => absurd b (by omega)⟩, fun w => absurd e14 w⟩
  · rw [q 1 (by decide) (by decide), z 39 (by decide) (by decide), if_pos rfl, if_pos rfl]
  · rw [q 2 (by decide) (by decide), z 61 (by decide) (by decide), if_neg (by decide), if_neg (by decide), if_neg (by decide)]
  · rw [q 3 (by decide) (by decide), z 62 (by decide) (by decide), if_neg (by decide), if_neg (by decide), if_neg (by decide)]
  · rw [q 4 (by decide) (by decide), z9, if_neg (by decide), if_neg (by decide)]
  · rw [q 5 (by decide) (by decide), z26, if_neg (by decide), if_neg (by decide)]
  · rw [q 6 (by decide) (by decide), z40, if_neg (by decide), if_neg (by decide)]
  · rw [q (7 + v) (by omega) (by omega), z (1 + v) (by omega) (by omega), if_neg (by omega), if_pos (by omega), if_neg (by omega)]
    decide
theorem wvx0 : WVX (zj tb_I0) := by
  have e4 : zj tb_I0 19 4 = 0 := zj0 (v := 0) (by decide +kernel) (by decide)
  have e5 : zj tb_I0 19 6 = 0 := zj0 (v := 0) (by decide +kernel) (by decide)
  have e6 : zj tb_I0 5 6 = 0 := zj0 (v := 0) (by decide +kernel) (by decide)
  have e15 : zj tb_I0 0 15 = 0 := zj0 (v := 0) (by decide +kernel) (by decide)
  exact ⟨⟨⟨fun i a b => absurd b (by rw [e4]; omega), fun i a b => absurd b (by rw [e5]; omega)⟩, fun k a b => absurd b (by rw [e6]; omega)⟩, fun w => absurd e15 w⟩
theorem tapes0 : zj tb_I0 162 = zj tb_I0 173 := rfl
theorem lv0 : LV (zj tb_I0) 184 184 54325 0 := ⟨⟨0, ci0⟩, ⟨0, mi0⟩, ⟨by rw [zj0 (c := 0) (k := 13) (v := 0) (z := 0) (by decide +kernel) (by decide), zj0 (c := 164) (k := 19) (v := 0) (z := 0) (by decide +kernel) (by decide)], tapes0, by rw [zj0 (c := 0) (k := 15) (v := 0) (z := 0) (by decide +kernel) (by decide), zj0 (c := 164) (k := 14) (v := 0) (z := 0) (by decide +kernel) (by decide)], by rw [zj0 (c := 0) (k := 14) (v := -1) (z := -1) (by decide +kernel) (by decide), zj0 (c := 164) (k := 20) (v := -1) (z := -1) (by decide +kernel) (by decide)]⟩, by rw [zj0 (c := 145) (k := 10) (v := 0) (z := 0) (by decide +kernel) (by decide)]; decide, by decide, by decide, al0⟩
theorem law_start {l : Launch} {G : tb_G} {Lx : Nat} {xs : Nat → Int32} (hl : l.stackTraces = false) (hx : Lx ≤ 3072) : tz_At l G M_L_law room_1 (some (Lx, xs)) tb_LZ 184 54325 184 (zj tb_I0) 20 [some (.ref tb_sc), some (.ref 0), some (.ref 164), some (.ref 183), none, none, none] [] := by
  refine tz_iconst (pc := 20) dL_law_20 ?_
  refine tz_istore (pc := 21) (L2 := [_, _, _, _, _, _, _]) dL_law_21 (by decide) rfl ?_
  exact law_loop hl hx _ 0 _ _ _ _ _ _ (Nat.lt_succ_self _) (by decide) ⟨lv0, wvx0⟩
theorem whole_start {p : Program} {e : Env} {s : State} {m : MethodId} {below : List Frame} {meth : Method} {c : Code} (l : Launch) (hflags : l.flags = flags0) {b L : Nat} {xs : Nat → Int32} (hL : L ≤ 3072) (C0 : lw_At p s m meth c b L xs) : W p l e room_1 s m #[Value.ref b] below meth c s.heap [] 0 0 (lw_Z below #[Value.ref b] s) (entryFrame m ([Value.ref b] : List Value).toArray 7) := by
  have hst := tb_stack0 l hflags
  refine tb_start l hst C0 (fun G => law_new hst ?_)
  have hz : zok 184 (zj tb_I0) := ⟨by decide, zj_rg _⟩
  have h0 : zI (zj tb_I0) = tb_I0 := zI_zj _
  have h9 := law_start (G := G) (xs := xs) hst hL hz
  rw [h0] at h9
  exact h9
