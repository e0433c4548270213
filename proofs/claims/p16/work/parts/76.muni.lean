/-! ===== classes of nodes ===== -/
def UN1 (J : zJ) (c m : Int) (rk : Int → Nat) (k : Int) : Prop := ((0 ≤ J 177 k ∧ J 177 k < c) ∧ (J 177 k = k ∨ rk (J 177 k) < rk k)) ∧ (J 178 k = -1 ∨ (0 ≤ J 178 k ∧ J 178 k < c ∧ J 178 k % 400 < m)) ∧ (k % 400 < m → J 177 k % 400 < m ∧ (J 178 k = -1 → 0 ≤ J 179 k ∧ J 179 k < 8))
def UF (J : zJ) (c m : Int) : Prop := (c = 400 ∨ c = 800) ∧ ∃ rk : Int → Nat, ∀ k, 0 ≤ k → k < c → UN1 J c m rk k
/-- how many nodes of a kind there are -/
def cnt (p : Int → Bool) : Nat → Nat
  | 0 => 0
  | k + 1 => cnt p k + if p (k : Int) then 1 else 0
theorem cnt_le {p q : Int → Bool} : ∀ (n : Nat), (∀ k : Int, 0 ≤ k → k < n → q k = true → p k = true) → cnt q n ≤ cnt p n
  | 0, _ => Nat.le_refl _
  | n + 1, h => by
    have h1 := cnt_le n (fun k a b => h k a (by omega))
    have h2 := h n (by omega) (by omega)
    show cnt q n + _ ≤ cnt p n + _
    by_cases hq : q (n : Int) = true
    · rw [if_pos hq, if_pos (h2 hq)]
      omega
    · rw [if_neg hq]
      omega
theorem cnt_lt {p q : Int → Bool} : ∀ (n : Nat), (∀ k : Int, 0 ≤ k → k < n → q k = true → p k = true) → (∃ k : Int, (0 ≤ k ∧ k < n) ∧ p k = true ∧ q k = false) → cnt q n < cnt p n
  | 0, _, ⟨k, hk, _⟩ => by omega
  | n + 1, h, ⟨k, hk, hp, hq⟩ => by
    have h2 := h n (by omega) (by omega)
    show cnt q n + _ < cnt p n + _
    by_cases e : k = n
    · subst e
      have h1 := cnt_le n (fun k a b => h k a (by omega))
      rw [if_pos hp, if_neg (by rw [hq]; decide)]
      omega
    · have h1 := cnt_lt n (fun k a b => h k a (by omega)) ⟨k, by omega, hp, hq⟩
      by_cases hq2 : q (n : Int) = true
      · rw [if_pos hq2, if_pos (h2 hq2)]
        omega
      · rw [if_neg hq2]
        omega
theorem cnt_n {p : Int → Bool} : ∀ n : Nat, cnt p n ≤ n
  | 0 => Nat.le_refl _
  | n + 1 => by
    have := cnt_n (p := p) n
    show cnt p n + _ ≤ n + 1
    split <;> omega
def rc (J : zJ) : Nat := cnt (fun k => decide (J 177 k = k)) 800
def wc (J : zJ) : Nat := cnt (fun k => decide (¬ J 180 k = 1 ∧ ¬ J 180 k = 2)) 800
theorem UF.join {J : zJ} {c m a b v w : Int} (h : UF J c m) (ha : (0 ≤ a ∧ a < c) ∧ a % 400 < m ∧ J 177 a = a) (hb : (0 ≤ b ∧ b < c) ∧ b % 400 < m ∧ J 177 b = b) (hab : ¬ a = b) (hv : v = -1 ∨ (0 ≤ v ∧ v < c ∧ v % 400 < m)) (hw : v = -1 → 0 ≤ w ∧ w < 8) : UF (zup (zup (zup J 177 b a) 178 a v) 179 a w) c m := by
  obtain ⟨hc, rk, h⟩ := h
  refine ⟨hc, fun x => if x = a then 0 else rk x + 1, fun k p q => ?_⟩
  have e7 : zup (zup (zup J 177 b a) 178 a v) 179 a w 177 k = if k = b then a else J 177 k := rfl
  have e8 : zup (zup (zup J 177 b a) 178 a v) 179 a w 178 k = if k = a then v else J 178 k := rfl
  have e9 : zup (zup (zup J 177 b a) 178 a v) 179 a w 179 k = if k = a then w else J 179 k := rfl
  unfold UN1
  rw [e7, e8, e9]
  obtain ⟨⟨h1, h2⟩, h3, h4⟩ := h k p q
  refine ⟨?_, ?_, fun hk => ?_⟩
  · by_cases e : k = b
    · rw [if_pos e]
      refine ⟨ha.1, Or.inr ?_⟩
      show (if a = a then 0 else rk a + 1) < (if k = a then 0 else rk k + 1)
      rw [if_pos rfl, if_neg (by omega)]
      omega
    · rw [if_neg e]
      refine ⟨h1, h2.imp id (fun g => ?_)⟩
      have hka : ¬ k = a := fun e2 => by subst e2; rw [ha.2.2] at g; omega
      show (if J 177 k = a then 0 else rk (J 177 k) + 1) < (if k = a then 0 else rk k + 1)
      rw [if_neg hka]
      split <;> omega
  · split
    · exact hv
    · exact h3
  · refine ⟨?_, ?_⟩
    · split
      · exact ha.2.1
      · exact (h4 hk).1
    · split
      · exact hw
      · exact (h4 hk).2
theorem rc_join {J : zJ} {a b v w : Int} (hb : (0 ≤ b ∧ b < 800) ∧ J 177 b = b) (hab : ¬ a = b) : rc (zup (zup (zup J 177 b a) 178 a v) 179 a w) < rc J := by
  refine cnt_lt 800 (fun k p q g => ?_) ⟨b, hb.1, decide_eq_true hb.2, decide_eq_false ?_⟩
  · have g1 := of_decide_eq_true g
    have e7 : zup (zup (zup J 177 b a) 178 a v) 179 a w 177 k = if k = b then a else J 177 k := rfl
    rw [e7] at g1
    refine decide_eq_true ?_
    by_cases e : k = b
    · rw [e]; exact hb.2
    · rw [if_neg e] at g1; exact g1
  · have e7 : zup (zup (zup J 177 b a) 178 a v) 179 a w 177 b = if b = b then a else J 177 b := rfl
    rw [e7, if_pos rfl]
    exact hab
theorem UF.of {J' J : zJ} {c m : Int} (h : UF J c m) (e7 : J' 177 = J 177) (e8 : J' 178 = J 178) (e9 : J' 179 = J 179) : UF J' c m := by
  unfold UF UN1
  rw [e7, e8, e9]
  exact h
theorem UF.at {J : zJ} {c m k : Int} (h : UF J c m) (hk : 0 ≤ k ∧ k < c) : (0 ≤ J 177 k ∧ J 177 k < c) ∧ (J 178 k = -1 ∨ (0 ≤ J 178 k ∧ J 178 k < c ∧ J 178 k % 400 < m)) ∧ (k % 400 < m → J 177 k % 400 < m ∧ (J 178 k = -1 → 0 ≤ J 179 k ∧ J 179 k < 8)) := by
  obtain ⟨-, rk, h⟩ := h
  obtain ⟨⟨h1, -⟩, h3, h4⟩ := h k hk.1 hk.2
  exact ⟨h1, h3, h4⟩
set_option maxHeartbeats 4000000 in
set_option maxRecDepth 100000 in
theorem m_top {l : Launch} {G : tb_G} (hl : l.stackTraces = false) (n : Nat) (J : zJ) (x : Int) (hr_x : -2147483648 ≤ x ∧ x < 2147483648) (c m : Int) (hU : UF J c m) (hx : 0 ≤ x ∧ x < c) : tz_Ok l G M_X12_top 0 0 0 [.ref 164, zi x] n J (zqi (fun z J' => J = J' ∧ (0 ≤ z ∧ z < c) ∧ J 177 z = z ∧ (x % 400 < m → z % 400 < m))) zN := by
  refine tz_Ok.of hl (by decide +kernel) rfl (tb_c1 rfl) (Nat.le_of_ble_eq_true rfl) ?_
  show tz_At l G M_X12_top (tb_rm 0 0 0) none (tb_ZM G 0 0 (zQ n 0 (zqi (fun z J' => J = J' ∧ (0 ≤ z ∧ z < c) ∧ J 177 z = z ∧ (x % 400 < m → z % 400 < m)))) (zX n 0 zN)) 0 0 n J 0 [some (.ref 164), some (zi x), none] []
  obtain ⟨hc, rk, hu⟩ := hU
  refine tz_iload_n (pc := 0) dX12_top_0 rfl rfl ?_
  refine tz_istore_n (pc := 1) (L2 := [_, _, _]) dX12_top_1 rfl (by decide) rfl ?_
  have loop2 : ∀ (f9 : Nat) (k : Int), (rk k) < f9 → (0 ≤ k ∧ k < c) → (x % 400 < m → k % 400 < m) → tz_At l G M_X12_top (tb_rm 0 0 0) none (tb_ZM G 0 0 (zQ n 0 (zqi (fun z J' => J = J' ∧ (0 ≤ z ∧ z < c) ∧ J 177 z = z ∧ (x % 400 < m → z % 400 < m)))) (zX n 0 zN)) 0 0 n J 2 [some (.ref 164), some (zi x), some (zi k)] [] := by
    intro f9
    induction f9 with
    | zero => intro k hm9; exact absurd hm9 (Nat.not_lt_zero _)
    | succ f9 ih2 =>
      intro k hm2 hk hv
      obtain ⟨h1, h2, h3⟩ := hu k hk.1 hk.2
      refine tz_aload_n (pc := 2) dX12_top_2 rfl rfl ?_
      refine tz_fR (pc := 3) dX12_top_3 fl_X12_50 r_164_25 ?_
      refine tz_iload_n (pc := 6) dX12_top_6 rfl rfl ?_
      refine tz_aL (pc := 7) (z := k) (v := (J 177 k)) dX12_top_7 a_177 rfl (by omega) rfl (fun r_7 => ?_)
      refine tz_iload_n (pc := 8) dX12_top_8 rfl rfl ?_
      refine tz_icmp_eq (pc := 9) (tgt := 22) dX12_top_9 (by decide) (by omega) (by omega) (fun h_9 => ?_) (fun h_9 => ?_)
      · refine tz_iload_n (pc := 22) dX12_top_22 rfl rfl ?_
        exact tz_iret (pc := 23) (z := k) dX12_top_23 rfl (Nat.le_of_ble_eq_true rfl) (Nat.le_of_ble_eq_true rfl) ⟨Nat.le_refl _, Nat.le_add_right _ _⟩ ⟨_, rfl, (by omega), ⟨rfl, hk, by omega, hv⟩⟩
      · refine tz_aload_n (pc := 12) dX12_top_12 rfl rfl ?_
        refine tz_fR (pc := 13) dX12_top_13 fl_X12_50 r_164_25 ?_
        refine tz_iload_n (pc := 16) dX12_top_16 rfl rfl ?_
        refine tz_aL (pc := 17) (z := k) (v := (J 177 k)) dX12_top_17 a_177 rfl (by omega) rfl (fun r_17 => ?_)
        refine tz_istore_n (pc := 18) (L2 := [_, _, _]) dX12_top_18 rfl (by decide) rfl ?_
        refine tz_goto (pc := 19) (tgt := 2) dX12_top_19 (by decide) ?_
        exact ih2 _ (by have := h1.2.resolve_left (by omega); omega) h1.1 (fun q9 => (h3 (hv q9)).1)
  exact loop2 _ _ (Nat.lt_succ_self _) hx id

set_option maxHeartbeats 4000000 in
set_option maxRecDepth 100000 in
theorem m_argOf {l : Launch} {G : tb_G} (hl : l.stackTraces = false) (n : Nat) (J : zJ) (x : Int) (i : Int) (hr_x : -2147483648 ≤ x ∧ x < 2147483648) (hr_i : -2147483648 ≤ i ∧ i < 2147483648) (b r d s m : Int) (c : Int) (hM : MS J b r d s m) (hc : c = 400 ∨ c = 800) (hx : (0 ≤ x ∧ x < c) ∧ x % 400 < m) (hi : 0 ≤ i ∧ i < mar J b d (x % 400)) : tz_Ok l G M_X12_argumentOf 1 0 0 [.ref 164, zi x, zi i] n J (zqi (fun z J' => J = J' ∧ (0 ≤ z ∧ z < c) ∧ z % 400 < m)) zN := by
  refine tz_Ok.of hl (by decide +kernel) rfl (tb_c1 rfl) (Nat.le_of_ble_eq_true rfl) ?_
  show tz_At l G M_X12_argumentOf (tb_rm 1 0 0) none (tb_ZM G 0 0 (zQ n 0 (zqi (fun z J' => J = J' ∧ (0 ≤ z ∧ z < c) ∧ z % 400 < m))) (zX n 0 zN)) 0 0 n J 0 [some (.ref 164), some (zi x), some (zi i)] []
  obtain ⟨hM1, hM2, hM3, hM4, hM5, hM6⟩ := id hM
  have hT := hM.told
  have ha := hM.ar (t := x % 400) (by omega)
  have hg := hM.arg (t := x % 400) (i := i) (by omega) hi
  refine tz_iload_n (pc := 0) dX12_argumentOf_0 rfl rfl ?_
  refine tz_sipush (pc := 1) dX12_argumentOf_1 (by decide) ?_
  refine tz_idiv (pc := 4) (a := x) (b := 400) (v := (x / 400)) dX12_argumentOf_4 (by omega) (by omega) rfl ?_
  refine tz_sipush (pc := 5) dX12_argumentOf_5 (by decide) ?_
  refine tz_imul (pc := 8) (v := (x / 400) * 400) dX12_argumentOf_8 rfl ?_
  refine tz_aload_n (pc := 9) dX12_argumentOf_9 rfl rfl ?_
  refine tz_iload_n (pc := 10) dX12_argumentOf_10 rfl rfl ?_
  refine tz_sipush (pc := 11) dX12_argumentOf_11 (by decide) ?_
  refine tz_irem (pc := 14) (a := x) (b := 400) (v := (x % 400)) dX12_argumentOf_14 (by omega) (by omega) rfl ?_
  refine tz_iload_n (pc := 15) dX12_argumentOf_15 rfl rfl ?_
  refine tz_cV (pc := 16) (m_arg hl n _ _ _ (by omega) (by omega) b r d s m hM (by omega) (by omega)) vl_X12_88 dX12_argumentOf_16 o_164 rfl rfl (Nat.le_of_ble_eq_true rfl) ⟨(Nat.le_of_ble_eq_true rfl), (Nat.le_of_ble_eq_true rfl)⟩ rfl rfl (Nat.le_of_ble_eq_true rfl) (Nat.le_of_ble_eq_true rfl) (fun r9 J_16 hq9 => ?_)
  obtain ⟨z_16, rfl, hz_16, rfl, rfl⟩ := hq9
  refine tz_iadd (pc := 19) (v := ((x / 400) * 400) + (J 167 (3 * (b + (x % 400)) + i))) dX12_argumentOf_19 rfl ?_
  exact tz_iret (pc := 20) (z := (((x / 400) * 400) + (J 167 (3 * (b + (x % 400)) + i)))) dX12_argumentOf_20 rfl (Nat.le_of_ble_eq_true rfl) (Nat.le_of_ble_eq_true rfl) ⟨Nat.le_refl _, Nat.le_add_right _ _⟩ ⟨_, rfl, (by omega), ⟨rfl, by omega, by omega⟩⟩

theorem MS.cl {J' J : zJ} {b r d s m : Int} (h : MS J b r d s m) (f : zOf (zbut [164, 177, 178, 179, 180]) J' J) (g : ∀ k, ¬ k = 30 → J' 164 k = J 164 k) : MS J' b r d s m := h.of ⟨g _ (by decide), g _ (by decide), g _ (by decide)⟩ (by rw [f 165 rfl]) (f 166 rfl) (f 167 rfl) (f 168 rfl) (f 170 rfl)
theorem ini_s {J1 : zJ} {k m v8 v9 : Int} (h : ∀ q, 0 ≤ q → q < k → J1 177 q = q ∧ (J1 178 q = -1 ∨ (J1 178 q = q ∧ q % 400 < m)) ∧ (q % 400 < m → J1 178 q = -1 → 0 ≤ J1 179 q ∧ J1 179 q < 8)) (h8 : v8 = -1 ∨ (v8 = k ∧ k % 400 < m)) (h9 : k % 400 < m → v8 = -1 → 0 ≤ v9 ∧ v9 < 8) : ∀ q, 0 ≤ q → q < k + 1 → zup (zup (zup (zup J1 177 k k) 178 k v8) 179 k v9) 180 k 0 177 q = q ∧ (zup (zup (zup (zup J1 177 k k) 178 k v8) 179 k v9) 180 k 0 178 q = -1 ∨ (zup (zup (zup (zup J1 177 k k) 178 k v8) 179 k v9) 180 k 0 178 q = q ∧ q % 400 < m)) ∧ (q % 400 < m → zup (zup (zup (zup J1 177 k k) 178 k v8) 179 k v9) 180 k 0 178 q = -1 → 0 ≤ zup (zup (zup (zup J1 177 k k) 178 k v8) 179 k v9) 180 k 0 179 q ∧ zup (zup (zup (zup J1 177 k k) 178 k v8) 179 k v9) 180 k 0 179 q < 8) := by
  intro q a b
  have e7 : zup (zup (zup (zup J1 177 k k) 178 k v8) 179 k v9) 180 k 0 177 q = if q = k then k else J1 177 q := rfl
  have e8 : zup (zup (zup (zup J1 177 k k) 178 k v8) 179 k v9) 180 k 0 178 q = if q = k then v8 else J1 178 q := rfl
  have e9 : zup (zup (zup (zup J1 177 k k) 178 k v8) 179 k v9) 180 k 0 179 q = if q = k then v9 else J1 179 q := rfl
  rw [e7, e8, e9]
  by_cases e : q = k
  · subst e
    rw [if_pos rfl, if_pos rfl, if_pos rfl]
    exact ⟨rfl, h8, h9⟩
  · rw [if_neg e, if_neg e, if_neg e]
    exact h q a (by omega)
set_option maxHeartbeats 4000000 in
set_option maxRecDepth 100000 in
theorem m_begCl {l : Launch} {G : tb_G} (hl : l.stackTraces = false) (n : Nat) (J : zJ)   (b r d s m : Int) (hM : MS J b r d s m)  : tz_Ok l G M_X12_beginsClasses 2 0 0 [.ref 164] n J (zqv (fun J' => UF J' 800 m ∧ UF J' 400 m ∧ J' 164 30 = 0 ∧ zOf (zbut [164, 177, 178, 179, 180]) J' J ∧ ∀ k, ¬ k = 30 → J' 164 k = J 164 k)) zN := by
  refine tz_Ok.of hl (by decide +kernel) rfl (tb_c1 rfl) (Nat.le_of_ble_eq_true rfl) ?_
  show tz_At l G M_X12_beginsClasses (tb_rm 2 0 0) none (tb_ZM G 0 0 (zQ n 0 (zqv (fun J' => UF J' 800 m ∧ UF J' 400 m ∧ J' 164 30 = 0 ∧ zOf (zbut [164, 177, 178, 179, 180]) J' J ∧ ∀ k, ¬ k = 30 → J' 164 k = J 164 k))) (zX n 0 zN)) 0 0 n J 0 [some (.ref 164), none, none, none] []
  obtain ⟨hM1, hM2, hM3, hM4, hM5, hM6⟩ := id hM
  have hT := hM.told
  refine tz_iconst (pc := 0) dX12_beginsClasses_0 ?_
  refine tz_istore_n (pc := 1) (L2 := [_, _, _, _]) dX12_beginsClasses_1 rfl (by decide) rfl ?_
  have loop2 : ∀ (f9 : Nat) (k : Int) (d2 : Option Value) (d3 : Option Value) (J1 : zJ), ((800 - k).toNat) < f9 → (0 ≤ k ∧ k ≤ 800) → (zOf (zbut [164, 177, 178, 179, 180]) J1 J ∧ ∀ k, ¬ k = 30 → J1 164 k = J 164 k) → (∀ q, 0 ≤ q → q < k → J1 177 q = q ∧ (J1 178 q = -1 ∨ (J1 178 q = q ∧ q % 400 < m)) ∧ (q % 400 < m → J1 178 q = -1 → 0 ≤ J1 179 q ∧ J1 179 q < 8)) → tz_At l G M_X12_beginsClasses (tb_rm 2 0 0) none (tb_ZM G 0 0 (zQ n 0 (zqv (fun J' => UF J' 800 m ∧ UF J' 400 m ∧ J' 164 30 = 0 ∧ zOf (zbut [164, 177, 178, 179, 180]) J' J ∧ ∀ k, ¬ k = 30 → J' 164 k = J 164 k))) (zX n 0 zN)) 0 0 n J1 2 [some (.ref 164), some (zi k), d2, d3] [] := by
    intro f9
    induction f9 with
    | zero => intro k d2 d3 J1 hm9; exact absurd hm9 (Nat.not_lt_zero _)
    | succ f9 ih2 =>
      intro k d2 d3 J1 hm2 hk f1 h1
      refine tz_iload_n (pc := 2) dX12_beginsClasses_2 rfl rfl ?_
      refine tz_sipush (pc := 3) dX12_beginsClasses_3 (by decide) ?_
      refine tz_icmp_ge (pc := 6) (tgt := 100) dX12_beginsClasses_6 (by decide) (by omega) (by decide) (fun h_6 => ?_) (fun h_6 => ?_)
      · refine tz_aload_n (pc := 100) dX12_beginsClasses_100 rfl rfl ?_
        refine tz_iconst (pc := 101) dX12_beginsClasses_101 ?_
        refine tz_pZ (pc := 102) (kz := 30) dX12_beginsClasses_102 fl_X12_161 i_164_30 rfl rfl (Or.inl rfl) ?_
        exact tz_vret (pc := 105) dX12_beginsClasses_105 rfl (Nat.le_of_ble_eq_true rfl) (Nat.le_of_ble_eq_true rfl) ⟨Nat.le_refl _, Nat.le_add_right _ _⟩ ⟨rfl, ⟨⟨Or.inr rfl, fun _ => 0, fun q a c => by obtain ⟨i1, i2, i3⟩ := h1 q a (by omega); refine ⟨⟨by show 0 ≤ J1 177 q ∧ J1 177 q < 800; omega, Or.inl i1⟩, by show J1 178 q = -1 ∨ (0 ≤ J1 178 q ∧ J1 178 q < 800 ∧ J1 178 q % 400 < m); (rcases i2 with i2 | i2 <;> first | exact Or.inl i2 | (rw [i2.1]; exact Or.inr ⟨a, c, i2.2⟩)), fun hq => ⟨by show J1 177 q % 400 < m; rw [i1]; exact hq, i3 hq⟩⟩⟩, ⟨Or.inl rfl, fun _ => 0, fun q a c => by obtain ⟨i1, i2, i3⟩ := h1 q a (by omega); refine ⟨⟨by show 0 ≤ J1 177 q ∧ J1 177 q < 400; omega, Or.inl i1⟩, by show J1 178 q = -1 ∨ (0 ≤ J1 178 q ∧ J1 178 q < 400 ∧ J1 178 q % 400 < m); (rcases i2 with i2 | i2 <;> first | exact Or.inl i2 | (rw [i2.1]; exact Or.inr ⟨a, c, i2.2⟩)), fun hq => ⟨by show J1 177 q % 400 < m; rw [i1]; exact hq, i3 hq⟩⟩⟩, zup_at, zOf.up rfl f1.1, fun q hq => (zup_ne hq).trans (f1.2 q hq)⟩⟩
      · refine tz_iload_n (pc := 9) dX12_beginsClasses_9 rfl rfl ?_
        refine tz_sipush (pc := 10) dX12_beginsClasses_10 (by decide) ?_
        refine tz_irem (pc := 13) (a := k) (b := 400) (v := (k % 400)) dX12_beginsClasses_13 (by omega) (by omega) rfl ?_
        have hk9 : 0 ≤ k % 400 ∧ k % 400 < 400 := by omega
        refine tz_istore_n (pc := 14) (L2 := [_, _, _, _]) dX12_beginsClasses_14 rfl (by decide) rfl ?_
        refine tz_iload_n (pc := 15) dX12_beginsClasses_15 rfl rfl ?_
        refine tz_aload_n (pc := 16) dX12_beginsClasses_16 rfl rfl ?_
        refine tz_cV (pc := 17) (m_many hl n _ b r d s m (hM.cl f1.1 f1.2)) vl_X12_96 dX12_beginsClasses_17 o_164 rfl rfl (Nat.le_of_ble_eq_true rfl) ⟨(Nat.le_of_ble_eq_true rfl), (Nat.le_of_ble_eq_true rfl)⟩ rfl rfl (Nat.le_of_ble_eq_true rfl) (Nat.le_of_ble_eq_true rfl) (fun r9 J_17 hq9 => ?_)
        obtain ⟨z_17, rfl, hz_17, rfl, rfl⟩ := hq9
        refine tz_icmp_ge (pc := 20) (tgt := 27) dX12_beginsClasses_20 (by decide) (by omega) (by omega) (fun h_20 => ?_) (fun h_20 => ?_)
        · refine tz_iconst (pc := 27) dX12_beginsClasses_27 ?_
          refine tz_istore_n (pc := 28) (L2 := [_, _, _, _]) dX12_beginsClasses_28 rfl (by decide) rfl ?_
          refine tz_aload_n (pc := 29) dX12_beginsClasses_29 rfl rfl ?_
          refine tz_fR (pc := 30) dX12_beginsClasses_30 fl_X12_50 r_164_25 ?_
          refine tz_iload_n (pc := 33) dX12_beginsClasses_33 rfl rfl ?_
          refine tz_iload_n (pc := 34) dX12_beginsClasses_34 rfl rfl ?_
          refine tz_aS (pc := 35) (z := k) dX12_beginsClasses_35 a_177 rfl (by omega) (by omega) ?_
          refine tz_aload_n (pc := 36) dX12_beginsClasses_36 rfl rfl ?_
          refine tz_fR (pc := 37) dX12_beginsClasses_37 fl_X12_53 r_164_26 ?_
          refine tz_iload_n (pc := 40) dX12_beginsClasses_40 rfl rfl ?_
          refine tz_iload_n (pc := 41) dX12_beginsClasses_41 rfl rfl ?_
          refine tz_if_eqT (pc := 42) (tgt := 57) (by decide) dX12_beginsClasses_42 (by decide) (by decide) ?_
          refine tz_iconst (pc := 57) dX12_beginsClasses_57 ?_
          refine tz_aS (pc := 58) (z := k) dX12_beginsClasses_58 a_178 rfl (by omega) (by decide) ?_
          refine tz_aload_n (pc := 59) dX12_beginsClasses_59 rfl rfl ?_
          refine tz_fR (pc := 60) dX12_beginsClasses_60 fl_X12_56 r_164_27 ?_
          refine tz_iload_n (pc := 63) dX12_beginsClasses_63 rfl rfl ?_
          refine tz_iload_n (pc := 64) dX12_beginsClasses_64 rfl rfl ?_
          refine tz_if_eqT (pc := 65) (tgt := 84) (by decide) dX12_beginsClasses_65 (by decide) (by decide) ?_
          refine tz_bipush (pc := 84) dX12_beginsClasses_84 (by decide) ?_
          refine tz_aS (pc := 86) (z := k) dX12_beginsClasses_86 a_179 rfl (by omega) (by decide) ?_
          refine tz_aload_n (pc := 87) dX12_beginsClasses_87 rfl rfl ?_
          refine tz_fR (pc := 88) dX12_beginsClasses_88 fl_X12_59 r_164_28 ?_
          refine tz_iload_n (pc := 91) dX12_beginsClasses_91 rfl rfl ?_
          refine tz_iconst (pc := 92) dX12_beginsClasses_92 ?_
          refine tz_aS (pc := 93) (z := k) dX12_beginsClasses_93 a_180 rfl (by omega) (by decide) ?_
          refine tz_iinc (pc := 94) (z := k + 1) (L2 := [_, _, _, _]) dX12_beginsClasses_94 rfl (by omega) rfl ?_
          refine tz_goto (pc := 97) (tgt := 2) dX12_beginsClasses_97 (by decide) ?_
          exact ih2 (k + 1) _ _ _ (by omega) (by omega) ⟨zOf.up rfl (zOf.up rfl (zOf.up rfl (zOf.up rfl f1.1))), f1.2⟩ (ini_s h1 (by omega) (by omega))
        · refine tz_iconst (pc := 23) dX12_beginsClasses_23 ?_
          refine tz_goto (pc := 24) (tgt := 28) dX12_beginsClasses_24 (by decide) ?_
          refine tz_istore_n (pc := 28) (L2 := [_, _, _, _]) dX12_beginsClasses_28 rfl (by decide) rfl ?_
          refine tz_aload_n (pc := 29) dX12_beginsClasses_29 rfl rfl ?_
          refine tz_fR (pc := 30) dX12_beginsClasses_30 fl_X12_50 r_164_25 ?_
          refine tz_iload_n (pc := 33) dX12_beginsClasses_33 rfl rfl ?_
          refine tz_iload_n (pc := 34) dX12_beginsClasses_34 rfl rfl ?_
          refine tz_aS (pc := 35) (z := k) dX12_beginsClasses_35 a_177 rfl (by omega) (by omega) ?_
          refine tz_aload_n (pc := 36) dX12_beginsClasses_36 rfl rfl ?_
          refine tz_fR (pc := 37) dX12_beginsClasses_37 fl_X12_53 r_164_26 ?_
          refine tz_iload_n (pc := 40) dX12_beginsClasses_40 rfl rfl ?_
          refine tz_iload_n (pc := 41) dX12_beginsClasses_41 rfl rfl ?_
          refine tz_if_eqF (pc := 42) (tgt := 57) (by decide) dX12_beginsClasses_42 (by decide) (by decide) ?_
          refine tz_aload_n (pc := 45) dX12_beginsClasses_45 rfl rfl ?_
          refine tz_iload_n (pc := 46) dX12_beginsClasses_46 rfl rfl ?_
          have ha47 := hM.ar (t := k % 400) (by omega)
          refine tz_cV (pc := 47) (m_isVar hl n _ _ (by omega) b r d s m (hM.cl (zOf.up rfl f1.1) f1.2) (by omega)) vl_X12_78 dX12_beginsClasses_47 o_164 rfl rfl (Nat.le_of_ble_eq_true rfl) ⟨(Nat.le_of_ble_eq_true rfl), (Nat.le_of_ble_eq_true rfl)⟩ rfl rfl (Nat.le_of_ble_eq_true rfl) (Nat.le_of_ble_eq_true rfl) (fun r9 J_47 hq9 => ?_)
          obtain ⟨z_47, rfl, hz_47, rfl, hv_47⟩ := hq9
          have he_47 : ((zup J1 177 k k) : zJ) 166 = J 166 := (zOf.up rfl f1.1) 166 rfl
          rw [he_47] at hv_47
          have hw_47 : (z_47 = 1 ∧ J 166 (b + (k % 400)) < 0) ∨ (z_47 = 0 ∧ ¬ J 166 (b + (k % 400)) < 0) := by rw [← hv_47]; split <;> omega
          refine tz_if_ne (pc := 50) (tgt := 57) dX12_beginsClasses_50 (by decide) (by omega) (fun h_50 => ?_) (fun h_50 => ?_)
          · refine tz_iconst (pc := 57) dX12_beginsClasses_57 ?_
            refine tz_aS (pc := 58) (z := k) dX12_beginsClasses_58 a_178 rfl (by omega) (by decide) ?_
            refine tz_aload_n (pc := 59) dX12_beginsClasses_59 rfl rfl ?_
            refine tz_fR (pc := 60) dX12_beginsClasses_60 fl_X12_56 r_164_27 ?_
            refine tz_iload_n (pc := 63) dX12_beginsClasses_63 rfl rfl ?_
            refine tz_iload_n (pc := 64) dX12_beginsClasses_64 rfl rfl ?_
            refine tz_if_eqF (pc := 65) (tgt := 84) (by decide) dX12_beginsClasses_65 (by decide) (by decide) ?_
            refine tz_aload_n (pc := 68) dX12_beginsClasses_68 rfl rfl ?_
            refine tz_iload_n (pc := 69) dX12_beginsClasses_69 rfl rfl ?_
            have ha70 := hM.ar (t := k % 400) (by omega)
            refine tz_cV (pc := 70) (m_isVar hl n _ _ (by omega) b r d s m (hM.cl (zOf.up rfl (zOf.up rfl f1.1)) f1.2) (by omega)) vl_X12_78 dX12_beginsClasses_70 o_164 rfl rfl (Nat.le_of_ble_eq_true rfl) ⟨(Nat.le_of_ble_eq_true rfl), (Nat.le_of_ble_eq_true rfl)⟩ rfl rfl (Nat.le_of_ble_eq_true rfl) (Nat.le_of_ble_eq_true rfl) (fun r9 J_70 hq9 => ?_)
            obtain ⟨z_70, rfl, hz_70, rfl, hv_70⟩ := hq9
            have he_70 : ((zup (zup J1 177 k k) 178 k (-1)) : zJ) 166 = J 166 := (zOf.up rfl (zOf.up rfl f1.1)) 166 rfl
            rw [he_70] at hv_70
            have hw_70 : (z_70 = 1 ∧ J 166 (b + (k % 400)) < 0) ∨ (z_70 = 0 ∧ ¬ J 166 (b + (k % 400)) < 0) := by rw [← hv_70]; split <;> omega
            refine tz_if_eq (pc := 73) (tgt := 84) dX12_beginsClasses_73 (by decide) (by omega) (fun h_73 => ?_) (fun h_73 => ?_)
            · refine tz_bipush (pc := 84) dX12_beginsClasses_84 (by decide) ?_
              refine tz_aS (pc := 86) (z := k) dX12_beginsClasses_86 a_179 rfl (by omega) (by decide) ?_
              refine tz_aload_n (pc := 87) dX12_beginsClasses_87 rfl rfl ?_
              refine tz_fR (pc := 88) dX12_beginsClasses_88 fl_X12_59 r_164_28 ?_
              refine tz_iload_n (pc := 91) dX12_beginsClasses_91 rfl rfl ?_
              refine tz_iconst (pc := 92) dX12_beginsClasses_92 ?_
              refine tz_aS (pc := 93) (z := k) dX12_beginsClasses_93 a_180 rfl (by omega) (by decide) ?_
              refine tz_iinc (pc := 94) (z := k + 1) (L2 := [_, _, _, _]) dX12_beginsClasses_94 rfl (by omega) rfl ?_
              refine tz_goto (pc := 97) (tgt := 2) dX12_beginsClasses_97 (by decide) ?_
              exact ih2 (k + 1) _ _ _ (by omega) (by omega) ⟨zOf.up rfl (zOf.up rfl (zOf.up rfl (zOf.up rfl f1.1))), f1.2⟩ (ini_s h1 (by omega) (by omega))
            · refine tz_aload_n (pc := 76) dX12_beginsClasses_76 rfl rfl ?_
              refine tz_iload_n (pc := 77) dX12_beginsClasses_77 rfl rfl ?_
              refine tz_cV (pc := 78) (m_varOf hl n _ _ (by omega) b r d s m (hM.cl (zOf.up rfl (zOf.up rfl f1.1)) f1.2) (by omega)) vl_X12_123 dX12_beginsClasses_78 o_164 rfl rfl (Nat.le_of_ble_eq_true rfl) ⟨(Nat.le_of_ble_eq_true rfl), (Nat.le_of_ble_eq_true rfl)⟩ rfl rfl (Nat.le_of_ble_eq_true rfl) (Nat.le_of_ble_eq_true rfl) (fun r9 J_78 hq9 => ?_)
              obtain ⟨z_78, rfl, hz_78, rfl, hv_78⟩ := hq9
              have he_78 : ((zup (zup J1 177 k k) 178 k (-1)) : zJ) 166 = J 166 := (zOf.up rfl (zOf.up rfl f1.1)) 166 rfl
              rw [he_78] at hv_78
              refine tz_goto (pc := 81) (tgt := 86) dX12_beginsClasses_81 (by decide) ?_
              refine tz_aS (pc := 86) (z := k) dX12_beginsClasses_86 a_179 rfl (by omega) (by omega) ?_
              refine tz_aload_n (pc := 87) dX12_beginsClasses_87 rfl rfl ?_
              refine tz_fR (pc := 88) dX12_beginsClasses_88 fl_X12_59 r_164_28 ?_
              refine tz_iload_n (pc := 91) dX12_beginsClasses_91 rfl rfl ?_
              refine tz_iconst (pc := 92) dX12_beginsClasses_92 ?_
              refine tz_aS (pc := 93) (z := k) dX12_beginsClasses_93 a_180 rfl (by omega) (by decide) ?_
              refine tz_iinc (pc := 94) (z := k + 1) (L2 := [_, _, _, _]) dX12_beginsClasses_94 rfl (by omega) rfl ?_
              refine tz_goto (pc := 97) (tgt := 2) dX12_beginsClasses_97 (by decide) ?_
              exact ih2 (k + 1) _ _ _ (by omega) (by omega) ⟨zOf.up rfl (zOf.up rfl (zOf.up rfl (zOf.up rfl f1.1))), f1.2⟩ (ini_s h1 (by omega) (by omega))
          · refine tz_iload_n (pc := 53) dX12_beginsClasses_53 rfl rfl ?_
            refine tz_goto (pc := 54) (tgt := 58) dX12_beginsClasses_54 (by decide) ?_
            refine tz_aS (pc := 58) (z := k) dX12_beginsClasses_58 a_178 rfl (by omega) (by omega) ?_
            refine tz_aload_n (pc := 59) dX12_beginsClasses_59 rfl rfl ?_
            refine tz_fR (pc := 60) dX12_beginsClasses_60 fl_X12_56 r_164_27 ?_
            refine tz_iload_n (pc := 63) dX12_beginsClasses_63 rfl rfl ?_
            refine tz_iload_n (pc := 64) dX12_beginsClasses_64 rfl rfl ?_
            refine tz_if_eqF (pc := 65) (tgt := 84) (by decide) dX12_beginsClasses_65 (by decide) (by decide) ?_
            refine tz_aload_n (pc := 68) dX12_beginsClasses_68 rfl rfl ?_
            refine tz_iload_n (pc := 69) dX12_beginsClasses_69 rfl rfl ?_
            have ha70 := hM.ar (t := k % 400) (by omega)
            refine tz_cV (pc := 70) (m_isVar hl n _ _ (by omega) b r d s m (hM.cl (zOf.up rfl (zOf.up rfl f1.1)) f1.2) (by omega)) vl_X12_78 dX12_beginsClasses_70 o_164 rfl rfl (Nat.le_of_ble_eq_true rfl) ⟨(Nat.le_of_ble_eq_true rfl), (Nat.le_of_ble_eq_true rfl)⟩ rfl rfl (Nat.le_of_ble_eq_true rfl) (Nat.le_of_ble_eq_true rfl) (fun r9 J_70 hq9 => ?_)
            obtain ⟨z_70, rfl, hz_70, rfl, hv_70⟩ := hq9
            have he_70 : ((zup (zup J1 177 k k) 178 k k) : zJ) 166 = J 166 := (zOf.up rfl (zOf.up rfl f1.1)) 166 rfl
            rw [he_70] at hv_70
            have hw_70 : (z_70 = 1 ∧ J 166 (b + (k % 400)) < 0) ∨ (z_70 = 0 ∧ ¬ J 166 (b + (k % 400)) < 0) := by rw [← hv_70]; split <;> omega
            refine tz_if_eq (pc := 73) (tgt := 84) dX12_beginsClasses_73 (by decide) (by omega) (fun h_73 => ?_) (fun h_73 => ?_)
            · refine tz_bipush (pc := 84) dX12_beginsClasses_84 (by decide) ?_
              refine tz_aS (pc := 86) (z := k) dX12_beginsClasses_86 a_179 rfl (by omega) (by decide) ?_
              refine tz_aload_n (pc := 87) dX12_beginsClasses_87 rfl rfl ?_
              refine tz_fR (pc := 88) dX12_beginsClasses_88 fl_X12_59 r_164_28 ?_
              refine tz_iload_n (pc := 91) dX12_beginsClasses_91 rfl rfl ?_
              refine tz_iconst (pc := 92) dX12_beginsClasses_92 ?_
              refine tz_aS (pc := 93) (z := k) dX12_beginsClasses_93 a_180 rfl (by omega) (by decide) ?_
              refine tz_iinc (pc := 94) (z := k + 1) (L2 := [_, _, _, _]) dX12_beginsClasses_94 rfl (by omega) rfl ?_
              refine tz_goto (pc := 97) (tgt := 2) dX12_beginsClasses_97 (by decide) ?_
              exact ih2 (k + 1) _ _ _ (by omega) (by omega) ⟨zOf.up rfl (zOf.up rfl (zOf.up rfl (zOf.up rfl f1.1))), f1.2⟩ (ini_s h1 (by omega) (by omega))
            · refine tz_aload_n (pc := 76) dX12_beginsClasses_76 rfl rfl ?_
              refine tz_iload_n (pc := 77) dX12_beginsClasses_77 rfl rfl ?_
              refine tz_cV (pc := 78) (m_varOf hl n _ _ (by omega) b r d s m (hM.cl (zOf.up rfl (zOf.up rfl f1.1)) f1.2) (by omega)) vl_X12_123 dX12_beginsClasses_78 o_164 rfl rfl (Nat.le_of_ble_eq_true rfl) ⟨(Nat.le_of_ble_eq_true rfl), (Nat.le_of_ble_eq_true rfl)⟩ rfl rfl (Nat.le_of_ble_eq_true rfl) (Nat.le_of_ble_eq_true rfl) (fun r9 J_78 hq9 => ?_)
              obtain ⟨z_78, rfl, hz_78, rfl, hv_78⟩ := hq9
              have he_78 : ((zup (zup J1 177 k k) 178 k k) : zJ) 166 = J 166 := (zOf.up rfl (zOf.up rfl f1.1)) 166 rfl
              rw [he_78] at hv_78
              refine tz_goto (pc := 81) (tgt := 86) dX12_beginsClasses_81 (by decide) ?_
              refine tz_aS (pc := 86) (z := k) dX12_beginsClasses_86 a_179 rfl (by omega) (by omega) ?_
              refine tz_aload_n (pc := 87) dX12_beginsClasses_87 rfl rfl ?_
              refine tz_fR (pc := 88) dX12_beginsClasses_88 fl_X12_59 r_164_28 ?_
              refine tz_iload_n (pc := 91) dX12_beginsClasses_91 rfl rfl ?_
              refine tz_iconst (pc := 92) dX12_beginsClasses_92 ?_
              refine tz_aS (pc := 93) (z := k) dX12_beginsClasses_93 a_180 rfl (by omega) (by decide) ?_
              refine tz_iinc (pc := 94) (z := k + 1) (L2 := [_, _, _, _]) dX12_beginsClasses_94 rfl (by omega) rfl ?_
              refine tz_goto (pc := 97) (tgt := 2) dX12_beginsClasses_97 (by decide) ?_
              exact ih2 (k + 1) _ _ _ (by omega) (by omega) ⟨zOf.up rfl (zOf.up rfl (zOf.up rfl (zOf.up rfl f1.1))), f1.2⟩ (ini_s h1 (by omega) (by omega))
  exact loop2 _ 0 none none _ (Nat.lt_succ_self _) (by omega) ⟨zOf.rf, fun _ _ => rfl⟩ (fun q a b => by omega)

