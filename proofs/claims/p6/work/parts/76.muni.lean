section
/-! ===== classes of nodes ===== -/
def UN1 (J : zJ) (c m : Int) (rk : Int → Nat) (k : Int) : Prop := ((0 ≤ J 177 k ∧ J 177 k < c) ∧ (J 177 k = k ∨ rk (J 177 k) < rk k)) ∧ (J 178 k = -1 ∨ (0 ≤ J 178 k ∧ J 178 k < c ∧ J 178 k % 400 < m)) ∧ (k % 400 < m → J 177 k % 400 < m ∧ (J 178 k = -1 → 0 ≤ J 179 k ∧ J 179 k < 8))
def UF (J : zJ) (c m : Int) : Prop := (c = 400 ∨ c = 800) ∧ ∃ rk : Int → Nat, ∀ k, 0 ≤ k → k < c → UN1 J c m rk k
/-- how many nodes of a kind there are -/
def cnt (p : Int → Bool) : Nat → Nat
  | 0 => 0
  | k + 1 => cnt p k + if p (k : Int) then 1 else 0
theorem cnt_le {p q : Int → Bool} : ∀ (n : Nat), (∀ k : Int, 0 ≤ k → k < n → q k = true → p k = true) → cnt q n ≤ cnt p n
  | 0, _ => Nat.le_refl _
  | n + 1, h => by
    have h1 := cnt_le n (fun k a b => h k a (by omega))
    have h2 := h n (by omega) (by omega)
    show cnt q n + _ ≤ cnt p n + _
    by_cases hq : q (n : Int) = true
    · rw [if_pos hq, if_pos (h2 hq)]
      omega
    · rw [if_neg hq]
      omega
theorem cnt_lt {p q : Int → Bool} : ∀ (n : Nat), (∀ k : Int, 0 ≤ k → k < n → q k = true → p k = true) → (∃ k : Int, (0 ≤ k ∧ k < n) ∧ p k = true ∧ q k = false) → cnt q n < cnt p n
  | 0, _, ⟨k, hk, _⟩ => by omega
  | n + 1, h, ⟨k, hk, hp, hq⟩ => by
    have h2 := h n (by omega) (by omega)
    show cnt q n + _ < cnt p n + _
    by_cases e : k = n
    · subst e
      have h1 := cnt_le n (fun k a b => h k a (by omega))
      rw [if_pos hp, if_neg (by rw [hq]; decide)]
      omega
    · have h1 := cnt_lt n (fun k a b => h k a (by omega)) ⟨k, by omega, hp, hq⟩
      by_cases hq2 : q (n : Int) = true
      · rw [if_pos hq2, if_pos (h2 hq2)]
        omega
      · rw [if_neg hq2]
        omega
theorem cnt_n {p : Int → Bool} : ∀ n : Nat, cnt p n ≤ n
  | 0 => Nat.le_refl _
  | n + 1 => by
    have := cnt_n (p := p) n
    show cnt p n + _ ≤ n + 1
    split <;> omega
def rc (J : zJ) : Nat := cnt (fun k => decide (J 177 k = k)) 800
def wc (J : zJ) : Nat := cnt (fun k => decide (¬ J 180 k = 1 ∧ ¬ J 180 k = 2)) 800
theorem UF.join {J : zJ} {c m a b v w : Int} (h : UF J c m) (ha : (0 ≤ a ∧ a < c) ∧ a % 400 < m ∧ J 177 a = a) (hb : (0 ≤ b ∧ b < c) ∧ b % 400 < m ∧ J 177 b = b) (hab : ¬ a = b) (hv : v = -1 ∨ (0 ≤ v ∧ v < c ∧ v % 400 < m)) (hw : v = -1 → 0 ≤ w ∧ w < 8) : UF (zup (zup (zup J 177 b a) 178 a v) 179 a w) c m := by
  obtain ⟨hc, rk, h⟩ := h
  refine ⟨hc, fun x => if x = a then 0 else rk x + 1, fun k p q => ?_⟩
  have e7 : zup (zup (zup J 177 b a) 178 a v) 179 a w 177 k = if k = b then a else J 177 k := rfl
  have e8 : zup (zup (zup J 177 b a) 178 a v) 179 a w 178 k = if k = a then v else J 178 k := rfl
  have e9 : zup (zup (zup J 177 b a) 178 a v) 179 a w 179 k = if k = a then w else J 179 k := rfl
  unfold UN1
  rw [e7, e8, e9]
  obtain ⟨⟨h1, h2⟩, h3, h4⟩ := h k p q
  refine ⟨?_, ?_, fun hk => ?_⟩
  · by_cases e : k = b
    · rw [if_pos e]
      refine ⟨ha.1, Or.inr ?_⟩
      show (if a = a then 0 else rk a + 1) < (if k = a then 0 else rk k + 1)
      rw [if_pos rfl, if_neg (by omega)]
      omega
    · rw [if_neg e]
      refine ⟨h1, h2.imp id (fun g => ?_)⟩
      have hka : ¬ k = a := fun e2 => by subst e2; rw [ha.2.2] at g; omega
      show (if J 177 k = a then 0 else rk (J 177 k) + 1) < (if k = a then 0 else rk k + 1)
      rw [if_neg hka]
      split <;> omega
  · split
    · exact hv
    · exact h3
  · refine ⟨?_, ?_⟩
    · split
      · exact ha.2.1
      · exact (h4 hk).1
    · split
      · exact hw
      · exact (h4 hk).2
theorem rc_join {J : zJ} {a b v w : Int} (hb : (0 ≤ b ∧ b < 800) ∧ J 177 b = b) (hab : ¬ a = b) : rc (zup (zup (zup J 177 b a) 178 a v) 179 a w) < rc J := by
  refine cnt_lt 800 (fun k p q g => ?_) ⟨b, hb.1, decide_eq_true hb.2, decide_eq_false ?_⟩
  · have g1 := of_decide_eq_true g
    have e7 : zup (zup (zup J 177 b a) 178 a v) 179 a w 177 k = if k = b then a else J 177 k := rfl
    rw [e7] at g1
    refine decide_eq_true ?_
    by_cases e : k = b
    · rw [e]; exact hb.2
    · rw [if_neg e] at g1; exact g1
  · have e7 : zup (zup (zup J 177 b a) 178 a v) 179 a w 177 b = if b = b then a else J 177 b := rfl
    rw [e7, if_pos rfl]
    exact hab
theorem UF.of {J' J : zJ} {c m : Int} (h : UF J c m) (e7 : J' 177 = J 177) (e8 : J' 178 = J 178) (e9 : J' 179 = J 179) : UF J' c m := by
  unfold UF UN1
  rw [e7, e8, e9]
  exact h
theorem UF.at {J : zJ} {c m k : Int} (h : UF J c m) (hk : 0 ≤ k ∧ k < c) : (0 ≤ J 177 k ∧ J 177 k < c) ∧ (J 178 k = -1 ∨ (0 ≤ J 178 k ∧ J 178 k < c ∧ J 178 k % 400 < m)) ∧ (k % 400 < m → J 177 k % 400 < m ∧ (J 178 k = -1 → 0 ≤ J 179 k ∧ J 179 k < 8)) := by
  obtain ⟨-, rk, h⟩ := h
  obtain ⟨⟨h1, -⟩, h3, h4⟩ := h k hk.1 hk.2
  exact ⟨h1, h3, h4⟩
set_option maxHeartbeats 4000000 in
set_option maxRecDepth 100000 in
theorem m_top {l : Launch} {G : tb_G} (hl : l.stackTraces = false) (n : Nat) (J : zJ) (x : Int) (hr_x : -2147483648 ≤ x ∧ x < 2147483648) (c m : Int) (hU : UF J c m) (hx : 0 ≤ x ∧ x < c) : tz_Ok l G M_X12_top 0 0 0 [.ref 164, zi x] n J (zqi (fun z J' => J = J' ∧ (0 ≤ z ∧ z < c) ∧ J 177 z = z ∧ (x % 400 < m → z % 400 < m))) zN := by
  refine tz_Ok.of hl (by decide +kernel) rfl (tb_c1 rfl) (Nat.le_of_ble_eq_true rfl) ?_
  show tz_At l G M_X12_top (tb_rm 0 0 0) none (tb_ZM G 0 0 (zQ n 0 (zqi (fun z J' => J = J' ∧ (0 ≤ z ∧ z < c) ∧ J 177 z = z ∧ (x % 400 < m → z % 400 < m)))) (zX n 0 zN)) 0 0 n J 0 [some (.ref 164), some (zi x), none] []
  obtain ⟨hc, rk, hu⟩ := hU
  refine tz_iload_n (pc := 0) dX12_top_0 rfl rfl ?_
  refine tz_istore_n (pc := 1) (L2 := [_, _, _]) dX12_top_1 rfl (by decide) rfl ?_
  have loop2 : ∀ (f9 : Nat) (k : Int), (rk k) < f9 → (0 ≤ k ∧ k < c) → (x % 400 < m → k % 400 < m) → tz_At l G M_X12_top (tb_rm 0 0 0) none (tb_ZM G 0 0 (zQ n 0 (zqi (fun z J' => J = J' ∧ (0 ≤ z ∧ z < c) ∧ J 177 z = z ∧ (x % 400 < m → z % 400 < m)))) (zX n 0 zN)) 0 0 n J 2 [some (.ref 164), some (zi x), some (zi k)] [] := by
    intro f9
    induction f9 with
    | zero => intro k hm9; exact absurd hm9 (Nat.not_lt_zero _)
    | succ f9 ih2 =>
      intro k hm2 hk hv
      obtain ⟨h1, h2, h3⟩ := hu k hk.1 hk.2
      refine tz_aload_n (pc := 2) dX12_top_2 rfl rfl ?_
      refine tz_fR (pc := 3) dX12_top_3 fl_X12_50 r_164_25 ?_
      refine tz_iload_n (pc := 6) dX12_top_6 rfl rfl ?_
      refine tz_aL (pc := 7) (z := k) (v := (J 177 k)) dX12_top_7 a_177 rfl (by omega) rfl (fun r_7 => ?_)
      refine tz_iload_n (pc := 8) dX12_top_8 rfl rfl ?_
      refine tz_icmp_eq (pc := 9) (tgt := 22) dX12_top_9 (by decide) (by omega) (by omega) (fun h_9 => ?_) (fun h_9 => ?_)
      · refine tz_iload_n (pc := 22) dX12_top_22 rfl rfl ?_
        exact tz_iret (pc := 23) (z := k) dX12_top_23 rfl (Nat.le_of_ble_eq_true rfl) (Nat.le_of_ble_eq_true rfl) ⟨Nat.le_refl _, Nat.le_add_right _ _⟩ ⟨_, rfl, (by omega), ⟨rfl, hk, by omega, hv⟩⟩
      · refine tz_aload_n (pc := 12) dX12_top_12 rfl rfl ?_
        refine tz_fR (pc := 13) dX12_top_13 fl_X12_50 r_164_25 ?_
        refine tz_iload_n (pc := 16) dX12_top_16 rfl rfl ?_
        refine tz_aL (pc := 17) (z := k) (v := (J 177 k)) dX12_top_17 a_177 rfl (by omega) rfl (fun r_17 => ?_)
        refine tz_istore_n (pc := 18) (L2 := [_, _, _]) dX12_top_18 rfl (by decide) rfl ?_
        refine tz_goto (pc := 19) (tgt := 2) dX12_top_19 (by decide) ?_
        exact ih2 _ (by have := h1.2.resolve_left (by omega); omega) h1.1 (fun q9 => (h3 (hv q9)).1)
  exact loop2 _ _ (Nat.lt_succ_self _) hx id

set_option maxHeartbeats 4000000 in
set_option maxRecDepth 100000 in
theorem m_argOf {l : Launch} {G : tb_G} (hl : l.stackTraces = false) (n : Nat) (J : zJ) (x : Int) (i : Int) (hr_x : -2147483648 ≤ x ∧ x < 2147483648) (hr_i : -2147483648 ≤ i ∧ i < 2147483648) (b r d s m : Int) (c : Int) (hM : MS J b r d s m) (hc : c = 400 ∨ c = 800) (hx : (0 ≤ x ∧ x < c) ∧ x % 400 < m) (hi : 0 ≤ i ∧ i < mar J b d (x % 400)) : tz_Ok l G M_X12_argumentOf 1 0 0 [.ref 164, zi x, zi i] n J (zqi (fun z J' => J = J' ∧ (0 ≤ z ∧ z < c) ∧ z % 400 < m)) zN := by
  refine tz_Ok.of hl (by decide +kernel) rfl (tb_c1 rfl) (Nat.le_of_ble_eq_true rfl) ?_
  show tz_At l G M_X12_argumentOf (tb_rm 1 0 0) none (tb_ZM G 0 0 (zQ n 0 (zqi (fun z J' => J = J' ∧ (0 ≤ z ∧ z < c) ∧ z % 400 < m))) (zX n 0 zN)) 0 0 n J 0 [some (.ref 164), some (zi x), some (zi i)] []
  obtain ⟨hM1, hM2, hM3, hM4, hM5, hM6⟩ := id hM
  have hT := hM.told
  have ha := hM.ar (t := x % 400) (by omega)
  have hg := hM.arg (t := x % 400) (i := i) (by omega) hi
  refine tz_iload_n (pc := 0) dX12_argumentOf_0 rfl rfl ?_
  refine tz_sipush (pc := 1) dX12_argumentOf_1 (by decide) ?_
  refine tz_idiv (pc := 4) (a := x) (b := 400) (v := (x / 400)) dX12_argumentOf_4 (by omega) (by omega) rfl ?_
  refine tz_sipush (pc := 5) dX12_argumentOf_5 (by decide) ?_
  refine tz_imul (pc := 8) (v := (x / 400) * 400) dX12_argumentOf_8 rfl ?_
  refine tz_aload_n (pc := 9) dX12_argumentOf_9 rfl rfl ?_
  refine tz_iload_n (pc := 10) dX12_argumentOf_10 rfl rfl ?_
  refine tz_sipush (pc := 11) dX12_argumentOf_11 (by decide) ?_
  refine tz_irem (pc := 14) (a := x) (b := 400) (v := (x % 400)) dX12_argumentOf_14 (by omega) (by omega) rfl ?_
  refine tz_iload_n (pc := 15) dX12_argumentOf_15 rfl rfl ?_
  refine tz_cV (pc := 16) (m_arg hl n _ _ _ (by omega) (by omega) b r d s m hM (by omega) (by omega)) vl_X12_88 dX12_argumentOf_16 o_164 rfl rfl (Nat.le_of_ble_eq_true rfl) ⟨(Nat.le_of_ble_eq_true rfl), (Nat.le_of_ble_eq_true rfl)⟩ rfl rfl (Nat.le_of_ble_eq_true rfl) (Nat.le_of_ble_eq_true rfl) (fun r9 J_16 hq9 => ?_)
  obtain ⟨z_16, rfl, hz_16, rfl, rfl⟩ := hq9
  refine tz_iadd (pc := 19) (v := ((x / 400) * 400) + (J 167 (3 * (b + (x % 400)) + i))) dX12_argumentOf_19 rfl ?_
  exact tz_iret (pc := 20) (z := (((x / 400) * 400) + (J 167 (3 * (b + (x % 400)) + i)))) dX12_argumentOf_20 rfl (Nat.le_of_ble_eq_true rfl) (Nat.le_of_ble_eq_true rfl) ⟨Nat.le_refl _, Nat.le_add_right _ _⟩ ⟨_, rfl, (by omega), ⟨rfl, by omega, by omega⟩⟩

theorem MS.cl {J' J : zJ} {b r d s m : Int} (h : MS J b r d s m) (f : zOf (zbut [164, 177, 178, 179, 180]) J' J) (g : ∀ k, ¬ k = 30 → J' 164 k = J 164 k) : MS J' b r d s m := h.of ⟨g _ (by decide), g _ (by decide), g _ (by decide)⟩ (by rw [f 165 rfl]) (f 166 rfl) (f 167 rfl) (f 168 rfl) (f 170 rfl)
theorem ini_s {J1 : zJ} {k m v8 v9 : Int} (h : ∀ q, 0 ≤ q → q < k → J1 177 q = q ∧ (J1 178 q = -1 ∨ (J1 178 q = q ∧ q % 400 < m)) ∧ (q % 400 < m → J1 178 q = -1 → 0 ≤ J1 179 q ∧ J1 179 q < 8)) (h8 : v8 = -1 ∨ (v8 = k ∧ k % 400 < m)) (h9 : k % 400 < m → v8 = -1 → 0 ≤ v9 ∧ v9 < 8) : ∀ q, 0 ≤ q → q < k + 1 → zup (zup (zup (zup J1 177 k k) 178 k v8) 179 k v9) 180 k 0 177 q = q ∧ (zup (zup (zup (zup J1 177 k k) 178 k v8) 179 k v9) 180 k 0 178 q = -1 ∨ (zup (zup (zup (zup J1 177 k k) 178 k v8) 179 k v9) 180 k 0 178 q = q ∧ q % 400 < m)) ∧ (q % 400 < m → zup (zup (zup (zup J1 177 k k) 178 k v8) 179 k v9) 180 k 0 178 q = -1 → 0 ≤ zup (zup (zup (zup J1 177 k k) 178 k v8) 179 k v9) 180 k 0 179 q ∧ zup (zup (zup (zup J1 177 k k) 178 k v8) 179 k v9) 180 k 0 179 q < 8) := by
  intro q a b
  have e7 : zup (zup (zup (zup J1 177 k k) 178 k v8) 179 k v9) 180 k 0 177 q = if q = k then k else J1 177 q := rfl
  have e8 : zup (zup (zup (zup J1 177 k k) 178 k v8) 179 k v9) 180 k 0 178 q = if q = k then v8 else J1 178 q := rfl
  have e9 : zup (zup (zup (zup J1 177 k k) 178 k v8) 179 k v9) 180 k 0 179 q = if q = k then v9 else J1 179 q := rfl
  rw [e7, e8, e9]
  by_cases e : q = k
  · subst e
    rw [if_pos rfl, if_pos rfl, if_pos rfl]
    exact ⟨rfl, h8, h9⟩
  · rw [if_neg e, if_neg e, if_neg e]
    exact h q a (by omega)
set_option maxHeartbeats 4000000 in
set_option maxRecDepth 100000 in
theorem m_begCl {l : Launch} {G : tb_G} (hl : l.stackTraces = false) (n : Nat) (J : zJ)   (b r d s m : Int) (hM : MS J b r d s m)  : tz_Ok l G M_X12_beginsClasses 2 0 0 [.ref 164] n J (zqv (fun J' => UF J' 800 m ∧ UF J' 400 m ∧ J' 164 30 = 0 ∧ zOf (zbut [164, 177, 178, 179, 180]) J' J ∧ ∀ k, ¬ k = 30 → J' 164 k = J 164 k)) zN := by
  refine tz_Ok.of hl (by decide +kernel) rfl (tb_c1 rfl) (Nat.le_of_ble_eq_true rfl) ?_
  show tz_At l G M_X12_beginsClasses (tb_rm 2 0 0) none (tb_ZM G 0 0 (zQ n 0 (zqv (fun J' => UF J' 800 m ∧ UF J' 400 m ∧ J' 164 30 = 0 ∧ zOf (zbut [164, 177, 178, 179, 180]) J' J ∧ ∀ k, ¬ k = 30 → J' 164 k = J 164 k))) (zX n 0 zN)) 0 0 n J 0 [some (.ref 164), none, none, none] []
  obtain ⟨hM1, hM2, hM3, hM4, hM5, hM6⟩ := id hM
  have hT := hM.told
  refine tz_iconst (pc := 0) dX12_beginsClasses_0 ?_
  refine tz_istore_n (pc := 1) (L2 := [_, _, _, _]) dX12_beginsClasses_1 rfl (by decide) rfl ?_
  have loop2 : ∀ (f9 : Nat) (k : Int) (d2 : Option Value) (d3 : Option Value) (J1 : zJ), ((800 - k).toNat) < f9 → (0 ≤ k ∧ k ≤ 800) → (zOf (zbut [164, 177, 178, 179, 180]) J1 J ∧ ∀ k, ¬ k = 30 → J1 164 k = J 164 k) → (∀ q, 0 ≤ q → q < k → J1 177 q = q ∧ (J1 178 q = -1 ∨ (J1 178 q = q ∧ q % 400 < m)) ∧ (q % 400 < m → J1 178 q = -1 → 0 ≤ J1 179 q ∧ J1 179 q < 8)) → tz_At l G M_X12_beginsClasses (tb_rm 2 0 0) none (tb_ZM G 0 0 (zQ n 0 (zqv (fun J' => UF J' 800 m ∧ UF J' 400 m ∧ J' 164 30 = 0 ∧ zOf (zbut [164, 177, 178, 179, 180]) J' J ∧ ∀ k, ¬ k = 30 → J' 164 k = J 164 k))) (zX n 0 zN)) 0 0 n J1 2 [some (.ref 164), some (zi k), d2, d3] [] := by
    intro f9
    induction f9 with
    | zero => intro k d2 d3 J1 hm9; exact absurd hm9 (Nat.not_lt_zero _)
    | succ f9 ih2 =>
      intro k d2 d3 J1 hm2 hk f1 h1
      refine tz_iload_n (pc := 2) dX12_beginsClasses_2 rfl rfl ?_
      refine tz_sipush (pc := 3) dX12_beginsClasses_3 (by decide) ?_
      refine tz_icmp_ge (pc := 6) (tgt := 100) dX12_beginsClasses_6 (by decide) (by omega) (by decide) (fun h_6 => ?_) (fun h_6 => ?_)
      · refine tz_aload_n (pc := 100) dX12_beginsClasses_100 rfl rfl ?_
        refine tz_iconst (pc := 101) dX12_beginsClasses_101 ?_
        refine tz_pZ (pc := 102) (kz := 30) dX12_beginsClasses_102 fl_X12_161 i_164_30 rfl rfl (Or.inl rfl) ?_
        exact tz_vret (pc := 105) dX12_beginsClasses_105 rfl (Nat.le_of_ble_eq_true rfl) (Nat.le_of_ble_eq_true rfl) ⟨Nat.le_refl _, Nat.le_add_right _ _⟩ ⟨rfl, ⟨⟨Or.inr rfl, fun _ => 0, fun q a c => by obtain ⟨i1, i2, i3⟩ := h1 q a (by omega); refine ⟨⟨by show 0 ≤ J1 177 q ∧ J1 177 q < 800; omega, Or.inl i1⟩, by show J1 178 q = -1 ∨ (0 ≤ J1 178 q ∧ J1 178 q < 800 ∧ J1 178 q % 400 < m); (rcases i2 with i2 | i2 <;> first | exact Or.inl i2 | (rw [i2.1]; exact Or.inr ⟨a, c, i2.2⟩)), fun hq => ⟨by show J1 177 q % 400 < m; rw [i1]; exact hq, i3 hq⟩⟩⟩, ⟨Or.inl rfl, fun _ => 0, fun q a c => by obtain ⟨i1, i2, i3⟩ := h1 q a (by omega); refine ⟨⟨by show 0 ≤ J1 177 q ∧ J1 177 q < 400; omega, Or.inl i1⟩, by show J1 178 q = -1 ∨ (0 ≤ J1 178 q ∧ J1 178 q < 400 ∧ J1 178 q % 400 < m); (rcases i2 with i2 | i2 <;> first | exact Or.inl i2 | (rw [i2.1]; exact Or.inr ⟨a, c, i2.2⟩)), fun hq => ⟨by show J1 177 q % 400 < m; rw [i1]; exact hq, i3 hq⟩⟩⟩, zup_at, zOf.up rfl f1.1, fun q hq => (zup_ne hq).trans (f1.2 q hq)⟩⟩
      · refine tz_iload_n (pc := 9) dX12_beginsClasses_9 rfl rfl ?_
        refine tz_sipush (pc := 10) dX12_beginsClasses_10 (by decide) ?_
        refine tz_irem (pc := 13) (a := k) (b := 400) (v := (k % 400)) dX12_beginsClasses_13 (by omega) (by omega) rfl ?_
        have hk9 : 0 ≤ k % 400 ∧ k % 400 < 400 := by omega
        refine tz_istore_n (pc := 14) (L2 := [_, _, _, _]) dX12_beginsClasses_14 rfl (by decide) rfl ?_
        refine tz_iload_n (pc := 15) dX12_beginsClasses_15 rfl rfl ?_
        refine tz_aload_n (pc := 16) dX12_beginsClasses_16 rfl rfl ?_
        refine tz_cV (pc := 17) (m_many hl n _ b r d s m (hM.cl f1.1 f1.2)) vl_X12_96 dX12_beginsClasses_17 o_164 rfl rfl (Nat.le_of_ble_eq_true rfl) ⟨(Nat.le_of_ble_eq_true rfl), (Nat.le_of_ble_eq_true rfl)⟩ rfl rfl (Nat.le_of_ble_eq_true rfl) (Nat.le_of_ble_eq_true rfl) (fun r9 J_17 hq9 => ?_)
        obtain ⟨z_17, rfl, hz_17, rfl, rfl⟩ := hq9
        refine tz_icmp_ge (pc := 20) (tgt := 27) dX12_beginsClasses_20 (by decide) (by omega) (by omega) (fun h_20 => ?_) (fun h_20 => ?_)
        · refine tz_iconst (pc := 27) dX12_beginsClasses_27 ?_
          refine tz_istore_n (pc := 28) (L2 := [_, _, _, _]) dX12_beginsClasses_28 rfl (by decide) rfl ?_
          refine tz_aload_n (pc := 29) dX12_beginsClasses_29 rfl rfl ?_
          refine tz_fR (pc := 30) dX12_beginsClasses_30 fl_X12_50 r_164_25 ?_
          refine tz_iload_n (pc := 33) dX12_beginsClasses_33 rfl rfl ?_
          refine tz_iload_n (pc := 34) dX12_beginsClasses_34 rfl rfl ?_
          refine tz_aS (pc := 35) (z := k) dX12_beginsClasses_35 a_177 rfl (by omega) (by omega) ?_
          refine tz_aload_n (pc := 36) dX12_beginsClasses_36 rfl rfl ?_
          refine tz_fR (pc := 37) dX12_beginsClasses_37 fl_X12_53 r_164_26 ?_
          refine tz_iload_n (pc := 40) dX12_beginsClasses_40 rfl rfl ?_
          refine tz_iload_n (pc := 41) dX12_beginsClasses_41 rfl rfl ?_
          refine tz_if_eqT (pc := 42) (tgt := 57) (by decide) dX12_beginsClasses_42 (by decide) (by decide) ?_
          refine tz_iconst (pc := 57) dX12_beginsClasses_57 ?_
          refine tz_aS (pc := 58) (z := k) dX12_beginsClasses_58 a_178 rfl (by omega) (by decide) ?_
          refine tz_aload_n (pc := 59) dX12_beginsClasses_59 rfl rfl ?_
          refine tz_fR (pc := 60) dX12_beginsClasses_60 fl_X12_56 r_164_27 ?_
          refine tz_iload_n (pc := 63) dX12_beginsClasses_63 rfl rfl ?_
          refine tz_iload_n (pc := 64) dX12_beginsClasses_64 rfl rfl ?_
          refine tz_if_eqT (pc := 65) (tgt := 84) (by decide) dX12_beginsClasses_65 (by decide) (by decide) ?_
          refine tz_bipush (pc := 84) dX12_beginsClasses_84 (by decide) ?_
          refine tz_aS (pc := 86) (z := k) dX12_beginsClasses_86 a_179 rfl (by omega) (by decide) ?_
          refine tz_aload_n (pc := 87) dX12_beginsClasses_87 rfl rfl ?_
          refine tz_fR (pc := 88) dX12_beginsClasses_88 fl_X12_59 r_164_28 ?_
          refine tz_iload_n (pc := 91) dX12_beginsClasses_91 rfl rfl ?_
          refine tz_iconst (pc := 92) dX12_beginsClasses_92 ?_
          refine tz_aS (pc := 93) (z := k) dX12_beginsClasses_93 a_180 rfl (by omega) (by decide) ?_
          refine tz_iinc (pc := 94) (z := k + 1) (L2 := [_, _, _, _]) dX12_beginsClasses_94 rfl (by omega) rfl ?_
          refine tz_goto (pc := 97) (tgt := 2) dX12_beginsClasses_97 (by decide) ?_
          exact ih2 (k + 1) _ _ _ (by omega) (by omega) ⟨zOf.up rfl (zOf.up rfl (zOf.up rfl (zOf.up rfl f1.1))), f1.2⟩ (ini_s h1 (by omega) (by omega))
        · refine tz_iconst (pc := 23) dX12_beginsClasses_23 ?_
          refine tz_goto (pc := 24) (tgt := 28) dX12_beginsClasses_24 (by decide) ?_
          refine tz_istore_n (pc := 28) (L2 := [_, _, _, _]) dX12_beginsClasses_28 rfl (by decide) rfl ?_
          refine tz_aload_n (pc := 29) dX12_beginsClasses_29 rfl rfl ?_
          refine tz_fR (pc := 30) dX12_beginsClasses_30 fl_X12_50 r_164_25 ?_
          refine tz_iload_n (pc := 33) dX12_beginsClasses_33 rfl rfl ?_
          refine tz_iload_n (pc := 34) dX12_beginsClasses_34 rfl rfl ?_
          refine tz_aS (pc := 35) (z := k) dX12_beginsClasses_35 a_177 rfl (by omega) (by omega) ?_
          refine tz_aload_n (pc := 36) dX12_beginsClasses_36 rfl rfl ?_
          refine tz_fR (pc := 37) dX12_beginsClasses_37 fl_X12_53 r_164_26 ?_
          refine tz_iload_n (pc := 40) dX12_beginsClasses_40 rfl rfl ?_
          refine tz_iload_n (pc := 41) dX12_beginsClasses_41 rfl rfl ?_
          refine tz_if_eqF (pc := 42) (tgt := 57) (by decide) dX12_beginsClasses_42 (by decide) (by decide) ?_
          refine tz_aload_n (pc := 45) dX12_beginsClasses_45 rfl rfl ?_
          refine tz_iload_n (pc := 46) dX12_beginsClasses_46 rfl rfl ?_
          have ha47 := hM.ar (t := k % 400) (by omega)
          refine tz_cV (pc := 47) (m_isVar hl n _ _ (by omega) b r d s m (hM.cl (zOf.up rfl f1.1) f1.2) (by omega)) vl_X12_78 dX12_beginsClasses_47 o_164 rfl rfl (Nat.le_of_ble_eq_true rfl) ⟨(Nat.le_of_ble_eq_true rfl), (Nat.le_of_ble_eq_true rfl)⟩ rfl rfl (Nat.le_of_ble_eq_true rfl) (Nat.le_of_ble_eq_true rfl) (fun r9 J_47 hq9 => ?_)
          obtain ⟨z_47, rfl, hz_47, rfl, hv_47⟩ := hq9
          have he_47 : ((zup J1 177 k k) : zJ) 166 = J 166 := (zOf.up rfl f1.1) 166 rfl
          rw [he_47] at hv_47
          have hw_47 : (z_47 = 1 ∧ J 166 (b + (k % 400)) < 0) ∨ (z_47 = 0 ∧ ¬ J 166 (b + (k % 400)) < 0) := by rw [← hv_47]; split <;> omega
          refine tz_if_ne (pc := 50) (tgt := 57) dX12_beginsClasses_50 (by decide) (by omega) (fun h_50 => ?_) (fun h_50 => ?_)
          · refine tz_iconst (pc := 57) dX12_beginsClasses_57 ?_
            refine tz_aS (pc := 58) (z := k) dX12_beginsClasses_58 a_178 rfl (by omega) (by decide) ?_
            refine tz_aload_n (pc := 59) dX12_beginsClasses_59 rfl rfl ?_
            refine tz_fR (pc := 60) dX12_beginsClasses_60 fl_X12_56 r_164_27 ?_
            refine tz_iload_n (pc := 63) dX12_beginsClasses_63 rfl rfl ?_
            refine tz_iload_n (pc := 64) dX12_beginsClasses_64 rfl rfl ?_
            refine tz_if_eqF (pc := 65) (tgt := 84) (by decide) dX12_beginsClasses_65 (by decide) (by decide) ?_
            refine tz_aload_n (pc := 68) dX12_beginsClasses_68 rfl rfl ?_
            refine tz_iload_n (pc := 69) dX12_beginsClasses_69 rfl rfl ?_
            have ha70 := hM.ar (t := k % 400) (by omega)
            refine tz_cV (pc := 70) (m_isVar hl n _ _ (by omega) b r d s m (hM.cl (zOf.up rfl (zOf.up rfl f1.1)) f1.2) (by omega)) vl_X12_78 dX12_beginsClasses_70 o_164 rfl rfl (Nat.le_of_ble_eq_true rfl) ⟨(Nat.le_of_ble_eq_true rfl), (Nat.le_of_ble_eq_true rfl)⟩ rfl rfl (Nat.le_of_ble_eq_true rfl) (Nat.le_of_ble_eq_true rfl) (fun r9 J_70 hq9 => ?_)
            obtain ⟨z_70, rfl, hz_70, rfl, hv_70⟩ := hq9
            have he_70 : ((zup (zup J1 177 k k) 178 k (-1)) : zJ) 166 = J 166 := (zOf.up rfl (zOf.up rfl f1.1)) 166 rfl
            rw [he_70] at hv_70
            have hw_70 : (z_70 = 1 ∧ J 166 (b + (k % 400)) < 0) ∨ (z_70 = 0 ∧ ¬ J 166 (b + (k % 400)) < 0) := by rw [← hv_70]; split <;> omega
            refine tz_if_eq (pc := 73) (tgt := 84) dX12_beginsClasses_73 (by decide) (by omega) (fun h_73 => ?_) (fun h_73 => ?_)
            · refine tz_bipush (pc := 84) dX12_beginsClasses_84 (by decide) ?_
              refine tz_aS (pc := 86) (z := k) dX12_beginsClasses_86 a_179 rfl (by omega) (by decide) ?_
              refine tz_aload_n (pc := 87) dX12_beginsClasses_87 rfl rfl ?_
              refine tz_fR (pc := 88) dX12_beginsClasses_88 fl_X12_59 r_164_28 ?_
              refine tz_iload_n (pc := 91) dX12_beginsClasses_91 rfl rfl ?_
              refine tz_iconst (pc := 92) dX12_beginsClasses_92 ?_
              refine tz_aS (pc := 93) (z := k) dX12_beginsClasses_93 a_180 rfl (by omega) (by decide) ?_
              refine tz_iinc (pc := 94) (z := k + 1) (L2 := [_, _, _, _]) dX12_beginsClasses_94 rfl (by omega) rfl ?_
              refine tz_goto (pc := 97) (tgt := 2) dX12_beginsClasses_97 (by decide) ?_
              exact ih2 (k + 1) _ _ _ (by omega) (by omega) ⟨zOf.up rfl (zOf.up rfl (zOf.up rfl (zOf.up rfl f1.1))), f1.2⟩ (ini_s h1 (by omega) (by omega))
            · refine tz_aload_n (pc := 76) dX12_beginsClasses_76 rfl rfl ?_
              refine tz_iload_n (pc := 77) dX12_beginsClasses_77 rfl rfl ?_
              refine tz_cV (pc := 78) (m_varOf hl n _ _ (by omega) b r d s m (hM.cl (zOf.up rfl (zOf.up rfl f1.1)) f1.2) (by omega)) vl_X12_123 dX12_beginsClasses_78 o_164 rfl rfl (Nat.le_of_ble_eq_true rfl) ⟨(Nat.le_of_ble_eq_true rfl), (Nat.le_of_ble_eq_true rfl)⟩ rfl rfl (Nat.le_of_ble_eq_true rfl) (Nat.le_of_ble_eq_true rfl) (fun r9 J_78 hq9 => ?_)
              obtain ⟨z_78, rfl, hz_78, rfl, hv_78⟩ := hq9
              have he_78 : ((zup (zup J1 177 k k) 178 k (-1)) : zJ) 166 = J 166 := (zOf.up rfl (zOf.up rfl f1.1)) 166 rfl
              rw [he_78] at hv_78
              refine tz_goto (pc := 81) (tgt := 86) dX12_beginsClasses_81 (by decide) ?_
              refine tz_aS (pc := 86) (z := k) dX12_beginsClasses_86 a_179 rfl (by omega) (by omega) ?_
              refine tz_aload_n (pc := 87) dX12_beginsClasses_87 rfl rfl ?_
              refine tz_fR (pc := 88) dX12_beginsClasses_88 fl_X12_59 r_164_28 ?_
              refine tz_iload_n (pc := 91) dX12_beginsClasses_91 rfl rfl ?_
              refine tz_iconst (pc := 92) dX12_beginsClasses_92 ?_
              refine tz_aS (pc := 93) (z := k) dX12_beginsClasses_93 a_180 rfl (by omega) (by decide) ?_
              refine tz_iinc (pc := 94) (z := k + 1) (L2 := [_, _, _, _]) dX12_beginsClasses_94 rfl (by omega) rfl ?_
              refine tz_goto (pc := 97) (tgt := 2) dX12_beginsClasses_97 (by decide) ?_
              exact ih2 (k + 1) _ _ _ (by omega) (by omega) ⟨zOf.up rfl (zOf.up rfl (zOf.up rfl (zOf.up rfl f1.1))), f1.2⟩ (ini_s h1 (by omega) (by omega))
          · refine tz_iload_n (pc := 53) dX12_beginsClasses_53 rfl rfl ?_
            refine tz_goto (pc := 54) (tgt := 58) dX12_beginsClasses_54 (by decide) ?_
            refine tz_aS (pc := 58) (z := k) dX12_beginsClasses_58 a_178 rfl (by omega) (by omega) ?_
            refine tz_aload_n (pc := 59) dX12_beginsClasses_59 rfl rfl ?_
            refine tz_fR (pc := 60) dX12_beginsClasses_60 fl_X12_56 r_164_27 ?_
            refine tz_iload_n (pc := 63) dX12_beginsClasses_63 rfl rfl ?_
            refine tz_iload_n (pc := 64) dX12_beginsClasses_64 rfl rfl ?_
            refine tz_if_eqF (pc := 65) (tgt := 84) (by decide) dX12_beginsClasses_65 (by decide) (by decide) ?_
            refine tz_aload_n (pc := 68) dX12_beginsClasses_68 rfl rfl ?_
            refine tz_iload_n (pc := 69) dX12_beginsClasses_69 rfl rfl ?_
            have ha70 := hM.ar (t := k % 400) (by omega)
            refine tz_cV (pc := 70) (m_isVar hl n _ _ (by omega) b r d s m (hM.cl (zOf.up rfl (zOf.up rfl f1.1)) f1.2) (by omega)) vl_X12_78 dX12_beginsClasses_70 o_164 rfl rfl (Nat.le_of_ble_eq_true rfl) ⟨(Nat.le_of_ble_eq_true rfl), (Nat.le_of_ble_eq_true rfl)⟩ rfl rfl (Nat.le_of_ble_eq_true rfl) (Nat.le_of_ble_eq_true rfl) (fun r9 J_70 hq9 => ?_)
            obtain ⟨z_70, rfl, hz_70, rfl, hv_70⟩ := hq9
            have he_70 : ((zup (zup J1 177 k k) 178 k k) : zJ) 166 = J 166 := (zOf.up rfl (zOf.up rfl f1.1)) 166 rfl
            rw [he_70] at hv_70
            have hw_70 : (z_70 = 1 ∧ J 166 (b + (k % 400)) < 0) ∨ (z_70 = 0 ∧ ¬ J 166 (b + (k % 400)) < 0) := by rw [← hv_70]; split <;> omega
            refine tz_if_eq (pc := 73) (tgt := 84) dX12_beginsClasses_73 (by decide) (by omega) (fun h_73 => ?_) (fun h_73 => ?_)
            · refine tz_bipush (pc := 84) dX12_beginsClasses_84 (by decide) ?_
              refine tz_aS (pc := 86) (z := k) dX12_beginsClasses_86 a_179 rfl (by omega) (by decide) ?_
              refine tz_aload_n (pc := 87) dX12_beginsClasses_87 rfl rfl ?_
              refine tz_fR (pc := 88) dX12_beginsClasses_88 fl_X12_59 r_164_28 ?_
              refine tz_iload_n (pc := 91) dX12_beginsClasses_91 rfl rfl ?_
              refine tz_iconst (pc := 92) dX12_beginsClasses_92 ?_
              refine tz_aS (pc := 93) (z := k) dX12_beginsClasses_93 a_180 rfl (by omega) (by decide) ?_
              refine tz_iinc (pc := 94) (z := k + 1) (L2 := [_, _, _, _]) dX12_beginsClasses_94 rfl (by omega) rfl ?_
              refine tz_goto (pc := 97) (tgt := 2) dX12_beginsClasses_97 (by decide) ?_
              exact ih2 (k + 1) _ _ _ (by omega) (by omega) ⟨zOf.up rfl (zOf.up rfl (zOf.up rfl (zOf.up rfl f1.1))), f1.2⟩ (ini_s h1 (by omega) (by omega))
            · refine tz_aload_n (pc := 76) dX12_beginsClasses_76 rfl rfl ?_
              refine tz_iload_n (pc := 77) dX12_beginsClasses_77 rfl rfl ?_
              refine tz_cV (pc := 78) (m_varOf hl n _ _ (by omega) b r d s m (hM.cl (zOf.up rfl (zOf.up rfl f1.1)) f1.2) (by omega)) vl_X12_123 dX12_beginsClasses_78 o_164 rfl rfl (Nat.le_of_ble_eq_true rfl) ⟨(Nat.le_of_ble_eq_true rfl), (Nat.le_of_ble_eq_true rfl)⟩ rfl rfl (Nat.le_of_ble_eq_true rfl) (Nat.le_of_ble_eq_true rfl) (fun r9 J_78 hq9 => ?_)
              obtain ⟨z_78, rfl, hz_78, rfl, hv_78⟩ := hq9
              have he_78 : ((zup (zup J1 177 k k) 178 k k) : zJ) 166 = J 166 := (zOf.up rfl (zOf.up rfl f1.1)) 166 rfl
              rw [he_78] at hv_78
              refine tz_goto (pc := 81) (tgt := 86) dX12_beginsClasses_81 (by decide) ?_
              refine tz_aS (pc := 86) (z := k) dX12_beginsClasses_86 a_179 rfl (by omega) (by omega) ?_
              refine tz_aload_n (pc := 87) dX12_beginsClasses_87 rfl rfl ?_
              refine tz_fR (pc := 88) dX12_beginsClasses_88 fl_X12_59 r_164_28 ?_
              refine tz_iload_n (pc := 91) dX12_beginsClasses_91 rfl rfl ?_
              refine tz_iconst (pc := 92) dX12_beginsClasses_92 ?_
              refine tz_aS (pc := 93) (z := k) dX12_beginsClasses_93 a_180 rfl (by omega) (by decide) ?_
              refine tz_iinc (pc := 94) (z := k + 1) (L2 := [_, _, _, _]) dX12_beginsClasses_94 rfl (by omega) rfl ?_
              refine tz_goto (pc := 97) (tgt := 2) dX12_beginsClasses_97 (by decide) ?_
              exact ih2 (k + 1) _ _ _ (by omega) (by omega) ⟨zOf.up rfl (zOf.up rfl (zOf.up rfl (zOf.up rfl f1.1))), f1.2⟩ (ini_s h1 (by omega) (by omega))
  exact loop2 _ 0 none none _ (Nat.lt_succ_self _) (by omega) ⟨zOf.rf, fun _ _ => rfl⟩ (fun q a b => by omega)

end
section
theorem zsel {f : Int → Int} {a : Int} : ∀ k, f k = if k = a then f a else f k := fun k => by
  split
  · next h => rw [h]
  · rfl
theorem UF.joinP {J J' : zJ} {c m a b v w : Int} (h : UF J c m) (ha : (0 ≤ a ∧ a < c) ∧ a % 400 < m ∧ J 177 a = a) (hb : (0 ≤ b ∧ b < c) ∧ b % 400 < m ∧ J 177 b = b) (hab : ¬ a = b) (hv : v = -1 ∨ (0 ≤ v ∧ v < c ∧ v % 400 < m)) (hw : v = -1 → 0 ≤ w ∧ w < 8) (e7 : ∀ k, J' 177 k = if k = b then a else J 177 k) (e8 : ∀ k, J' 178 k = if k = a then v else J 178 k) (e9 : ∀ k, J' 179 k = if k = a then w else J 179 k) : UF J' c m ∧ rc J' < rc J := by
  have hc := h.1
  refine ⟨(UF.join h ha hb hab hv hw).of (funext fun k => (e7 k).trans rfl) (funext fun k => (e8 k).trans rfl) (funext fun k => (e9 k).trans rfl), ?_⟩
  have h1 := rc_join (J := J) (a := a) (b := b) (v := v) (w := w) ⟨⟨hb.1.1, by omega⟩, hb.2.2⟩ hab
  have e : rc J' = rc (zup (zup (zup J 177 b a) 178 a v) 179 a w) := by
    unfold rc
    rw [show J' 177 = zup (zup (zup J 177 b a) 178 a v) 179 a w 177 from funext fun k => (e7 k).trans rfl]
  omega
theorem mar_cl {J' J : zJ} {b d t : Int} (f : zOf (zbut [164, 177, 178, 179, 180]) J' J) : mar J' b d t = mar J b d t := by
  unfold mar
  rw [f 166 rfl, f 170 rfl]
theorem UF.bd {J : zJ} {c m : Int} (h : UF J c m) : c = 400 ∨ c = 800 := h.1
set_option maxHeartbeats 4000000 in
set_option maxRecDepth 100000 in
theorem m_joinsR {l : Launch} {G : tb_G} (hl : l.stackTraces = false) (n : Nat) : ∀ (r9 : Nat) (J : zJ) (x : Int) (y : Int) (hr_x : -2147483648 ≤ x ∧ x < 2147483648) (hr_y : -2147483648 ≤ y ∧ y < 2147483648) (b r d s m : Int) (c : Int) (hM : MS J b r d s m) (hU : UF J c m) (hx : (0 ≤ x ∧ x < c) ∧ x % 400 < m) (hy : (0 ≤ y ∧ y < c) ∧ y % 400 < m), (rc J) < r9 → tz_Ok l G M_X12_joins (5 + 1 * r9) 0 0 [.ref 164, zi x, zi y] n J (zqv (fun J' => UF J' c m ∧ rc J' ≤ rc J ∧ zOf (zbut [164, 177, 178, 179, 180]) J' J ∧ ∀ k, ¬ k = 30 → J' 164 k = J 164 k)) zN := by
  intro r9
  induction r9 with
  | zero => intro J x y hr_x hr_y b r d s m c hM hU hx hy hm9; exact absurd hm9 (Nat.not_lt_zero _)
  | succ r9 ih =>
    intro J x y hr_x hr_y b r d s m c hM hU hx hy hm9
    refine tz_Ok.of hl (by decide +kernel) rfl (tb_c1 rfl) (Nat.le_of_ble_eq_true rfl) ?_
    show tz_At l G M_X12_joins (tb_rm (5 + 1 * (r9 + 1)) 0 0) none (tb_ZM G 0 0 (zQ n 0 (zqv (fun J' => UF J' c m ∧ rc J' ≤ rc J ∧ zOf (zbut [164, 177, 178, 179, 180]) J' J ∧ ∀ k, ¬ k = 30 → J' 164 k = J 164 k))) (zX n 0 zN)) 0 0 n J 0 [some (.ref 164), some (zi x), some (zi y), none, none, none, none, none] []
    obtain ⟨hM1, hM2, hM3, hM4, hM5, hM6⟩ := id hM
    have hT := hM.told
    have hc9 := hU.1
    refine tz_aload_n (pc := 0) dX12_joins_0 rfl rfl ?_
    refine tz_iload_n (pc := 1) dX12_joins_1 rfl rfl ?_
    refine tz_cV (pc := 2) (m_top hl n _ _ (by omega) c m hU (by omega)) vl_X12_164 dX12_joins_2 o_164 rfl rfl (Nat.le_of_ble_eq_true rfl) ⟨(show 0 + 1 ≤ 5 + 1 * (r9 + 1) by omega), (show 8 + (3 + 11) + 40 * (0) ≤ 40 * (5 + 1 * (r9 + 1)) by omega)⟩ rfl rfl (Nat.le_of_ble_eq_true rfl) (Nat.le_of_ble_eq_true rfl) (fun r9 J_2 hq9 => ?_)
    obtain ⟨z_2, rfl, hz_2, rfl, a_2, b_2, c_2⟩ := hq9
    refine tz_istore_n (pc := 5) (L2 := [_, _, _, _, _, _, _, _]) dX12_joins_5 rfl (by decide) rfl ?_
    refine tz_aload_n (pc := 6) dX12_joins_6 rfl rfl ?_
    refine tz_iload_n (pc := 7) dX12_joins_7 rfl rfl ?_
    refine tz_cV (pc := 8) (m_top hl n _ _ (by omega) c m hU (by omega)) vl_X12_164 dX12_joins_8 o_164 rfl rfl (Nat.le_of_ble_eq_true rfl) ⟨(show 0 + 1 ≤ 5 + 1 * (r9 + 1) by omega), (show 8 + (3 + 11) + 40 * (0) ≤ 40 * (5 + 1 * (r9 + 1)) by omega)⟩ rfl rfl (Nat.le_of_ble_eq_true rfl) (Nat.le_of_ble_eq_true rfl) (fun r9 J_8 hq9 => ?_)
    obtain ⟨z_8, rfl, hz_8, rfl, a_8, b_8, c_8⟩ := hq9
    refine tz_istore (pc := 11) (L2 := [_, _, _, _, _, _, _, _]) dX12_joins_11 (by decide) rfl ?_
    refine tz_iload_n (pc := 13) dX12_joins_13 rfl rfl ?_
    refine tz_iload (pc := 14) dX12_joins_14 rfl ?_
    refine tz_icmp_ne (pc := 16) (tgt := 20) dX12_joins_16 (by decide) (by omega) (by omega) (fun h_16 => ?_) (fun h_16 => ?_)
    · have ua := (hU.at a_2).2
      have ub := (hU.at a_8).2
      have va := c_2 hx.2
      have vb := c_8 hy.2
      refine tz_aload_n (pc := 20) dX12_joins_20 rfl rfl ?_
      refine tz_fR (pc := 21) dX12_joins_21 fl_X12_53 r_164_26 ?_
      refine tz_iload_n (pc := 24) dX12_joins_24 rfl rfl ?_
      refine tz_aL (pc := 25) (z := z_2) (v := (J 178 z_2)) dX12_joins_25 a_178 rfl (by omega) rfl (fun r_25 => ?_)
      refine tz_istore (pc := 26) (L2 := [_, _, _, _, _, _, _, _]) dX12_joins_26 (by decide) rfl ?_
      refine tz_aload_n (pc := 28) dX12_joins_28 rfl rfl ?_
      refine tz_fR (pc := 29) dX12_joins_29 fl_X12_53 r_164_26 ?_
      refine tz_iload (pc := 32) dX12_joins_32 rfl ?_
      refine tz_aL (pc := 34) (z := z_8) (v := (J 178 z_8)) dX12_joins_34 a_178 rfl (by omega) rfl (fun r_34 => ?_)
      refine tz_istore (pc := 35) (L2 := [_, _, _, _, _, _, _, _]) dX12_joins_35 (by decide) rfl ?_
      refine tz_aload_n (pc := 37) dX12_joins_37 rfl rfl ?_
      refine tz_fR (pc := 38) dX12_joins_38 fl_X12_50 r_164_25 ?_
      refine tz_iload (pc := 41) dX12_joins_41 rfl ?_
      refine tz_iload_n (pc := 43) dX12_joins_43 rfl rfl ?_
      refine tz_aS (pc := 44) (z := z_8) dX12_joins_44 a_177 rfl (by omega) (by omega) ?_
      refine tz_iload (pc := 45) dX12_joins_45 rfl ?_
      refine tz_iconst (pc := 47) dX12_joins_47 ?_
      refine tz_icmp_ne (pc := 48) (tgt := 59) dX12_joins_48 (by decide) (by omega) (by decide) (fun h_48 => ?_) (fun h_48 => ?_)
      · refine tz_aload_n (pc := 59) dX12_joins_59 rfl rfl ?_
        refine tz_fR (pc := 60) dX12_joins_60 fl_X12_56 r_164_27 ?_
        refine tz_iload (pc := 63) dX12_joins_63 rfl ?_
        refine tz_aL (pc := 65) (z := z_8) (v := (J 179 z_8)) dX12_joins_65 a_179 rfl (by omega) rfl (fun r_65 => ?_)
        refine tz_aload_n (pc := 66) dX12_joins_66 rfl rfl ?_
        refine tz_fR (pc := 67) dX12_joins_67 fl_X12_56 r_164_27 ?_
        refine tz_iload_n (pc := 70) dX12_joins_70 rfl rfl ?_
        refine tz_aL (pc := 71) (z := z_2) (v := (J 179 z_2)) dX12_joins_71 a_179 rfl (by omega) rfl (fun r_71 => ?_)
        refine tz_icmp_ge (pc := 72) (tgt := 88) dX12_joins_72 (by decide) (by omega) (by omega) (fun h_72 => ?_) (fun h_72 => ?_)
        · have hu := UF.joinP (J := J) (J' := (zup J 177 z_8 z_2)) (c := c) (m := m) (a := z_2) (b := z_8) (v := J 178 z_2) (w := J 179 z_2) hU ⟨a_2, c_2 hx.2, b_2⟩ ⟨a_8, c_8 hy.2, b_8⟩ (by omega) (by omega) (by omega) (fun _ => rfl) (zsel (f := J 178)) (zsel (f := J 179))
          refine tz_iload (pc := 88) dX12_joins_88 rfl ?_
          refine tz_iconst (pc := 90) dX12_joins_90 ?_
          refine tz_icmp_eq (pc := 91) (tgt := 100) dX12_joins_91 (by decide) (by omega) (by decide) (fun h_91 => ?_) (fun h_91 => ?_)
          · exact tz_vret (pc := 100) dX12_joins_100 rfl (Nat.le_of_ble_eq_true rfl) (Nat.le_of_ble_eq_true rfl) ⟨Nat.le_refl _, Nat.le_add_right _ _⟩ ⟨rfl, ⟨hu.1, Nat.le_of_lt hu.2, (zOf.up rfl zOf.rf), (fun _ _ => rfl)⟩⟩
          · refine tz_iload (pc := 94) dX12_joins_94 rfl ?_
            refine tz_iconst (pc := 96) dX12_joins_96 ?_
            refine tz_icmp_ne (pc := 97) (tgt := 101) dX12_joins_97 (by decide) (by omega) (by decide) (fun h_97 => ?_) (fun h_97 => ?_)
            · refine tz_aload_n (pc := 101) dX12_joins_101 rfl rfl ?_
              refine tz_iload (pc := 102) dX12_joins_102 rfl ?_
              refine tz_sipush (pc := 104) dX12_joins_104 (by decide) ?_
              refine tz_irem (pc := 107) (a := (J 178 z_2)) (b := 400) (v := ((J 178 z_2) % 400)) dX12_joins_107 (by omega) (by omega) rfl ?_
              refine tz_cV (pc := 108) (m_head hl n _ _ (by omega) b r d s m (hM.cl (zOf.up rfl zOf.rf) (fun _ _ => rfl)) (by omega)) vl_X12_74 dX12_joins_108 o_164 rfl rfl (Nat.le_of_ble_eq_true rfl) ⟨(show 0 + 1 ≤ 5 + 1 * (r9 + 1) by omega), (show 8 + (2 + 11) + 40 * (0) ≤ 40 * (5 + 1 * (r9 + 1)) by omega)⟩ rfl rfl (Nat.le_of_ble_eq_true rfl) (Nat.le_of_ble_eq_true rfl) (fun r9 J_108 hq9 => ?_)
              obtain ⟨z_108, rfl, hz_108, rfl, hv_108⟩ := hq9
              have he_108 : ((zup J 177 z_8 z_2) : zJ) 166 = J 166 := rfl
              rw [he_108] at hv_108
              refine tz_aload_n (pc := 111) dX12_joins_111 rfl rfl ?_
              refine tz_iload (pc := 112) dX12_joins_112 rfl ?_
              refine tz_sipush (pc := 114) dX12_joins_114 (by decide) ?_
              refine tz_irem (pc := 117) (a := (J 178 z_8)) (b := 400) (v := ((J 178 z_8) % 400)) dX12_joins_117 (by omega) (by omega) rfl ?_
              refine tz_cV (pc := 118) (m_head hl n _ _ (by omega) b r d s m (hM.cl (zOf.up rfl zOf.rf) (fun _ _ => rfl)) (by omega)) vl_X12_74 dX12_joins_118 o_164 rfl rfl (Nat.le_of_ble_eq_true rfl) ⟨(show 0 + 1 ≤ 5 + 1 * (r9 + 1) by omega), (show 8 + (2 + 11) + 40 * (0) ≤ 40 * (5 + 1 * (r9 + 1)) by omega)⟩ rfl rfl (Nat.le_of_ble_eq_true rfl) (Nat.le_of_ble_eq_true rfl) (fun r9 J_118 hq9 => ?_)
              obtain ⟨z_118, rfl, hz_118, rfl, hv_118⟩ := hq9
              have he_118 : ((zup J 177 z_8 z_2) : zJ) 166 = J 166 := rfl
              rw [he_118] at hv_118
              have ha121 := hM.ar (t := (J 178 z_2) % 400) (by omega)
              refine tz_icmp_eq (pc := 121) (tgt := 130) dX12_joins_121 (by decide) (by omega) (by omega) (fun h_121 => ?_) (fun h_121 => ?_)
              · refine tz_iconst (pc := 130) dX12_joins_130 ?_
                refine tz_istore (pc := 131) (L2 := [_, _, _, _, _, _, _, _]) dX12_joins_131 (by decide) rfl ?_
                have loop133 : ∀ (f9 : Nat) (k : Int) (J1 : zJ), ((3 - k).toNat) < f9 → (0 ≤ k ∧ k ≤ 3) → (UF J1 c m) → (rc J1 < rc J) → (zOf (zbut [164, 177, 178, 179, 180]) J1 J ∧ ∀ k, ¬ k = 30 → J1 164 k = J 164 k) → tz_At l G M_X12_joins (tb_rm (5 + 1 * (r9 + 1)) 0 0) none (tb_ZM G 0 0 (zQ n 0 (zqv (fun J' => UF J' c m ∧ rc J' ≤ rc J ∧ zOf (zbut [164, 177, 178, 179, 180]) J' J ∧ ∀ k, ¬ k = 30 → J' 164 k = J 164 k))) (zX n 0 zN)) 0 0 n J1 133 [some (.ref 164), some (zi x), some (zi y), some (zi z_2), some (zi z_8), some (zi (J 178 z_2)), some (zi (J 178 z_8)), some (zi k)] [] := by
                  intro f9
                  induction f9 with
                  | zero => intro k J1 hm9; exact absurd hm9 (Nat.not_lt_zero _)
                  | succ f9 ih133 =>
                    intro k J1 hm133 hk hU1 hr1 f_J1
                    have e9 := MS.hd8 (J := J) (b := b) (d := d) (t := (J 178 z_2) % 400) (u := (J 178 z_8) % 400) (by omega)
                    have hA := hM.ar (t := (J 178 z_2) % 400) (by omega)
                    refine tz_iload (pc := 133) dX12_joins_133 rfl ?_
                    refine tz_aload_n (pc := 135) dX12_joins_135 rfl rfl ?_
                    refine tz_iload (pc := 136) dX12_joins_136 rfl ?_
                    refine tz_sipush (pc := 138) dX12_joins_138 (by decide) ?_
                    refine tz_irem (pc := 141) (a := (J 178 z_2)) (b := 400) (v := ((J 178 z_2) % 400)) dX12_joins_141 (by omega) (by omega) rfl ?_
                    refine tz_cV (pc := 142) (m_arity hl n _ _ (by omega) b r d s m (hM.cl f_J1.1 f_J1.2) (by omega)) vl_X12_111 dX12_joins_142 o_164 rfl rfl (Nat.le_of_ble_eq_true rfl) ⟨(show 2 + 1 ≤ 5 + 1 * (r9 + 1) by omega), (show 8 + (2 + 11) + 40 * (2) ≤ 40 * (5 + 1 * (r9 + 1)) by omega)⟩ rfl rfl (Nat.le_of_ble_eq_true rfl) (Nat.le_of_ble_eq_true rfl) (fun r9 J_142 hq9 => ?_)
                    obtain ⟨z_142, rfl, hz_142, rfl, hv_142⟩ := hq9
                    rw [mar_cl (J := J) f_J1.1] at hv_142
                    refine tz_icmp_ge (pc := 145) (tgt := 174) dX12_joins_145 (by decide) (by omega) (by omega) (fun h_145 => ?_) (fun h_145 => ?_)
                    · exact tz_vret (pc := 174) dX12_joins_174 rfl (Nat.le_of_ble_eq_true rfl) (Nat.le_of_ble_eq_true rfl) ⟨Nat.le_refl _, Nat.le_add_right _ _⟩ ⟨rfl, ⟨hU1, by omega, f_J1⟩⟩
                    · refine tz_aload_n (pc := 148) dX12_joins_148 rfl rfl ?_
                      refine tz_aload_n (pc := 149) dX12_joins_149 rfl rfl ?_
                      refine tz_iload (pc := 150) dX12_joins_150 rfl ?_
                      refine tz_iload (pc := 152) dX12_joins_152 rfl ?_
                      refine tz_cV (pc := 154) (m_argOf hl n _ _ _ (by omega) (by omega) b r d s m c (hM.cl f_J1.1 f_J1.2) hU.1 (by omega) (by rw [mar_cl (J := J) f_J1.1]; omega)) vl_X12_167 dX12_joins_154 o_164 rfl rfl (Nat.le_of_ble_eq_true rfl) ⟨(show 1 + 1 ≤ 5 + 1 * (r9 + 1) by omega), (show 8 + (3 + 11) + 40 * (1) ≤ 40 * (5 + 1 * (r9 + 1)) by omega)⟩ rfl rfl (Nat.le_of_ble_eq_true rfl) (Nat.le_of_ble_eq_true rfl) (fun r9 J_154 hq9 => ?_)
                      obtain ⟨z_154, rfl, hz_154, rfl, hg_154, hh_154⟩ := hq9
                      refine tz_aload_n (pc := 157) dX12_joins_157 rfl rfl ?_
                      refine tz_iload (pc := 158) dX12_joins_158 rfl ?_
                      refine tz_iload (pc := 160) dX12_joins_160 rfl ?_
                      refine tz_cV (pc := 162) (m_argOf hl n _ _ _ (by omega) (by omega) b r d s m c (hM.cl f_J1.1 f_J1.2) hU.1 (by omega) (by rw [mar_cl (J := J) f_J1.1]; omega)) vl_X12_167 dX12_joins_162 o_164 rfl rfl (Nat.le_of_ble_eq_true rfl) ⟨(show 1 + 1 ≤ 5 + 1 * (r9 + 1) by omega), (show 8 + (3 + 11) + 40 * (1) ≤ 40 * (5 + 1 * (r9 + 1)) by omega)⟩ rfl rfl (Nat.le_of_ble_eq_true rfl) (Nat.le_of_ble_eq_true rfl) (fun r9 J_162 hq9 => ?_)
                      obtain ⟨z_162, rfl, hz_162, rfl, hg_162, hh_162⟩ := hq9
                      refine tz_cV (pc := 165) (ih _ _ _ (by omega) (by omega) b r d s m c (hM.cl f_J1.1 f_J1.2) hU1 ⟨hg_154, hh_154⟩ ⟨hg_162, hh_162⟩ (by omega)) vl_X12_170 dX12_joins_165 o_164 rfl rfl (Nat.le_of_ble_eq_true rfl) ⟨(show (5 + 1 * r9) + 1 ≤ 5 + 1 * (r9 + 1) by omega), (show 8 + (8 + 11) + 40 * ((5 + 1 * r9)) ≤ 40 * (5 + 1 * (r9 + 1)) by omega)⟩ rfl rfl (Nat.le_of_ble_eq_true rfl) (Nat.le_of_ble_eq_true rfl) (fun r9 J_165 hq9 => ?_)
                      obtain ⟨rfl, u_2, r_2, g_2, k_2⟩ := hq9
                      refine tz_iinc (pc := 168) (z := k + 1) (L2 := [_, _, _, _, _, _, _, _]) dX12_joins_168 rfl (by omega) rfl ?_
                      refine tz_goto (pc := 171) (tgt := 133) dX12_joins_171 (by decide) ?_
                      exact ih133 (k + 1) _ (by omega) (by omega) u_2 (by omega) ⟨g_2.tr f_J1.1, fun k hk => (k_2 k hk).trans (f_J1.2 k hk)⟩
                exact loop133 _ 0 _ (Nat.lt_succ_self _) (by omega) hu.1 hu.2 ⟨(zOf.up rfl zOf.rf), (fun _ _ => rfl)⟩
              · refine tz_aload_n (pc := 124) dX12_joins_124 rfl rfl ?_
                refine tz_iconst (pc := 125) dX12_joins_125 ?_
                refine tz_pZ (pc := 126) (kz := 30) dX12_joins_126 fl_X12_161 i_164_30 rfl rfl (Or.inr rfl) ?_
                exact tz_vret (pc := 129) dX12_joins_129 rfl (Nat.le_of_ble_eq_true rfl) (Nat.le_of_ble_eq_true rfl) ⟨Nat.le_refl _, Nat.le_add_right _ _⟩ ⟨rfl, ⟨hu.1.of rfl rfl rfl, Nat.le_of_lt hu.2, (zOf.up rfl (zOf.up rfl zOf.rf)), (fun k hk => (zup_ne hk).trans ((fun _ _ => rfl) k hk))⟩⟩
            · exact tz_vret (pc := 100) dX12_joins_100 rfl (Nat.le_of_ble_eq_true rfl) (Nat.le_of_ble_eq_true rfl) ⟨Nat.le_refl _, Nat.le_add_right _ _⟩ ⟨rfl, ⟨hu.1, Nat.le_of_lt hu.2, (zOf.up rfl zOf.rf), (fun _ _ => rfl)⟩⟩
        · refine tz_aload_n (pc := 75) dX12_joins_75 rfl rfl ?_
          refine tz_fR (pc := 76) dX12_joins_76 fl_X12_56 r_164_27 ?_
          refine tz_iload_n (pc := 79) dX12_joins_79 rfl rfl ?_
          refine tz_aload_n (pc := 80) dX12_joins_80 rfl rfl ?_
          refine tz_fR (pc := 81) dX12_joins_81 fl_X12_56 r_164_27 ?_
          refine tz_iload (pc := 84) dX12_joins_84 rfl ?_
          refine tz_aL (pc := 86) (z := z_8) (v := (J 179 z_8)) dX12_joins_86 a_179 rfl (by omega) rfl (fun r_86 => ?_)
          refine tz_aS (pc := 87) (z := z_2) dX12_joins_87 a_179 rfl (by omega) (by omega) ?_
          have hu := UF.joinP (J := J) (J' := (zup (zup J 177 z_8 z_2) 179 z_2 (J 179 z_8))) (c := c) (m := m) (a := z_2) (b := z_8) (v := J 178 z_2) (w := J 179 z_8) hU ⟨a_2, c_2 hx.2, b_2⟩ ⟨a_8, c_8 hy.2, b_8⟩ (by omega) (by omega) (by omega) (fun _ => rfl) (zsel (f := J 178)) (fun _ => rfl)
          refine tz_iload (pc := 88) dX12_joins_88 rfl ?_
          refine tz_iconst (pc := 90) dX12_joins_90 ?_
          refine tz_icmp_eq (pc := 91) (tgt := 100) dX12_joins_91 (by decide) (by omega) (by decide) (fun h_91 => ?_) (fun h_91 => ?_)
          · exact tz_vret (pc := 100) dX12_joins_100 rfl (Nat.le_of_ble_eq_true rfl) (Nat.le_of_ble_eq_true rfl) ⟨Nat.le_refl _, Nat.le_add_right _ _⟩ ⟨rfl, ⟨hu.1, Nat.le_of_lt hu.2, (zOf.up rfl (zOf.up rfl zOf.rf)), (fun _ _ => rfl)⟩⟩
          · refine tz_iload (pc := 94) dX12_joins_94 rfl ?_
            refine tz_iconst (pc := 96) dX12_joins_96 ?_
            refine tz_icmp_ne (pc := 97) (tgt := 101) dX12_joins_97 (by decide) (by omega) (by decide) (fun h_97 => ?_) (fun h_97 => ?_)
            · refine tz_aload_n (pc := 101) dX12_joins_101 rfl rfl ?_
              refine tz_iload (pc := 102) dX12_joins_102 rfl ?_
              refine tz_sipush (pc := 104) dX12_joins_104 (by decide) ?_
              refine tz_irem (pc := 107) (a := (J 178 z_2)) (b := 400) (v := ((J 178 z_2) % 400)) dX12_joins_107 (by omega) (by omega) rfl ?_
              refine tz_cV (pc := 108) (m_head hl n _ _ (by omega) b r d s m (hM.cl (zOf.up rfl (zOf.up rfl zOf.rf)) (fun _ _ => rfl)) (by omega)) vl_X12_74 dX12_joins_108 o_164 rfl rfl (Nat.le_of_ble_eq_true rfl) ⟨(show 0 + 1 ≤ 5 + 1 * (r9 + 1) by omega), (show 8 + (2 + 11) + 40 * (0) ≤ 40 * (5 + 1 * (r9 + 1)) by omega)⟩ rfl rfl (Nat.le_of_ble_eq_true rfl) (Nat.le_of_ble_eq_true rfl) (fun r9 J_108 hq9 => ?_)
              obtain ⟨z_108, rfl, hz_108, rfl, hv_108⟩ := hq9
              have he_108 : ((zup (zup J 177 z_8 z_2) 179 z_2 (J 179 z_8)) : zJ) 166 = J 166 := rfl
              rw [he_108] at hv_108
              refine tz_aload_n (pc := 111) dX12_joins_111 rfl rfl ?_
              refine tz_iload (pc := 112) dX12_joins_112 rfl ?_
              refine tz_sipush (pc := 114) dX12_joins_114 (by decide) ?_
              refine tz_irem (pc := 117) (a := (J 178 z_8)) (b := 400) (v := ((J 178 z_8) % 400)) dX12_joins_117 (by omega) (by omega) rfl ?_
              refine tz_cV (pc := 118) (m_head hl n _ _ (by omega) b r d s m (hM.cl (zOf.up rfl (zOf.up rfl zOf.rf)) (fun _ _ => rfl)) (by omega)) vl_X12_74 dX12_joins_118 o_164 rfl rfl (Nat.le_of_ble_eq_true rfl) ⟨(show 0 + 1 ≤ 5 + 1 * (r9 + 1) by omega), (show 8 + (2 + 11) + 40 * (0) ≤ 40 * (5 + 1 * (r9 + 1)) by omega)⟩ rfl rfl (Nat.le_of_ble_eq_true rfl) (Nat.le_of_ble_eq_true rfl) (fun r9 J_118 hq9 => ?_)
              obtain ⟨z_118, rfl, hz_118, rfl, hv_118⟩ := hq9
              have he_118 : ((zup (zup J 177 z_8 z_2) 179 z_2 (J 179 z_8)) : zJ) 166 = J 166 := rfl
              rw [he_118] at hv_118
              have ha121 := hM.ar (t := (J 178 z_2) % 400) (by omega)
              refine tz_icmp_eq (pc := 121) (tgt := 130) dX12_joins_121 (by decide) (by omega) (by omega) (fun h_121 => ?_) (fun h_121 => ?_)
              · refine tz_iconst (pc := 130) dX12_joins_130 ?_
                refine tz_istore (pc := 131) (L2 := [_, _, _, _, _, _, _, _]) dX12_joins_131 (by decide) rfl ?_
                have loop133 : ∀ (f9 : Nat) (k : Int) (J1 : zJ), ((3 - k).toNat) < f9 → (0 ≤ k ∧ k ≤ 3) → (UF J1 c m) → (rc J1 < rc J) → (zOf (zbut [164, 177, 178, 179, 180]) J1 J ∧ ∀ k, ¬ k = 30 → J1 164 k = J 164 k) → tz_At l G M_X12_joins (tb_rm (5 + 1 * (r9 + 1)) 0 0) none (tb_ZM G 0 0 (zQ n 0 (zqv (fun J' => UF J' c m ∧ rc J' ≤ rc J ∧ zOf (zbut [164, 177, 178, 179, 180]) J' J ∧ ∀ k, ¬ k = 30 → J' 164 k = J 164 k))) (zX n 0 zN)) 0 0 n J1 133 [some (.ref 164), some (zi x), some (zi y), some (zi z_2), some (zi z_8), some (zi (J 178 z_2)), some (zi (J 178 z_8)), some (zi k)] [] := by
                  intro f9
                  induction f9 with
                  | zero => intro k J1 hm9; exact absurd hm9 (Nat.not_lt_zero _)
                  | succ f9 ih133 =>
                    intro k J1 hm133 hk hU1 hr1 f_J1
                    have e9 := MS.hd8 (J := J) (b := b) (d := d) (t := (J 178 z_2) % 400) (u := (J 178 z_8) % 400) (by omega)
                    have hA := hM.ar (t := (J 178 z_2) % 400) (by omega)
                    refine tz_iload (pc := 133) dX12_joins_133 rfl ?_
                    refine tz_aload_n (pc := 135) dX12_joins_135 rfl rfl ?_
                    refine tz_iload (pc := 136) dX12_joins_136 rfl ?_
                    refine tz_sipush (pc := 138) dX12_joins_138 (by decide) ?_
                    refine tz_irem (pc := 141) (a := (J 178 z_2)) (b := 400) (v := ((J 178 z_2) % 400)) dX12_joins_141 (by omega) (by omega) rfl ?_
                    refine tz_cV (pc := 142) (m_arity hl n _ _ (by omega) b r d s m (hM.cl f_J1.1 f_J1.2) (by omega)) vl_X12_111 dX12_joins_142 o_164 rfl rfl (Nat.le_of_ble_eq_true rfl) ⟨(show 2 + 1 ≤ 5 + 1 * (r9 + 1) by omega), (show 8 + (2 + 11) + 40 * (2) ≤ 40 * (5 + 1 * (r9 + 1)) by omega)⟩ rfl rfl (Nat.le_of_ble_eq_true rfl) (Nat.le_of_ble_eq_true rfl) (fun r9 J_142 hq9 => ?_)
                    obtain ⟨z_142, rfl, hz_142, rfl, hv_142⟩ := hq9
                    rw [mar_cl (J := J) f_J1.1] at hv_142
                    refine tz_icmp_ge (pc := 145) (tgt := 174) dX12_joins_145 (by decide) (by omega) (by omega) (fun h_145 => ?_) (fun h_145 => ?_)
                    · exact tz_vret (pc := 174) dX12_joins_174 rfl (Nat.le_of_ble_eq_true rfl) (Nat.le_of_ble_eq_true rfl) ⟨Nat.le_refl _, Nat.le_add_right _ _⟩ ⟨rfl, ⟨hU1, by omega, f_J1⟩⟩
                    · refine tz_aload_n (pc := 148) dX12_joins_148 rfl rfl ?_
                      refine tz_aload_n (pc := 149) dX12_joins_149 rfl rfl ?_
                      refine tz_iload (pc := 150) dX12_joins_150 rfl ?_
                      refine tz_iload (pc := 152) dX12_joins_152 rfl ?_
                      refine tz_cV (pc := 154) (m_argOf hl n _ _ _ (by omega) (by omega) b r d s m c (hM.cl f_J1.1 f_J1.2) hU.1 (by omega) (by rw [mar_cl (J := J) f_J1.1]; omega)) vl_X12_167 dX12_joins_154 o_164 rfl rfl (Nat.le_of_ble_eq_true rfl) ⟨(show 1 + 1 ≤ 5 + 1 * (r9 + 1) by omega), (show 8 + (3 + 11) + 40 * (1) ≤ 40 * (5 + 1 * (r9 + 1)) by omega)⟩ rfl rfl (Nat.le_of_ble_eq_true rfl) (Nat.le_of_ble_eq_true rfl) (fun r9 J_154 hq9 => ?_)
                      obtain ⟨z_154, rfl, hz_154, rfl, hg_154, hh_154⟩ := hq9
                      refine tz_aload_n (pc := 157) dX12_joins_157 rfl rfl ?_
                      refine tz_iload (pc := 158) dX12_joins_158 rfl ?_
                      refine tz_iload (pc := 160) dX12_joins_160 rfl ?_
                      refine tz_cV (pc := 162) (m_argOf hl n _ _ _ (by omega) (by omega) b r d s m c (hM.cl f_J1.1 f_J1.2) hU.1 (by omega) (by rw [mar_cl (J := J) f_J1.1]; omega)) vl_X12_167 dX12_joins_162 o_164 rfl rfl (Nat.le_of_ble_eq_true rfl) ⟨(show 1 + 1 ≤ 5 + 1 * (r9 + 1) by omega), (show 8 + (3 + 11) + 40 * (1) ≤ 40 * (5 + 1 * (r9 + 1)) by omega)⟩ rfl rfl (Nat.le_of_ble_eq_true rfl) (Nat.le_of_ble_eq_true rfl) (fun r9 J_162 hq9 => ?_)
                      obtain ⟨z_162, rfl, hz_162, rfl, hg_162, hh_162⟩ := hq9
                      refine tz_cV (pc := 165) (ih _ _ _ (by omega) (by omega) b r d s m c (hM.cl f_J1.1 f_J1.2) hU1 ⟨hg_154, hh_154⟩ ⟨hg_162, hh_162⟩ (by omega)) vl_X12_170 dX12_joins_165 o_164 rfl rfl (Nat.le_of_ble_eq_true rfl) ⟨(show (5 + 1 * r9) + 1 ≤ 5 + 1 * (r9 + 1) by omega), (show 8 + (8 + 11) + 40 * ((5 + 1 * r9)) ≤ 40 * (5 + 1 * (r9 + 1)) by omega)⟩ rfl rfl (Nat.le_of_ble_eq_true rfl) (Nat.le_of_ble_eq_true rfl) (fun r9 J_165 hq9 => ?_)
                      obtain ⟨rfl, u_2, r_2, g_2, k_2⟩ := hq9
                      refine tz_iinc (pc := 168) (z := k + 1) (L2 := [_, _, _, _, _, _, _, _]) dX12_joins_168 rfl (by omega) rfl ?_
                      refine tz_goto (pc := 171) (tgt := 133) dX12_joins_171 (by decide) ?_
                      exact ih133 (k + 1) _ (by omega) (by omega) u_2 (by omega) ⟨g_2.tr f_J1.1, fun k hk => (k_2 k hk).trans (f_J1.2 k hk)⟩
                exact loop133 _ 0 _ (Nat.lt_succ_self _) (by omega) hu.1 hu.2 ⟨(zOf.up rfl (zOf.up rfl zOf.rf)), (fun _ _ => rfl)⟩
              · refine tz_aload_n (pc := 124) dX12_joins_124 rfl rfl ?_
                refine tz_iconst (pc := 125) dX12_joins_125 ?_
                refine tz_pZ (pc := 126) (kz := 30) dX12_joins_126 fl_X12_161 i_164_30 rfl rfl (Or.inr rfl) ?_
                exact tz_vret (pc := 129) dX12_joins_129 rfl (Nat.le_of_ble_eq_true rfl) (Nat.le_of_ble_eq_true rfl) ⟨Nat.le_refl _, Nat.le_add_right _ _⟩ ⟨rfl, ⟨hu.1.of rfl rfl rfl, Nat.le_of_lt hu.2, (zOf.up rfl (zOf.up rfl (zOf.up rfl zOf.rf))), (fun k hk => (zup_ne hk).trans ((fun _ _ => rfl) k hk))⟩⟩
            · exact tz_vret (pc := 100) dX12_joins_100 rfl (Nat.le_of_ble_eq_true rfl) (Nat.le_of_ble_eq_true rfl) ⟨Nat.le_refl _, Nat.le_add_right _ _⟩ ⟨rfl, ⟨hu.1, Nat.le_of_lt hu.2, (zOf.up rfl (zOf.up rfl zOf.rf)), (fun _ _ => rfl)⟩⟩
      · refine tz_aload_n (pc := 51) dX12_joins_51 rfl rfl ?_
        refine tz_fR (pc := 52) dX12_joins_52 fl_X12_53 r_164_26 ?_
        refine tz_iload_n (pc := 55) dX12_joins_55 rfl rfl ?_
        refine tz_iload (pc := 56) dX12_joins_56 rfl ?_
        refine tz_aS (pc := 58) (z := z_2) dX12_joins_58 a_178 rfl (by omega) (by omega) ?_
        refine tz_aload_n (pc := 59) dX12_joins_59 rfl rfl ?_
        refine tz_fR (pc := 60) dX12_joins_60 fl_X12_56 r_164_27 ?_
        refine tz_iload (pc := 63) dX12_joins_63 rfl ?_
        refine tz_aL (pc := 65) (z := z_8) (v := (J 179 z_8)) dX12_joins_65 a_179 rfl (by omega) rfl (fun r_65 => ?_)
        refine tz_aload_n (pc := 66) dX12_joins_66 rfl rfl ?_
        refine tz_fR (pc := 67) dX12_joins_67 fl_X12_56 r_164_27 ?_
        refine tz_iload_n (pc := 70) dX12_joins_70 rfl rfl ?_
        refine tz_aL (pc := 71) (z := z_2) (v := (J 179 z_2)) dX12_joins_71 a_179 rfl (by omega) rfl (fun r_71 => ?_)
        refine tz_icmp_ge (pc := 72) (tgt := 88) dX12_joins_72 (by decide) (by omega) (by omega) (fun h_72 => ?_) (fun h_72 => ?_)
        · have hu := UF.joinP (J := J) (J' := (zup (zup J 177 z_8 z_2) 178 z_2 (J 178 z_8))) (c := c) (m := m) (a := z_2) (b := z_8) (v := J 178 z_8) (w := J 179 z_2) hU ⟨a_2, c_2 hx.2, b_2⟩ ⟨a_8, c_8 hy.2, b_8⟩ (by omega) (by omega) (by omega) (fun _ => rfl) (fun _ => rfl) (zsel (f := J 179))
          refine tz_iload (pc := 88) dX12_joins_88 rfl ?_
          refine tz_iconst (pc := 90) dX12_joins_90 ?_
          refine tz_icmp_eq (pc := 91) (tgt := 100) dX12_joins_91 (by decide) (by omega) (by decide) (fun h_91 => ?_) (fun h_91 => ?_)
          · exact tz_vret (pc := 100) dX12_joins_100 rfl (Nat.le_of_ble_eq_true rfl) (Nat.le_of_ble_eq_true rfl) ⟨Nat.le_refl _, Nat.le_add_right _ _⟩ ⟨rfl, ⟨hu.1, Nat.le_of_lt hu.2, (zOf.up rfl (zOf.up rfl zOf.rf)), (fun _ _ => rfl)⟩⟩
          · refine tz_iload (pc := 94) dX12_joins_94 rfl ?_
            refine tz_iconst (pc := 96) dX12_joins_96 ?_
            refine tz_icmp_ne (pc := 97) (tgt := 101) dX12_joins_97 (by decide) (by omega) (by decide) (fun h_97 => ?_) (fun h_97 => ?_)
            · refine tz_aload_n (pc := 101) dX12_joins_101 rfl rfl ?_
              refine tz_iload (pc := 102) dX12_joins_102 rfl ?_
              refine tz_sipush (pc := 104) dX12_joins_104 (by decide) ?_
              refine tz_irem (pc := 107) (a := (J 178 z_2)) (b := 400) (v := ((J 178 z_2) % 400)) dX12_joins_107 (by omega) (by omega) rfl ?_
              refine tz_cV (pc := 108) (m_head hl n _ _ (by omega) b r d s m (hM.cl (zOf.up rfl (zOf.up rfl zOf.rf)) (fun _ _ => rfl)) (by omega)) vl_X12_74 dX12_joins_108 o_164 rfl rfl (Nat.le_of_ble_eq_true rfl) ⟨(show 0 + 1 ≤ 5 + 1 * (r9 + 1) by omega), (show 8 + (2 + 11) + 40 * (0) ≤ 40 * (5 + 1 * (r9 + 1)) by omega)⟩ rfl rfl (Nat.le_of_ble_eq_true rfl) (Nat.le_of_ble_eq_true rfl) (fun r9 J_108 hq9 => ?_)
              obtain ⟨z_108, rfl, hz_108, rfl, hv_108⟩ := hq9
              have he_108 : ((zup (zup J 177 z_8 z_2) 178 z_2 (J 178 z_8)) : zJ) 166 = J 166 := rfl
              rw [he_108] at hv_108
              refine tz_aload_n (pc := 111) dX12_joins_111 rfl rfl ?_
              refine tz_iload (pc := 112) dX12_joins_112 rfl ?_
              refine tz_sipush (pc := 114) dX12_joins_114 (by decide) ?_
              refine tz_irem (pc := 117) (a := (J 178 z_8)) (b := 400) (v := ((J 178 z_8) % 400)) dX12_joins_117 (by omega) (by omega) rfl ?_
              refine tz_cV (pc := 118) (m_head hl n _ _ (by omega) b r d s m (hM.cl (zOf.up rfl (zOf.up rfl zOf.rf)) (fun _ _ => rfl)) (by omega)) vl_X12_74 dX12_joins_118 o_164 rfl rfl (Nat.le_of_ble_eq_true rfl) ⟨(show 0 + 1 ≤ 5 + 1 * (r9 + 1) by omega), (show 8 + (2 + 11) + 40 * (0) ≤ 40 * (5 + 1 * (r9 + 1)) by omega)⟩ rfl rfl (Nat.le_of_ble_eq_true rfl) (Nat.le_of_ble_eq_true rfl) (fun r9 J_118 hq9 => ?_)
              obtain ⟨z_118, rfl, hz_118, rfl, hv_118⟩ := hq9
              have he_118 : ((zup (zup J 177 z_8 z_2) 178 z_2 (J 178 z_8)) : zJ) 166 = J 166 := rfl
              rw [he_118] at hv_118
              have ha121 := hM.ar (t := (J 178 z_2) % 400) (by omega)
              refine tz_icmp_eq (pc := 121) (tgt := 130) dX12_joins_121 (by decide) (by omega) (by omega) (fun h_121 => ?_) (fun h_121 => ?_)
              · refine tz_iconst (pc := 130) dX12_joins_130 ?_
                refine tz_istore (pc := 131) (L2 := [_, _, _, _, _, _, _, _]) dX12_joins_131 (by decide) rfl ?_
                have loop133 : ∀ (f9 : Nat) (k : Int) (J1 : zJ), ((3 - k).toNat) < f9 → (0 ≤ k ∧ k ≤ 3) → (UF J1 c m) → (rc J1 < rc J) → (zOf (zbut [164, 177, 178, 179, 180]) J1 J ∧ ∀ k, ¬ k = 30 → J1 164 k = J 164 k) → tz_At l G M_X12_joins (tb_rm (5 + 1 * (r9 + 1)) 0 0) none (tb_ZM G 0 0 (zQ n 0 (zqv (fun J' => UF J' c m ∧ rc J' ≤ rc J ∧ zOf (zbut [164, 177, 178, 179, 180]) J' J ∧ ∀ k, ¬ k = 30 → J' 164 k = J 164 k))) (zX n 0 zN)) 0 0 n J1 133 [some (.ref 164), some (zi x), some (zi y), some (zi z_2), some (zi z_8), some (zi (J 178 z_2)), some (zi (J 178 z_8)), some (zi k)] [] := by
                  intro f9
                  induction f9 with
                  | zero => intro k J1 hm9; exact absurd hm9 (Nat.not_lt_zero _)
                  | succ f9 ih133 =>
                    intro k J1 hm133 hk hU1 hr1 f_J1
                    have e9 := MS.hd8 (J := J) (b := b) (d := d) (t := (J 178 z_2) % 400) (u := (J 178 z_8) % 400) (by omega)
                    have hA := hM.ar (t := (J 178 z_2) % 400) (by omega)
                    refine tz_iload (pc := 133) dX12_joins_133 rfl ?_
                    refine tz_aload_n (pc := 135) dX12_joins_135 rfl rfl ?_
                    refine tz_iload (pc := 136) dX12_joins_136 rfl ?_
                    refine tz_sipush (pc := 138) dX12_joins_138 (by decide) ?_
                    refine tz_irem (pc := 141) (a := (J 178 z_2)) (b := 400) (v := ((J 178 z_2) % 400)) dX12_joins_141 (by omega) (by omega) rfl ?_
                    refine tz_cV (pc := 142) (m_arity hl n _ _ (by omega) b r d s m (hM.cl f_J1.1 f_J1.2) (by omega)) vl_X12_111 dX12_joins_142 o_164 rfl rfl (Nat.le_of_ble_eq_true rfl) ⟨(show 2 + 1 ≤ 5 + 1 * (r9 + 1) by omega), (show 8 + (2 + 11) + 40 * (2) ≤ 40 * (5 + 1 * (r9 + 1)) by omega)⟩ rfl rfl (Nat.le_of_ble_eq_true rfl) (Nat.le_of_ble_eq_true rfl) (fun r9 J_142 hq9 => ?_)
                    obtain ⟨z_142, rfl, hz_142, rfl, hv_142⟩ := hq9
                    rw [mar_cl (J := J) f_J1.1] at hv_142
                    refine tz_icmp_ge (pc := 145) (tgt := 174) dX12_joins_145 (by decide) (by omega) (by omega) (fun h_145 => ?_) (fun h_145 => ?_)
                    · exact tz_vret (pc := 174) dX12_joins_174 rfl (Nat.le_of_ble_eq_true rfl) (Nat.le_of_ble_eq_true rfl) ⟨Nat.le_refl _, Nat.le_add_right _ _⟩ ⟨rfl, ⟨hU1, by omega, f_J1⟩⟩
                    · refine tz_aload_n (pc := 148) dX12_joins_148 rfl rfl ?_
                      refine tz_aload_n (pc := 149) dX12_joins_149 rfl rfl ?_
                      refine tz_iload (pc := 150) dX12_joins_150 rfl ?_
                      refine tz_iload (pc := 152) dX12_joins_152 rfl ?_
                      refine tz_cV (pc := 154) (m_argOf hl n _ _ _ (by omega) (by omega) b r d s m c (hM.cl f_J1.1 f_J1.2) hU.1 (by omega) (by rw [mar_cl (J := J) f_J1.1]; omega)) vl_X12_167 dX12_joins_154 o_164 rfl rfl (Nat.le_of_ble_eq_true rfl) ⟨(show 1 + 1 ≤ 5 + 1 * (r9 + 1) by omega), (show 8 + (3 + 11) + 40 * (1) ≤ 40 * (5 + 1 * (r9 + 1)) by omega)⟩ rfl rfl (Nat.le_of_ble_eq_true rfl) (Nat.le_of_ble_eq_true rfl) (fun r9 J_154 hq9 => ?_)
                      obtain ⟨z_154, rfl, hz_154, rfl, hg_154, hh_154⟩ := hq9
                      refine tz_aload_n (pc := 157) dX12_joins_157 rfl rfl ?_
                      refine tz_iload (pc := 158) dX12_joins_158 rfl ?_
                      refine tz_iload (pc := 160) dX12_joins_160 rfl ?_
                      refine tz_cV (pc := 162) (m_argOf hl n _ _ _ (by omega) (by omega) b r d s m c (hM.cl f_J1.1 f_J1.2) hU.1 (by omega) (by rw [mar_cl (J := J) f_J1.1]; omega)) vl_X12_167 dX12_joins_162 o_164 rfl rfl (Nat.le_of_ble_eq_true rfl) ⟨(show 1 + 1 ≤ 5 + 1 * (r9 + 1) by omega), (show 8 + (3 + 11) + 40 * (1) ≤ 40 * (5 + 1 * (r9 + 1)) by omega)⟩ rfl rfl (Nat.le_of_ble_eq_true rfl) (Nat.le_of_ble_eq_true rfl) (fun r9 J_162 hq9 => ?_)
                      obtain ⟨z_162, rfl, hz_162, rfl, hg_162, hh_162⟩ := hq9
                      refine tz_cV (pc := 165) (ih _ _ _ (by omega) (by omega) b r d s m c (hM.cl f_J1.1 f_J1.2) hU1 ⟨hg_154, hh_154⟩ ⟨hg_162, hh_162⟩ (by omega)) vl_X12_170 dX12_joins_165 o_164 rfl rfl (Nat.le_of_ble_eq_true rfl) ⟨(show (5 + 1 * r9) + 1 ≤ 5 + 1 * (r9 + 1) by omega), (show 8 + (8 + 11) + 40 * ((5 + 1 * r9)) ≤ 40 * (5 + 1 * (r9 + 1)) by omega)⟩ rfl rfl (Nat.le_of_ble_eq_true rfl) (Nat.le_of_ble_eq_true rfl) (fun r9 J_165 hq9 => ?_)
                      obtain ⟨rfl, u_2, r_2, g_2, k_2⟩ := hq9
                      refine tz_iinc (pc := 168) (z := k + 1) (L2 := [_, _, _, _, _, _, _, _]) dX12_joins_168 rfl (by omega) rfl ?_
                      refine tz_goto (pc := 171) (tgt := 133) dX12_joins_171 (by decide) ?_
                      exact ih133 (k + 1) _ (by omega) (by omega) u_2 (by omega) ⟨g_2.tr f_J1.1, fun k hk => (k_2 k hk).trans (f_J1.2 k hk)⟩
                exact loop133 _ 0 _ (Nat.lt_succ_self _) (by omega) hu.1 hu.2 ⟨(zOf.up rfl (zOf.up rfl zOf.rf)), (fun _ _ => rfl)⟩
              · refine tz_aload_n (pc := 124) dX12_joins_124 rfl rfl ?_
                refine tz_iconst (pc := 125) dX12_joins_125 ?_
                refine tz_pZ (pc := 126) (kz := 30) dX12_joins_126 fl_X12_161 i_164_30 rfl rfl (Or.inr rfl) ?_
                exact tz_vret (pc := 129) dX12_joins_129 rfl (Nat.le_of_ble_eq_true rfl) (Nat.le_of_ble_eq_true rfl) ⟨Nat.le_refl _, Nat.le_add_right _ _⟩ ⟨rfl, ⟨hu.1.of rfl rfl rfl, Nat.le_of_lt hu.2, (zOf.up rfl (zOf.up rfl (zOf.up rfl zOf.rf))), (fun k hk => (zup_ne hk).trans ((fun _ _ => rfl) k hk))⟩⟩
            · exact tz_vret (pc := 100) dX12_joins_100 rfl (Nat.le_of_ble_eq_true rfl) (Nat.le_of_ble_eq_true rfl) ⟨Nat.le_refl _, Nat.le_add_right _ _⟩ ⟨rfl, ⟨hu.1, Nat.le_of_lt hu.2, (zOf.up rfl (zOf.up rfl zOf.rf)), (fun _ _ => rfl)⟩⟩
        · refine tz_aload_n (pc := 75) dX12_joins_75 rfl rfl ?_
          refine tz_fR (pc := 76) dX12_joins_76 fl_X12_56 r_164_27 ?_
          refine tz_iload_n (pc := 79) dX12_joins_79 rfl rfl ?_
          refine tz_aload_n (pc := 80) dX12_joins_80 rfl rfl ?_
          refine tz_fR (pc := 81) dX12_joins_81 fl_X12_56 r_164_27 ?_
          refine tz_iload (pc := 84) dX12_joins_84 rfl ?_
          refine tz_aL (pc := 86) (z := z_8) (v := (J 179 z_8)) dX12_joins_86 a_179 rfl (by omega) rfl (fun r_86 => ?_)
          refine tz_aS (pc := 87) (z := z_2) dX12_joins_87 a_179 rfl (by omega) (by omega) ?_
          have hu := UF.joinP (J := J) (J' := (zup (zup (zup J 177 z_8 z_2) 178 z_2 (J 178 z_8)) 179 z_2 (J 179 z_8))) (c := c) (m := m) (a := z_2) (b := z_8) (v := J 178 z_8) (w := J 179 z_8) hU ⟨a_2, c_2 hx.2, b_2⟩ ⟨a_8, c_8 hy.2, b_8⟩ (by omega) (by omega) (by omega) (fun _ => rfl) (fun _ => rfl) (fun _ => rfl)
          refine tz_iload (pc := 88) dX12_joins_88 rfl ?_
          refine tz_iconst (pc := 90) dX12_joins_90 ?_
          refine tz_icmp_eq (pc := 91) (tgt := 100) dX12_joins_91 (by decide) (by omega) (by decide) (fun h_91 => ?_) (fun h_91 => ?_)
          · exact tz_vret (pc := 100) dX12_joins_100 rfl (Nat.le_of_ble_eq_true rfl) (Nat.le_of_ble_eq_true rfl) ⟨Nat.le_refl _, Nat.le_add_right _ _⟩ ⟨rfl, ⟨hu.1, Nat.le_of_lt hu.2, (zOf.up rfl (zOf.up rfl (zOf.up rfl zOf.rf))), (fun _ _ => rfl)⟩⟩
          · refine tz_iload (pc := 94) dX12_joins_94 rfl ?_
            refine tz_iconst (pc := 96) dX12_joins_96 ?_
            refine tz_icmp_ne (pc := 97) (tgt := 101) dX12_joins_97 (by decide) (by omega) (by decide) (fun h_97 => ?_) (fun h_97 => ?_)
            · refine tz_aload_n (pc := 101) dX12_joins_101 rfl rfl ?_
              refine tz_iload (pc := 102) dX12_joins_102 rfl ?_
              refine tz_sipush (pc := 104) dX12_joins_104 (by decide) ?_
              refine tz_irem (pc := 107) (a := (J 178 z_2)) (b := 400) (v := ((J 178 z_2) % 400)) dX12_joins_107 (by omega) (by omega) rfl ?_
              refine tz_cV (pc := 108) (m_head hl n _ _ (by omega) b r d s m (hM.cl (zOf.up rfl (zOf.up rfl (zOf.up rfl zOf.rf))) (fun _ _ => rfl)) (by omega)) vl_X12_74 dX12_joins_108 o_164 rfl rfl (Nat.le_of_ble_eq_true rfl) ⟨(show 0 + 1 ≤ 5 + 1 * (r9 + 1) by omega), (show 8 + (2 + 11) + 40 * (0) ≤ 40 * (5 + 1 * (r9 + 1)) by omega)⟩ rfl rfl (Nat.le_of_ble_eq_true rfl) (Nat.le_of_ble_eq_true rfl) (fun r9 J_108 hq9 => ?_)
              obtain ⟨z_108, rfl, hz_108, rfl, hv_108⟩ := hq9
              have he_108 : ((zup (zup (zup J 177 z_8 z_2) 178 z_2 (J 178 z_8)) 179 z_2 (J 179 z_8)) : zJ) 166 = J 166 := rfl
              rw [he_108] at hv_108
              refine tz_aload_n (pc := 111) dX12_joins_111 rfl rfl ?_
              refine tz_iload (pc := 112) dX12_joins_112 rfl ?_
              refine tz_sipush (pc := 114) dX12_joins_114 (by decide) ?_
              refine tz_irem (pc := 117) (a := (J 178 z_8)) (b := 400) (v := ((J 178 z_8) % 400)) dX12_joins_117 (by omega) (by omega) rfl ?_
              refine tz_cV (pc := 118) (m_head hl n _ _ (by omega) b r d s m (hM.cl (zOf.up rfl (zOf.up rfl (zOf.up rfl zOf.rf))) (fun _ _ => rfl)) (by omega)) vl_X12_74 dX12_joins_118 o_164 rfl rfl (Nat.le_of_ble_eq_true rfl) ⟨(show 0 + 1 ≤ 5 + 1 * (r9 + 1) by omega), (show 8 + (2 + 11) + 40 * (0) ≤ 40 * (5 + 1 * (r9 + 1)) by omega)⟩ rfl rfl (Nat.le_of_ble_eq_true rfl) (Nat.le_of_ble_eq_true rfl) (fun r9 J_118 hq9 => ?_)
              obtain ⟨z_118, rfl, hz_118, rfl, hv_118⟩ := hq9
              have he_118 : ((zup (zup (zup J 177 z_8 z_2) 178 z_2 (J 178 z_8)) 179 z_2 (J 179 z_8)) : zJ) 166 = J 166 := rfl
              rw [he_118] at hv_118
              have ha121 := hM.ar (t := (J 178 z_2) % 400) (by omega)
              refine tz_icmp_eq (pc := 121) (tgt := 130) dX12_joins_121 (by decide) (by omega) (by omega) (fun h_121 => ?_) (fun h_121 => ?_)
              · refine tz_iconst (pc := 130) dX12_joins_130 ?_
                refine tz_istore (pc := 131) (L2 := [_, _, _, _, _, _, _, _]) dX12_joins_131 (by decide) rfl ?_
                have loop133 : ∀ (f9 : Nat) (k : Int) (J1 : zJ), ((3 - k).toNat) < f9 → (0 ≤ k ∧ k ≤ 3) → (UF J1 c m) → (rc J1 < rc J) → (zOf (zbut [164, 177, 178, 179, 180]) J1 J ∧ ∀ k, ¬ k = 30 → J1 164 k = J 164 k) → tz_At l G M_X12_joins (tb_rm (5 + 1 * (r9 + 1)) 0 0) none (tb_ZM G 0 0 (zQ n 0 (zqv (fun J' => UF J' c m ∧ rc J' ≤ rc J ∧ zOf (zbut [164, 177, 178, 179, 180]) J' J ∧ ∀ k, ¬ k = 30 → J' 164 k = J 164 k))) (zX n 0 zN)) 0 0 n J1 133 [some (.ref 164), some (zi x), some (zi y), some (zi z_2), some (zi z_8), some (zi (J 178 z_2)), some (zi (J 178 z_8)), some (zi k)] [] := by
                  intro f9
                  induction f9 with
                  | zero => intro k J1 hm9; exact absurd hm9 (Nat.not_lt_zero _)
                  | succ f9 ih133 =>
                    intro k J1 hm133 hk hU1 hr1 f_J1
                    have e9 := MS.hd8 (J := J) (b := b) (d := d) (t := (J 178 z_2) % 400) (u := (J 178 z_8) % 400) (by omega)
                    have hA := hM.ar (t := (J 178 z_2) % 400) (by omega)
                    refine tz_iload (pc := 133) dX12_joins_133 rfl ?_
                    refine tz_aload_n (pc := 135) dX12_joins_135 rfl rfl ?_
                    refine tz_iload (pc := 136) dX12_joins_136 rfl ?_
                    refine tz_sipush (pc := 138) dX12_joins_138 (by decide) ?_
                    refine tz_irem (pc := 141) (a := (J 178 z_2)) (b := 400) (v := ((J 178 z_2) % 400)) dX12_joins_141 (by omega) (by omega) rfl ?_
                    refine tz_cV (pc := 142) (m_arity hl n _ _ (by omega) b r d s m (hM.cl f_J1.1 f_J1.2) (by omega)) vl_X12_111 dX12_joins_142 o_164 rfl rfl (Nat.le_of_ble_eq_true rfl) ⟨(show 2 + 1 ≤ 5 + 1 * (r9 + 1) by omega), (show 8 + (2 + 11) + 40 * (2) ≤ 40 * (5 + 1 * (r9 + 1)) by omega)⟩ rfl rfl (Nat.le_of_ble_eq_true rfl) (Nat.le_of_ble_eq_true rfl) (fun r9 J_142 hq9 => ?_)
                    obtain ⟨z_142, rfl, hz_142, rfl, hv_142⟩ := hq9
                    rw [mar_cl (J := J) f_J1.1] at hv_142
                    refine tz_icmp_ge (pc := 145) (tgt := 174) dX12_joins_145 (by decide) (by omega) (by omega) (fun h_145 => ?_) (fun h_145 => ?_)
                    · exact tz_vret (pc := 174) dX12_joins_174 rfl (Nat.le_of_ble_eq_true rfl) (Nat.le_of_ble_eq_true rfl) ⟨Nat.le_refl _, Nat.le_add_right _ _⟩ ⟨rfl, ⟨hU1, by omega, f_J1⟩⟩
                    · refine tz_aload_n (pc := 148) dX12_joins_148 rfl rfl ?_
                      refine tz_aload_n (pc := 149) dX12_joins_149 rfl rfl ?_
                      refine tz_iload (pc := 150) dX12_joins_150 rfl ?_
                      refine tz_iload (pc := 152) dX12_joins_152 rfl ?_
                      refine tz_cV (pc := 154) (m_argOf hl n _ _ _ (by omega) (by omega) b r d s m c (hM.cl f_J1.1 f_J1.2) hU.1 (by omega) (by rw [mar_cl (J := J) f_J1.1]; omega)) vl_X12_167 dX12_joins_154 o_164 rfl rfl (Nat.le_of_ble_eq_true rfl) ⟨(show 1 + 1 ≤ 5 + 1 * (r9 + 1) by omega), (show 8 + (3 + 11) + 40 * (1) ≤ 40 * (5 + 1 * (r9 + 1)) by omega)⟩ rfl rfl (Nat.le_of_ble_eq_true rfl) (Nat.le_of_ble_eq_true rfl) (fun r9 J_154 hq9 => ?_)
                      obtain ⟨z_154, rfl, hz_154, rfl, hg_154, hh_154⟩ := hq9
                      refine tz_aload_n (pc := 157) dX12_joins_157 rfl rfl ?_
                      refine tz_iload (pc := 158) dX12_joins_158 rfl ?_
                      refine tz_iload (pc := 160) dX12_joins_160 rfl ?_
                      refine tz_cV (pc := 162) (m_argOf hl n _ _ _ (by omega) (by omega) b r d s m c (hM.cl f_J1.1 f_J1.2) hU.1 (by omega) (by rw [mar_cl (J := J) f_J1.1]; omega)) vl_X12_167 dX12_joins_162 o_164 rfl rfl (Nat.le_of_ble_eq_true rfl) ⟨(show 1 + 1 ≤ 5 + 1 * (r9 + 1) by omega), (show 8 + (3 + 11) + 40 * (1) ≤ 40 * (5 + 1 * (r9 + 1)) by omega)⟩ rfl rfl (Nat.le_of_ble_eq_true rfl) (Nat.le_of_ble_eq_true rfl) (fun r9 J_162 hq9 => ?_)
                      obtain ⟨z_162, rfl, hz_162, rfl, hg_162, hh_162⟩ := hq9
                      refine tz_cV (pc := 165) (ih _ _ _ (by omega) (by omega) b r d s m c (hM.cl f_J1.1 f_J1.2) hU1 ⟨hg_154, hh_154⟩ ⟨hg_162, hh_162⟩ (by omega)) vl_X12_170 dX12_joins_165 o_164 rfl rfl (Nat.le_of_ble_eq_true rfl) ⟨(show (5 + 1 * r9) + 1 ≤ 5 + 1 * (r9 + 1) by omega), (show 8 + (8 + 11) + 40 * ((5 + 1 * r9)) ≤ 40 * (5 + 1 * (r9 + 1)) by omega)⟩ rfl rfl (Nat.le_of_ble_eq_true rfl) (Nat.le_of_ble_eq_true rfl) (fun r9 J_165 hq9 => ?_)
                      obtain ⟨rfl, u_2, r_2, g_2, k_2⟩ := hq9
                      refine tz_iinc (pc := 168) (z := k + 1) (L2 := [_, _, _, _, _, _, _, _]) dX12_joins_168 rfl (by omega) rfl ?_
                      refine tz_goto (pc := 171) (tgt := 133) dX12_joins_171 (by decide) ?_
                      exact ih133 (k + 1) _ (by omega) (by omega) u_2 (by omega) ⟨g_2.tr f_J1.1, fun k hk => (k_2 k hk).trans (f_J1.2 k hk)⟩
                exact loop133 _ 0 _ (Nat.lt_succ_self _) (by omega) hu.1 hu.2 ⟨(zOf.up rfl (zOf.up rfl (zOf.up rfl zOf.rf))), (fun _ _ => rfl)⟩
              · refine tz_aload_n (pc := 124) dX12_joins_124 rfl rfl ?_
                refine tz_iconst (pc := 125) dX12_joins_125 ?_
                refine tz_pZ (pc := 126) (kz := 30) dX12_joins_126 fl_X12_161 i_164_30 rfl rfl (Or.inr rfl) ?_
                exact tz_vret (pc := 129) dX12_joins_129 rfl (Nat.le_of_ble_eq_true rfl) (Nat.le_of_ble_eq_true rfl) ⟨Nat.le_refl _, Nat.le_add_right _ _⟩ ⟨rfl, ⟨hu.1.of rfl rfl rfl, Nat.le_of_lt hu.2, (zOf.up rfl (zOf.up rfl (zOf.up rfl (zOf.up rfl zOf.rf)))), (fun k hk => (zup_ne hk).trans ((fun _ _ => rfl) k hk))⟩⟩
            · exact tz_vret (pc := 100) dX12_joins_100 rfl (Nat.le_of_ble_eq_true rfl) (Nat.le_of_ble_eq_true rfl) ⟨Nat.le_refl _, Nat.le_add_right _ _⟩ ⟨rfl, ⟨hu.1, Nat.le_of_lt hu.2, (zOf.up rfl (zOf.up rfl (zOf.up rfl zOf.rf))), (fun _ _ => rfl)⟩⟩
    · exact tz_vret (pc := 19) dX12_joins_19 rfl (Nat.le_of_ble_eq_true rfl) (Nat.le_of_ble_eq_true rfl) ⟨Nat.le_refl _, Nat.le_add_right _ _⟩ ⟨rfl, ⟨hU, Nat.le_refl _, zOf.rf, fun _ _ => rfl⟩⟩

theorem m_joins {l : Launch} {G : tb_G} (hl : l.stackTraces = false) (n : Nat) (J : zJ) (x y : Int) (hr_x : -2147483648 ≤ x ∧ x < 2147483648) (hr_y : -2147483648 ≤ y ∧ y < 2147483648) (b r d s m : Int) (c : Int) (hM : MS J b r d s m) (hU : UF J c m) (hx : (0 ≤ x ∧ x < c) ∧ x % 400 < m) (hy : (0 ≤ y ∧ y < c) ∧ y % 400 < m) : tz_Ok l G M_X12_joins 806 0 0 [.ref 164, zi x, zi y] n J (zqv (fun J' => UF J' c m ∧ rc J' ≤ rc J ∧ zOf (zbut [164, 177, 178, 179, 180]) J' J ∧ ∀ k, ¬ k = 30 → J' 164 k = J 164 k)) zN := m_joinsR hl n 801 J x y hr_x hr_y b r d s m c hM hU hx hy (by have := cnt_n (p := fun k => decide (J 177 k = k)) 800; unfold rc; omega)
theorem wc_up {J : zJ} {a v : Int} (hv : v = 1 ∨ v = 2) : wc (zup J 180 a v) ≤ wc J := by
  refine cnt_le 800 (fun k p q g => ?_)
  have g1 := of_decide_eq_true g
  have e7 : zup J 180 a v 180 k = if k = a then v else J 180 k := rfl
  rw [e7] at g1
  by_cases e : k = a
  · rw [if_pos e] at g1; omega
  · rw [if_neg e] at g1; exact decide_eq_true g1
theorem wc_up1 {J : zJ} {a v : Int} (hv : v = 1 ∨ v = 2) (ha : 0 ≤ a ∧ a < 800) (h : ¬ J 180 a = 1 ∧ ¬ J 180 a = 2) : wc (zup J 180 a v) < wc J := by
  refine cnt_lt 800 (fun k p q g => ?_) ⟨a, ha, decide_eq_true h, decide_eq_false ?_⟩
  · have g1 := of_decide_eq_true g
    have e7 : zup J 180 a v 180 k = if k = a then v else J 180 k := rfl
    rw [e7] at g1
    by_cases e : k = a
    · rw [if_pos e] at g1; omega
    · rw [if_neg e] at g1; exact decide_eq_true g1
  · have e7 : zup J 180 a v 180 a = if a = a then v else J 180 a := rfl
    rw [e7, if_pos rfl]
    omega
theorem MS.c180 {J' J : zJ} {b r d s m : Int} (h : MS J b r d s m) (f : zOf (zbut [180]) J' J) : MS J' b r d s m := h.of (by rw [f 164 rfl]; exact ⟨rfl, rfl, rfl⟩) (by rw [f 165 rfl]) (f 166 rfl) (f 167 rfl) (f 168 rfl) (f 170 rfl)
theorem UF.c180 {J' J : zJ} {c m : Int} (h : UF J c m) (f : zOf (zbut [180]) J' J) : UF J' c m := h.of (f 177 rfl) (f 178 rfl) (f 179 rfl)
theorem mar_180 {J' J : zJ} {b d t : Int} (f : zOf (zbut [180]) J' J) : mar J' b d t = mar J b d t := by
  unfold mar
  rw [f 166 rfl, f 170 rfl]
set_option maxHeartbeats 4000000 in
set_option maxRecDepth 100000 in
theorem m_turnsR {l : Launch} {G : tb_G} (hl : l.stackTraces = false) (n : Nat) : ∀ (r9 : Nat) (J : zJ) (x : Int) (hr_x : -2147483648 ≤ x ∧ x < 2147483648) (b r d s m : Int) (c : Int) (hM : MS J b r d s m) (hU : UF J c m) (hx : (0 ≤ x ∧ x < c) ∧ x % 400 < m), (wc J) < r9 → tz_Ok l G M_X12_turns (5 + 1 * r9) 0 0 [.ref 164, zi x] n J (zqi (fun z J' => wc J' ≤ wc J ∧ zOf (zbut [180]) J' J)) zN := by
  intro r9
  induction r9 with
  | zero => intro J x hr_x b r d s m c hM hU hx hm9; exact absurd hm9 (Nat.not_lt_zero _)
  | succ r9 ih =>
    intro J x hr_x b r d s m c hM hU hx hm9
    refine tz_Ok.of hl (by decide +kernel) rfl (tb_c1 rfl) (Nat.le_of_ble_eq_true rfl) ?_
    show tz_At l G M_X12_turns (tb_rm (5 + 1 * (r9 + 1)) 0 0) none (tb_ZM G 0 0 (zQ n 0 (zqi (fun z J' => wc J' ≤ wc J ∧ zOf (zbut [180]) J' J))) (zX n 0 zN)) 0 0 n J 0 [some (.ref 164), some (zi x), none, none] []
    obtain ⟨hM1, hM2, hM3, hM4, hM5, hM6⟩ := id hM
    have hT := hM.told
    have hc9 := hU.1
    refine tz_aload_n (pc := 0) dX12_turns_0 rfl rfl ?_
    refine tz_iload_n (pc := 1) dX12_turns_1 rfl rfl ?_
    refine tz_cV (pc := 2) (m_top hl n _ _ (by omega) c m hU (by omega)) vl_X12_164 dX12_turns_2 o_164 rfl rfl (Nat.le_of_ble_eq_true rfl) ⟨(show 0 + 1 ≤ 5 + 1 * (r9 + 1) by omega), (show 8 + (3 + 11) + 40 * (0) ≤ 40 * (5 + 1 * (r9 + 1)) by omega)⟩ rfl rfl (Nat.le_of_ble_eq_true rfl) (Nat.le_of_ble_eq_true rfl) (fun r9 J_2 hq9 => ?_)
    obtain ⟨z_2, rfl, hz_2, rfl, a_2, b_2, c_2⟩ := hq9
    refine tz_istore_n (pc := 5) (L2 := [_, _, _, _]) dX12_turns_5 rfl (by decide) rfl ?_
    have ua := (hU.at a_2).2
    have va := c_2 hx.2
    refine tz_aload_n (pc := 6) dX12_turns_6 rfl rfl ?_
    refine tz_fR (pc := 7) dX12_turns_7 fl_X12_59 r_164_28 ?_
    refine tz_iload_n (pc := 10) dX12_turns_10 rfl rfl ?_
    refine tz_aL (pc := 11) (z := z_2) (v := (J 180 z_2)) dX12_turns_11 a_180 rfl (by omega) rfl (fun r_11 => ?_)
    refine tz_iconst (pc := 12) dX12_turns_12 ?_
    refine tz_icmp_eq (pc := 13) (tgt := 26) dX12_turns_13 (by decide) (by omega) (by decide) (fun h_13 => ?_) (fun h_13 => ?_)
    · refine tz_iconst (pc := 26) dX12_turns_26 ?_
      exact tz_zret (pc := 27) (z := 0) dX12_turns_27 rfl (Or.inl rfl) (Nat.le_of_ble_eq_true rfl) (Nat.le_of_ble_eq_true rfl) ⟨Nat.le_refl _, Nat.le_add_right _ _⟩ ⟨_, rfl, (by decide), ⟨Nat.le_refl _, zOf.rf⟩⟩
    · refine tz_aload_n (pc := 16) dX12_turns_16 rfl rfl ?_
      refine tz_fR (pc := 17) dX12_turns_17 fl_X12_53 r_164_26 ?_
      refine tz_iload_n (pc := 20) dX12_turns_20 rfl rfl ?_
      refine tz_aL (pc := 21) (z := z_2) (v := (J 178 z_2)) dX12_turns_21 a_178 rfl (by omega) rfl (fun r_21 => ?_)
      refine tz_iconst (pc := 22) dX12_turns_22 ?_
      refine tz_icmp_ne (pc := 23) (tgt := 28) dX12_turns_23 (by decide) (by omega) (by decide) (fun h_23 => ?_) (fun h_23 => ?_)
      · refine tz_aload_n (pc := 28) dX12_turns_28 rfl rfl ?_
        refine tz_fR (pc := 29) dX12_turns_29 fl_X12_59 r_164_28 ?_
        refine tz_iload_n (pc := 32) dX12_turns_32 rfl rfl ?_
        refine tz_aL (pc := 33) (z := z_2) (v := (J 180 z_2)) dX12_turns_33 a_180 rfl (by omega) rfl (fun r_33 => ?_)
        refine tz_iconst (pc := 34) dX12_turns_34 ?_
        refine tz_icmp_ne (pc := 35) (tgt := 40) dX12_turns_35 (by decide) (by omega) (by decide) (fun h_35 => ?_) (fun h_35 => ?_)
        · refine tz_aload_n (pc := 40) dX12_turns_40 rfl rfl ?_
          refine tz_fR (pc := 41) dX12_turns_41 fl_X12_59 r_164_28 ?_
          refine tz_iload_n (pc := 44) dX12_turns_44 rfl rfl ?_
          refine tz_iconst (pc := 45) dX12_turns_45 ?_
          refine tz_aS (pc := 46) (z := z_2) dX12_turns_46 a_180 rfl (by omega) (by decide) ?_
          have hw47 := wc_up1 (J := J) (a := z_2) (v := 1) (Or.inl rfl) (by omega) (by omega)
          refine tz_iconst (pc := 47) dX12_turns_47 ?_
          refine tz_istore_n (pc := 48) (L2 := [_, _, _, _]) dX12_turns_48 rfl (by decide) rfl ?_
          have loop49 : ∀ (f9 : Nat) (k : Int) (J1 : zJ), ((3 - k).toNat) < f9 → (0 ≤ k ∧ k ≤ 3) → (wc J1 < wc J) → (zOf (zbut [180]) J1 J) → tz_At l G M_X12_turns (tb_rm (5 + 1 * (r9 + 1)) 0 0) none (tb_ZM G 0 0 (zQ n 0 (zqi (fun z J' => wc J' ≤ wc J ∧ zOf (zbut [180]) J' J))) (zX n 0 zN)) 0 0 n J1 49 [some (.ref 164), some (zi x), some (zi z_2), some (zi k)] [] := by
            intro f9
            induction f9 with
            | zero => intro k J1 hm9; exact absurd hm9 (Nat.not_lt_zero _)
            | succ f9 ih49 =>
              intro k J1 hm49 hk hw1 f1
              have hA := hM.ar (t := (J 178 z_2) % 400) (by omega)
              refine tz_iload_n (pc := 49) dX12_turns_49 rfl rfl ?_
              refine tz_aload_n (pc := 50) dX12_turns_50 rfl rfl ?_
              refine tz_aload_n (pc := 51) dX12_turns_51 rfl rfl ?_
              refine tz_fR (pc := 52) dX12_turns_52 fl_X12_53 r_164_26 ?_
              refine tz_iload_n (pc := 55) dX12_turns_55 rfl rfl ?_
              refine tz_aL (pc := 56) (z := z_2) (v := (J 178 z_2)) dX12_turns_56 a_178 rfl (by omega) (Eq.trans (congrFun (f1 178 rfl) z_2) rfl) (fun r_56 => ?_)
              refine tz_sipush (pc := 57) dX12_turns_57 (by decide) ?_
              refine tz_irem (pc := 60) (a := (J 178 z_2)) (b := 400) (v := ((J 178 z_2) % 400)) dX12_turns_60 (by omega) (by omega) rfl ?_
              refine tz_cV (pc := 61) (m_arity hl n _ _ (by omega) b r d s m (hM.c180 f1) (by omega)) vl_X12_111 dX12_turns_61 o_164 rfl rfl (Nat.le_of_ble_eq_true rfl) ⟨(show 2 + 1 ≤ 5 + 1 * (r9 + 1) by omega), (show 8 + (2 + 11) + 40 * (2) ≤ 40 * (5 + 1 * (r9 + 1)) by omega)⟩ rfl rfl (Nat.le_of_ble_eq_true rfl) (Nat.le_of_ble_eq_true rfl) (fun r9 J_61 hq9 => ?_)
              obtain ⟨za, rfl, hz_61, rfl, hv⟩ := hq9
              rw [mar_180 (J := J) f1] at hv
              refine tz_icmp_ge (pc := 64) (tgt := 93) dX12_turns_64 (by decide) (by omega) (by omega) (fun h_64 => ?_) (fun h_64 => ?_)
              · refine tz_aload_n (pc := 93) dX12_turns_93 rfl rfl ?_
                refine tz_fR (pc := 94) dX12_turns_94 fl_X12_59 r_164_28 ?_
                refine tz_iload_n (pc := 97) dX12_turns_97 rfl rfl ?_
                refine tz_iconst (pc := 98) dX12_turns_98 ?_
                refine tz_aS (pc := 99) (z := z_2) dX12_turns_99 a_180 rfl (by omega) (by decide) ?_
                refine tz_iconst (pc := 100) dX12_turns_100 ?_
                exact tz_zret (pc := 101) (z := 0) dX12_turns_101 rfl (Or.inl rfl) (Nat.le_of_ble_eq_true rfl) (Nat.le_of_ble_eq_true rfl) ⟨Nat.le_refl _, Nat.le_add_right _ _⟩ ⟨_, rfl, (by decide), ⟨by have := wc_up (J := J1) (a := z_2) (v := 2) (Or.inr rfl); omega, zOf.up rfl f1⟩⟩
              · refine tz_aload_n (pc := 67) dX12_turns_67 rfl rfl ?_
                refine tz_aload_n (pc := 68) dX12_turns_68 rfl rfl ?_
                refine tz_aload_n (pc := 69) dX12_turns_69 rfl rfl ?_
                refine tz_fR (pc := 70) dX12_turns_70 fl_X12_53 r_164_26 ?_
                refine tz_iload_n (pc := 73) dX12_turns_73 rfl rfl ?_
                refine tz_aL (pc := 74) (z := z_2) (v := (J 178 z_2)) dX12_turns_74 a_178 rfl (by omega) (Eq.trans (congrFun (f1 178 rfl) z_2) rfl) (fun r_74 => ?_)
                refine tz_iload_n (pc := 75) dX12_turns_75 rfl rfl ?_
                refine tz_cV (pc := 76) (m_argOf hl n _ _ _ (by omega) (by omega) b r d s m c (hM.c180 f1) hU.1 (by omega) (by rw [mar_180 (J := J) f1]; omega)) vl_X12_167 dX12_turns_76 o_164 rfl rfl (Nat.le_of_ble_eq_true rfl) ⟨(show 1 + 1 ≤ 5 + 1 * (r9 + 1) by omega), (show 8 + (3 + 11) + 40 * (1) ≤ 40 * (5 + 1 * (r9 + 1)) by omega)⟩ rfl rfl (Nat.le_of_ble_eq_true rfl) (Nat.le_of_ble_eq_true rfl) (fun r9 J_76 hq9 => ?_)
                obtain ⟨zg, rfl, hz_76, rfl, hg, hh⟩ := hq9
                refine tz_cV (pc := 79) (ih _ _ (by omega) b r d s m c (hM.c180 f1) (hU.c180 f1) ⟨hg, hh⟩ (by omega)) vl_X12_174 dX12_turns_79 o_164 rfl rfl (Nat.le_of_ble_eq_true rfl) ⟨(show (5 + 1 * r9) + 1 ≤ 5 + 1 * (r9 + 1) by omega), (show 8 + (4 + 11) + 40 * ((5 + 1 * r9)) ≤ 40 * (5 + 1 * (r9 + 1)) by omega)⟩ rfl rfl (Nat.le_of_ble_eq_true rfl) (Nat.le_of_ble_eq_true rfl) (fun r9 J_79 hq9 => ?_)
                obtain ⟨z_79, rfl, hz_79, w2, f2⟩ := hq9
                refine tz_if_eq (pc := 82) (tgt := 87) dX12_turns_82 (by decide) (by omega) (fun h_82 => ?_) (fun h_82 => ?_)
                · refine tz_iinc (pc := 87) (z := k + 1) (L2 := [_, _, _, _]) dX12_turns_87 rfl (by omega) rfl ?_
                  refine tz_goto (pc := 90) (tgt := 49) dX12_turns_90 (by decide) ?_
                  exact ih49 (k + 1) _ (by omega) (by omega) (by omega) (f2.tr f1)
                · refine tz_iconst (pc := 85) dX12_turns_85 ?_
                  exact tz_zret (pc := 86) (z := 1) dX12_turns_86 rfl (Or.inr rfl) (Nat.le_of_ble_eq_true rfl) (Nat.le_of_ble_eq_true rfl) ⟨Nat.le_refl _, Nat.le_add_right _ _⟩ ⟨_, rfl, (by decide), ⟨by omega, f2.tr f1⟩⟩
          exact loop49 _ 0 _ (Nat.lt_succ_self _) (by omega) hw47 (zOf.up rfl zOf.rf)
        · refine tz_iconst (pc := 38) dX12_turns_38 ?_
          exact tz_zret (pc := 39) (z := 1) dX12_turns_39 rfl (Or.inr rfl) (Nat.le_of_ble_eq_true rfl) (Nat.le_of_ble_eq_true rfl) ⟨Nat.le_refl _, Nat.le_add_right _ _⟩ ⟨_, rfl, (by decide), ⟨Nat.le_refl _, zOf.rf⟩⟩
      · refine tz_iconst (pc := 26) dX12_turns_26 ?_
        exact tz_zret (pc := 27) (z := 0) dX12_turns_27 rfl (Or.inl rfl) (Nat.le_of_ble_eq_true rfl) (Nat.le_of_ble_eq_true rfl) ⟨Nat.le_refl _, Nat.le_add_right _ _⟩ ⟨_, rfl, (by decide), ⟨Nat.le_refl _, zOf.rf⟩⟩

theorem m_turns {l : Launch} {G : tb_G} (hl : l.stackTraces = false) (n : Nat) (J : zJ) (x : Int) (hr_x : -2147483648 ≤ x ∧ x < 2147483648) (b r d s m : Int) (c : Int) (hM : MS J b r d s m) (hU : UF J c m) (hx : (0 ≤ x ∧ x < c) ∧ x % 400 < m) : tz_Ok l G M_X12_turns 806 0 0 [.ref 164, zi x] n J (zqi (fun z J' => wc J' ≤ wc J ∧ zOf (zbut [180]) J' J)) zN := m_turnsR hl n 801 J x hr_x b r d s m c hM hU hx (by have := cnt_n (p := fun k => decide (¬ J 180 k = 1 ∧ ¬ J 180 k = 2)) 800; unfold wc; omega)
set_option maxHeartbeats 4000000 in
set_option maxRecDepth 100000 in
theorem m_unifies {l : Launch} {G : tb_G} (hl : l.stackTraces = false) (n : Nat) (J : zJ) (x : Int) (y : Int) (hr_x : -2147483648 ≤ x ∧ x < 2147483648) (hr_y : -2147483648 ≤ y ∧ y < 2147483648) (b r d s m : Int) (c : Int) (hM : MS J b r d s m) (hc : c = 400 ∨ c = 800) (hx : (0 ≤ x ∧ x < c) ∧ x % 400 < m) (hy : (0 ≤ y ∧ y < c) ∧ y % 400 < m) : tz_Ok l G M_X12_unifies 807 0 0 [.ref 164, zi x, zi y] n J (zqi (fun z J' => UF J' c m ∧ (0 ≤ z ∧ z ≤ 2) ∧ zOf (zbut [164, 177, 178, 179, 180]) J' J ∧ ∀ k, ¬ k = 30 → J' 164 k = J 164 k)) zN := by
  refine tz_Ok.of hl (by decide +kernel) rfl (tb_c1 rfl) (Nat.le_of_ble_eq_true rfl) ?_
  show tz_At l G M_X12_unifies (tb_rm 807 0 0) none (tb_ZM G 0 0 (zQ n 0 (zqi (fun z J' => UF J' c m ∧ (0 ≤ z ∧ z ≤ 2) ∧ zOf (zbut [164, 177, 178, 179, 180]) J' J ∧ ∀ k, ¬ k = 30 → J' 164 k = J 164 k))) (zX n 0 zN)) 0 0 n J 0 [some (.ref 164), some (zi x), some (zi y)] []
  obtain ⟨hM1, hM2, hM3, hM4, hM5, hM6⟩ := id hM
  have hT := hM.told
  refine tz_aload_n (pc := 0) dX12_unifies_0 rfl rfl ?_
  refine tz_cV (pc := 1) (m_begCl hl n _ b r d s m hM) vl_X12_177 dX12_unifies_1 o_164 rfl rfl (Nat.le_of_ble_eq_true rfl) ⟨(Nat.le_of_ble_eq_true rfl), (Nat.le_of_ble_eq_true rfl)⟩ rfl rfl (Nat.le_of_ble_eq_true rfl) (Nat.le_of_ble_eq_true rfl) (fun r9 J_1 hq9 => ?_)
  obtain ⟨rfl, u8, u4, -, f_1, g_1⟩ := hq9
  have f_1 := And.intro f_1 g_1
  have hU : UF J_1 c m := by rcases hc with e | e <;> (subst e; assumption)
  refine tz_aload_n (pc := 4) dX12_unifies_4 rfl rfl ?_
  refine tz_iload_n (pc := 5) dX12_unifies_5 rfl rfl ?_
  refine tz_iload_n (pc := 6) dX12_unifies_6 rfl rfl ?_
  refine tz_cV (pc := 7) (m_joins hl n _ _ _ (by omega) (by omega) b r d s m c (hM.cl f_1.1 f_1.2) hU hx hy) vl_X12_170 dX12_unifies_7 o_164 rfl rfl (Nat.le_of_ble_eq_true rfl) ⟨(Nat.le_of_ble_eq_true rfl), (Nat.le_of_ble_eq_true rfl)⟩ rfl rfl (Nat.le_of_ble_eq_true rfl) (Nat.le_of_ble_eq_true rfl) (fun r9 J_7 hq9 => ?_)
  obtain ⟨rfl, u7, -, f_7, g_7⟩ := hq9
  have f_7 : zOf (zbut [164, 177, 178, 179, 180]) J_7 J ∧ ∀ k, ¬ k = 30 → J_7 164 k = J 164 k := ⟨f_7.tr f_1.1, fun k hk => (g_7 k hk).trans (f_1.2 k hk)⟩
  refine tz_aload_n (pc := 10) dX12_unifies_10 rfl rfl ?_
  refine tz_fI (pc := 11) (kz := 30) (v := (J_7 164 30)) dX12_unifies_11 fl_X12_161 i_164_30 rfl rfl (fun r_11 => ?_)
  refine tz_if_eq (pc := 14) (tgt := 21) dX12_unifies_14 (by decide) (by omega) (fun h_14 => ?_) (fun h_14 => ?_)
  · refine tz_aload_n (pc := 21) dX12_unifies_21 rfl rfl ?_
    refine tz_iload_n (pc := 22) dX12_unifies_22 rfl rfl ?_
    refine tz_cV (pc := 23) (m_turns hl n _ _ (by omega) b r d s m c (hM.cl f_7.1 f_7.2) u7 hx) vl_X12_174 dX12_unifies_23 o_164 rfl rfl (Nat.le_of_ble_eq_true rfl) ⟨(Nat.le_of_ble_eq_true rfl), (Nat.le_of_ble_eq_true rfl)⟩ rfl rfl (Nat.le_of_ble_eq_true rfl) (Nat.le_of_ble_eq_true rfl) (fun r9 J_23 hq9 => ?_)
    obtain ⟨z_23, rfl, hz_23, -, t_23⟩ := hq9
    have f_23 : zOf (zbut [164, 177, 178, 179, 180]) J_23 J ∧ ∀ k, ¬ k = 30 → J_23 164 k = J 164 k := ⟨(t_23.mono (zbut_sub (fun c hc => by simp at hc ⊢; omega))).tr f_7.1, fun k hk => (congrFun (t_23 164 rfl) k).trans (f_7.2 k hk)⟩
    have u23 : UF J_23 c m := u7.c180 t_23
    refine tz_if_ne (pc := 26) (tgt := 37) dX12_unifies_26 (by decide) (by omega) (fun h_26 => ?_) (fun h_26 => ?_)
    · refine tz_iconst (pc := 37) dX12_unifies_37 ?_
      refine tz_goto (pc := 38) (tgt := 42) dX12_unifies_38 (by decide) ?_
      exact tz_iret (pc := 42) (z := 2) dX12_unifies_42 rfl (Nat.le_of_ble_eq_true rfl) (Nat.le_of_ble_eq_true rfl) ⟨Nat.le_refl _, Nat.le_add_right _ _⟩ ⟨_, rfl, (by decide), ⟨u23, by omega, f_23⟩⟩
    · refine tz_aload_n (pc := 29) dX12_unifies_29 rfl rfl ?_
      refine tz_iload_n (pc := 30) dX12_unifies_30 rfl rfl ?_
      refine tz_cV (pc := 31) (m_turns hl n _ _ (by omega) b r d s m c (hM.cl f_23.1 f_23.2) u23 hy) vl_X12_174 dX12_unifies_31 o_164 rfl rfl (Nat.le_of_ble_eq_true rfl) ⟨(Nat.le_of_ble_eq_true rfl), (Nat.le_of_ble_eq_true rfl)⟩ rfl rfl (Nat.le_of_ble_eq_true rfl) (Nat.le_of_ble_eq_true rfl) (fun r9 J_31 hq9 => ?_)
      obtain ⟨z_31, rfl, hz_31, -, t_31⟩ := hq9
      have f_31 : zOf (zbut [164, 177, 178, 179, 180]) J_31 J ∧ ∀ k, ¬ k = 30 → J_31 164 k = J 164 k := ⟨(t_31.mono (zbut_sub (fun c hc => by simp at hc ⊢; omega))).tr f_23.1, fun k hk => (congrFun (t_31 164 rfl) k).trans (f_23.2 k hk)⟩
      have u31 : UF J_31 c m := u23.c180 t_31
      refine tz_if_eq (pc := 34) (tgt := 41) dX12_unifies_34 (by decide) (by omega) (fun h_34 => ?_) (fun h_34 => ?_)
      · refine tz_iconst (pc := 41) dX12_unifies_41 ?_
        exact tz_iret (pc := 42) (z := 1) dX12_unifies_42 rfl (Nat.le_of_ble_eq_true rfl) (Nat.le_of_ble_eq_true rfl) ⟨Nat.le_refl _, Nat.le_add_right _ _⟩ ⟨_, rfl, (by decide), ⟨u31, by omega, f_31⟩⟩
      · refine tz_iconst (pc := 37) dX12_unifies_37 ?_
        refine tz_goto (pc := 38) (tgt := 42) dX12_unifies_38 (by decide) ?_
        exact tz_iret (pc := 42) (z := 2) dX12_unifies_42 rfl (Nat.le_of_ble_eq_true rfl) (Nat.le_of_ble_eq_true rfl) ⟨Nat.le_refl _, Nat.le_add_right _ _⟩ ⟨_, rfl, (by decide), ⟨u31, by omega, f_31⟩⟩
  · refine tz_iconst (pc := 17) dX12_unifies_17 ?_
    refine tz_goto (pc := 18) (tgt := 42) dX12_unifies_18 (by decide) ?_
    exact tz_iret (pc := 42) (z := 0) dX12_unifies_42 rfl (Nat.le_of_ble_eq_true rfl) (Nat.le_of_ble_eq_true rfl) ⟨Nat.le_refl _, Nat.le_add_right _ _⟩ ⟨_, rfl, (by decide), ⟨u7, by omega, f_7⟩⟩

end
section
set_option maxHeartbeats 4000000 in
set_option maxRecDepth 100000 in
theorem m_canBe {l : Launch} {G : tb_G} (hl : l.stackTraces = false) (n : Nat) (J : zJ) (x : Int) (y : Int) (hr_x : -2147483648 ≤ x ∧ x < 2147483648) (hr_y : -2147483648 ≤ y ∧ y < 2147483648) (b r d s m : Int) (hM : MS J b r d s m) (hx : 0 ≤ x ∧ x < m) (hy : 0 ≤ y ∧ y < m) : tz_Ok l G M_X12_canBeAlike 808 0 0 [.ref 164, zi x, zi y] n J (zqi (fun z J' => (z = 0 ∨ z = 1) ∧ zOf (zbut [164, 177, 178, 179, 180]) J' J ∧ ∀ k, ¬ k = 30 → J' 164 k = J 164 k)) zN := by
  refine tz_Ok.of hl (by decide +kernel) rfl (tb_c1 rfl) (Nat.le_of_ble_eq_true rfl) ?_
  show tz_At l G M_X12_canBeAlike (tb_rm 808 0 0) none (tb_ZM G 0 0 (zQ n 0 (zqi (fun z J' => (z = 0 ∨ z = 1) ∧ zOf (zbut [164, 177, 178, 179, 180]) J' J ∧ ∀ k, ¬ k = 30 → J' 164 k = J 164 k))) (zX n 0 zN)) 0 0 n J 0 [some (.ref 164), some (zi x), some (zi y)] []
  obtain ⟨hM1, hM2, hM3, hM4, hM5, hM6⟩ := id hM
  have hT := hM.told
  refine tz_aload_n (pc := 0) dX12_canBeAlike_0 rfl rfl ?_
  refine tz_iload_n (pc := 1) dX12_canBeAlike_1 rfl rfl ?_
  refine tz_sipush (pc := 2) dX12_canBeAlike_2 (by decide) ?_
  refine tz_iload_n (pc := 5) dX12_canBeAlike_5 rfl rfl ?_
  refine tz_iadd (pc := 6) (v := 400 + y) dX12_canBeAlike_6 rfl ?_
  refine tz_cV (pc := 7) (m_unifies hl n _ _ _ (by omega) (by omega) b r d s m 800 hM (Or.inr rfl) (by omega) (by omega)) vl_X12_189 dX12_canBeAlike_7 o_164 rfl rfl (Nat.le_of_ble_eq_true rfl) ⟨(Nat.le_of_ble_eq_true rfl), (Nat.le_of_ble_eq_true rfl)⟩ rfl rfl (Nat.le_of_ble_eq_true rfl) (Nat.le_of_ble_eq_true rfl) (fun r9 J_7 hq9 => ?_)
  obtain ⟨z_7, rfl, hz_7, -, -, g1, g2⟩ := hq9
  refine tz_iconst (pc := 10) dX12_canBeAlike_10 ?_
  refine tz_icmp_ne (pc := 11) (tgt := 18) dX12_canBeAlike_11 (by decide) (by omega) (by decide) (fun h_11 => ?_) (fun h_11 => ?_)
  · refine tz_iconst (pc := 18) dX12_canBeAlike_18 ?_
    exact tz_zret (pc := 19) (z := 0) dX12_canBeAlike_19 rfl (Or.inl rfl) (Nat.le_of_ble_eq_true rfl) (Nat.le_of_ble_eq_true rfl) ⟨Nat.le_refl _, Nat.le_add_right _ _⟩ ⟨_, rfl, (by decide), ⟨by omega, g1, g2⟩⟩
  · refine tz_iconst (pc := 14) dX12_canBeAlike_14 ?_
    refine tz_goto (pc := 15) (tgt := 19) dX12_canBeAlike_15 (by decide) ?_
    exact tz_zret (pc := 19) (z := 1) dX12_canBeAlike_19 rfl (Or.inr rfl) (Nat.le_of_ble_eq_true rfl) (Nat.le_of_ble_eq_true rfl) ⟨Nat.le_refl _, Nat.le_add_right _ _⟩ ⟨_, rfl, (by decide), ⟨by omega, g1, g2⟩⟩

theorem MG.deep {J1 J : zJ} {b r d s m : Int} (h : MS J b r d s m) (f : zOf (zbut [164]) J1 J ∧ ∀ k, ¬ k = 21 → J1 164 k = J 164 k) (hz : J1 164 21 = 0 → J 164 21 = 0) : MG [] [] (fun _ => false) J1 J b r d s m m :=
  ⟨⟨h.of ⟨f.2 _ (by decide), f.2 _ (by decide), f.2 _ (by decide)⟩ (by rw [f.1 165 rfl]) (f.1 166 rfl) (f.1 167 rfl) (f.1 168 rfl) (f.1 170 rfl), Int.le_refl _⟩, fun t _ _ => ⟨⟨by rw [f.1 166 rfl], by rw [f.1 168 rfl]⟩, fun i _ _ => by rw [f.1 167 rfl]⟩, ⟨⟨fun k _ => ⟨by rw [f.1 166 rfl], by rw [f.1 168 rfl]⟩, fun k _ => by rw [f.1 167 rfl]⟩, fun k _ _ => by rw [f.1 165 rfl], fun k hk => f.2 k (fun e => by subst e; simp at hk), f.1.mono (zbut_sub (fun c hc => by simp at hc ⊢; omega))⟩, hz⟩
theorem UF.mg {X : List Nat} {F : List Int} {rp : Int → Bool} {J' J : zJ} {b r d s m m' c m0 : Int} (h : UF J c m0) (g : MG X F rp J' J b r d s m m') (hX : X.contains 177 = false ∧ X.contains 178 = false ∧ X.contains 179 = false) : UF J' c m0 := by
  have fx : ∀ c, ¬ c = 164 → ¬ c = 165 → ¬ c = 166 → ¬ c = 167 → ¬ c = 168 → X.contains c = false → J' c = J c := fun c a1 a2 a3 a4 a5 a6 => g.2.2.1.2.2.2 c (by
    simp only [zbut, List.contains_cons, Bool.or_eq_true, Bool.not_eq_true', Bool.or_eq_false_iff, beq_eq_false_iff_ne]
    exact ⟨a1, a2, a3, a4, a5, a6⟩)
  exact h.of (fx 177 (by decide) (by decide) (by decide) (by decide) (by decide) hX.1) (fx 178 (by decide) (by decide) (by decide) (by decide) (by decide) hX.2.1) (fx 179 (by decide) (by decide) (by decide) (by decide) (by decide) hX.2.2)
def rB : Int → Bool := fun k => decide (1 ≤ k ∧ k ≤ 8)
theorem MG.rb {X : List Nat} {F : List Int} {J' J : zJ} {b r d s m m' k v : Int} (g : MG X F rB J' J b r d s m m') (hk : 1 ≤ k ∧ k ≤ 8) : MG X F rB (zup J' 165 k v) J b r d s m m' := by
  have hr := g.1.1.1
  unfold mode at hr
  have e5 : ∀ q, ¬ q = k → zup J' 165 k v 165 q = J' 165 q := fun q hq => zup_ne hq
  refine ⟨⟨g.1.1.of ⟨rfl, rfl, rfl⟩ (e5 r (by omega)) rfl rfl rfl rfl, g.1.2⟩, g.2.1, ⟨g.2.2.1.1, fun q a c => ?_, g.2.2.1.2.2.1, fun c hc => ?_⟩, g.2.2.2⟩
  · rw [e5 q (fun e => by subst e; unfold rB at c; exact of_decide_eq_false c hk)]
    exact g.2.2.1.2.1 q a c
  · rw [← g.2.2.1.2.2.2 c hc]
    refine zup_nc (fun e => ?_)
    subst e
    simp [zbut] at hc
theorem MG.tr9 {J3 J2 J1 J : zJ} {b r d s m m1 m2 : Int} (g1 : MG [] [] rB J1 J b r d s m m1) (g2 : MG [] [] rB J2 J b r d s m m1) (g : MG [] [] (fun _ => false) J3 J2 b r d s m1 m2) : MG [] [] rB J3 J b r d s m m2 := g2.tr (g.mono (fun _ h => h) (fun _ h => h) (fun _ _ => rfl))
theorem bs_s1 {J1 : zJ} {k m1 : Int} (h : J1 164 21 = 0 → ∀ v, 1 ≤ v → v < 1 + k → 0 ≤ J1 165 v ∧ J1 165 v ≤ m1) (hk : 0 ≤ k) (hm : 0 ≤ m1) : zup J1 165 (1 + k) 0 164 21 = 0 → ∀ v, 1 ≤ v → v < 1 + (k + 1) → 0 ≤ zup J1 165 (1 + k) 0 165 v ∧ zup J1 165 (1 + k) 0 165 v ≤ m1 := fun q v a c => by
  have q1 : J1 164 21 = 0 := q
  have e : zup J1 165 (1 + k) 0 165 v = if v = 1 + k then 0 else J1 165 v := rfl
  rw [e]
  split
  · omega
  · exact h q1 v a (by omega)
theorem bs_s2 {J3 J1 : zJ} {b r d s k m1 m2 z : Int} (h : J1 164 21 = 0 → ∀ v, 1 ≤ v → v < 1 + k → 0 ≤ J1 165 v ∧ J1 165 v ≤ m1) (g : MG [] [] (fun _ => false) J3 (zup J1 165 (1 + k) 0) b r d s m1 m2) (hz : J3 164 21 = 0 → 0 ≤ z ∧ z < m2) (hk : 0 ≤ k ∧ k < 8) : zup J3 165 (1 + k) (zw (1 + z)) 164 21 = 0 → ∀ v, 1 ≤ v → v < 1 + (k + 1) → 0 ≤ zup J3 165 (1 + k) (zw (1 + z)) 165 v ∧ zup J3 165 (1 + k) (zw (1 + z)) 165 v ≤ m2 := fun q v a c => by
  have q3 : J3 164 21 = 0 := q
  have q1 : J1 164 21 = 0 := g.2.2.2 q3
  have hm := g.1.2
  have ht := g.1.1.told
  have hr := g.1.1.1
  unfold mode at hr
  have e : zup J3 165 (1 + k) (zw (1 + z)) 165 v = if v = 1 + k then zw (1 + z) else J3 165 v := rfl
  rw [e]
  have z1 := hz q3
  split
  · rw [zw_eq (by omega)]
    omega
  · next hv =>
    have e1 : J3 165 v = J1 165 v := by
      by_cases er : v = r
      · omega
      · rw [g.2.2.1.2.1 v er rfl]
        exact zup_ne hv
    rw [e1]
    have := h q1 v a (by omega)
    omega
end
section
/-! ===== bits ===== -/
def bt (a v : Int) : Prop := zand (zshr a v) 1 = 1
theorem i1_01 (x : Int32) : x &&& 1 = 0 ∨ x &&& 1 = 1 := by
  have h := z_and x.toInt (m := 1) 1 (by decide) (by decide)
  unfold zand at h
  rw [Int32.ofInt_toInt, show Int32.ofInt 1 = 1 from rfl] at h
  have h2 : (x &&& 1).toInt = 0 ∨ (x &&& 1).toInt = 1 := by omega
  exact h2.imp (fun q => Int32.toInt_inj.1 (q.trans rfl)) (fun q => Int32.toInt_inj.1 (q.trans rfl))
theorem i1_or (x y : Int32) : (x ||| y) &&& 1 = (x &&& 1) ||| (y &&& 1) := by
  refine Int32.toBitVec_inj.1 (BitVec.eq_of_getLsbD_eq (fun i hi => ?_))
  simp only [Int32.toBitVec_and, Int32.toBitVec_or, BitVec.getLsbD_and, BitVec.getLsbD_or]
  exact Bool.and_or_distrib_right _ _ _
theorem i1_and (x y : Int32) : (x &&& y) &&& 1 = (x &&& 1) &&& (y &&& 1) := by
  rw [Int32.and_assoc, Int32.and_assoc, ← Int32.and_assoc 1 y 1, Int32.and_comm 1 y, Int32.and_assoc y, Int32.and_self]
theorem bt_iff {a v : Int} : bt a v ↔ (Int32.ofInt a >>> (Int32.ofInt v &&& 31)) &&& 1 = 1 := by
  unfold bt zand zshr
  rw [Int32.ofInt_toInt, show Int32.ofInt 1 = 1 from rfl]
  exact ⟨fun q => Int32.toInt_inj.1 (q.trans rfl), fun q => by rw [q]; rfl⟩
theorem bt_or {a b v : Int} : bt (zor a b) v ↔ bt a v ∨ bt b v := by
  rw [bt_iff, bt_iff, bt_iff]
  unfold zor
  rw [Int32.ofInt_toInt, Int32.shiftRight_or, i1_or]
  rcases i1_01 (Int32.ofInt a >>> (Int32.ofInt v &&& 31)) with h1 | h1 <;> rcases i1_01 (Int32.ofInt b >>> (Int32.ofInt v &&& 31)) with h2 | h2 <;> rw [h1, h2] <;> decide
theorem bt_and3 {a b c v : Int} (ha : bt a v) (hb : bt b v) (hc : bt c v) : zand (zand (zand (zshr a v) (zshr b v)) (zshr c v)) 1 = 1 := by
  have h1 := bt_iff.1 ha
  have h2 := bt_iff.1 hb
  have h3 := bt_iff.1 hc
  unfold zand zshr
  simp only [Int32.ofInt_toInt]
  rw [show Int32.ofInt 1 = 1 from rfl, i1_and, i1_and, h1, h2, h3]
  rfl
theorem bt_shl {v : Int} (h : 0 ≤ v ∧ v < 8) : bt (zshl 1 v) v := by
  have h1 : v = 0 ∨ v = 1 ∨ v = 2 ∨ v = 3 ∨ v = 4 ∨ v = 5 ∨ v = 6 ∨ v = 7 := by omega
  rcases h1 with h1 | h1 | h1 | h1 | h1 | h1 | h1 | h1 <;> (subst h1; unfold bt; decide)
/-! ===== what variables a term tells ===== -/
def occ (J : zJ) (b d : Int) : Nat → Int → Int → Prop
  | 0, _, _ => False
  | k + 1, t, v => (J 166 (b + t) < 0 ∧ v = -1 - J 166 (b + t)) ∨ ∃ i, (0 ≤ i ∧ i < mar J b d t) ∧ occ J b d k (J 167 (3 * (b + t) + i)) v
def Occ (J : zJ) (b d t v : Int) : Prop := ∃ k, occ J b d k t v
theorem Occ.v {J : zJ} {b d t : Int} (h : J 166 (b + t) < 0) : Occ J b d t (-1 - J 166 (b + t)) := ⟨1, Or.inl ⟨h, rfl⟩⟩
theorem Occ.a {J : zJ} {b d t i v : Int} (hi : 0 ≤ i ∧ i < mar J b d t) : Occ J b d (J 167 (3 * (b + t) + i)) v → Occ J b d t v := fun ⟨k, h⟩ => ⟨k + 1, Or.inr ⟨i, hi, h⟩⟩
theorem occ_rg {J : zJ} {b r d s m : Int} (h : MS J b r d s m) : ∀ (k : Nat) {t v : Int}, occ J b d k t v → (0 ≤ t ∧ t < m) → 0 ≤ v ∧ v < 8
  | 0, _, _, o, _ => o.elim
  | k + 1, t, v, o, ht => by
    rcases o with ⟨o1, o2⟩ | ⟨i, hi, o⟩
    · have := (h.ar ht).2.1
      omega
    · have := (h.arg ht hi).1
      exact occ_rg h k o (by omega)
theorem Occ.rg {J : zJ} {b r d s m t v : Int} (h : MS J b r d s m) (o : Occ J b d t v) (ht : 0 ≤ t ∧ t < m) : 0 ≤ v ∧ v < 8 := o.elim fun k o => occ_rg h k o ht
end
section
/-! ===== rings ===== -/
def TP (f : Int → Int) (j : Int) : Prop := ∀ i v u, (0 ≤ i ∧ i < j) → (0 ≤ v ∧ v < 8) → (0 ≤ u ∧ u < 8) → bt (f v) i → bt (f i) u → bt (f v) u
def EX (f2 f1 : Int → Int) (j i : Int) : Prop := ∀ v u, (0 ≤ v ∧ v < 8) → (bt (f2 v) u ↔ bt (f1 v) u ∨ (v < i ∧ bt (f1 v) j ∧ bt (f1 j) u))
theorem EX.row {f2 f1 : Int → Int} {j i u : Int} (h : EX f2 f1 j i) (hj : 0 ≤ j ∧ j < 8) : bt (f2 j) u ↔ bt (f1 j) u := by
  rw [h j u hj]
  exact ⟨fun q => q.elim id (fun w => w.2.2), Or.inl⟩
theorem EX.me {f2 f1 : Int → Int} {j i u : Int} (h : EX f2 f1 j i) (hi : 0 ≤ i ∧ i < 8) : bt (f2 i) u ↔ bt (f1 i) u := by
  rw [h i u hi]
  exact ⟨fun q => q.elim id (fun w => by omega), Or.inl⟩
theorem EX.st {f3 f2 f1 : Int → Int} {j i : Int} (h : EX f2 f1 j i) (hj : 0 ≤ j ∧ j < 8) (hi : 0 ≤ i ∧ i < 8) (h3 : ∀ v, ¬ v = i → f3 v = f2 v) (hc : (bt (f2 i) j ∧ f3 i = zor (f2 i) (f2 j)) ∨ (¬ bt (f2 i) j ∧ f3 i = f2 i)) : EX f3 f1 j (i + 1) := fun v u hv => by
  by_cases e : v = i
  · subst e
    rcases hc with ⟨c1, c2⟩ | ⟨c1, c2⟩
    · rw [c2, bt_or, h.me hi, h.row hj]
      have c3 := (h.me hi).1 c1
      exact ⟨fun q => q.imp id (fun w => ⟨by omega, c3, w⟩), fun q => q.imp id (fun w => w.2.2)⟩
    · rw [c2, h.me hi]
      exact ⟨Or.inl, fun q => q.elim id (fun w => absurd ((h.me hi).2 w.2.1) c1)⟩
  · rw [h3 v e, h v u hv]
    exact ⟨fun q => q.imp id (fun w => ⟨by omega, w.2⟩), fun q => q.imp id (fun w => ⟨by omega, w.2⟩)⟩
theorem EX.z {f : Int → Int} {j : Int} : EX f f j 0 := fun v u hv => ⟨Or.inl, fun q => q.elim id (fun w => by omega)⟩
theorem EX.e {f2 f1 : Int → Int} {j : Int} (h : EX f2 f1 j 8) (hj : 0 ≤ j ∧ j < 8) (p : TP f1 j) : TP f2 (j + 1) := fun i v u hi hv hu a c => by
  have i8 : 0 ≤ i ∧ i < 8 := by omega
  have goal : bt (f1 v) u ∨ (bt (f1 v) j ∧ bt (f1 j) u) → bt (f2 v) u := fun q => (h v u hv).2 (q.imp id (fun w => ⟨hv.2, w⟩))
  have a1 := (h v i hv).1 a
  have c1 := (h i u i8).1 c
  by_cases e : i = j
  · subst e
    have c2 : bt (f1 i) u := c1.elim id (fun w => w.2.2)
    exact goal (Or.inr ⟨a1.elim id (fun w => w.2.1), c2⟩)
  · have i9 : 0 ≤ i ∧ i < j := by omega
    rcases a1 with a1 | ⟨-, a1, a2⟩
    · rcases c1 with c1 | ⟨-, c1, c2⟩
      · exact goal (Or.inl (p i v u i9 hv hu a1 c1))
      · exact goal (Or.inr ⟨p i v j i9 hv hj a1 c1, c2⟩)
    · rcases c1 with c1 | ⟨-, c1, c2⟩
      · exact goal (Or.inr ⟨a1, p i j u i9 hj hu a2 c1⟩)
      · exact goal (Or.inr ⟨a1, c2⟩)
theorem EX.mo {f2 f1 : Int → Int} {j i v u : Int} (h : EX f2 f1 j i) (hv : 0 ≤ v ∧ v < 8) (q : bt (f1 v) u) : bt (f2 v) u := (h v u hv).2 (Or.inl q)
def NB (J : zJ) (f : Int → Int) (b d k : Int) : Prop := ∀ v, 0 ≤ v → v < k → ¬ J 175 v = -1 → ∀ u, Occ J b d (J 175 v) u → bt (f v) u
def NR (J : zJ) (b d t : Int) : Prop := ∃ (rk : Int → Nat) (S : Int → Prop), (∀ v, rk v ≤ 8) ∧ (∀ v, Occ J b d t v → S v) ∧ ∀ v, (0 ≤ v ∧ v < 8) → S v → ¬ J 175 v = -1 → ∀ u, Occ J b d (J 175 v) u → S u ∧ (¬ J 175 u = -1 → rk u < rk v)
theorem nr_mk {J : zJ} {b r d s m t S0 S W : Int} {f : Int → Int} (hM : MS J b r d s m) (hy : gOK (J 175) m) (h1 : NB J f b d 8) (hW : ∀ v, 0 ≤ v → v < 8 → ¬ J 175 v = -1 → bt W v) (hp : TP f 8) (h0 : ∀ v, Occ J b d t v → bt S0 v) (hS : ∀ u, bt S0 u → bt S u) (hN : ∀ v u, 0 ≤ v → v < 8 → bt S0 v → bt (f v) u → bt S u) (hR : ∀ v, 0 ≤ v → v < 8 → ¬ (bt S v ∧ bt W v ∧ bt (f v) v)) : NR J b d t := by
  refine ⟨fun v => cnt (fun k => decide (zand (zshr (f v) k) 1 = 1)) 8, fun v => bt S0 v ∨ ∃ w, (0 ≤ w ∧ w < 8) ∧ bt S0 w ∧ bt (f w) v, fun v => cnt_n 8, fun v o => Or.inl (h0 v o), fun v hv sv bv u o => ?_⟩
  have hb := hy v hv.1 hv.2
  have hu := o.rg hM (by omega)
  have fu := h1 v hv.1 hv.2 bv u o
  have su : bt S0 u ∨ ∃ w, (0 ≤ w ∧ w < 8) ∧ bt S0 w ∧ bt (f w) u := by
    rcases sv with sv | ⟨w, hw, w1, w2⟩
    · exact Or.inr ⟨v, hv, sv, fu⟩
    · exact Or.inr ⟨w, hw, w1, hp v w u hv hw hu w2 fu⟩
  refine ⟨su, fun bu => ?_⟩
  have s1 : bt S u := by
    rcases su with su | ⟨w, hw, w1, w2⟩
    · exact hS u su
    · exact hN w u hw.1 hw.2 w1 w2
  have nu : ¬ bt (f u) u := fun q => hR u hu.1 hu.2 ⟨s1, hW u hu.1 hu.2 bu, q⟩
  refine cnt_lt 8 (fun k a c g => decide_eq_true ?_) ⟨u, hu, decide_eq_true fu, decide_eq_false nu⟩
  have g1 : zand (zshr (f u) k) 1 = 1 := of_decide_eq_true g
  exact hp u v k hu hv ⟨a, by omega⟩ fu g1
theorem nb_s {J J1 : zJ} {b d k z : Int} (h : NB J (J1 176) b d k) (hz : ¬ J 175 k = -1 → ∀ u, Occ J b d (J 175 k) u → bt z u) : NB J (zup J1 176 k z 176) b d (k + 1) := fun v a c q u o => by
  have e : zup J1 176 k z 176 v = if v = k then z else J1 176 v := rfl
  rw [e]
  by_cases hv : v = k
  · subst hv
    rw [if_pos rfl]
    exact hz q u o
  · rw [if_neg hv]
    exact h v a (by omega) q u o
theorem wb_s {J : zJ} {k w x : Int} (h : ∀ v, 0 ≤ v → v < k → ¬ J 175 v = -1 → bt w v) (hk : ¬ J 175 k = -1 → bt x k) : ∀ v, 0 ≤ v → v < k + 1 → ¬ J 175 v = -1 → bt (zor w x) v := fun v a c q => by
  by_cases hv : v = k
  · subst hv
    exact bt_or.2 (Or.inr (hk q))
  · exact bt_or.2 (Or.inl (h v a (by omega) q))
theorem sn_s {f : Int → Int} {s0 sS k x : Int} (h : ∀ v u, 0 ≤ v → v < k → bt s0 v → bt (f v) u → bt sS u) (hx : ∀ u, bt sS u → bt x u) (hk : ∀ u, bt s0 k → bt (f k) u → bt x u) : ∀ v u, 0 ≤ v → v < k + 1 → bt s0 v → bt (f v) u → bt x u := fun v u a c p q => by
  by_cases hv : v = k
  · subst hv
    exact hk u p q
  · exact hx u (h v u a (by omega) p q)
theorem rg_s {f : Int → Int} {sS w k : Int} (h : ∀ v, 0 ≤ v → v < k → ¬ (bt sS v ∧ bt w v ∧ bt (f v) v)) (hk : ¬ (bt sS k ∧ bt w k ∧ bt (f k) k)) : ∀ v, 0 ≤ v → v < k + 1 → ¬ (bt sS v ∧ bt w v ∧ bt (f v) v) := fun v a c => by
  by_cases hv : v = k
  · subst hv
    exact hk
  · exact h v a (by omega)
theorem MS.c176 {J' J : zJ} {b r d s m : Int} (h : MS J b r d s m) (f : zOf (zbut [176]) J' J) : MS J' b r d s m := h.c1 f (by decide)
theorem occ_cg {J' J : zJ} {b d : Int} (e6 : J' 166 = J 166) (e7 : J' 167 = J 167) (e0 : J' 170 = J 170) : ∀ (k : Nat) (t v : Int), occ J' b d k t v ↔ occ J b d k t v
  | 0, _, _ => Iff.rfl
  | k + 1, t, v => by
    have em : mar J' b d t = mar J b d t := by unfold mar; rw [e6, e0]
    unfold occ
    rw [e6, e7, em]
    exact or_congr Iff.rfl ⟨fun ⟨i, a, c⟩ => ⟨i, a, (occ_cg e6 e7 e0 k _ v).1 c⟩, fun ⟨i, a, c⟩ => ⟨i, a, (occ_cg e6 e7 e0 k _ v).2 c⟩⟩
theorem Occ.cg {J' J : zJ} {b d t v : Int} (f : zOf (zbut [176]) J' J) (o : Occ J b d t v) : Occ J' b d t v := o.elim fun k o => ⟨k, (occ_cg (f 166 rfl) (f 167 rfl) (f 170 rfl) k t v).2 o⟩
end
section
/-! ===== closing ===== -/
def OC (O : Int → Int → Prop) (J : zJ) (b d m0 : Int) : Prop := ∀ t, 0 ≤ t → t < m0 → (J 166 (b + t) < 0 → O t (-1 - J 166 (b + t))) ∧ ∀ i v, (0 ≤ i ∧ i < mar J b d t) → O (J 167 (3 * (b + t) + i)) v → O t v
def CR (O : Int → Int → Prop) (rk : Int → Nat) (S : Int → Prop) (J : zJ) (b d m0 : Int) : Prop := OC O J b d m0 ∧ gOK (J 175) m0 ∧ ∀ v, (0 ≤ v ∧ v < 8) → S v → ¬ J 175 v = -1 → ∀ u, O (J 175 v) u → S u ∧ (¬ J 175 u = -1 → rk u < rk v)
theorem CR.mg {O : Int → Int → Prop} {rk : Int → Nat} {S : Int → Prop} {J' J : zJ} {b r d s m m' m0 : Int} (h : CR O rk S J b d m0) (hm : m0 ≤ m) (g : MG [] [] (fun _ => false) J' J b r d s m m') : CR O rk S J' b d m0 := by
  have e5 : J' 175 = J 175 := g.2.2.1.2.2.2 175 rfl
  refine ⟨fun t a c => ?_, by rw [e5]; exact h.2.1, by rw [e5]; exact h.2.2⟩
  have h1 := h.1 t a c
  have hu := g.2.1 t a (by omega)
  have em := g.ar (t := t) ⟨a, by omega⟩ (g.2.2.1.2.2.2 170 rfl)
  rw [hu.1.1, em]
  refine ⟨h1.1, fun i v hi o => h1.2 i v hi ?_⟩
  have ha : mar J b d t ≤ 3 := by rw [← em]; exact (g.1.1.ar (t := t) ⟨a, by have := g.1.2; omega⟩).1.2
  rw [hu.2 i hi.1 (by omega)] at o
  exact o
end
section
/-! ===== memos ===== -/
def MR (f : Int → Int) (m : Int) : Prop := (0 ≤ f 9 ∧ f 9 ≤ 8) ∧ ∀ k, 0 ≤ k → k < f 9 → (0 ≤ f (10 + 2 * k) ∧ f (10 + 2 * k) < m) ∧ 0 ≤ f (10 + 2 * k + 1) ∧ f (10 + 2 * k + 1) < m
def MM (f : Int → Int) (m : Int) : Prop := (0 ≤ f 39 ∧ f 39 ≤ 9) ∧ (0 ≤ f 40 ∧ f 40 ≤ f 39) ∧ ∀ k, 0 ≤ k → k < 2 * f 40 → 0 ≤ f (41 + k) ∧ f (41 + k) < m
def MMf (J' J : zJ) : Prop := zOf (zbut [165]) J' J ∧ ∀ k, (k < 40 ∨ 59 ≤ k) → J' 165 k = J 165 k
theorem MMf.rf {J : zJ} : MMf J J := ⟨zOf.rf, fun _ _ => rfl⟩
theorem MMf.tr {J3 J2 J1 : zJ} (h : MMf J3 J2) (g : MMf J2 J1) : MMf J3 J1 := ⟨h.1.tr g.1, fun k q => (h.2 k q).trans (g.2 k q)⟩
theorem MMf.up {J' J : zJ} {k v : Int} (h : MMf J' J) (hk : 40 ≤ k ∧ k < 59) : MMf (zup J' 165 k v) J := ⟨zOf.up rfl h.1, fun q a => (zup_ne (by omega)).trans (h.2 q a)⟩
theorem MM.mono {f : Int → Int} {m m' : Int} (h : MM f m) (q : m ≤ m') : MM f m' := ⟨h.1, h.2.1, fun k a c => by have := h.2.2 k a c; omega⟩
theorem MR.mono {f : Int → Int} {m m' : Int} (h : MR f m) (q : m ≤ m') : MR f m' := ⟨h.1, fun k a c => by have := h.2 k a c; omega⟩
theorem MR.of {f' f : Int → Int} {m : Int} (h : MR f m) (e : ∀ k, 9 ≤ k → k < 26 → f' k = f k) : MR f' m := by
  unfold MR
  rw [e 9 (by decide) (by decide)]
  refine ⟨h.1, fun k a c => ?_⟩
  have h1 := h.1
  rw [e (10 + 2 * k) (by omega) (by omega), e (10 + 2 * k + 1) (by omega) (by omega)]
  exact h.2 k a c
set_option maxHeartbeats 4000000 in
set_option maxRecDepth 100000 in
theorem m_memoAt {l : Launch} {G : tb_G} (hl : l.stackTraces = false) (n : Nat) (J : zJ) (t : Int) (hr_t : -2147483648 ≤ t ∧ t < 2147483648) (m : Int) (hm : MM (J 165) m) : tz_Ok l G M_X12_memoAt 0 0 0 [.ref 164, zi t] n J (zqi (fun z J' => J = J' ∧ (z = -1 ∨ (0 ≤ z ∧ z < J 165 40)))) zN := by
  refine tz_Ok.of hl (by decide +kernel) rfl (tb_c1 rfl) (Nat.le_of_ble_eq_true rfl) ?_
  show tz_At l G M_X12_memoAt (tb_rm 0 0 0) none (tb_ZM G 0 0 (zQ n 0 (zqi (fun z J' => J = J' ∧ (z = -1 ∨ (0 ≤ z ∧ z < J 165 40))))) (zX n 0 zN)) 0 0 n J 0 [some (.ref 164), some (zi t), none] []
  obtain ⟨m1, m2, m3⟩ := id hm
  refine tz_iconst (pc := 0) dX12_memoAt_0 ?_
  refine tz_istore_n (pc := 1) (L2 := [_, _, _]) dX12_memoAt_1 rfl (by decide) rfl ?_
  have loop2 : ∀ (f9 : Nat) (k : Int), ((J 165 40 - k).toNat) < f9 → (0 ≤ k ∧ k ≤ J 165 40) → tz_At l G M_X12_memoAt (tb_rm 0 0 0) none (tb_ZM G 0 0 (zQ n 0 (zqi (fun z J' => J = J' ∧ (z = -1 ∨ (0 ≤ z ∧ z < J 165 40))))) (zX n 0 zN)) 0 0 n J 2 [some (.ref 164), some (zi t), some (zi k)] [] := by
    intro f9
    induction f9 with
    | zero => intro k hm9; exact absurd hm9 (Nat.not_lt_zero _)
    | succ f9 ih2 =>
      intro k hm2 hk
      refine tz_iload_n (pc := 2) dX12_memoAt_2 rfl rfl ?_
      refine tz_aload_n (pc := 3) dX12_memoAt_3 rfl rfl ?_
      refine tz_fR (pc := 4) dX12_memoAt_4 fl_X12_9 r_164_0 ?_
      refine tz_bipush (pc := 7) dX12_memoAt_7 (by decide) ?_
      refine tz_aL (pc := 9) (z := 40) (v := (J 165 40)) dX12_memoAt_9 a_165 rfl (by decide) rfl (fun r_9 => ?_)
      refine tz_icmp_ge (pc := 10) (tgt := 36) dX12_memoAt_10 (by decide) (by omega) (by omega) (fun h_10 => ?_) (fun h_10 => ?_)
      · refine tz_iconst (pc := 36) dX12_memoAt_36 ?_
        exact tz_iret (pc := 37) (z := (-1)) dX12_memoAt_37 rfl (Nat.le_of_ble_eq_true rfl) (Nat.le_of_ble_eq_true rfl) ⟨Nat.le_refl _, Nat.le_add_right _ _⟩ ⟨_, rfl, (by decide), ⟨rfl, by omega⟩⟩
      · refine tz_aload_n (pc := 13) dX12_memoAt_13 rfl rfl ?_
        refine tz_fR (pc := 14) dX12_memoAt_14 fl_X12_9 r_164_0 ?_
        refine tz_bipush (pc := 17) dX12_memoAt_17 (by decide) ?_
        refine tz_iconst (pc := 19) dX12_memoAt_19 ?_
        refine tz_iload_n (pc := 20) dX12_memoAt_20 rfl rfl ?_
        refine tz_imul (pc := 21) (v := 2 * k) dX12_memoAt_21 rfl ?_
        refine tz_iadd (pc := 22) (v := 41 + (2 * k)) dX12_memoAt_22 rfl ?_
        refine tz_aL (pc := 23) (z := (41 + (2 * k))) (v := (J 165 (41 + (2 * k)))) dX12_memoAt_23 a_165 rfl (by omega) rfl (fun r_23 => ?_)
        refine tz_iload_n (pc := 24) dX12_memoAt_24 rfl rfl ?_
        refine tz_icmp_ne (pc := 25) (tgt := 30) dX12_memoAt_25 (by decide) (by omega) (by omega) (fun h_25 => ?_) (fun h_25 => ?_)
        · refine tz_iinc (pc := 30) (z := k + 1) (L2 := [_, _, _]) dX12_memoAt_30 rfl (by omega) rfl ?_
          refine tz_goto (pc := 33) (tgt := 2) dX12_memoAt_33 (by decide) ?_
          exact ih2 (k + 1) (by omega) (by omega)
        · refine tz_iload_n (pc := 28) dX12_memoAt_28 rfl rfl ?_
          exact tz_iret (pc := 29) (z := k) dX12_memoAt_29 rfl (Nat.le_of_ble_eq_true rfl) (Nat.le_of_ble_eq_true rfl) ⟨Nat.le_refl _, Nat.le_add_right _ _⟩ ⟨_, rfl, (by omega), ⟨rfl, by omega⟩⟩
  exact loop2 _ 0 (Nat.lt_succ_self _) (by omega)

theorem ml_s {J1 : zJ} {h j m c : Int} (h3 : ∀ k, 0 ≤ k → k < 2 * h → 0 ≤ J1 165 (41 + k) ∧ J1 165 (41 + k) < m) (hj : 0 ≤ j ∧ j + 2 < 2 * h) (hc : 0 ≤ c ∧ c < m) : ∀ k, 0 ≤ k → k < 2 * h → 0 ≤ zup J1 165 (41 + j) c 165 (41 + k) ∧ zup J1 165 (41 + j) c 165 (41 + k) < m := fun k a q => by
  have e : zup J1 165 (41 + j) c 165 (41 + k) = if 41 + k = 41 + j then c else J1 165 (41 + k) := rfl
  rw [e]
  split
  · exact hc
  · exact h3 k a q
set_option maxHeartbeats 4000000 in
set_option maxRecDepth 100000 in
theorem m_memoLoses {l : Launch} {G : tb_G} (hl : l.stackTraces = false) (n : Nat) (J : zJ) (i : Int) (hr_i : -2147483648 ≤ i ∧ i < 2147483648) (m : Int) (hm : MM (J 165) m) (hi : 0 ≤ i ∧ i < J 165 40) : tz_Ok l G M_X12_memoLoses 0 0 0 [.ref 164, zi i] n J (zqv (fun J' => MM (J' 165) m ∧ J' 165 40 = J 165 40 - 1 ∧ MMf J' J)) zN := by
  refine tz_Ok.of hl (by decide +kernel) rfl (tb_c1 rfl) (Nat.le_of_ble_eq_true rfl) ?_
  show tz_At l G M_X12_memoLoses (tb_rm 0 0 0) none (tb_ZM G 0 0 (zQ n 0 (zqv (fun J' => MM (J' 165) m ∧ J' 165 40 = J 165 40 - 1 ∧ MMf J' J))) (zX n 0 zN)) 0 0 n J 0 [some (.ref 164), some (zi i), none] []
  obtain ⟨m1, m2, m3⟩ := id hm
  refine tz_aload_n (pc := 0) dX12_memoLoses_0 rfl rfl ?_
  refine tz_fR (pc := 1) dX12_memoLoses_1 fl_X12_9 r_164_0 ?_
  refine tz_bipush (pc := 4) dX12_memoLoses_4 (by decide) ?_
  refine tz_dup2 (pc := 6) dX12_memoLoses_6 rfl rfl ?_
  refine tz_aL (pc := 7) (z := 40) (v := (J 165 40)) dX12_memoLoses_7 a_165 rfl (by decide) rfl (fun r_7 => ?_)
  refine tz_iconst (pc := 8) dX12_memoLoses_8 ?_
  refine tz_isub (pc := 9) (v := (J 165 40) - 1) dX12_memoLoses_9 rfl ?_
  refine tz_aS (pc := 10) (z := 40) dX12_memoLoses_10 a_165 rfl (by decide) (by omega) ?_
  refine tz_iconst (pc := 11) dX12_memoLoses_11 ?_
  refine tz_iload_n (pc := 12) dX12_memoLoses_12 rfl rfl ?_
  refine tz_imul (pc := 13) (v := 2 * i) dX12_memoLoses_13 rfl ?_
  refine tz_istore_n (pc := 14) (L2 := [_, _, _]) dX12_memoLoses_14 rfl (by decide) rfl ?_
  have loop15 : ∀ (f9 : Nat) (j : Int) (J1 : zJ), ((2 * J 165 40 - j).toNat) < f9 → (0 ≤ j ∧ j ≤ 2 * (J 165 40 - 1)) → (MMf J1 J) → (J1 165 40 = J 165 40 - 1) → (∀ k, 0 ≤ k → k < 2 * J 165 40 → 0 ≤ J1 165 (41 + k) ∧ J1 165 (41 + k) < m) → tz_At l G M_X12_memoLoses (tb_rm 0 0 0) none (tb_ZM G 0 0 (zQ n 0 (zqv (fun J' => MM (J' 165) m ∧ J' 165 40 = J 165 40 - 1 ∧ MMf J' J))) (zX n 0 zN)) 0 0 n J1 15 [some (.ref 164), some (zi i), some (zi j)] [] := by
    intro f9
    induction f9 with
    | zero => intro j J1 hm9; exact absurd hm9 (Nat.not_lt_zero _)
    | succ f9 ih15 =>
      intro j J1 hm15 hj f1 h4 h3
      refine tz_iload_n (pc := 15) dX12_memoLoses_15 rfl rfl ?_
      refine tz_iconst (pc := 16) dX12_memoLoses_16 ?_
      refine tz_aload_n (pc := 17) dX12_memoLoses_17 rfl rfl ?_
      refine tz_fR (pc := 18) dX12_memoLoses_18 fl_X12_9 r_164_0 ?_
      refine tz_bipush (pc := 21) dX12_memoLoses_21 (by decide) ?_
      refine tz_aL (pc := 23) (z := 40) (v := (J1 165 40)) dX12_memoLoses_23 a_165 rfl (by decide) rfl (fun r_23 => ?_)
      refine tz_imul (pc := 24) (v := 2 * (J1 165 40)) dX12_memoLoses_24 rfl ?_
      refine tz_icmp_ge (pc := 25) (tgt := 54) dX12_memoLoses_25 (by decide) (by omega) (by omega) (fun h_25 => ?_) (fun h_25 => ?_)
      · exact tz_vret (pc := 54) dX12_memoLoses_54 rfl (Nat.le_of_ble_eq_true rfl) (Nat.le_of_ble_eq_true rfl) ⟨Nat.le_refl _, Nat.le_add_right _ _⟩ ⟨rfl, ⟨⟨by rw [f1.2 39 (by decide)]; exact m1, by rw [h4, f1.2 39 (by decide)]; omega, fun k a c => h3 k a (by omega)⟩, h4, f1⟩⟩
      · refine tz_aload_n (pc := 28) dX12_memoLoses_28 rfl rfl ?_
        refine tz_fR (pc := 29) dX12_memoLoses_29 fl_X12_9 r_164_0 ?_
        refine tz_bipush (pc := 32) dX12_memoLoses_32 (by decide) ?_
        refine tz_iload_n (pc := 34) dX12_memoLoses_34 rfl rfl ?_
        refine tz_iadd (pc := 35) (v := 41 + j) dX12_memoLoses_35 rfl ?_
        refine tz_aload_n (pc := 36) dX12_memoLoses_36 rfl rfl ?_
        refine tz_fR (pc := 37) dX12_memoLoses_37 fl_X12_9 r_164_0 ?_
        refine tz_bipush (pc := 40) dX12_memoLoses_40 (by decide) ?_
        refine tz_iload_n (pc := 42) dX12_memoLoses_42 rfl rfl ?_
        refine tz_iadd (pc := 43) (v := 41 + j) dX12_memoLoses_43 rfl ?_
        refine tz_iconst (pc := 44) dX12_memoLoses_44 ?_
        refine tz_iadd (pc := 45) (v := (41 + j) + 2) dX12_memoLoses_45 rfl ?_
        refine tz_aL (pc := 46) (z := ((41 + j) + 2)) (v := (J1 165 ((41 + j) + 2))) dX12_memoLoses_46 a_165 rfl (by omega) rfl (fun r_46 => ?_)
        refine tz_aS (pc := 47) (z := (41 + j)) dX12_memoLoses_47 a_165 rfl (by omega) (by omega) ?_
        refine tz_iinc (pc := 48) (z := j + 1) (L2 := [_, _, _]) dX12_memoLoses_48 rfl (by omega) rfl ?_
        refine tz_goto (pc := 51) (tgt := 15) dX12_memoLoses_51 (by decide) ?_
        have hc9 := h3 (j + 2) (by omega) (by omega)
        rw [show 41 + (j + 2) = 41 + j + 2 by omega] at hc9
        exact ih15 (j + 1) _ (by omega) (by omega) (f1.up (by omega)) ((zup_ne (by omega)).trans h4) (ml_s h3 (by omega) hc9)
  exact loop15 _ _ _ (Nat.lt_succ_self _) (by omega) (MMf.rf.up (by omega)) zup_at (fun k a c => by rw [zup_ne (by omega)]; exact m3 k a (by omega))

theorem mg_s {J2 : zJ} {m t v : Int} (h : MM (J2 165) m) (hl : J2 165 40 < J2 165 39) (ht : 0 ≤ t ∧ t < m) (hv : 0 ≤ v ∧ v < m) : MM (zup (zup (zup J2 165 (41 + 2 * J2 165 40) t) 165 (41 + 2 * J2 165 40 + 1) v) 165 40 (J2 165 40 + 1) 165) m := by
  obtain ⟨h1, h2, h3⟩ := h
  have e : ∀ k, zup (zup (zup J2 165 (41 + 2 * J2 165 40) t) 165 (41 + 2 * J2 165 40 + 1) v) 165 40 (J2 165 40 + 1) 165 k = if k = 40 then J2 165 40 + 1 else if k = 41 + 2 * J2 165 40 + 1 then v else if k = 41 + 2 * J2 165 40 then t else J2 165 k := fun _ => rfl
  unfold MM
  rw [e 39, e 40, if_neg (by omega), if_neg (by omega), if_neg (by omega), if_pos rfl]
  refine ⟨h1, by omega, fun k a c => ?_⟩
  rw [e (41 + k), if_neg (by omega)]
  split
  · exact hv
  · split
    · exact ht
    · exact h3 k a (by omega)
set_option maxHeartbeats 4000000 in
set_option maxRecDepth 100000 in
theorem m_memoGets {l : Launch} {G : tb_G} (hl : l.stackTraces = false) (n : Nat) (J : zJ) (t : Int) (v : Int) (hr_t : -2147483648 ≤ t ∧ t < 2147483648) (hr_v : -2147483648 ≤ v ∧ v < 2147483648) (m : Int) (hm : MM (J 165) m) (ht : 0 ≤ t ∧ t < m) (hv : 0 ≤ v ∧ v < m) : tz_Ok l G M_X12_memoGets 1 0 0 [.ref 164, zi t, zi v] n J (zqv (fun J' => MM (J' 165) m ∧ MMf J' J)) zN := by
  refine tz_Ok.of hl (by decide +kernel) rfl (tb_c1 rfl) (Nat.le_of_ble_eq_true rfl) ?_
  show tz_At l G M_X12_memoGets (tb_rm 1 0 0) none (tb_ZM G 0 0 (zQ n 0 (zqv (fun J' => MM (J' 165) m ∧ MMf J' J))) (zX n 0 zN)) 0 0 n J 0 [some (.ref 164), some (zi t), some (zi v)] []
  obtain ⟨m1, m2, m3⟩ := id hm
  refine tz_aload_n (pc := 0) dX12_memoGets_0 rfl rfl ?_
  refine tz_fR (pc := 1) dX12_memoGets_1 fl_X12_9 r_164_0 ?_
  refine tz_bipush (pc := 4) dX12_memoGets_4 (by decide) ?_
  refine tz_aL (pc := 6) (z := 39) (v := (J 165 39)) dX12_memoGets_6 a_165 rfl (by decide) rfl (fun r_6 => ?_)
  refine tz_if_ne (pc := 7) (tgt := 11) dX12_memoGets_7 (by decide) (by omega) (fun h_7 => ?_) (fun h_7 => ?_)
  · refine tz_aload_n (pc := 11) dX12_memoGets_11 rfl rfl ?_
    refine tz_fR (pc := 12) dX12_memoGets_12 fl_X12_9 r_164_0 ?_
    refine tz_bipush (pc := 15) dX12_memoGets_15 (by decide) ?_
    refine tz_aL (pc := 17) (z := 40) (v := (J 165 40)) dX12_memoGets_17 a_165 rfl (by decide) rfl (fun r_17 => ?_)
    refine tz_aload_n (pc := 18) dX12_memoGets_18 rfl rfl ?_
    refine tz_fR (pc := 19) dX12_memoGets_19 fl_X12_9 r_164_0 ?_
    refine tz_bipush (pc := 22) dX12_memoGets_22 (by decide) ?_
    refine tz_aL (pc := 24) (z := 39) (v := (J 165 39)) dX12_memoGets_24 a_165 rfl (by decide) rfl (fun r_24 => ?_)
    refine tz_icmp_ne (pc := 25) (tgt := 33) dX12_memoGets_25 (by decide) (by omega) (by omega) (fun h_25 => ?_) (fun h_25 => ?_)
    · refine tz_aload_n (pc := 33) dX12_memoGets_33 rfl rfl ?_
      refine tz_fR (pc := 34) dX12_memoGets_34 fl_X12_9 r_164_0 ?_
      refine tz_bipush (pc := 37) dX12_memoGets_37 (by decide) ?_
      refine tz_iconst (pc := 39) dX12_memoGets_39 ?_
      refine tz_aload_n (pc := 40) dX12_memoGets_40 rfl rfl ?_
      refine tz_fR (pc := 41) dX12_memoGets_41 fl_X12_9 r_164_0 ?_
      refine tz_bipush (pc := 44) dX12_memoGets_44 (by decide) ?_
      refine tz_aL (pc := 46) (z := 40) (v := (J 165 40)) dX12_memoGets_46 a_165 rfl (by decide) rfl (fun r_46 => ?_)
      refine tz_imul (pc := 47) (v := 2 * (J 165 40)) dX12_memoGets_47 rfl ?_
      refine tz_iadd (pc := 48) (v := 41 + (2 * (J 165 40))) dX12_memoGets_48 rfl ?_
      refine tz_iload_n (pc := 49) dX12_memoGets_49 rfl rfl ?_
      refine tz_aS (pc := 50) (z := (41 + (2 * (J 165 40)))) dX12_memoGets_50 a_165 rfl (by omega) (by omega) ?_
      refine tz_aload_n (pc := 51) dX12_memoGets_51 rfl rfl ?_
      refine tz_fR (pc := 52) dX12_memoGets_52 fl_X12_9 r_164_0 ?_
      refine tz_bipush (pc := 55) dX12_memoGets_55 (by decide) ?_
      refine tz_iconst (pc := 57) dX12_memoGets_57 ?_
      refine tz_aload_n (pc := 58) dX12_memoGets_58 rfl rfl ?_
      refine tz_fR (pc := 59) dX12_memoGets_59 fl_X12_9 r_164_0 ?_
      refine tz_bipush (pc := 62) dX12_memoGets_62 (by decide) ?_
      refine tz_aL (pc := 64) (z := 40) (v := (J 165 40)) dX12_memoGets_64 a_165 rfl (by decide) (Eq.trans (show zup _ 165 (41 + (2 * (J 165 40))) t 165 40 = _ from zup_ne (by omega)) rfl) (fun r_64 => ?_)
      refine tz_imul (pc := 65) (v := 2 * (J 165 40)) dX12_memoGets_65 rfl ?_
      refine tz_iadd (pc := 66) (v := 41 + (2 * (J 165 40))) dX12_memoGets_66 rfl ?_
      refine tz_iconst (pc := 67) dX12_memoGets_67 ?_
      refine tz_iadd (pc := 68) (v := (41 + (2 * (J 165 40))) + 1) dX12_memoGets_68 rfl ?_
      refine tz_iload_n (pc := 69) dX12_memoGets_69 rfl rfl ?_
      refine tz_aS (pc := 70) (z := ((41 + (2 * (J 165 40))) + 1)) dX12_memoGets_70 a_165 rfl (by omega) (by omega) ?_
      refine tz_aload_n (pc := 71) dX12_memoGets_71 rfl rfl ?_
      refine tz_fR (pc := 72) dX12_memoGets_72 fl_X12_9 r_164_0 ?_
      refine tz_bipush (pc := 75) dX12_memoGets_75 (by decide) ?_
      refine tz_dup2 (pc := 77) dX12_memoGets_77 rfl rfl ?_
      refine tz_aL (pc := 78) (z := 40) (v := (J 165 40)) dX12_memoGets_78 a_165 rfl (by decide) (Eq.trans (show zup _ 165 ((41 + (2 * (J 165 40))) + 1) v 165 40 = _ from zup_ne (by omega)) (Eq.trans (show zup _ 165 (41 + (2 * (J 165 40))) t 165 40 = _ from zup_ne (by omega)) rfl)) (fun r_78 => ?_)
      refine tz_iconst (pc := 79) dX12_memoGets_79 ?_
      refine tz_iadd (pc := 80) (v := (J 165 40) + 1) dX12_memoGets_80 rfl ?_
      refine tz_aS (pc := 81) (z := 40) dX12_memoGets_81 a_165 rfl (by decide) (by omega) ?_
      exact tz_vret (pc := 82) dX12_memoGets_82 rfl (Nat.le_of_ble_eq_true rfl) (Nat.le_of_ble_eq_true rfl) ⟨Nat.le_refl _, Nat.le_add_right _ _⟩ ⟨rfl, ⟨mg_s hm (by omega) ht hv, ((MMf.rf.up (by omega)).up (by omega)).up (by decide)⟩⟩
    · refine tz_aload_n (pc := 28) dX12_memoGets_28 rfl rfl ?_
      refine tz_iconst (pc := 29) dX12_memoGets_29 ?_
      refine tz_cV (pc := 30) (m_memoLoses hl n _ _ (by decide) m hm (by omega)) vl_X12_204 dX12_memoGets_30 o_164 rfl rfl (Nat.le_of_ble_eq_true rfl) ⟨(Nat.le_of_ble_eq_true rfl), (Nat.le_of_ble_eq_true rfl)⟩ rfl rfl (Nat.le_of_ble_eq_true rfl) (Nat.le_of_ble_eq_true rfl) (fun r9 J_30 hq9 => ?_)
      obtain ⟨rfl, m4, e4, f4⟩ := hq9
      have hk0 : 40 ≤ 41 + 2 * J_30 165 40 ∧ 41 + 2 * J_30 165 40 < 59 := by omega
      have hk1 : 40 ≤ 41 + 2 * J_30 165 40 + 1 ∧ 41 + 2 * J_30 165 40 + 1 < 59 := by omega
      refine tz_aload_n (pc := 33) dX12_memoGets_33 rfl rfl ?_
      refine tz_fR (pc := 34) dX12_memoGets_34 fl_X12_9 r_164_0 ?_
      refine tz_bipush (pc := 37) dX12_memoGets_37 (by decide) ?_
      refine tz_iconst (pc := 39) dX12_memoGets_39 ?_
      refine tz_aload_n (pc := 40) dX12_memoGets_40 rfl rfl ?_
      refine tz_fR (pc := 41) dX12_memoGets_41 fl_X12_9 r_164_0 ?_
      refine tz_bipush (pc := 44) dX12_memoGets_44 (by decide) ?_
      refine tz_aL (pc := 46) (z := 40) (v := (J_30 165 40)) dX12_memoGets_46 a_165 rfl (by decide) rfl (fun r_46 => ?_)
      refine tz_imul (pc := 47) (v := 2 * (J_30 165 40)) dX12_memoGets_47 rfl ?_
      refine tz_iadd (pc := 48) (v := 41 + (2 * (J_30 165 40))) dX12_memoGets_48 rfl ?_
      refine tz_iload_n (pc := 49) dX12_memoGets_49 rfl rfl ?_
      refine tz_aS (pc := 50) (z := (41 + (2 * (J_30 165 40)))) dX12_memoGets_50 a_165 rfl (by omega) (by omega) ?_
      refine tz_aload_n (pc := 51) dX12_memoGets_51 rfl rfl ?_
      refine tz_fR (pc := 52) dX12_memoGets_52 fl_X12_9 r_164_0 ?_
      refine tz_bipush (pc := 55) dX12_memoGets_55 (by decide) ?_
      refine tz_iconst (pc := 57) dX12_memoGets_57 ?_
      refine tz_aload_n (pc := 58) dX12_memoGets_58 rfl rfl ?_
      refine tz_fR (pc := 59) dX12_memoGets_59 fl_X12_9 r_164_0 ?_
      refine tz_bipush (pc := 62) dX12_memoGets_62 (by decide) ?_
      refine tz_aL (pc := 64) (z := 40) (v := (J_30 165 40)) dX12_memoGets_64 a_165 rfl (by decide) (Eq.trans (show zup _ 165 (41 + (2 * (J_30 165 40))) t 165 40 = _ from zup_ne (by omega)) rfl) (fun r_64 => ?_)
      refine tz_imul (pc := 65) (v := 2 * (J_30 165 40)) dX12_memoGets_65 rfl ?_
      refine tz_iadd (pc := 66) (v := 41 + (2 * (J_30 165 40))) dX12_memoGets_66 rfl ?_
      refine tz_iconst (pc := 67) dX12_memoGets_67 ?_
      refine tz_iadd (pc := 68) (v := (41 + (2 * (J_30 165 40))) + 1) dX12_memoGets_68 rfl ?_
      refine tz_iload_n (pc := 69) dX12_memoGets_69 rfl rfl ?_
      refine tz_aS (pc := 70) (z := ((41 + (2 * (J_30 165 40))) + 1)) dX12_memoGets_70 a_165 rfl (by omega) (by omega) ?_
      refine tz_aload_n (pc := 71) dX12_memoGets_71 rfl rfl ?_
      refine tz_fR (pc := 72) dX12_memoGets_72 fl_X12_9 r_164_0 ?_
      refine tz_bipush (pc := 75) dX12_memoGets_75 (by decide) ?_
      refine tz_dup2 (pc := 77) dX12_memoGets_77 rfl rfl ?_
      refine tz_aL (pc := 78) (z := 40) (v := (J_30 165 40)) dX12_memoGets_78 a_165 rfl (by decide) (Eq.trans (show zup _ 165 ((41 + (2 * (J_30 165 40))) + 1) v 165 40 = _ from zup_ne (by omega)) (Eq.trans (show zup _ 165 (41 + (2 * (J_30 165 40))) t 165 40 = _ from zup_ne (by omega)) rfl)) (fun r_78 => ?_)
      refine tz_iconst (pc := 79) dX12_memoGets_79 ?_
      refine tz_iadd (pc := 80) (v := (J_30 165 40) + 1) dX12_memoGets_80 rfl ?_
      refine tz_aS (pc := 81) (z := 40) dX12_memoGets_81 a_165 rfl (by decide) (by omega) ?_
      exact tz_vret (pc := 82) dX12_memoGets_82 rfl (Nat.le_of_ble_eq_true rfl) (Nat.le_of_ble_eq_true rfl) ⟨Nat.le_refl _, Nat.le_add_right _ _⟩ ⟨rfl, ⟨mg_s m4 (by rw [f4.2 39 (by decide)]; omega) ht hv, ((f4.up hk0).up hk1).up (by decide)⟩⟩
  · exact tz_vret (pc := 10) dX12_memoGets_10 rfl (Nat.le_of_ble_eq_true rfl) (Nat.le_of_ble_eq_true rfl) ⟨Nat.le_refl _, Nat.le_add_right _ _⟩ ⟨rfl, ⟨hm, MMf.rf⟩⟩

set_option maxHeartbeats 4000000 in
set_option maxRecDepth 100000 in
theorem m_stopped {l : Launch} {G : tb_G} (hl : l.stackTraces = false) (n : Nat) (J : zJ)     : tz_Ok l G M_X12_isStopped 0 0 0 [.ref 164] n J (zqi (fun z J' => J = J' ∧ ((z = 0 ∧ J 164 21 = 0 ∧ J 164 34 ≤ 100) ∨ (z = 1 ∧ (¬ J 164 21 = 0 ∨ 100 < J 164 34))))) zN := by
  refine tz_Ok.of hl (by decide +kernel) rfl (tb_c1 rfl) (Nat.le_of_ble_eq_true rfl) ?_
  show tz_At l G M_X12_isStopped (tb_rm 0 0 0) none (tb_ZM G 0 0 (zQ n 0 (zqi (fun z J' => J = J' ∧ ((z = 0 ∧ J 164 21 = 0 ∧ J 164 34 ≤ 100) ∨ (z = 1 ∧ (¬ J 164 21 = 0 ∨ 100 < J 164 34)))))) (zX n 0 zN)) 0 0 n J 0 [some (.ref 164)] []
  refine tz_aload_n (pc := 0) dX12_isStopped_0 rfl rfl ?_
  refine tz_fI (pc := 1) (kz := 21) (v := (J 164 21)) dX12_isStopped_1 fl_X12_92 i_164_21 rfl rfl (fun r_1 => ?_)
  refine tz_if_ne (pc := 4) (tgt := 16) dX12_isStopped_4 (by decide) (by omega) (fun h_4 => ?_) (fun h_4 => ?_)
  · refine tz_iconst (pc := 16) dX12_isStopped_16 ?_
    refine tz_goto (pc := 17) (tgt := 21) dX12_isStopped_17 (by decide) ?_
    exact tz_zret (pc := 21) (z := 1) dX12_isStopped_21 rfl (Or.inr rfl) (Nat.le_of_ble_eq_true rfl) (Nat.le_of_ble_eq_true rfl) ⟨Nat.le_refl _, Nat.le_add_right _ _⟩ ⟨_, rfl, (by decide), ⟨rfl, by omega⟩⟩
  · refine tz_aload_n (pc := 7) dX12_isStopped_7 rfl rfl ?_
    refine tz_fI (pc := 8) (kz := 34) (v := (J 164 34)) dX12_isStopped_8 fl_X12_208 i_164_34 rfl rfl (fun r_8 => ?_)
    refine tz_bipush (pc := 11) dX12_isStopped_11 (by decide) ?_
    refine tz_icmp_le (pc := 13) (tgt := 20) dX12_isStopped_13 (by decide) (by omega) (by decide) (fun h_13 => ?_) (fun h_13 => ?_)
    · refine tz_iconst (pc := 20) dX12_isStopped_20 ?_
      exact tz_zret (pc := 21) (z := 0) dX12_isStopped_21 rfl (Or.inl rfl) (Nat.le_of_ble_eq_true rfl) (Nat.le_of_ble_eq_true rfl) ⟨Nat.le_refl _, Nat.le_add_right _ _⟩ ⟨_, rfl, (by decide), ⟨rfl, by omega⟩⟩
    · refine tz_iconst (pc := 16) dX12_isStopped_16 ?_
      refine tz_goto (pc := 17) (tgt := 21) dX12_isStopped_17 (by decide) ?_
      exact tz_zret (pc := 21) (z := 1) dX12_isStopped_21 rfl (Or.inr rfl) (Nat.le_of_ble_eq_true rfl) (Nat.le_of_ble_eq_true rfl) ⟨Nat.le_refl _, Nat.le_add_right _ _⟩ ⟨_, rfl, (by decide), ⟨rfl, by omega⟩⟩

end
section
/-! ===== normal forms ===== -/
def rM : Int → Bool := fun k => decide (40 ≤ k ∧ k ≤ 62)
def NZ (J : zJ) (b r d s m : Int) : Prop := MS J b r d s m ∧ MR (J 165) m ∧ MM (J 165) m ∧ 0 ≤ J 164 34 ∧ J 164 34 ≤ 101
def NP (J' J : zJ) (b r d s m m' : Int) : Prop := NZ J' b r d s m' ∧ MG [174] [34] rM J' J b r d s m m' ∧ J 164 34 ≤ J' 164 34
theorem NP.rf {J : zJ} {b r d s m : Int} (h : NZ J b r d s m) : NP J J b r d s m m := ⟨h, MG.rf h.1, Int.le_refl _⟩
theorem NP.tr {J3 J2 J1 : zJ} {b r d s m1 m2 m3 : Int} (g : NP J2 J1 b r d s m1 m2) (h : NP J3 J2 b r d s m2 m3) : NP J3 J1 b r d s m1 m3 := ⟨h.1, g.2.1.tr h.2.1, Int.le_trans g.2.2 h.2.2⟩
theorem MM.of {f' f : Int → Int} {m : Int} (h : MM f m) (e : ∀ k, 39 ≤ k → k < 59 → f' k = f k) : MM f' m := by
  unfold MM
  rw [e 39 (by decide) (by decide), e 40 (by decide) (by decide)]
  refine ⟨h.1, h.2.1, fun k a c => ?_⟩
  have h1 := h.1
  have h2 := h.2.1
  rw [e (41 + k) (by omega) (by omega)]
  exact h.2.2 k a c
theorem rM_r {b r d : Int} (h : mode b r d) : rM r = false := by
  unfold mode at h
  rcases h with h | h <;> (rw [h.2.1]; rfl)
theorem NP.off {J' J : zJ} {b r d s m : Int} (h : NZ J b r d s m) (h4 : ∀ k, ¬ k = 34 → J' 164 k = J 164 k) (h5 : ∀ k, (k < 40 ∨ 62 < k) → J' 165 k = J 165 k) (f : zOf (zbut [164, 165, 174]) J' J) (hm : MM (J' 165) m) (hs : J 164 34 ≤ J' 164 34 ∧ J' 164 34 ≤ 101) : NP J' J b r d s m m := by
  have g : MG [174] [34] rM J' J b r d s m m := (MG.rf h.1).off (fun k hk => h4 k (fun e => by subst e; simp at hk)) (fun k hk => h5 k (by have := of_decide_eq_false hk; omega)) f ⟨rfl, rfl, rfl, rfl⟩ (rM_r h.1.1) ⟨rfl, rfl, rfl, rfl⟩
  exact ⟨⟨g.1.1, h.2.1.of (fun k a c => h5 k (by omega)), hm, by have := h.2.2.2; omega, hs.2⟩, g, hs.1⟩
theorem NP.c174 {J' J : zJ} {b r d s m : Int} (h : NZ J b r d s m) (f : zOf (zbut [174]) J' J) : NP J' J b r d s m m := NP.off h (fun k _ => by rw [f 164 rfl]) (fun k _ => by rw [f 165 rfl]) (f.mono (zbut_sub (fun c hc => by simp at hc ⊢; omega))) (by rw [f 165 rfl]; exact h.2.2.1) (by rw [f 164 rfl]; exact ⟨Int.le_refl _, h.2.2.2.2⟩)
theorem NP.step {J : zJ} {b r d s m x y : Int} (h : NZ J b r d s m) (hx : x = J 164 34 + 1) (hs : J 164 34 ≤ 100) : NP (zup (zup J 164 34 x) 165 62 y) J b r d s m m := by
  have e4 : zup (zup J 164 34 x) 165 62 y 164 34 = x := by show zup J 164 34 x 164 34 = x; exact zup_at
  have e5 : ∀ k, ¬ k = 62 → zup (zup J 164 34 x) 165 62 y 165 k = J 165 k := fun k hk => (zup_ne hk).trans rfl
  refine NP.off h (fun k hk => ?_) (fun k hk => e5 k (by omega)) (zOf.up rfl (zOf.up rfl zOf.rf)) (h.2.2.1.of (fun k a c => e5 k (by omega))) ?_
  · show zup J 164 34 x 164 k = _
    exact zup_ne hk
  · rw [e4]
    omega
theorem NP.mmf {J' J : zJ} {b r d s m : Int} (h : NZ J b r d s m) (f : MMf J' J) (hm : MM (J' 165) m) : NP J' J b r d s m m := NP.off h (fun k _ => by rw [f.1 164 rfl]) (fun k hk => f.2 k (by omega)) (f.1.mono (zbut_sub (fun c hc => by simp at hc ⊢; omega))) hm (by rw [f.1 164 rfl]; exact ⟨Int.le_refl _, h.2.2.2.2⟩)
theorem NP.hit {J : zJ} {b r d s m y : Int} (h : NZ J b r d s m) : NP (zup J 165 61 y) J b r d s m m := by
  have e5 : ∀ k, ¬ k = 61 → zup J 165 61 y 165 k = J 165 k := fun k hk => zup_ne hk
  exact NP.off h (fun k _ => rfl) (fun k hk => e5 k (by omega)) (zOf.up rfl zOf.rf) (h.2.2.1.of (fun k a c => e5 k (by omega))) ⟨Int.le_refl _, h.2.2.2.2⟩
theorem NP.mg {J' J : zJ} {b r d s m m' : Int} (h : NZ J b r d s m) (g : MG [] [] (fun _ => false) J' J b r d s m m') : NP J' J b r d s m m' := by
  have hr := h.1.1
  unfold mode at hr
  have e5 : ∀ k, ¬ k = r → J' 165 k = J 165 k := fun k hk => g.2.2.1.2.1 k hk rfl
  have e4 : J' 164 34 = J 164 34 := g.2.2.1.2.2.1 34 rfl
  exact ⟨⟨g.1.1, (h.2.1.mono g.1.2).of (fun k a c => e5 k (by omega)), (h.2.2.1.mono g.1.2).of (fun k a c => e5 k (by omega)), by rw [e4]; exact h.2.2.2⟩, g.mono (fun _ q => by simp at q) (fun _ q => by simp at q) (fun _ _ => rfl), by rw [e4]; exact Int.le_refl _⟩
theorem NP.fu {J' J : zJ} {b r d s m m' : Int} (h : NP J' J b r d s m m') : (J' 164 21 = 0 → J 164 21 = 0) ∧ m ≤ m' ∧ (0 ≤ J' 164 34 ∧ J' 164 34 ≤ 101) ∧ J 164 34 ≤ J' 164 34 := ⟨h.2.1.2.2.2, h.2.1.1.2, h.1.2.2.2, h.2.2⟩
set_option maxHeartbeats 4000000 in
set_option maxRecDepth 100000 in
theorem m_lessS {l : Launch} {G : tb_G} (hl : l.stackTraces = false) (n : Nat) (J : zJ) (t : Int) (hr_t : -2147483648 ≤ t ∧ t < 2147483648) (b r d s m : Int) (r9 : Nat) (hN : NZ J b r d s m) (ht : 0 ≤ t ∧ t < m) (h1 : J 164 34 ≤ 100) (ihN : ∀ (J : zJ) (t : Int) (hr_t : -2147483648 ≤ t ∧ t < 2147483648) (b r d s m : Int) (hN : NZ J b r d s m) (ht : 0 ≤ t ∧ t < m), (7 * (100 - J 164 34) + J 168 (b + t)).toNat < r9 → tz_Ok l G M_X12_normalOf (12 + 1 * r9) 0 0 [.ref 164, zi t] n J (zqi (fun z J' => ∃ m', NP J' J b r d s m m' ∧ (J' 164 21 = 0 → J' 164 34 ≤ 100 → 0 ≤ z ∧ z < m'))) zN) (hm9 : (7 * (100 - J 164 34)).toNat < r9 + 1) : tz_Ok l G M_X12_lessened (12 + 1 * (r9 + 1)) 0 0 [.ref 164, zi t] n J (zqi (fun z J' => ∃ m', NP J' J b r d s m m' ∧ (J' 164 21 = 0 → J' 164 34 ≤ 100 → 0 ≤ z ∧ z < m'))) zN := by
  refine tz_Ok.of hl (by decide +kernel) rfl (tb_c1 rfl) (Nat.le_of_ble_eq_true rfl) ?_
  show tz_At l G M_X12_lessened (tb_rm (12 + 1 * (r9 + 1)) 0 0) none (tb_ZM G 0 0 (zQ n 0 (zqi (fun z J' => ∃ m', NP J' J b r d s m m' ∧ (J' 164 21 = 0 → J' 164 34 ≤ 100 → 0 ≤ z ∧ z < m')))) (zX n 0 zN)) 0 0 n J 0 [some (.ref 164), some (zi t), none, none] []
  obtain ⟨hM, hR, hm, hs1, hs2⟩ := id hN
  have hR1 := hR.1
  refine tz_iconst (pc := 0) dX12_lessened_0 ?_
  refine tz_istore_n (pc := 1) (L2 := [_, _, _, _]) dX12_lessened_1 rfl (by decide) rfl ?_
  have loop2 : ∀ (f9 : Nat) (k : Int) (J1 : zJ), ((8 - k).toNat) < f9 → (0 ≤ k ∧ k ≤ 8) → (zOf (zbut [174]) J1 J) → tz_At l G M_X12_lessened (tb_rm (12 + 1 * (r9 + 1)) 0 0) none (tb_ZM G 0 0 (zQ n 0 (zqi (fun z J' => ∃ m', NP J' J b r d s m m' ∧ (J' 164 21 = 0 → J' 164 34 ≤ 100 → 0 ≤ z ∧ z < m')))) (zX n 0 zN)) 0 0 n J1 2 [some (.ref 164), some (zi t), some (zi k), none] [] := by
    intro f9
    induction f9 with
    | zero => intro k J1 hm9; exact absurd hm9 (Nat.not_lt_zero _)
    | succ f9 ih2 =>
      intro k J1 hm2 hk f1
      refine tz_iload_n (pc := 2) dX12_lessened_2 rfl rfl ?_
      refine tz_aload_n (pc := 3) dX12_lessened_3 rfl rfl ?_
      refine tz_fR (pc := 4) dX12_lessened_4 fl_X12_9 r_164_0 ?_
      refine tz_bipush (pc := 7) dX12_lessened_7 (by decide) ?_
      refine tz_aL (pc := 9) (z := 9) (v := (J 165 9)) dX12_lessened_9 a_165 rfl (by decide) (Eq.trans (congrFun (f1 165 rfl) 9) rfl) (fun r_9 => ?_)
      refine tz_icmp_ge (pc := 10) (tgt := 112) dX12_lessened_10 (by decide) (by omega) (by omega) (fun h_10 => ?_) (fun h_10 => ?_)
      · refine tz_iload_n (pc := 112) dX12_lessened_112 rfl rfl ?_
        exact tz_iret (pc := 113) (z := t) dX12_lessened_113 rfl (Nat.le_of_ble_eq_true rfl) (Nat.le_of_ble_eq_true rfl) ⟨Nat.le_refl _, Nat.le_add_right _ _⟩ ⟨_, rfl, (by omega), ⟨m, NP.c174 hN f1, fun _ _ => ht⟩⟩
      · refine tz_aload_n (pc := 13) dX12_lessened_13 rfl rfl ?_
        refine tz_aload_n (pc := 14) dX12_lessened_14 rfl rfl ?_
        refine tz_fR (pc := 15) dX12_lessened_15 fl_X12_9 r_164_0 ?_
        refine tz_bipush (pc := 18) dX12_lessened_18 (by decide) ?_
        refine tz_iconst (pc := 20) dX12_lessened_20 ?_
        refine tz_iload_n (pc := 21) dX12_lessened_21 rfl rfl ?_
        refine tz_imul (pc := 22) (v := 2 * k) dX12_lessened_22 rfl ?_
        refine tz_iadd (pc := 23) (v := 10 + (2 * k)) dX12_lessened_23 rfl ?_
        refine tz_aL (pc := 24) (z := (10 + (2 * k))) (v := (J 165 (10 + (2 * k)))) dX12_lessened_24 a_165 rfl (by omega) (Eq.trans (congrFun (f1 165 rfl) (10 + (2 * k))) rfl) (fun r_24 => ?_)
        refine tz_iload_n (pc := 25) dX12_lessened_25 rfl rfl ?_
        have hr9 := hR.2 k (by omega) (by omega)
        refine tz_cV (pc := 26) (m_doesMatch hl n _ _ _ (by omega) (by omega) b r d s m (hM.c1 f1 (by decide)) (by omega) ht) vl_X12_227 dX12_lessened_26 o_164 rfl rfl (Nat.le_of_ble_eq_true rfl) ⟨(show 11 + 1 ≤ 12 + 1 * (r9 + 1) by omega), (show 8 + (4 + 11) + 40 * (11) ≤ 40 * (12 + 1 * (r9 + 1)) by omega)⟩ rfl rfl (Nat.le_of_ble_eq_true rfl) (Nat.le_of_ble_eq_true rfl) (fun r9 J_26 hq9 => ?_)
        obtain ⟨z_26, rfl, hz_26, b2, f2, g2⟩ := hq9
        refine tz_if_ne (pc := 29) (tgt := 35) dX12_lessened_29 (by decide) (by omega) (fun h_29 => ?_) (fun h_29 => ?_)
        · refine tz_aload_n (pc := 35) dX12_lessened_35 rfl rfl ?_
          refine tz_dup (pc := 36) dX12_lessened_36 rfl ?_
          refine tz_fI (pc := 37) (kz := 34) (v := (J 164 34)) dX12_lessened_37 fl_X12_208 i_164_34 rfl (Eq.trans (congrFun (f2 164 rfl) 34) (Eq.trans (congrFun (f1 164 rfl) 34) rfl)) (fun r_37 => ?_)
          refine tz_iconst (pc := 40) dX12_lessened_40 ?_
          refine tz_iadd (pc := 41) (v := (J 164 34) + 1) dX12_lessened_41 rfl ?_
          refine tz_pI (pc := 42) (kz := 34) dX12_lessened_42 fl_X12_208 i_164_34 rfl rfl (by omega) ?_
          refine tz_aload_n (pc := 45) dX12_lessened_45 rfl rfl ?_
          refine tz_fR (pc := 46) dX12_lessened_46 fl_X12_9 r_164_0 ?_
          refine tz_bipush (pc := 49) dX12_lessened_49 (by decide) ?_
          refine tz_dup2 (pc := 51) dX12_lessened_51 rfl rfl ?_
          refine tz_aL (pc := 52) (z := 62) (v := (J 165 62)) dX12_lessened_52 a_165 rfl (by decide) (Eq.trans (congrFun (f2 165 rfl) 62) (Eq.trans (congrFun (f1 165 rfl) 62) rfl)) (fun r_52 => ?_)
          refine tz_iconst (pc := 53) dX12_lessened_53 ?_
          refine tz_iadd (pc := 54) (v := (J 165 62) + 1) dX12_lessened_54 rfl ?_
          refine tz_tw ?_
          have rw_55 := zw_rg ((J 165 62) + 1)
          refine tz_aS (pc := 55) (z := 62) dX12_lessened_55 a_165 rfl (by decide) (zw_rg _) ?_
          have n_42 : NP ((zup (zup J_26 164 34 ((J 164 34) + 1)) 165 62 (zw ((J 165 62) + 1)))) J b r d s m m := (NP.c174 hN (f2.tr f1)).tr (NP.step (NP.c174 hN (f2.tr f1)).1 (by rw [(f2.tr f1) 164 rfl]) (by rw [(f2.tr f1) 164 rfl]; exact h1))
          have e_42 : ((zup (zup J_26 164 34 ((J 164 34) + 1)) 165 62 (zw ((J 165 62) + 1))) : zJ) 164 34 = J 164 34 + 1 := by show zup J_26 164 34 (J 164 34 + 1) 164 34 = _; exact zup_at
          refine tz_aload_n (pc := 56) dX12_lessened_56 rfl rfl ?_
          refine tz_fI (pc := 57) (kz := 34) (v := ((J 164 34) + 1)) dX12_lessened_57 fl_X12_208 i_164_34 rfl rfl (fun r_57 => ?_)
          refine tz_bipush (pc := 60) dX12_lessened_60 (by decide) ?_
          refine tz_icmp_le (pc := 62) (tgt := 67) dX12_lessened_62 (by decide) (by omega) (by decide) (fun h_62 => ?_) (fun h_62 => ?_)
          · refine tz_aload_n (pc := 67) dX12_lessened_67 rfl rfl ?_
            refine tz_aload_n (pc := 68) dX12_lessened_68 rfl rfl ?_
            refine tz_fR (pc := 69) dX12_lessened_69 fl_X12_9 r_164_0 ?_
            refine tz_bipush (pc := 72) dX12_lessened_72 (by decide) ?_
            refine tz_iconst (pc := 74) dX12_lessened_74 ?_
            refine tz_iload_n (pc := 75) dX12_lessened_75 rfl rfl ?_
            refine tz_imul (pc := 76) (v := 2 * k) dX12_lessened_76 rfl ?_
            refine tz_iadd (pc := 77) (v := 10 + (2 * k)) dX12_lessened_77 rfl ?_
            refine tz_iconst (pc := 78) dX12_lessened_78 ?_
            refine tz_iadd (pc := 79) (v := (10 + (2 * k)) + 1) dX12_lessened_79 rfl ?_
            refine tz_aL (pc := 80) (z := ((10 + (2 * k)) + 1)) (v := (J 165 ((10 + (2 * k)) + 1))) dX12_lessened_80 a_165 rfl (by omega) (Eq.trans (show zup _ 165 62 (zw ((J 165 62) + 1)) 165 ((10 + (2 * k)) + 1) = _ from zup_ne (by omega)) (Eq.trans (congrFun (f2 165 rfl) ((10 + (2 * k)) + 1)) (Eq.trans (congrFun (f1 165 rfl) ((10 + (2 * k)) + 1)) rfl))) (fun r_80 => ?_)
            refine tz_aload_n (pc := 81) dX12_lessened_81 rfl rfl ?_
            refine tz_fR (pc := 82) dX12_lessened_82 fl_X12_41 r_164_22 ?_
            refine tz_cV (pc := 85) (m_appM hl n _ _ (by omega) b r d s m n_42.1.1 (by omega) g2) vl_X12_148 dX12_lessened_85 o_164 rfl rfl (Nat.le_of_ble_eq_true rfl) ⟨(show 11 + 1 ≤ 12 + 1 * (r9 + 1) by omega), (show 8 + (7 + 11) + 40 * (11) ≤ 40 * (12 + 1 * (r9 + 1)) by omega)⟩ rfl rfl (Nat.le_of_ble_eq_true rfl) (Nat.le_of_ble_eq_true rfl) (fun r9 J_85 hq9 => ?_)
            obtain ⟨z_85, rfl, hz_85, m_85, g_85, h_85⟩ := hq9
            refine tz_istore_n (pc := 88) (L2 := [_, _, _, _]) dX12_lessened_88 rfl (by decide) rfl ?_
            refine tz_aload_n (pc := 89) dX12_lessened_89 rfl rfl ?_
            refine tz_fI (pc := 90) (kz := 21) (v := (J_85 164 21)) dX12_lessened_90 fl_X12_92 i_164_21 rfl rfl (fun r_90 => ?_)
            refine tz_if_eq (pc := 93) (tgt := 100) dX12_lessened_93 (by decide) (by omega) (fun h_93 => ?_) (fun h_93 => ?_)
            · refine tz_aload_n (pc := 100) dX12_lessened_100 rfl rfl ?_
              refine tz_iload_n (pc := 101) dX12_lessened_101 rfl rfl ?_
              have n_85 := (n_42).tr (NP.mg n_42.1 g_85)
              have u_85 := NP.fu (NP.mg n_42.1 g_85)
              have k_85 : J_85 164 34 = J 164 34 + 1 := (g_85.2.2.1.2.2.1 34 rfl).trans e_42
              have z_85b := h_85 (by omega)
              have a_85 := n_85.1.1.ar z_85b
              refine tz_cV (pc := 102) (ihN _ _ (by omega) b r d s m_85 n_85.1 z_85b (by omega)) vl_X12_221 dX12_lessened_102 o_164 rfl rfl (Nat.le_of_ble_eq_true rfl) ⟨(show (12 + 1 * r9) + 1 ≤ 12 + 1 * (r9 + 1) by omega), (show 8 + (8 + 11) + 40 * ((12 + 1 * r9)) ≤ 40 * (12 + 1 * (r9 + 1)) by omega)⟩ rfl rfl (Nat.le_of_ble_eq_true rfl) (Nat.le_of_ble_eq_true rfl) (fun r9 J_102 hq9 => ?_)
              obtain ⟨z_102, rfl, hz_102, m_102, n_102, h_102⟩ := hq9
              exact tz_iret (pc := 105) (z := z_102) dX12_lessened_105 rfl (Nat.le_of_ble_eq_true rfl) (Nat.le_of_ble_eq_true rfl) ⟨Nat.le_refl _, Nat.le_add_right _ _⟩ ⟨_, rfl, (by omega), ⟨m_102, n_85.tr n_102, h_102⟩⟩
            · refine tz_iconst (pc := 96) dX12_lessened_96 ?_
              refine tz_goto (pc := 97) (tgt := 105) dX12_lessened_97 (by decide) ?_
              exact tz_iret (pc := 105) (z := 0) dX12_lessened_105 rfl (Nat.le_of_ble_eq_true rfl) (Nat.le_of_ble_eq_true rfl) ⟨Nat.le_refl _, Nat.le_add_right _ _⟩ ⟨_, rfl, (by decide), ⟨m_85, n_42.tr (NP.mg n_42.1 g_85), fun q9 => by omega⟩⟩
          · refine tz_iconst (pc := 65) dX12_lessened_65 ?_
            exact tz_iret (pc := 66) (z := 0) dX12_lessened_66 rfl (Nat.le_of_ble_eq_true rfl) (Nat.le_of_ble_eq_true rfl) ⟨Nat.le_refl _, Nat.le_add_right _ _⟩ ⟨_, rfl, (by decide), ⟨m, n_42, fun q9 q8 => by omega⟩⟩
        · refine tz_goto (pc := 32) (tgt := 106) dX12_lessened_32 (by decide) ?_
          refine tz_iinc (pc := 106) (z := k + 1) (L2 := [_, _, _, _]) dX12_lessened_106 rfl (by omega) rfl ?_
          refine tz_goto (pc := 109) (tgt := 2) dX12_lessened_109 (by decide) ?_
          exact ih2 (k + 1) _ (by omega) (by omega) (f2.tr f1)
  exact loop2 _ 0 _ (Nat.lt_succ_self _) (by omega) zOf.rf

end
section
set_option maxHeartbeats 4000000 in
set_option maxRecDepth 100000 in
theorem m_normS {l : Launch} {G : tb_G} (hl : l.stackTraces = false) (n : Nat) (J : zJ) (t : Int) (hr_t : -2147483648 ≤ t ∧ t < 2147483648) (b r d s m : Int) (r9 : Nat) (hN : NZ J b r d s m) (ht : 0 ≤ t ∧ t < m) (ihN : ∀ (J : zJ) (t : Int) (hr_t : -2147483648 ≤ t ∧ t < 2147483648) (b r d s m : Int) (hN : NZ J b r d s m) (ht : 0 ≤ t ∧ t < m), (7 * (100 - J 164 34) + J 168 (b + t)).toNat < r9 → tz_Ok l G M_X12_normalOf (12 + 1 * r9) 0 0 [.ref 164, zi t] n J (zqi (fun z J' => ∃ m', NP J' J b r d s m m' ∧ (J' 164 21 = 0 → J' 164 34 ≤ 100 → 0 ≤ z ∧ z < m'))) zN) (ihL : ∀ (J : zJ) (t : Int) (hr_t : -2147483648 ≤ t ∧ t < 2147483648) (b r d s m : Int) (hN : NZ J b r d s m) (ht : 0 ≤ t ∧ t < m) (h1 : J 164 34 ≤ 100), (7 * (100 - J 164 34)).toNat < r9 → tz_Ok l G M_X12_lessened (12 + 1 * r9) 0 0 [.ref 164, zi t] n J (zqi (fun z J' => ∃ m', NP J' J b r d s m m' ∧ (J' 164 21 = 0 → J' 164 34 ≤ 100 → 0 ≤ z ∧ z < m'))) zN) (hm9 : (7 * (100 - J 164 34) + J 168 (b + t)).toNat < r9 + 1) : tz_Ok l G M_X12_normalOf (12 + 1 * (r9 + 1)) 0 0 [.ref 164, zi t] n J (zqi (fun z J' => ∃ m', NP J' J b r d s m m' ∧ (J' 164 21 = 0 → J' 164 34 ≤ 100 → 0 ≤ z ∧ z < m'))) zN := by
  refine tz_Ok.of hl (by decide +kernel) rfl (tb_c1 rfl) (Nat.le_of_ble_eq_true rfl) ?_
  show tz_At l G M_X12_normalOf (tb_rm (12 + 1 * (r9 + 1)) 0 0) none (tb_ZM G 0 0 (zQ n 0 (zqi (fun z J' => ∃ m', NP J' J b r d s m m' ∧ (J' 164 21 = 0 → J' 164 34 ≤ 100 → 0 ≤ z ∧ z < m')))) (zX n 0 zN)) 0 0 n J 0 [some (.ref 164), some (zi t), none, none, none, none, none, none] []
  obtain ⟨hM, hR, hm, hs1, hs2⟩ := id hN
  have hR1 := hR.1
  have hm1 := hm.1
  have hm2 := hm.2.1
  have ha := hM.ar ht
  have hT := hM.told
  have g0 : MG [174] [34] rM J J b r d s m m := MG.rf hM
  refine tz_aload_n (pc := 0) dX12_normalOf_0 rfl rfl ?_
  refine tz_cV (pc := 1) (m_stopped hl n _) vl_X12_211 dX12_normalOf_1 o_164 rfl rfl (Nat.le_of_ble_eq_true rfl) ⟨(show 0 + 1 ≤ 12 + 1 * (r9 + 1) by omega), (show 8 + (1 + 11) + 40 * (0) ≤ 40 * (12 + 1 * (r9 + 1)) by omega)⟩ rfl rfl (Nat.le_of_ble_eq_true rfl) (Nat.le_of_ble_eq_true rfl) (fun r9 J_1 hq9 => ?_)
  obtain ⟨y_1, rfl, hz_1, rfl, hs_1⟩ := hq9
  refine tz_if_ne (pc := 4) (tgt := 15) dX12_normalOf_4 (by decide) (by omega) (fun h_4 => ?_) (fun h_4 => ?_)
  · refine tz_iload_n (pc := 15) dX12_normalOf_15 rfl rfl ?_
    exact tz_iret (pc := 16) (z := t) dX12_normalOf_16 rfl (Nat.le_of_ble_eq_true rfl) (Nat.le_of_ble_eq_true rfl) ⟨Nat.le_refl _, Nat.le_add_right _ _⟩ ⟨_, rfl, (by omega), ⟨m, NP.rf hN, fun _ _ => ht⟩⟩
  · refine tz_aload_n (pc := 7) dX12_normalOf_7 rfl rfl ?_
    refine tz_iload_n (pc := 8) dX12_normalOf_8 rfl rfl ?_
    refine tz_cV (pc := 9) (m_isVar hl n _ _ (by omega) b r d s m hM (by omega)) vl_X12_78 dX12_normalOf_9 o_164 rfl rfl (Nat.le_of_ble_eq_true rfl) ⟨(show 1 + 1 ≤ 12 + 1 * (r9 + 1) by omega), (show 8 + (2 + 11) + 40 * (1) ≤ 40 * (12 + 1 * (r9 + 1)) by omega)⟩ rfl rfl (Nat.le_of_ble_eq_true rfl) (Nat.le_of_ble_eq_true rfl) (fun r9 J_9 hq9 => ?_)
    obtain ⟨z_9, rfl, hz_9, rfl, rfl⟩ := hq9
    by_cases hw_12 : J 166 (b + t) < 0
    · rw [show (if J 166 (b + t) < 0 then 1 else 0 : Int) = 1 from if_pos hw_12]
      refine tz_if_eqF (pc := 12) (tgt := 17) (by decide) dX12_normalOf_12 (by decide) (by decide) ?_
      refine tz_iload_n (pc := 15) dX12_normalOf_15 rfl rfl ?_
      exact tz_iret (pc := 16) (z := t) dX12_normalOf_16 rfl (Nat.le_of_ble_eq_true rfl) (Nat.le_of_ble_eq_true rfl) ⟨Nat.le_refl _, Nat.le_add_right _ _⟩ ⟨_, rfl, (by omega), ⟨m, NP.rf hN, fun _ _ => ht⟩⟩
    · rw [show (if J 166 (b + t) < 0 then 1 else 0 : Int) = 0 from if_neg hw_12]
      refine tz_if_eqT (pc := 12) (tgt := 17) (by decide) dX12_normalOf_12 (by decide) (by decide) ?_
      refine tz_aload_n (pc := 17) dX12_normalOf_17 rfl rfl ?_
      refine tz_iload_n (pc := 18) dX12_normalOf_18 rfl rfl ?_
      refine tz_cV (pc := 19) (m_memoAt hl n _ _ (by omega) m hm) vl_X12_215 dX12_normalOf_19 o_164 rfl rfl (Nat.le_of_ble_eq_true rfl) ⟨(show 0 + 1 ≤ 12 + 1 * (r9 + 1) by omega), (show 8 + (3 + 11) + 40 * (0) ≤ 40 * (12 + 1 * (r9 + 1)) by omega)⟩ rfl rfl (Nat.le_of_ble_eq_true rfl) (Nat.le_of_ble_eq_true rfl) (fun r9 J_19 hq9 => ?_)
      obtain ⟨z_19, rfl, hz_19, rfl, hz19⟩ := hq9
      refine tz_istore_n (pc := 22) (L2 := [_, _, _, _, _, _, _, _]) dX12_normalOf_22 rfl (by decide) rfl ?_
      refine tz_iload_n (pc := 23) dX12_normalOf_23 rfl rfl ?_
      refine tz_iconst (pc := 24) dX12_normalOf_24 ?_
      refine tz_icmp_eq (pc := 25) (tgt := 66) dX12_normalOf_25 (by decide) (by omega) (by decide) (fun h_25 => ?_) (fun h_25 => ?_)
      · refine tz_aload_n (pc := 66) dX12_normalOf_66 rfl rfl ?_
        refine tz_iload_n (pc := 67) dX12_normalOf_67 rfl rfl ?_
        refine tz_cV (pc := 68) (m_arity hl n _ _ (by omega) b r d s m hM (by omega)) vl_X12_111 dX12_normalOf_68 o_164 rfl rfl (Nat.le_of_ble_eq_true rfl) ⟨(show 2 + 1 ≤ 12 + 1 * (r9 + 1) by omega), (show 8 + (2 + 11) + 40 * (2) ≤ 40 * (12 + 1 * (r9 + 1)) by omega)⟩ rfl rfl (Nat.le_of_ble_eq_true rfl) (Nat.le_of_ble_eq_true rfl) (fun r9 J_68 hq9 => ?_)
        obtain ⟨z_68, rfl, hz_68, rfl, rfl⟩ := hq9
        refine tz_istore_n (pc := 71) (L2 := [_, _, _, _, _, _, _, _]) dX12_normalOf_71 rfl (by decide) rfl ?_
        refine tz_iload_n (pc := 72) dX12_normalOf_72 rfl rfl ?_
        refine tz_if_le (pc := 73) (tgt := 89) dX12_normalOf_73 (by decide) (by omega) (fun h_73 => ?_) (fun h_73 => ?_)
        · refine tz_iconst (pc := 89) dX12_normalOf_89 ?_
          refine tz_istore (pc := 90) (L2 := [_, _, _, _, _, _, _, _]) dX12_normalOf_90 (by decide) rfl ?_
          refine tz_iload_n (pc := 92) dX12_normalOf_92 rfl rfl ?_
          refine tz_iconst (pc := 93) dX12_normalOf_93 ?_
          refine tz_icmp_leT (pc := 94) (tgt := 110) (by omega) dX12_normalOf_94 (by decide) (by omega) (by decide) ?_
          refine tz_iconst (pc := 110) dX12_normalOf_110 ?_
          refine tz_istore (pc := 111) (L2 := [_, _, _, _, _, _, _, _]) dX12_normalOf_111 (by decide) rfl ?_
          refine tz_iload_n (pc := 113) dX12_normalOf_113 rfl rfl ?_
          refine tz_iconst (pc := 114) dX12_normalOf_114 ?_
          refine tz_icmp_leT (pc := 115) (tgt := 131) (by omega) dX12_normalOf_115 (by decide) (by omega) (by decide) ?_
          refine tz_iconst (pc := 131) dX12_normalOf_131 ?_
          refine tz_istore (pc := 132) (L2 := [_, _, _, _, _, _, _, _]) dX12_normalOf_132 (by decide) rfl ?_
          refine tz_aload_n (pc := 134) dX12_normalOf_134 rfl rfl ?_
          refine tz_cV (pc := 135) (m_stopped hl n _) vl_X12_211 dX12_normalOf_135 o_164 rfl rfl (Nat.le_of_ble_eq_true rfl) ⟨(show 0 + 1 ≤ 12 + 1 * (r9 + 1) by omega), (show 8 + (1 + 11) + 40 * (0) ≤ 40 * (12 + 1 * (r9 + 1)) by omega)⟩ rfl rfl (Nat.le_of_ble_eq_true rfl) (Nat.le_of_ble_eq_true rfl) (fun r9 J_135 hq9 => ?_)
          obtain ⟨y_135, rfl, hz_135, rfl, hs_135⟩ := hq9
          refine tz_if_eq (pc := 138) (tgt := 145) dX12_normalOf_138 (by decide) (by omega) (fun h_138 => ?_) (fun h_138 => ?_)
          · refine tz_aload_n (pc := 145) dX12_normalOf_145 rfl rfl ?_
            refine tz_iload_n (pc := 146) dX12_normalOf_146 rfl rfl ?_
            refine tz_iload (pc := 147) dX12_normalOf_147 rfl ?_
            refine tz_iload (pc := 149) dX12_normalOf_149 rfl ?_
            refine tz_iload (pc := 151) dX12_normalOf_151 rfl ?_
            refine tz_cV (pc := 153) (m_remade hl n _ _ _ _ _ (by omega) (by omega) (by omega) (by omega) b r d s m (g0).1.1 (by omega) (fun q9 => by have e9 := (g0).ar ht ((g0).2.2.1.2.2.2 170 rfl); rw [e9]; omega)) vl_X12_152 dX12_normalOf_153 o_164 rfl rfl (Nat.le_of_ble_eq_true rfl) ⟨(show 3 + 1 ≤ 12 + 1 * (r9 + 1) by omega), (show 8 + (5 + 11) + 40 * (3) ≤ 40 * (12 + 1 * (r9 + 1)) by omega)⟩ rfl rfl (Nat.le_of_ble_eq_true rfl) (Nat.le_of_ble_eq_true rfl) (fun r9 J_153 hq9 => ?_)
            obtain ⟨z_153, rfl, hz_153, m_153, n_153, h_153⟩ := hq9
            have p_153 : NP J_153 J b r d s m m_153 := (NP.rf hN).tr (NP.mg (NP.rf hN).1 n_153)
            have q_153 := p_153.2.1
            have u_153 := NP.fu (NP.mg (NP.rf hN).1 n_153)
            have v_153 := NP.fu p_153
            have k_153 : J_153 164 34 = J 164 34 := n_153.2.2.1.2.2.1 34 rfl
            refine tz_istore (pc := 156) (L2 := [_, _, _, _, _, _, _, _]) dX12_normalOf_156 (by decide) rfl ?_
            refine tz_aload_n (pc := 158) dX12_normalOf_158 rfl rfl ?_
            refine tz_cV (pc := 159) (m_stopped hl n _) vl_X12_211 dX12_normalOf_159 o_164 rfl rfl (Nat.le_of_ble_eq_true rfl) ⟨(show 0 + 1 ≤ 12 + 1 * (r9 + 1) by omega), (show 8 + (1 + 11) + 40 * (0) ≤ 40 * (12 + 1 * (r9 + 1)) by omega)⟩ rfl rfl (Nat.le_of_ble_eq_true rfl) (Nat.le_of_ble_eq_true rfl) (fun r9 J_159 hq9 => ?_)
            obtain ⟨y_159, rfl, hz_159, rfl, hs_159⟩ := hq9
            refine tz_if_eq (pc := 162) (tgt := 169) dX12_normalOf_162 (by decide) (by omega) (fun h_162 => ?_) (fun h_162 => ?_)
            · refine tz_aload_n (pc := 169) dX12_normalOf_169 rfl rfl ?_
              refine tz_iload (pc := 170) dX12_normalOf_170 rfl ?_
              refine tz_cV (pc := 172) (ihL _ _ (by omega) b r d s m_153 (p_153).1 (by omega) (by omega) (by omega)) vl_X12_224 dX12_normalOf_172 o_164 rfl rfl (Nat.le_of_ble_eq_true rfl) ⟨(show (12 + 1 * r9) + 1 ≤ 12 + 1 * (r9 + 1) by omega), (show 8 + (4 + 11) + 40 * ((12 + 1 * r9)) ≤ 40 * (12 + 1 * (r9 + 1)) by omega)⟩ rfl rfl (Nat.le_of_ble_eq_true rfl) (Nat.le_of_ble_eq_true rfl) (fun r9 J_172 hq9 => ?_)
              obtain ⟨z_172, rfl, hz_172, m_172, n_172, h_172⟩ := hq9
              have p_172 : NP J_172 J b r d s m m_172 := (p_153).tr (n_172)
              have q_172 := p_172.2.1
              have u_172 := NP.fu (n_172)
              have v_172 := NP.fu p_172
              refine tz_istore (pc := 175) (L2 := [_, _, _, _, _, _, _, _]) dX12_normalOf_175 (by decide) rfl ?_
              refine tz_aload_n (pc := 177) dX12_normalOf_177 rfl rfl ?_
              refine tz_cV (pc := 178) (m_stopped hl n _) vl_X12_211 dX12_normalOf_178 o_164 rfl rfl (Nat.le_of_ble_eq_true rfl) ⟨(show 0 + 1 ≤ 12 + 1 * (r9 + 1) by omega), (show 8 + (1 + 11) + 40 * (0) ≤ 40 * (12 + 1 * (r9 + 1)) by omega)⟩ rfl rfl (Nat.le_of_ble_eq_true rfl) (Nat.le_of_ble_eq_true rfl) (fun r9 J_178 hq9 => ?_)
              obtain ⟨y_178, rfl, hz_178, rfl, hs_178⟩ := hq9
              refine tz_if_ne (pc := 181) (tgt := 191) dX12_normalOf_181 (by decide) (by omega) (fun h_181 => ?_) (fun h_181 => ?_)
              · refine tz_iload (pc := 191) dX12_normalOf_191 rfl ?_
                exact tz_iret (pc := 193) (z := z_172) dX12_normalOf_193 rfl (Nat.le_of_ble_eq_true rfl) (Nat.le_of_ble_eq_true rfl) ⟨Nat.le_refl _, Nat.le_add_right _ _⟩ ⟨_, rfl, (by omega), ⟨m_172, p_172, h_172⟩⟩
              · refine tz_aload_n (pc := 184) dX12_normalOf_184 rfl rfl ?_
                refine tz_iload_n (pc := 185) dX12_normalOf_185 rfl rfl ?_
                refine tz_iload (pc := 186) dX12_normalOf_186 rfl ?_
                refine tz_cV (pc := 188) (m_memoGets hl n _ _ _ (by omega) (by omega) m_172 (p_172).1.2.2.1 (by omega) (by omega)) vl_X12_218 dX12_normalOf_188 o_164 rfl rfl (Nat.le_of_ble_eq_true rfl) ⟨(show 1 + 1 ≤ 12 + 1 * (r9 + 1) by omega), (show 8 + (3 + 11) + 40 * (1) ≤ 40 * (12 + 1 * (r9 + 1)) by omega)⟩ rfl rfl (Nat.le_of_ble_eq_true rfl) (Nat.le_of_ble_eq_true rfl) (fun r9 J_188 hq9 => ?_)
                obtain ⟨rfl, m5, f5⟩ := hq9
                have p_188 := (p_172).tr (NP.mmf (p_172).1 f5 m5)
                have k_188 : J_188 164 = J_172 164 := f5.1 164 rfl
                refine tz_iload (pc := 191) dX12_normalOf_191 rfl ?_
                exact tz_iret (pc := 193) (z := z_172) dX12_normalOf_193 rfl (Nat.le_of_ble_eq_true rfl) (Nat.le_of_ble_eq_true rfl) ⟨Nat.le_refl _, Nat.le_add_right _ _⟩ ⟨_, rfl, (by omega), ⟨m_172, p_188, fun _ _ => by omega⟩⟩
            · refine tz_iconst (pc := 165) dX12_normalOf_165 ?_
              refine tz_goto (pc := 166) (tgt := 175) dX12_normalOf_166 (by decide) ?_
              refine tz_istore (pc := 175) (L2 := [_, _, _, _, _, _, _, _]) dX12_normalOf_175 (by decide) rfl ?_
              refine tz_aload_n (pc := 177) dX12_normalOf_177 rfl rfl ?_
              refine tz_cV (pc := 178) (m_stopped hl n _) vl_X12_211 dX12_normalOf_178 o_164 rfl rfl (Nat.le_of_ble_eq_true rfl) ⟨(show 0 + 1 ≤ 12 + 1 * (r9 + 1) by omega), (show 8 + (1 + 11) + 40 * (0) ≤ 40 * (12 + 1 * (r9 + 1)) by omega)⟩ rfl rfl (Nat.le_of_ble_eq_true rfl) (Nat.le_of_ble_eq_true rfl) (fun r9 J_178 hq9 => ?_)
              obtain ⟨y_178, rfl, hz_178, rfl, hs_178⟩ := hq9
              refine tz_if_neT (pc := 181) (tgt := 191) (by omega) dX12_normalOf_181 (by decide) (by omega) ?_
              refine tz_iload (pc := 191) dX12_normalOf_191 rfl ?_
              exact tz_iret (pc := 193) (z := 0) dX12_normalOf_193 rfl (Nat.le_of_ble_eq_true rfl) (Nat.le_of_ble_eq_true rfl) ⟨Nat.le_refl _, Nat.le_add_right _ _⟩ ⟨_, rfl, (by decide), ⟨m_153, p_153, fun q9 q8 => by omega⟩⟩
          · refine tz_iconst (pc := 141) dX12_normalOf_141 ?_
            refine tz_goto (pc := 142) (tgt := 156) dX12_normalOf_142 (by decide) ?_
            refine tz_istore (pc := 156) (L2 := [_, _, _, _, _, _, _, _]) dX12_normalOf_156 (by decide) rfl ?_
            refine tz_aload_n (pc := 158) dX12_normalOf_158 rfl rfl ?_
            refine tz_cV (pc := 159) (m_stopped hl n _) vl_X12_211 dX12_normalOf_159 o_164 rfl rfl (Nat.le_of_ble_eq_true rfl) ⟨(show 0 + 1 ≤ 12 + 1 * (r9 + 1) by omega), (show 8 + (1 + 11) + 40 * (0) ≤ 40 * (12 + 1 * (r9 + 1)) by omega)⟩ rfl rfl (Nat.le_of_ble_eq_true rfl) (Nat.le_of_ble_eq_true rfl) (fun r9 J_159 hq9 => ?_)
            obtain ⟨y_159, rfl, hz_159, rfl, hs_159⟩ := hq9
            refine tz_if_eqF (pc := 162) (tgt := 169) (by omega) dX12_normalOf_162 (by decide) (by omega) ?_
            refine tz_iconst (pc := 165) dX12_normalOf_165 ?_
            refine tz_goto (pc := 166) (tgt := 175) dX12_normalOf_166 (by decide) ?_
            refine tz_istore (pc := 175) (L2 := [_, _, _, _, _, _, _, _]) dX12_normalOf_175 (by decide) rfl ?_
            refine tz_aload_n (pc := 177) dX12_normalOf_177 rfl rfl ?_
            refine tz_cV (pc := 178) (m_stopped hl n _) vl_X12_211 dX12_normalOf_178 o_164 rfl rfl (Nat.le_of_ble_eq_true rfl) ⟨(show 0 + 1 ≤ 12 + 1 * (r9 + 1) by omega), (show 8 + (1 + 11) + 40 * (0) ≤ 40 * (12 + 1 * (r9 + 1)) by omega)⟩ rfl rfl (Nat.le_of_ble_eq_true rfl) (Nat.le_of_ble_eq_true rfl) (fun r9 J_178 hq9 => ?_)
            obtain ⟨y_178, rfl, hz_178, rfl, hs_178⟩ := hq9
            refine tz_if_neT (pc := 181) (tgt := 191) (by omega) dX12_normalOf_181 (by decide) (by omega) ?_
            refine tz_iload (pc := 191) dX12_normalOf_191 rfl ?_
            exact tz_iret (pc := 193) (z := 0) dX12_normalOf_193 rfl (Nat.le_of_ble_eq_true rfl) (Nat.le_of_ble_eq_true rfl) ⟨Nat.le_refl _, Nat.le_add_right _ _⟩ ⟨_, rfl, (by decide), ⟨m, NP.rf hN, fun q9 q8 => by omega⟩⟩
        · refine tz_aload_n (pc := 76) dX12_normalOf_76 rfl rfl ?_
          refine tz_aload_n (pc := 77) dX12_normalOf_77 rfl rfl ?_
          refine tz_iload_n (pc := 78) dX12_normalOf_78 rfl rfl ?_
          refine tz_iconst (pc := 79) dX12_normalOf_79 ?_
          refine tz_cV (pc := 80) (m_arg hl n _ _ _ (by omega) (by decide) b r d s m hM (by omega) (by omega)) vl_X12_88 dX12_normalOf_80 o_164 rfl rfl (Nat.le_of_ble_eq_true rfl) ⟨(show 0 + 1 ≤ 12 + 1 * (r9 + 1) by omega), (show 8 + (3 + 11) + 40 * (0) ≤ 40 * (12 + 1 * (r9 + 1)) by omega)⟩ rfl rfl (Nat.le_of_ble_eq_true rfl) (Nat.le_of_ble_eq_true rfl) (fun r9 J_80 hq9 => ?_)
          obtain ⟨z_80, rfl, hz_80, rfl, rfl⟩ := hq9
          have a_83 := hM.arg (t := t) (i := 0) ht (by omega)
          refine tz_cV (pc := 83) (ihN _ _ (by omega) b r d s m (NP.rf hN).1 (by omega) (by rw [((g0).2.1 _ (by omega) (by omega)).1.2]; omega)) vl_X12_221 dX12_normalOf_83 o_164 rfl rfl (Nat.le_of_ble_eq_true rfl) ⟨(show (12 + 1 * r9) + 1 ≤ 12 + 1 * (r9 + 1) by omega), (show 8 + (8 + 11) + 40 * ((12 + 1 * r9)) ≤ 40 * (12 + 1 * (r9 + 1)) by omega)⟩ rfl rfl (Nat.le_of_ble_eq_true rfl) (Nat.le_of_ble_eq_true rfl) (fun r9 J_83 hq9 => ?_)
          obtain ⟨z_83, rfl, hz_83, m_83, n_83, h_83⟩ := hq9
          have p_83 : NP J_83 J b r d s m m_83 := (NP.rf hN).tr (n_83)
          have q_83 := p_83.2.1
          have u_83 := NP.fu (n_83)
          have v_83 := NP.fu p_83
          refine tz_goto (pc := 86) (tgt := 90) dX12_normalOf_86 (by decide) ?_
          refine tz_istore (pc := 90) (L2 := [_, _, _, _, _, _, _, _]) dX12_normalOf_90 (by decide) rfl ?_
          refine tz_iload_n (pc := 92) dX12_normalOf_92 rfl rfl ?_
          refine tz_iconst (pc := 93) dX12_normalOf_93 ?_
          refine tz_icmp_le (pc := 94) (tgt := 110) dX12_normalOf_94 (by decide) (by omega) (by decide) (fun h_94 => ?_) (fun h_94 => ?_)
          · refine tz_iconst (pc := 110) dX12_normalOf_110 ?_
            refine tz_istore (pc := 111) (L2 := [_, _, _, _, _, _, _, _]) dX12_normalOf_111 (by decide) rfl ?_
            refine tz_iload_n (pc := 113) dX12_normalOf_113 rfl rfl ?_
            refine tz_iconst (pc := 114) dX12_normalOf_114 ?_
            refine tz_icmp_leT (pc := 115) (tgt := 131) (by omega) dX12_normalOf_115 (by decide) (by omega) (by decide) ?_
            refine tz_iconst (pc := 131) dX12_normalOf_131 ?_
            refine tz_istore (pc := 132) (L2 := [_, _, _, _, _, _, _, _]) dX12_normalOf_132 (by decide) rfl ?_
            refine tz_aload_n (pc := 134) dX12_normalOf_134 rfl rfl ?_
            refine tz_cV (pc := 135) (m_stopped hl n _) vl_X12_211 dX12_normalOf_135 o_164 rfl rfl (Nat.le_of_ble_eq_true rfl) ⟨(show 0 + 1 ≤ 12 + 1 * (r9 + 1) by omega), (show 8 + (1 + 11) + 40 * (0) ≤ 40 * (12 + 1 * (r9 + 1)) by omega)⟩ rfl rfl (Nat.le_of_ble_eq_true rfl) (Nat.le_of_ble_eq_true rfl) (fun r9 J_135 hq9 => ?_)
            obtain ⟨y_135, rfl, hz_135, rfl, hs_135⟩ := hq9
            refine tz_if_eq (pc := 138) (tgt := 145) dX12_normalOf_138 (by decide) (by omega) (fun h_138 => ?_) (fun h_138 => ?_)
            · refine tz_aload_n (pc := 145) dX12_normalOf_145 rfl rfl ?_
              refine tz_iload_n (pc := 146) dX12_normalOf_146 rfl rfl ?_
              refine tz_iload (pc := 147) dX12_normalOf_147 rfl ?_
              refine tz_iload (pc := 149) dX12_normalOf_149 rfl ?_
              refine tz_iload (pc := 151) dX12_normalOf_151 rfl ?_
              refine tz_cV (pc := 153) (m_remade hl n _ _ _ _ _ (by omega) (by omega) (by omega) (by omega) b r d s m_83 (q_83).1.1 (by omega) (fun q9 => by have e9 := (q_83).ar ht ((q_83).2.2.1.2.2.2 170 rfl); rw [e9]; omega)) vl_X12_152 dX12_normalOf_153 o_164 rfl rfl (Nat.le_of_ble_eq_true rfl) ⟨(show 3 + 1 ≤ 12 + 1 * (r9 + 1) by omega), (show 8 + (5 + 11) + 40 * (3) ≤ 40 * (12 + 1 * (r9 + 1)) by omega)⟩ rfl rfl (Nat.le_of_ble_eq_true rfl) (Nat.le_of_ble_eq_true rfl) (fun r9 J_153 hq9 => ?_)
              obtain ⟨z_153, rfl, hz_153, m_153, n_153, h_153⟩ := hq9
              have p_153 : NP J_153 J b r d s m m_153 := (p_83).tr (NP.mg (p_83).1 n_153)
              have q_153 := p_153.2.1
              have u_153 := NP.fu (NP.mg (p_83).1 n_153)
              have v_153 := NP.fu p_153
              have k_153 : J_153 164 34 = J_83 164 34 := n_153.2.2.1.2.2.1 34 rfl
              refine tz_istore (pc := 156) (L2 := [_, _, _, _, _, _, _, _]) dX12_normalOf_156 (by decide) rfl ?_
              refine tz_aload_n (pc := 158) dX12_normalOf_158 rfl rfl ?_
              refine tz_cV (pc := 159) (m_stopped hl n _) vl_X12_211 dX12_normalOf_159 o_164 rfl rfl (Nat.le_of_ble_eq_true rfl) ⟨(show 0 + 1 ≤ 12 + 1 * (r9 + 1) by omega), (show 8 + (1 + 11) + 40 * (0) ≤ 40 * (12 + 1 * (r9 + 1)) by omega)⟩ rfl rfl (Nat.le_of_ble_eq_true rfl) (Nat.le_of_ble_eq_true rfl) (fun r9 J_159 hq9 => ?_)
              obtain ⟨y_159, rfl, hz_159, rfl, hs_159⟩ := hq9
              refine tz_if_eq (pc := 162) (tgt := 169) dX12_normalOf_162 (by decide) (by omega) (fun h_162 => ?_) (fun h_162 => ?_)
              · refine tz_aload_n (pc := 169) dX12_normalOf_169 rfl rfl ?_
                refine tz_iload (pc := 170) dX12_normalOf_170 rfl ?_
                refine tz_cV (pc := 172) (ihL _ _ (by omega) b r d s m_153 (p_153).1 (by omega) (by omega) (by omega)) vl_X12_224 dX12_normalOf_172 o_164 rfl rfl (Nat.le_of_ble_eq_true rfl) ⟨(show (12 + 1 * r9) + 1 ≤ 12 + 1 * (r9 + 1) by omega), (show 8 + (4 + 11) + 40 * ((12 + 1 * r9)) ≤ 40 * (12 + 1 * (r9 + 1)) by omega)⟩ rfl rfl (Nat.le_of_ble_eq_true rfl) (Nat.le_of_ble_eq_true rfl) (fun r9 J_172 hq9 => ?_)
                obtain ⟨z_172, rfl, hz_172, m_172, n_172, h_172⟩ := hq9
                have p_172 : NP J_172 J b r d s m m_172 := (p_153).tr (n_172)
                have q_172 := p_172.2.1
                have u_172 := NP.fu (n_172)
                have v_172 := NP.fu p_172
                refine tz_istore (pc := 175) (L2 := [_, _, _, _, _, _, _, _]) dX12_normalOf_175 (by decide) rfl ?_
                refine tz_aload_n (pc := 177) dX12_normalOf_177 rfl rfl ?_
                refine tz_cV (pc := 178) (m_stopped hl n _) vl_X12_211 dX12_normalOf_178 o_164 rfl rfl (Nat.le_of_ble_eq_true rfl) ⟨(show 0 + 1 ≤ 12 + 1 * (r9 + 1) by omega), (show 8 + (1 + 11) + 40 * (0) ≤ 40 * (12 + 1 * (r9 + 1)) by omega)⟩ rfl rfl (Nat.le_of_ble_eq_true rfl) (Nat.le_of_ble_eq_true rfl) (fun r9 J_178 hq9 => ?_)
                obtain ⟨y_178, rfl, hz_178, rfl, hs_178⟩ := hq9
                refine tz_if_ne (pc := 181) (tgt := 191) dX12_normalOf_181 (by decide) (by omega) (fun h_181 => ?_) (fun h_181 => ?_)
                · refine tz_iload (pc := 191) dX12_normalOf_191 rfl ?_
                  exact tz_iret (pc := 193) (z := z_172) dX12_normalOf_193 rfl (Nat.le_of_ble_eq_true rfl) (Nat.le_of_ble_eq_true rfl) ⟨Nat.le_refl _, Nat.le_add_right _ _⟩ ⟨_, rfl, (by omega), ⟨m_172, p_172, h_172⟩⟩
                · refine tz_aload_n (pc := 184) dX12_normalOf_184 rfl rfl ?_
                  refine tz_iload_n (pc := 185) dX12_normalOf_185 rfl rfl ?_
                  refine tz_iload (pc := 186) dX12_normalOf_186 rfl ?_
                  refine tz_cV (pc := 188) (m_memoGets hl n _ _ _ (by omega) (by omega) m_172 (p_172).1.2.2.1 (by omega) (by omega)) vl_X12_218 dX12_normalOf_188 o_164 rfl rfl (Nat.le_of_ble_eq_true rfl) ⟨(show 1 + 1 ≤ 12 + 1 * (r9 + 1) by omega), (show 8 + (3 + 11) + 40 * (1) ≤ 40 * (12 + 1 * (r9 + 1)) by omega)⟩ rfl rfl (Nat.le_of_ble_eq_true rfl) (Nat.le_of_ble_eq_true rfl) (fun r9 J_188 hq9 => ?_)
                  obtain ⟨rfl, m5, f5⟩ := hq9
                  have p_188 := (p_172).tr (NP.mmf (p_172).1 f5 m5)
                  have k_188 : J_188 164 = J_172 164 := f5.1 164 rfl
                  refine tz_iload (pc := 191) dX12_normalOf_191 rfl ?_
                  exact tz_iret (pc := 193) (z := z_172) dX12_normalOf_193 rfl (Nat.le_of_ble_eq_true rfl) (Nat.le_of_ble_eq_true rfl) ⟨Nat.le_refl _, Nat.le_add_right _ _⟩ ⟨_, rfl, (by omega), ⟨m_172, p_188, fun _ _ => by omega⟩⟩
              · refine tz_iconst (pc := 165) dX12_normalOf_165 ?_
                refine tz_goto (pc := 166) (tgt := 175) dX12_normalOf_166 (by decide) ?_
                refine tz_istore (pc := 175) (L2 := [_, _, _, _, _, _, _, _]) dX12_normalOf_175 (by decide) rfl ?_
                refine tz_aload_n (pc := 177) dX12_normalOf_177 rfl rfl ?_
                refine tz_cV (pc := 178) (m_stopped hl n _) vl_X12_211 dX12_normalOf_178 o_164 rfl rfl (Nat.le_of_ble_eq_true rfl) ⟨(show 0 + 1 ≤ 12 + 1 * (r9 + 1) by omega), (show 8 + (1 + 11) + 40 * (0) ≤ 40 * (12 + 1 * (r9 + 1)) by omega)⟩ rfl rfl (Nat.le_of_ble_eq_true rfl) (Nat.le_of_ble_eq_true rfl) (fun r9 J_178 hq9 => ?_)
                obtain ⟨y_178, rfl, hz_178, rfl, hs_178⟩ := hq9
                refine tz_if_neT (pc := 181) (tgt := 191) (by omega) dX12_normalOf_181 (by decide) (by omega) ?_
                refine tz_iload (pc := 191) dX12_normalOf_191 rfl ?_
                exact tz_iret (pc := 193) (z := 0) dX12_normalOf_193 rfl (Nat.le_of_ble_eq_true rfl) (Nat.le_of_ble_eq_true rfl) ⟨Nat.le_refl _, Nat.le_add_right _ _⟩ ⟨_, rfl, (by decide), ⟨m_153, p_153, fun q9 q8 => by omega⟩⟩
            · refine tz_iconst (pc := 141) dX12_normalOf_141 ?_
              refine tz_goto (pc := 142) (tgt := 156) dX12_normalOf_142 (by decide) ?_
              refine tz_istore (pc := 156) (L2 := [_, _, _, _, _, _, _, _]) dX12_normalOf_156 (by decide) rfl ?_
              refine tz_aload_n (pc := 158) dX12_normalOf_158 rfl rfl ?_
              refine tz_cV (pc := 159) (m_stopped hl n _) vl_X12_211 dX12_normalOf_159 o_164 rfl rfl (Nat.le_of_ble_eq_true rfl) ⟨(show 0 + 1 ≤ 12 + 1 * (r9 + 1) by omega), (show 8 + (1 + 11) + 40 * (0) ≤ 40 * (12 + 1 * (r9 + 1)) by omega)⟩ rfl rfl (Nat.le_of_ble_eq_true rfl) (Nat.le_of_ble_eq_true rfl) (fun r9 J_159 hq9 => ?_)
              obtain ⟨y_159, rfl, hz_159, rfl, hs_159⟩ := hq9
              refine tz_if_eqF (pc := 162) (tgt := 169) (by omega) dX12_normalOf_162 (by decide) (by omega) ?_
              refine tz_iconst (pc := 165) dX12_normalOf_165 ?_
              refine tz_goto (pc := 166) (tgt := 175) dX12_normalOf_166 (by decide) ?_
              refine tz_istore (pc := 175) (L2 := [_, _, _, _, _, _, _, _]) dX12_normalOf_175 (by decide) rfl ?_
              refine tz_aload_n (pc := 177) dX12_normalOf_177 rfl rfl ?_
              refine tz_cV (pc := 178) (m_stopped hl n _) vl_X12_211 dX12_normalOf_178 o_164 rfl rfl (Nat.le_of_ble_eq_true rfl) ⟨(show 0 + 1 ≤ 12 + 1 * (r9 + 1) by omega), (show 8 + (1 + 11) + 40 * (0) ≤ 40 * (12 + 1 * (r9 + 1)) by omega)⟩ rfl rfl (Nat.le_of_ble_eq_true rfl) (Nat.le_of_ble_eq_true rfl) (fun r9 J_178 hq9 => ?_)
              obtain ⟨y_178, rfl, hz_178, rfl, hs_178⟩ := hq9
              refine tz_if_neT (pc := 181) (tgt := 191) (by omega) dX12_normalOf_181 (by decide) (by omega) ?_
              refine tz_iload (pc := 191) dX12_normalOf_191 rfl ?_
              exact tz_iret (pc := 193) (z := 0) dX12_normalOf_193 rfl (Nat.le_of_ble_eq_true rfl) (Nat.le_of_ble_eq_true rfl) ⟨Nat.le_refl _, Nat.le_add_right _ _⟩ ⟨_, rfl, (by decide), ⟨m_83, p_83, fun q9 q8 => by omega⟩⟩
          · refine tz_aload_n (pc := 97) dX12_normalOf_97 rfl rfl ?_
            refine tz_aload_n (pc := 98) dX12_normalOf_98 rfl rfl ?_
            refine tz_iload_n (pc := 99) dX12_normalOf_99 rfl rfl ?_
            refine tz_iconst (pc := 100) dX12_normalOf_100 ?_
            have l_101 := (q_83).1.2
            have tt_101 := (q_83).1.1.told
            refine tz_cV (pc := 101) (m_arg hl n _ _ _ (by omega) (by decide) b r d s m_83 (q_83).1.1 (by omega) (by omega)) vl_X12_88 dX12_normalOf_101 o_164 rfl rfl (Nat.le_of_ble_eq_true rfl) ⟨(show 0 + 1 ≤ 12 + 1 * (r9 + 1) by omega), (show 8 + (3 + 11) + 40 * (0) ≤ 40 * (12 + 1 * (r9 + 1)) by omega)⟩ rfl rfl (Nat.le_of_ble_eq_true rfl) (Nat.le_of_ble_eq_true rfl) (fun r9 J_101 hq9 => ?_)
            obtain ⟨z_101, rfl, hz_101, rfl, hv_101⟩ := hq9
            have he_101 : J_83 167 (3 * (b + t) + 1) = J 167 (3 * (b + t) + 1) := ((q_83).2.1 t ht.1 ht.2).2 1 (by omega) (by omega)
            rw [he_101] at hv_101
            obtain rfl : J 167 (3 * (b + t) + 1) = z_101 := hv_101
            have a_104 := hM.arg (t := t) (i := 1) ht (by omega)
            refine tz_cV (pc := 104) (ihN _ _ (by omega) b r d s m_83 (p_83).1 (by omega) (by rw [((q_83).2.1 _ (by omega) (by omega)).1.2]; omega)) vl_X12_221 dX12_normalOf_104 o_164 rfl rfl (Nat.le_of_ble_eq_true rfl) ⟨(show (12 + 1 * r9) + 1 ≤ 12 + 1 * (r9 + 1) by omega), (show 8 + (8 + 11) + 40 * ((12 + 1 * r9)) ≤ 40 * (12 + 1 * (r9 + 1)) by omega)⟩ rfl rfl (Nat.le_of_ble_eq_true rfl) (Nat.le_of_ble_eq_true rfl) (fun r9 J_104 hq9 => ?_)
            obtain ⟨z_104, rfl, hz_104, m_104, n_104, h_104⟩ := hq9
            have p_104 : NP J_104 J b r d s m m_104 := (p_83).tr (n_104)
            have q_104 := p_104.2.1
            have u_104 := NP.fu (n_104)
            have v_104 := NP.fu p_104
            refine tz_goto (pc := 107) (tgt := 111) dX12_normalOf_107 (by decide) ?_
            refine tz_istore (pc := 111) (L2 := [_, _, _, _, _, _, _, _]) dX12_normalOf_111 (by decide) rfl ?_
            refine tz_iload_n (pc := 113) dX12_normalOf_113 rfl rfl ?_
            refine tz_iconst (pc := 114) dX12_normalOf_114 ?_
            refine tz_icmp_le (pc := 115) (tgt := 131) dX12_normalOf_115 (by decide) (by omega) (by decide) (fun h_115 => ?_) (fun h_115 => ?_)
            · refine tz_iconst (pc := 131) dX12_normalOf_131 ?_
              refine tz_istore (pc := 132) (L2 := [_, _, _, _, _, _, _, _]) dX12_normalOf_132 (by decide) rfl ?_
              refine tz_aload_n (pc := 134) dX12_normalOf_134 rfl rfl ?_
              refine tz_cV (pc := 135) (m_stopped hl n _) vl_X12_211 dX12_normalOf_135 o_164 rfl rfl (Nat.le_of_ble_eq_true rfl) ⟨(show 0 + 1 ≤ 12 + 1 * (r9 + 1) by omega), (show 8 + (1 + 11) + 40 * (0) ≤ 40 * (12 + 1 * (r9 + 1)) by omega)⟩ rfl rfl (Nat.le_of_ble_eq_true rfl) (Nat.le_of_ble_eq_true rfl) (fun r9 J_135 hq9 => ?_)
              obtain ⟨y_135, rfl, hz_135, rfl, hs_135⟩ := hq9
              refine tz_if_eq (pc := 138) (tgt := 145) dX12_normalOf_138 (by decide) (by omega) (fun h_138 => ?_) (fun h_138 => ?_)
              · refine tz_aload_n (pc := 145) dX12_normalOf_145 rfl rfl ?_
                refine tz_iload_n (pc := 146) dX12_normalOf_146 rfl rfl ?_
                refine tz_iload (pc := 147) dX12_normalOf_147 rfl ?_
                refine tz_iload (pc := 149) dX12_normalOf_149 rfl ?_
                refine tz_iload (pc := 151) dX12_normalOf_151 rfl ?_
                refine tz_cV (pc := 153) (m_remade hl n _ _ _ _ _ (by omega) (by omega) (by omega) (by omega) b r d s m_104 (q_104).1.1 (by omega) (fun q9 => by have e9 := (q_104).ar ht ((q_104).2.2.1.2.2.2 170 rfl); rw [e9]; omega)) vl_X12_152 dX12_normalOf_153 o_164 rfl rfl (Nat.le_of_ble_eq_true rfl) ⟨(show 3 + 1 ≤ 12 + 1 * (r9 + 1) by omega), (show 8 + (5 + 11) + 40 * (3) ≤ 40 * (12 + 1 * (r9 + 1)) by omega)⟩ rfl rfl (Nat.le_of_ble_eq_true rfl) (Nat.le_of_ble_eq_true rfl) (fun r9 J_153 hq9 => ?_)
                obtain ⟨z_153, rfl, hz_153, m_153, n_153, h_153⟩ := hq9
                have p_153 : NP J_153 J b r d s m m_153 := (p_104).tr (NP.mg (p_104).1 n_153)
                have q_153 := p_153.2.1
                have u_153 := NP.fu (NP.mg (p_104).1 n_153)
                have v_153 := NP.fu p_153
                have k_153 : J_153 164 34 = J_104 164 34 := n_153.2.2.1.2.2.1 34 rfl
                refine tz_istore (pc := 156) (L2 := [_, _, _, _, _, _, _, _]) dX12_normalOf_156 (by decide) rfl ?_
                refine tz_aload_n (pc := 158) dX12_normalOf_158 rfl rfl ?_
                refine tz_cV (pc := 159) (m_stopped hl n _) vl_X12_211 dX12_normalOf_159 o_164 rfl rfl (Nat.le_of_ble_eq_true rfl) ⟨(show 0 + 1 ≤ 12 + 1 * (r9 + 1) by omega), (show 8 + (1 + 11) + 40 * (0) ≤ 40 * (12 + 1 * (r9 + 1)) by omega)⟩ rfl rfl (Nat.le_of_ble_eq_true rfl) (Nat.le_of_ble_eq_true rfl) (fun r9 J_159 hq9 => ?_)
                obtain ⟨y_159, rfl, hz_159, rfl, hs_159⟩ := hq9
                refine tz_if_eq (pc := 162) (tgt := 169) dX12_normalOf_162 (by decide) (by omega) (fun h_162 => ?_) (fun h_162 => ?_)
                · refine tz_aload_n (pc := 169) dX12_normalOf_169 rfl rfl ?_
                  refine tz_iload (pc := 170) dX12_normalOf_170 rfl ?_
                  refine tz_cV (pc := 172) (ihL _ _ (by omega) b r d s m_153 (p_153).1 (by omega) (by omega) (by omega)) vl_X12_224 dX12_normalOf_172 o_164 rfl rfl (Nat.le_of_ble_eq_true rfl) ⟨(show (12 + 1 * r9) + 1 ≤ 12 + 1 * (r9 + 1) by omega), (show 8 + (4 + 11) + 40 * ((12 + 1 * r9)) ≤ 40 * (12 + 1 * (r9 + 1)) by omega)⟩ rfl rfl (Nat.le_of_ble_eq_true rfl) (Nat.le_of_ble_eq_true rfl) (fun r9 J_172 hq9 => ?_)
                  obtain ⟨z_172, rfl, hz_172, m_172, n_172, h_172⟩ := hq9
                  have p_172 : NP J_172 J b r d s m m_172 := (p_153).tr (n_172)
                  have q_172 := p_172.2.1
                  have u_172 := NP.fu (n_172)
                  have v_172 := NP.fu p_172
                  refine tz_istore (pc := 175) (L2 := [_, _, _, _, _, _, _, _]) dX12_normalOf_175 (by decide) rfl ?_
                  refine tz_aload_n (pc := 177) dX12_normalOf_177 rfl rfl ?_
                  refine tz_cV (pc := 178) (m_stopped hl n _) vl_X12_211 dX12_normalOf_178 o_164 rfl rfl (Nat.le_of_ble_eq_true rfl) ⟨(show 0 + 1 ≤ 12 + 1 * (r9 + 1) by omega), (show 8 + (1 + 11) + 40 * (0) ≤ 40 * (12 + 1 * (r9 + 1)) by omega)⟩ rfl rfl (Nat.le_of_ble_eq_true rfl) (Nat.le_of_ble_eq_true rfl) (fun r9 J_178 hq9 => ?_)
                  obtain ⟨y_178, rfl, hz_178, rfl, hs_178⟩ := hq9
                  refine tz_if_ne (pc := 181) (tgt := 191) dX12_normalOf_181 (by decide) (by omega) (fun h_181 => ?_) (fun h_181 => ?_)
                  · refine tz_iload (pc := 191) dX12_normalOf_191 rfl ?_
                    exact tz_iret (pc := 193) (z := z_172) dX12_normalOf_193 rfl (Nat.le_of_ble_eq_true rfl) (Nat.le_of_ble_eq_true rfl) ⟨Nat.le_refl _, Nat.le_add_right _ _⟩ ⟨_, rfl, (by omega), ⟨m_172, p_172, h_172⟩⟩
                  · refine tz_aload_n (pc := 184) dX12_normalOf_184 rfl rfl ?_
                    refine tz_iload_n (pc := 185) dX12_normalOf_185 rfl rfl ?_
                    refine tz_iload (pc := 186) dX12_normalOf_186 rfl ?_
                    refine tz_cV (pc := 188) (m_memoGets hl n _ _ _ (by omega) (by omega) m_172 (p_172).1.2.2.1 (by omega) (by omega)) vl_X12_218 dX12_normalOf_188 o_164 rfl rfl (Nat.le_of_ble_eq_true rfl) ⟨(show 1 + 1 ≤ 12 + 1 * (r9 + 1) by omega), (show 8 + (3 + 11) + 40 * (1) ≤ 40 * (12 + 1 * (r9 + 1)) by omega)⟩ rfl rfl (Nat.le_of_ble_eq_true rfl) (Nat.le_of_ble_eq_true rfl) (fun r9 J_188 hq9 => ?_)
                    obtain ⟨rfl, m5, f5⟩ := hq9
                    have p_188 := (p_172).tr (NP.mmf (p_172).1 f5 m5)
                    have k_188 : J_188 164 = J_172 164 := f5.1 164 rfl
                    refine tz_iload (pc := 191) dX12_normalOf_191 rfl ?_
                    exact tz_iret (pc := 193) (z := z_172) dX12_normalOf_193 rfl (Nat.le_of_ble_eq_true rfl) (Nat.le_of_ble_eq_true rfl) ⟨Nat.le_refl _, Nat.le_add_right _ _⟩ ⟨_, rfl, (by omega), ⟨m_172, p_188, fun _ _ => by omega⟩⟩
                · refine tz_iconst (pc := 165) dX12_normalOf_165 ?_
                  refine tz_goto (pc := 166) (tgt := 175) dX12_normalOf_166 (by decide) ?_
                  refine tz_istore (pc := 175) (L2 := [_, _, _, _, _, _, _, _]) dX12_normalOf_175 (by decide) rfl ?_
                  refine tz_aload_n (pc := 177) dX12_normalOf_177 rfl rfl ?_
                  refine tz_cV (pc := 178) (m_stopped hl n _) vl_X12_211 dX12_normalOf_178 o_164 rfl rfl (Nat.le_of_ble_eq_true rfl) ⟨(show 0 + 1 ≤ 12 + 1 * (r9 + 1) by omega), (show 8 + (1 + 11) + 40 * (0) ≤ 40 * (12 + 1 * (r9 + 1)) by omega)⟩ rfl rfl (Nat.le_of_ble_eq_true rfl) (Nat.le_of_ble_eq_true rfl) (fun r9 J_178 hq9 => ?_)
                  obtain ⟨y_178, rfl, hz_178, rfl, hs_178⟩ := hq9
                  refine tz_if_neT (pc := 181) (tgt := 191) (by omega) dX12_normalOf_181 (by decide) (by omega) ?_
                  refine tz_iload (pc := 191) dX12_normalOf_191 rfl ?_
                  exact tz_iret (pc := 193) (z := 0) dX12_normalOf_193 rfl (Nat.le_of_ble_eq_true rfl) (Nat.le_of_ble_eq_true rfl) ⟨Nat.le_refl _, Nat.le_add_right _ _⟩ ⟨_, rfl, (by decide), ⟨m_153, p_153, fun q9 q8 => by omega⟩⟩
              · refine tz_iconst (pc := 141) dX12_normalOf_141 ?_
                refine tz_goto (pc := 142) (tgt := 156) dX12_normalOf_142 (by decide) ?_
                refine tz_istore (pc := 156) (L2 := [_, _, _, _, _, _, _, _]) dX12_normalOf_156 (by decide) rfl ?_
                refine tz_aload_n (pc := 158) dX12_normalOf_158 rfl rfl ?_
                refine tz_cV (pc := 159) (m_stopped hl n _) vl_X12_211 dX12_normalOf_159 o_164 rfl rfl (Nat.le_of_ble_eq_true rfl) ⟨(show 0 + 1 ≤ 12 + 1 * (r9 + 1) by omega), (show 8 + (1 + 11) + 40 * (0) ≤ 40 * (12 + 1 * (r9 + 1)) by omega)⟩ rfl rfl (Nat.le_of_ble_eq_true rfl) (Nat.le_of_ble_eq_true rfl) (fun r9 J_159 hq9 => ?_)
                obtain ⟨y_159, rfl, hz_159, rfl, hs_159⟩ := hq9
                refine tz_if_eqF (pc := 162) (tgt := 169) (by omega) dX12_normalOf_162 (by decide) (by omega) ?_
                refine tz_iconst (pc := 165) dX12_normalOf_165 ?_
                refine tz_goto (pc := 166) (tgt := 175) dX12_normalOf_166 (by decide) ?_
                refine tz_istore (pc := 175) (L2 := [_, _, _, _, _, _, _, _]) dX12_normalOf_175 (by decide) rfl ?_
                refine tz_aload_n (pc := 177) dX12_normalOf_177 rfl rfl ?_
                refine tz_cV (pc := 178) (m_stopped hl n _) vl_X12_211 dX12_normalOf_178 o_164 rfl rfl (Nat.le_of_ble_eq_true rfl) ⟨(show 0 + 1 ≤ 12 + 1 * (r9 + 1) by omega), (show 8 + (1 + 11) + 40 * (0) ≤ 40 * (12 + 1 * (r9 + 1)) by omega)⟩ rfl rfl (Nat.le_of_ble_eq_true rfl) (Nat.le_of_ble_eq_true rfl) (fun r9 J_178 hq9 => ?_)
                obtain ⟨y_178, rfl, hz_178, rfl, hs_178⟩ := hq9
                refine tz_if_neT (pc := 181) (tgt := 191) (by omega) dX12_normalOf_181 (by decide) (by omega) ?_
                refine tz_iload (pc := 191) dX12_normalOf_191 rfl ?_
                exact tz_iret (pc := 193) (z := 0) dX12_normalOf_193 rfl (Nat.le_of_ble_eq_true rfl) (Nat.le_of_ble_eq_true rfl) ⟨Nat.le_refl _, Nat.le_add_right _ _⟩ ⟨_, rfl, (by decide), ⟨m_104, p_104, fun q9 q8 => by omega⟩⟩
            · refine tz_aload_n (pc := 118) dX12_normalOf_118 rfl rfl ?_
              refine tz_aload_n (pc := 119) dX12_normalOf_119 rfl rfl ?_
              refine tz_iload_n (pc := 120) dX12_normalOf_120 rfl rfl ?_
              refine tz_iconst (pc := 121) dX12_normalOf_121 ?_
              have l_122 := (q_104).1.2
              have tt_122 := (q_104).1.1.told
              refine tz_cV (pc := 122) (m_arg hl n _ _ _ (by omega) (by decide) b r d s m_104 (q_104).1.1 (by omega) (by omega)) vl_X12_88 dX12_normalOf_122 o_164 rfl rfl (Nat.le_of_ble_eq_true rfl) ⟨(show 0 + 1 ≤ 12 + 1 * (r9 + 1) by omega), (show 8 + (3 + 11) + 40 * (0) ≤ 40 * (12 + 1 * (r9 + 1)) by omega)⟩ rfl rfl (Nat.le_of_ble_eq_true rfl) (Nat.le_of_ble_eq_true rfl) (fun r9 J_122 hq9 => ?_)
              obtain ⟨z_122, rfl, hz_122, rfl, hv_122⟩ := hq9
              have he_122 : J_104 167 (3 * (b + t) + 2) = J 167 (3 * (b + t) + 2) := ((q_104).2.1 t ht.1 ht.2).2 2 (by omega) (by omega)
              rw [he_122] at hv_122
              obtain rfl : J 167 (3 * (b + t) + 2) = z_122 := hv_122
              have a_125 := hM.arg (t := t) (i := 2) ht (by omega)
              refine tz_cV (pc := 125) (ihN _ _ (by omega) b r d s m_104 (p_104).1 (by omega) (by rw [((q_104).2.1 _ (by omega) (by omega)).1.2]; omega)) vl_X12_221 dX12_normalOf_125 o_164 rfl rfl (Nat.le_of_ble_eq_true rfl) ⟨(show (12 + 1 * r9) + 1 ≤ 12 + 1 * (r9 + 1) by omega), (show 8 + (8 + 11) + 40 * ((12 + 1 * r9)) ≤ 40 * (12 + 1 * (r9 + 1)) by omega)⟩ rfl rfl (Nat.le_of_ble_eq_true rfl) (Nat.le_of_ble_eq_true rfl) (fun r9 J_125 hq9 => ?_)
              obtain ⟨z_125, rfl, hz_125, m_125, n_125, h_125⟩ := hq9
              have p_125 : NP J_125 J b r d s m m_125 := (p_104).tr (n_125)
              have q_125 := p_125.2.1
              have u_125 := NP.fu (n_125)
              have v_125 := NP.fu p_125
              refine tz_goto (pc := 128) (tgt := 132) dX12_normalOf_128 (by decide) ?_
              refine tz_istore (pc := 132) (L2 := [_, _, _, _, _, _, _, _]) dX12_normalOf_132 (by decide) rfl ?_
              refine tz_aload_n (pc := 134) dX12_normalOf_134 rfl rfl ?_
              refine tz_cV (pc := 135) (m_stopped hl n _) vl_X12_211 dX12_normalOf_135 o_164 rfl rfl (Nat.le_of_ble_eq_true rfl) ⟨(show 0 + 1 ≤ 12 + 1 * (r9 + 1) by omega), (show 8 + (1 + 11) + 40 * (0) ≤ 40 * (12 + 1 * (r9 + 1)) by omega)⟩ rfl rfl (Nat.le_of_ble_eq_true rfl) (Nat.le_of_ble_eq_true rfl) (fun r9 J_135 hq9 => ?_)
              obtain ⟨y_135, rfl, hz_135, rfl, hs_135⟩ := hq9
              refine tz_if_eq (pc := 138) (tgt := 145) dX12_normalOf_138 (by decide) (by omega) (fun h_138 => ?_) (fun h_138 => ?_)
              · refine tz_aload_n (pc := 145) dX12_normalOf_145 rfl rfl ?_
                refine tz_iload_n (pc := 146) dX12_normalOf_146 rfl rfl ?_
                refine tz_iload (pc := 147) dX12_normalOf_147 rfl ?_
                refine tz_iload (pc := 149) dX12_normalOf_149 rfl ?_
                refine tz_iload (pc := 151) dX12_normalOf_151 rfl ?_
                refine tz_cV (pc := 153) (m_remade hl n _ _ _ _ _ (by omega) (by omega) (by omega) (by omega) b r d s m_125 (q_125).1.1 (by omega) (fun q9 => by have e9 := (q_125).ar ht ((q_125).2.2.1.2.2.2 170 rfl); rw [e9]; omega)) vl_X12_152 dX12_normalOf_153 o_164 rfl rfl (Nat.le_of_ble_eq_true rfl) ⟨(show 3 + 1 ≤ 12 + 1 * (r9 + 1) by omega), (show 8 + (5 + 11) + 40 * (3) ≤ 40 * (12 + 1 * (r9 + 1)) by omega)⟩ rfl rfl (Nat.le_of_ble_eq_true rfl) (Nat.le_of_ble_eq_true rfl) (fun r9 J_153 hq9 => ?_)
                obtain ⟨z_153, rfl, hz_153, m_153, n_153, h_153⟩ := hq9
                have p_153 : NP J_153 J b r d s m m_153 := (p_125).tr (NP.mg (p_125).1 n_153)
                have q_153 := p_153.2.1
                have u_153 := NP.fu (NP.mg (p_125).1 n_153)
                have v_153 := NP.fu p_153
                have k_153 : J_153 164 34 = J_125 164 34 := n_153.2.2.1.2.2.1 34 rfl
                refine tz_istore (pc := 156) (L2 := [_, _, _, _, _, _, _, _]) dX12_normalOf_156 (by decide) rfl ?_
                refine tz_aload_n (pc := 158) dX12_normalOf_158 rfl rfl ?_
                refine tz_cV (pc := 159) (m_stopped hl n _) vl_X12_211 dX12_normalOf_159 o_164 rfl rfl (Nat.le_of_ble_eq_true rfl) ⟨(show 0 + 1 ≤ 12 + 1 * (r9 + 1) by omega), (show 8 + (1 + 11) + 40 * (0) ≤ 40 * (12 + 1 * (r9 + 1)) by omega)⟩ rfl rfl (Nat.le_of_ble_eq_true rfl) (Nat.le_of_ble_eq_true rfl) (fun r9 J_159 hq9 => ?_)
                obtain ⟨y_159, rfl, hz_159, rfl, hs_159⟩ := hq9
                refine tz_if_eq (pc := 162) (tgt := 169) dX12_normalOf_162 (by decide) (by omega) (fun h_162 => ?_) (fun h_162 => ?_)
                · refine tz_aload_n (pc := 169) dX12_normalOf_169 rfl rfl ?_
                  refine tz_iload (pc := 170) dX12_normalOf_170 rfl ?_
                  refine tz_cV (pc := 172) (ihL _ _ (by omega) b r d s m_153 (p_153).1 (by omega) (by omega) (by omega)) vl_X12_224 dX12_normalOf_172 o_164 rfl rfl (Nat.le_of_ble_eq_true rfl) ⟨(show (12 + 1 * r9) + 1 ≤ 12 + 1 * (r9 + 1) by omega), (show 8 + (4 + 11) + 40 * ((12 + 1 * r9)) ≤ 40 * (12 + 1 * (r9 + 1)) by omega)⟩ rfl rfl (Nat.le_of_ble_eq_true rfl) (Nat.le_of_ble_eq_true rfl) (fun r9 J_172 hq9 => ?_)
                  obtain ⟨z_172, rfl, hz_172, m_172, n_172, h_172⟩ := hq9
                  have p_172 : NP J_172 J b r d s m m_172 := (p_153).tr (n_172)
                  have q_172 := p_172.2.1
                  have u_172 := NP.fu (n_172)
                  have v_172 := NP.fu p_172
                  refine tz_istore (pc := 175) (L2 := [_, _, _, _, _, _, _, _]) dX12_normalOf_175 (by decide) rfl ?_
                  refine tz_aload_n (pc := 177) dX12_normalOf_177 rfl rfl ?_
                  refine tz_cV (pc := 178) (m_stopped hl n _) vl_X12_211 dX12_normalOf_178 o_164 rfl rfl (Nat.le_of_ble_eq_true rfl) ⟨(show 0 + 1 ≤ 12 + 1 * (r9 + 1) by omega), (show 8 + (1 + 11) + 40 * (0) ≤ 40 * (12 + 1 * (r9 + 1)) by omega)⟩ rfl rfl (Nat.le_of_ble_eq_true rfl) (Nat.le_of_ble_eq_true rfl) (fun r9 J_178 hq9 => ?_)
                  obtain ⟨y_178, rfl, hz_178, rfl, hs_178⟩ := hq9
                  refine tz_if_ne (pc := 181) (tgt := 191) dX12_normalOf_181 (by decide) (by omega) (fun h_181 => ?_) (fun h_181 => ?_)
                  · refine tz_iload (pc := 191) dX12_normalOf_191 rfl ?_
                    exact tz_iret (pc := 193) (z := z_172) dX12_normalOf_193 rfl (Nat.le_of_ble_eq_true rfl) (Nat.le_of_ble_eq_true rfl) ⟨Nat.le_refl _, Nat.le_add_right _ _⟩ ⟨_, rfl, (by omega), ⟨m_172, p_172, h_172⟩⟩
                  · refine tz_aload_n (pc := 184) dX12_normalOf_184 rfl rfl ?_
                    refine tz_iload_n (pc := 185) dX12_normalOf_185 rfl rfl ?_
                    refine tz_iload (pc := 186) dX12_normalOf_186 rfl ?_
                    refine tz_cV (pc := 188) (m_memoGets hl n _ _ _ (by omega) (by omega) m_172 (p_172).1.2.2.1 (by omega) (by omega)) vl_X12_218 dX12_normalOf_188 o_164 rfl rfl (Nat.le_of_ble_eq_true rfl) ⟨(show 1 + 1 ≤ 12 + 1 * (r9 + 1) by omega), (show 8 + (3 + 11) + 40 * (1) ≤ 40 * (12 + 1 * (r9 + 1)) by omega)⟩ rfl rfl (Nat.le_of_ble_eq_true rfl) (Nat.le_of_ble_eq_true rfl) (fun r9 J_188 hq9 => ?_)
                    obtain ⟨rfl, m5, f5⟩ := hq9
                    have p_188 := (p_172).tr (NP.mmf (p_172).1 f5 m5)
                    have k_188 : J_188 164 = J_172 164 := f5.1 164 rfl
                    refine tz_iload (pc := 191) dX12_normalOf_191 rfl ?_
                    exact tz_iret (pc := 193) (z := z_172) dX12_normalOf_193 rfl (Nat.le_of_ble_eq_true rfl) (Nat.le_of_ble_eq_true rfl) ⟨Nat.le_refl _, Nat.le_add_right _ _⟩ ⟨_, rfl, (by omega), ⟨m_172, p_188, fun _ _ => by omega⟩⟩
                · refine tz_iconst (pc := 165) dX12_normalOf_165 ?_
                  refine tz_goto (pc := 166) (tgt := 175) dX12_normalOf_166 (by decide) ?_
                  refine tz_istore (pc := 175) (L2 := [_, _, _, _, _, _, _, _]) dX12_normalOf_175 (by decide) rfl ?_
                  refine tz_aload_n (pc := 177) dX12_normalOf_177 rfl rfl ?_
                  refine tz_cV (pc := 178) (m_stopped hl n _) vl_X12_211 dX12_normalOf_178 o_164 rfl rfl (Nat.le_of_ble_eq_true rfl) ⟨(show 0 + 1 ≤ 12 + 1 * (r9 + 1) by omega), (show 8 + (1 + 11) + 40 * (0) ≤ 40 * (12 + 1 * (r9 + 1)) by omega)⟩ rfl rfl (Nat.le_of_ble_eq_true rfl) (Nat.le_of_ble_eq_true rfl) (fun r9 J_178 hq9 => ?_)
                  obtain ⟨y_178, rfl, hz_178, rfl, hs_178⟩ := hq9
                  refine tz_if_neT (pc := 181) (tgt := 191) (by omega) dX12_normalOf_181 (by decide) (by omega) ?_
                  refine tz_iload (pc := 191) dX12_normalOf_191 rfl ?_
                  exact tz_iret (pc := 193) (z := 0) dX12_normalOf_193 rfl (Nat.le_of_ble_eq_true rfl) (Nat.le_of_ble_eq_true rfl) ⟨Nat.le_refl _, Nat.le_add_right _ _⟩ ⟨_, rfl, (by decide), ⟨m_153, p_153, fun q9 q8 => by omega⟩⟩
              · refine tz_iconst (pc := 141) dX12_normalOf_141 ?_
                refine tz_goto (pc := 142) (tgt := 156) dX12_normalOf_142 (by decide) ?_
                refine tz_istore (pc := 156) (L2 := [_, _, _, _, _, _, _, _]) dX12_normalOf_156 (by decide) rfl ?_
                refine tz_aload_n (pc := 158) dX12_normalOf_158 rfl rfl ?_
                refine tz_cV (pc := 159) (m_stopped hl n _) vl_X12_211 dX12_normalOf_159 o_164 rfl rfl (Nat.le_of_ble_eq_true rfl) ⟨(show 0 + 1 ≤ 12 + 1 * (r9 + 1) by omega), (show 8 + (1 + 11) + 40 * (0) ≤ 40 * (12 + 1 * (r9 + 1)) by omega)⟩ rfl rfl (Nat.le_of_ble_eq_true rfl) (Nat.le_of_ble_eq_true rfl) (fun r9 J_159 hq9 => ?_)
                obtain ⟨y_159, rfl, hz_159, rfl, hs_159⟩ := hq9
                refine tz_if_eqF (pc := 162) (tgt := 169) (by omega) dX12_normalOf_162 (by decide) (by omega) ?_
                refine tz_iconst (pc := 165) dX12_normalOf_165 ?_
                refine tz_goto (pc := 166) (tgt := 175) dX12_normalOf_166 (by decide) ?_
                refine tz_istore (pc := 175) (L2 := [_, _, _, _, _, _, _, _]) dX12_normalOf_175 (by decide) rfl ?_
                refine tz_aload_n (pc := 177) dX12_normalOf_177 rfl rfl ?_
                refine tz_cV (pc := 178) (m_stopped hl n _) vl_X12_211 dX12_normalOf_178 o_164 rfl rfl (Nat.le_of_ble_eq_true rfl) ⟨(show 0 + 1 ≤ 12 + 1 * (r9 + 1) by omega), (show 8 + (1 + 11) + 40 * (0) ≤ 40 * (12 + 1 * (r9 + 1)) by omega)⟩ rfl rfl (Nat.le_of_ble_eq_true rfl) (Nat.le_of_ble_eq_true rfl) (fun r9 J_178 hq9 => ?_)
                obtain ⟨y_178, rfl, hz_178, rfl, hs_178⟩ := hq9
                refine tz_if_neT (pc := 181) (tgt := 191) (by omega) dX12_normalOf_181 (by decide) (by omega) ?_
                refine tz_iload (pc := 191) dX12_normalOf_191 rfl ?_
                exact tz_iret (pc := 193) (z := 0) dX12_normalOf_193 rfl (Nat.le_of_ble_eq_true rfl) (Nat.le_of_ble_eq_true rfl) ⟨Nat.le_refl _, Nat.le_add_right _ _⟩ ⟨_, rfl, (by decide), ⟨m_125, p_125, fun q9 q8 => by omega⟩⟩
      · refine tz_aload_n (pc := 28) dX12_normalOf_28 rfl rfl ?_
        refine tz_fR (pc := 29) dX12_normalOf_29 fl_X12_9 r_164_0 ?_
        refine tz_bipush (pc := 32) dX12_normalOf_32 (by decide) ?_
        refine tz_iconst (pc := 34) dX12_normalOf_34 ?_
        refine tz_iload_n (pc := 35) dX12_normalOf_35 rfl rfl ?_
        refine tz_imul (pc := 36) (v := 2 * z_19) dX12_normalOf_36 rfl ?_
        refine tz_iadd (pc := 37) (v := 41 + (2 * z_19)) dX12_normalOf_37 rfl ?_
        refine tz_iconst (pc := 38) dX12_normalOf_38 ?_
        refine tz_iadd (pc := 39) (v := (41 + (2 * z_19)) + 1) dX12_normalOf_39 rfl ?_
        refine tz_aL (pc := 40) (z := ((41 + (2 * z_19)) + 1)) (v := (J 165 ((41 + (2 * z_19)) + 1))) dX12_normalOf_40 a_165 rfl (by omega) rfl (fun r_40 => ?_)
        have hu0 := hm.2.2 (2 * z_19 + 1) (by omega) (by omega)
        rw [show 41 + (2 * z_19 + 1) = 41 + 2 * z_19 + 1 by omega] at hu0
        generalize hu9 : J 165 (41 + 2 * z_19 + 1) = u at hu0 ⊢
        have hu : 0 ≤ u ∧ u < m := hu0
        refine tz_istore_n (pc := 41) (L2 := [_, _, _, _, _, _, _, _]) dX12_normalOf_41 rfl (by decide) rfl ?_
        refine tz_aload_n (pc := 42) dX12_normalOf_42 rfl rfl ?_
        refine tz_iload_n (pc := 43) dX12_normalOf_43 rfl rfl ?_
        refine tz_cV (pc := 44) (m_memoLoses hl n _ _ (by omega) m hm (by omega)) vl_X12_204 dX12_normalOf_44 o_164 rfl rfl (Nat.le_of_ble_eq_true rfl) ⟨(show 0 + 1 ≤ 12 + 1 * (r9 + 1) by omega), (show 8 + (3 + 11) + 40 * (0) ≤ 40 * (12 + 1 * (r9 + 1)) by omega)⟩ rfl rfl (Nat.le_of_ble_eq_true rfl) (Nat.le_of_ble_eq_true rfl) (fun r9 J_44 hq9 => ?_)
        obtain ⟨rfl, m4, e4, f4⟩ := hq9
        refine tz_aload_n (pc := 47) dX12_normalOf_47 rfl rfl ?_
        refine tz_iload_n (pc := 48) dX12_normalOf_48 rfl rfl ?_
        refine tz_iload_n (pc := 49) dX12_normalOf_49 rfl rfl ?_
        refine tz_cV (pc := 50) (m_memoGets hl n _ _ _ (by omega) (by omega) m m4 ht hu) vl_X12_218 dX12_normalOf_50 o_164 rfl rfl (Nat.le_of_ble_eq_true rfl) ⟨(show 1 + 1 ≤ 12 + 1 * (r9 + 1) by omega), (show 8 + (3 + 11) + 40 * (1) ≤ 40 * (12 + 1 * (r9 + 1)) by omega)⟩ rfl rfl (Nat.le_of_ble_eq_true rfl) (Nat.le_of_ble_eq_true rfl) (fun r9 J_50 hq9 => ?_)
        obtain ⟨rfl, m5, f5⟩ := hq9
        refine tz_aload_n (pc := 53) dX12_normalOf_53 rfl rfl ?_
        refine tz_fR (pc := 54) dX12_normalOf_54 fl_X12_9 r_164_0 ?_
        refine tz_bipush (pc := 57) dX12_normalOf_57 (by decide) ?_
        refine tz_dup2 (pc := 59) dX12_normalOf_59 rfl rfl ?_
        refine tz_aL (pc := 60) (z := 61) (v := (J_50 165 61)) dX12_normalOf_60 a_165 rfl (by decide) rfl (fun r_60 => ?_)
        refine tz_iconst (pc := 61) dX12_normalOf_61 ?_
        refine tz_iadd (pc := 62) (v := (J_50 165 61) + 1) dX12_normalOf_62 rfl ?_
        refine tz_tw ?_
        have rw_63 := zw_rg ((J_50 165 61) + 1)
        refine tz_aS (pc := 63) (z := 61) dX12_normalOf_63 a_165 rfl (by decide) (zw_rg _) ?_
        refine tz_iload_n (pc := 64) dX12_normalOf_64 rfl rfl ?_
        exact tz_iret (pc := 65) (z := u) dX12_normalOf_65 rfl (Nat.le_of_ble_eq_true rfl) (Nat.le_of_ble_eq_true rfl) ⟨Nat.le_refl _, Nat.le_add_right _ _⟩ ⟨_, rfl, (by omega), ⟨m, ((NP.mmf hN (f5.tr f4) m5)).tr (NP.hit (NP.mmf hN (f5.tr f4) m5).1), fun _ _ => hu⟩⟩

theorem m_normR {l : Launch} {G : tb_G} (hl : l.stackTraces = false) (n : Nat) : ∀ r9 : Nat, (∀ (J : zJ) (t : Int) (hr_t : -2147483648 ≤ t ∧ t < 2147483648) (b r d s m : Int) (hN : NZ J b r d s m) (ht : 0 ≤ t ∧ t < m), (7 * (100 - J 164 34) + J 168 (b + t)).toNat < r9 → tz_Ok l G M_X12_normalOf (12 + 1 * r9) 0 0 [.ref 164, zi t] n J (zqi (fun z J' => ∃ m', NP J' J b r d s m m' ∧ (J' 164 21 = 0 → J' 164 34 ≤ 100 → 0 ≤ z ∧ z < m'))) zN) ∧ (∀ (J : zJ) (t : Int) (hr_t : -2147483648 ≤ t ∧ t < 2147483648) (b r d s m : Int) (hN : NZ J b r d s m) (ht : 0 ≤ t ∧ t < m) (h1 : J 164 34 ≤ 100), (7 * (100 - J 164 34)).toNat < r9 → tz_Ok l G M_X12_lessened (12 + 1 * r9) 0 0 [.ref 164, zi t] n J (zqi (fun z J' => ∃ m', NP J' J b r d s m m' ∧ (J' 164 21 = 0 → J' 164 34 ≤ 100 → 0 ≤ z ∧ z < m'))) zN) := by
  intro r9
  induction r9 with
  | zero => exact ⟨fun _ _ _ _ _ _ _ _ _ _ h => absurd h (Nat.not_lt_zero _), fun _ _ _ _ _ _ _ _ _ _ _ h => absurd h (Nat.not_lt_zero _)⟩
  | succ r9 ih => exact ⟨fun J t ht1 b r d s m hN ht h => m_normS hl n J t ht1 b r d s m r9 hN ht ih.1 ih.2 h, fun J t ht1 b r d s m hN ht h1 h => m_lessS hl n J t ht1 b r d s m r9 hN ht h1 ih.1 h⟩
theorem m_normal {l : Launch} {G : tb_G} (hl : l.stackTraces = false) (n : Nat) (J : zJ) (t : Int) (hr_t : -2147483648 ≤ t ∧ t < 2147483648) (b r d s m : Int) (hN : NZ J b r d s m) (ht : 0 ≤ t ∧ t < m) : tz_Ok l G M_X12_normalOf 730 0 0 [.ref 164, zi t] n J (zqi (fun z J' => ∃ m', NP J' J b r d s m m' ∧ (J' 164 21 = 0 → J' 164 34 ≤ 100 → 0 ≤ z ∧ z < m'))) zN := (m_normR hl n 718).1 J t hr_t b r d s m hN ht (by have := (hN.1.ar ht).2.2.1; have := hN.2.2.2; omega)
end
section
theorem mar_c1 {J' J : zJ} {b d t : Int} (f : zOf (zbut [174]) J' J) : mar J' b d t = mar J b d t := by
  unfold mar
  rw [f 166 rfl, f 170 rfl]
set_option maxHeartbeats 4000000 in
set_option maxRecDepth 100000 in
theorem m_settledR {l : Launch} {G : tb_G} (hl : l.stackTraces = false) (n : Nat) : ∀ (r9 : Nat) (J : zJ) (t : Int) (hr_t : -2147483648 ≤ t ∧ t < 2147483648) (b r d s m : Int) (hM : MS J b r d s m) (hR : MR (J 165) m) (ht : 0 ≤ t ∧ t < m), ((J 168 (b + t)).toNat) < r9 → tz_Ok l G M_X12_isSettled (12 + 1 * r9) 0 0 [.ref 164, zi t] n J (zqi (fun z J' => (z = 0 ∨ z = 1) ∧ zOf (zbut [174]) J' J)) zN := by
  intro r9
  induction r9 with
  | zero => intro J t hr_t b r d s m hM hR ht hm9; exact absurd hm9 (Nat.not_lt_zero _)
  | succ r9 ih =>
    intro J t hr_t b r d s m hM hR ht hm9
    refine tz_Ok.of hl (by decide +kernel) rfl (tb_c1 rfl) (Nat.le_of_ble_eq_true rfl) ?_
    show tz_At l G M_X12_isSettled (tb_rm (12 + 1 * (r9 + 1)) 0 0) none (tb_ZM G 0 0 (zQ n 0 (zqi (fun z J' => (z = 0 ∨ z = 1) ∧ zOf (zbut [174]) J' J))) (zX n 0 zN)) 0 0 n J 0 [some (.ref 164), some (zi t), none] []
    obtain ⟨hM1, hM2, hM3, hM4, hM5, hM6⟩ := id hM
    have hT := hM.told
    have ha := hM.ar ht
    have hR1 := hR.1
    refine tz_iconst (pc := 0) dX12_isSettled_0 ?_
    refine tz_istore_n (pc := 1) (L2 := [_, _, _]) dX12_isSettled_1 rfl (by decide) rfl ?_
    have loop2 : ∀ (f9 : Nat) (k : Int) (J1 : zJ), ((8 - k).toNat) < f9 → (0 ≤ k ∧ k ≤ 8) → (zOf (zbut [174]) J1 J) → tz_At l G M_X12_isSettled (tb_rm (12 + 1 * (r9 + 1)) 0 0) none (tb_ZM G 0 0 (zQ n 0 (zqi (fun z J' => (z = 0 ∨ z = 1) ∧ zOf (zbut [174]) J' J))) (zX n 0 zN)) 0 0 n J1 2 [some (.ref 164), some (zi t), some (zi k)] [] := by
      intro f9
      induction f9 with
      | zero => intro k J1 hm9; exact absurd hm9 (Nat.not_lt_zero _)
      | succ f9 ih2 =>
        intro k J1 hm2 hk f1
        refine tz_iload_n (pc := 2) dX12_isSettled_2 rfl rfl ?_
        refine tz_aload_n (pc := 3) dX12_isSettled_3 rfl rfl ?_
        refine tz_fR (pc := 4) dX12_isSettled_4 fl_X12_9 r_164_0 ?_
        refine tz_bipush (pc := 7) dX12_isSettled_7 (by decide) ?_
        refine tz_aL (pc := 9) (z := 9) (v := (J 165 9)) dX12_isSettled_9 a_165 rfl (by decide) (Eq.trans (congrFun (f1 165 rfl) 9) rfl) (fun r_9 => ?_)
        refine tz_icmp_ge (pc := 10) (tgt := 40) dX12_isSettled_10 (by decide) (by omega) (by omega) (fun h_10 => ?_) (fun h_10 => ?_)
        · refine tz_iconst (pc := 40) dX12_isSettled_40 ?_
          refine tz_istore_n (pc := 41) (L2 := [_, _, _]) dX12_isSettled_41 rfl (by decide) rfl ?_
          have loop42 : ∀ (f9 : Nat) (i : Int) (J3 : zJ), ((3 - i).toNat) < f9 → (0 ≤ i ∧ i ≤ 3) → (zOf (zbut [174]) J3 J) → tz_At l G M_X12_isSettled (tb_rm (12 + 1 * (r9 + 1)) 0 0) none (tb_ZM G 0 0 (zQ n 0 (zqi (fun z J' => (z = 0 ∨ z = 1) ∧ zOf (zbut [174]) J' J))) (zX n 0 zN)) 0 0 n J3 42 [some (.ref 164), some (zi t), some (zi i)] [] := by
            intro f9
            induction f9 with
            | zero => intro i J3 hm9; exact absurd hm9 (Nat.not_lt_zero _)
            | succ f9 ih42 =>
              intro i J3 hm42 hi f3
              refine tz_iload_n (pc := 42) dX12_isSettled_42 rfl rfl ?_
              refine tz_aload_n (pc := 43) dX12_isSettled_43 rfl rfl ?_
              refine tz_iload_n (pc := 44) dX12_isSettled_44 rfl rfl ?_
              refine tz_cV (pc := 45) (m_arity hl n _ _ (by omega) b r d s m (hM.c1 f3 (by decide)) ht) vl_X12_111 dX12_isSettled_45 o_164 rfl rfl (Nat.le_of_ble_eq_true rfl) ⟨(show 2 + 1 ≤ 12 + 1 * (r9 + 1) by omega), (show 8 + (2 + 11) + 40 * (2) ≤ 40 * (12 + 1 * (r9 + 1)) by omega)⟩ rfl rfl (Nat.le_of_ble_eq_true rfl) (Nat.le_of_ble_eq_true rfl) (fun r9 J_45 hq9 => ?_)
              obtain ⟨za, rfl, hz_45, rfl, hv⟩ := hq9
              rw [mar_c1 (J := J) f3] at hv
              refine tz_icmp_ge (pc := 48) (tgt := 72) dX12_isSettled_48 (by decide) (by omega) (by omega) (fun h_48 => ?_) (fun h_48 => ?_)
              · refine tz_iconst (pc := 72) dX12_isSettled_72 ?_
                exact tz_zret (pc := 73) (z := 1) dX12_isSettled_73 rfl (Or.inr rfl) (Nat.le_of_ble_eq_true rfl) (Nat.le_of_ble_eq_true rfl) ⟨Nat.le_refl _, Nat.le_add_right _ _⟩ ⟨_, rfl, (by decide), ⟨by omega, f3⟩⟩
              · refine tz_aload_n (pc := 51) dX12_isSettled_51 rfl rfl ?_
                refine tz_aload_n (pc := 52) dX12_isSettled_52 rfl rfl ?_
                refine tz_iload_n (pc := 53) dX12_isSettled_53 rfl rfl ?_
                refine tz_iload_n (pc := 54) dX12_isSettled_54 rfl rfl ?_
                have hA := hM.arg (t := t) (i := i) ht (by omega)
                refine tz_cV (pc := 55) (m_arg hl n _ _ _ (by omega) (by omega) b r d s m (hM.c1 f3 (by decide)) ht (by omega)) vl_X12_88 dX12_isSettled_55 o_164 rfl rfl (Nat.le_of_ble_eq_true rfl) ⟨(show 0 + 1 ≤ 12 + 1 * (r9 + 1) by omega), (show 8 + (3 + 11) + 40 * (0) ≤ 40 * (12 + 1 * (r9 + 1)) by omega)⟩ rfl rfl (Nat.le_of_ble_eq_true rfl) (Nat.le_of_ble_eq_true rfl) (fun r9 J_55 hq9 => ?_)
                obtain ⟨zb, rfl, hz_55, rfl, hw⟩ := hq9
                rw [f3 167 rfl] at hw
                refine tz_cV (pc := 58) (ih _ _ (by omega) b r d s m (hM.c1 f3 (by decide)) (by rw [f3 165 rfl]; exact hR) (by omega) (by rw [f3 168 rfl, ← hw]; omega)) vl_X12_230 dX12_isSettled_58 o_164 rfl rfl (Nat.le_of_ble_eq_true rfl) ⟨(show (12 + 1 * r9) + 1 ≤ 12 + 1 * (r9 + 1) by omega), (show 8 + (3 + 11) + 40 * ((12 + 1 * r9)) ≤ 40 * (12 + 1 * (r9 + 1)) by omega)⟩ rfl rfl (Nat.le_of_ble_eq_true rfl) (Nat.le_of_ble_eq_true rfl) (fun r9 J_58 hq9 => ?_)
                obtain ⟨z_58, rfl, hz_58, b4, f4⟩ := hq9
                refine tz_if_ne (pc := 61) (tgt := 66) dX12_isSettled_61 (by decide) (by omega) (fun h_61 => ?_) (fun h_61 => ?_)
                · refine tz_iinc (pc := 66) (z := i + 1) (L2 := [_, _, _]) dX12_isSettled_66 rfl (by omega) rfl ?_
                  refine tz_goto (pc := 69) (tgt := 42) dX12_isSettled_69 (by decide) ?_
                  exact ih42 (i + 1) _ (by omega) (by omega) (f4.tr f3)
                · refine tz_iconst (pc := 64) dX12_isSettled_64 ?_
                  exact tz_zret (pc := 65) (z := 0) dX12_isSettled_65 rfl (Or.inl rfl) (Nat.le_of_ble_eq_true rfl) (Nat.le_of_ble_eq_true rfl) ⟨Nat.le_refl _, Nat.le_add_right _ _⟩ ⟨_, rfl, (by decide), ⟨by omega, f4.tr f3⟩⟩
          exact loop42 _ 0 _ (Nat.lt_succ_self _) (by omega) f1
        · refine tz_aload_n (pc := 13) dX12_isSettled_13 rfl rfl ?_
          refine tz_aload_n (pc := 14) dX12_isSettled_14 rfl rfl ?_
          refine tz_fR (pc := 15) dX12_isSettled_15 fl_X12_9 r_164_0 ?_
          refine tz_bipush (pc := 18) dX12_isSettled_18 (by decide) ?_
          refine tz_iconst (pc := 20) dX12_isSettled_20 ?_
          refine tz_iload_n (pc := 21) dX12_isSettled_21 rfl rfl ?_
          refine tz_imul (pc := 22) (v := 2 * k) dX12_isSettled_22 rfl ?_
          refine tz_iadd (pc := 23) (v := 10 + (2 * k)) dX12_isSettled_23 rfl ?_
          refine tz_aL (pc := 24) (z := (10 + (2 * k))) (v := (J 165 (10 + (2 * k)))) dX12_isSettled_24 a_165 rfl (by omega) (Eq.trans (congrFun (f1 165 rfl) (10 + (2 * k))) rfl) (fun r_24 => ?_)
          refine tz_iload_n (pc := 25) dX12_isSettled_25 rfl rfl ?_
          have hr9 := hR.2 k (by omega) (by omega)
          refine tz_cV (pc := 26) (m_doesMatch hl n _ _ _ (by omega) (by omega) b r d s m (hM.c1 f1 (by decide)) (by omega) ht) vl_X12_227 dX12_isSettled_26 o_164 rfl rfl (Nat.le_of_ble_eq_true rfl) ⟨(show 11 + 1 ≤ 12 + 1 * (r9 + 1) by omega), (show 8 + (4 + 11) + 40 * (11) ≤ 40 * (12 + 1 * (r9 + 1)) by omega)⟩ rfl rfl (Nat.le_of_ble_eq_true rfl) (Nat.le_of_ble_eq_true rfl) (fun r9 J_26 hq9 => ?_)
          obtain ⟨z_26, rfl, hz_26, b2, f2, g2⟩ := hq9
          refine tz_if_eq (pc := 29) (tgt := 34) dX12_isSettled_29 (by decide) (by omega) (fun h_29 => ?_) (fun h_29 => ?_)
          · refine tz_iinc (pc := 34) (z := k + 1) (L2 := [_, _, _]) dX12_isSettled_34 rfl (by omega) rfl ?_
            refine tz_goto (pc := 37) (tgt := 2) dX12_isSettled_37 (by decide) ?_
            exact ih2 (k + 1) _ (by omega) (by omega) (f2.tr f1)
          · refine tz_iconst (pc := 32) dX12_isSettled_32 ?_
            exact tz_zret (pc := 33) (z := 0) dX12_isSettled_33 rfl (Or.inl rfl) (Nat.le_of_ble_eq_true rfl) (Nat.le_of_ble_eq_true rfl) ⟨Nat.le_refl _, Nat.le_add_right _ _⟩ ⟨_, rfl, (by decide), ⟨by omega, f2.tr f1⟩⟩
    exact loop2 _ 0 _ (Nat.lt_succ_self _) (by omega) zOf.rf

theorem m_settled {l : Launch} {G : tb_G} (hl : l.stackTraces = false) (n : Nat) (J : zJ) (t : Int) (hr_t : -2147483648 ≤ t ∧ t < 2147483648) (b r d s m : Int) (hM : MS J b r d s m) (hR : MR (J 165) m) (ht : 0 ≤ t ∧ t < m) : tz_Ok l G M_X12_isSettled 19 0 0 [.ref 164, zi t] n J (zqi (fun z J' => (z = 0 ∨ z = 1) ∧ zOf (zbut [174]) J' J)) zN := m_settledR hl n 7 J t hr_t b r d s m hM hR ht (by have := (hM.ar ht).2.2.1; omega)
set_option maxHeartbeats 4000000 in
set_option maxRecDepth 100000 in
theorem m_entryOf {l : Launch} {G : tb_G} (hl : l.stackTraces = false) (n : Nat) (J : zJ) (t : Int) (hr_t : -2147483648 ≤ t ∧ t < 2147483648)  (h0 : 0 ≤ J 164 16 ∧ J 164 16 ≤ 126) (h1 : 0 ≤ J 165 (J 164 16 + 26) ∧ J 165 (J 164 16 + 26) ≤ 12) : tz_Ok l G M_X12_entryOf 0 0 0 [.ref 164, zi t] n J (zqi (fun z J' => J = J' ∧ (z = -1 ∨ (0 ≤ z ∧ z < J 165 (J 164 16 + 26))))) zN := by
  refine tz_Ok.of hl (by decide +kernel) rfl (tb_c1 rfl) (Nat.le_of_ble_eq_true rfl) ?_
  show tz_At l G M_X12_entryOf (tb_rm 0 0 0) none (tb_ZM G 0 0 (zQ n 0 (zqi (fun z J' => J = J' ∧ (z = -1 ∨ (0 ≤ z ∧ z < J 165 (J 164 16 + 26)))))) (zX n 0 zN)) 0 0 n J 0 [some (.ref 164), some (zi t), none] []
  refine tz_iconst (pc := 0) dX12_entryOf_0 ?_
  refine tz_istore_n (pc := 1) (L2 := [_, _, _]) dX12_entryOf_1 rfl (by decide) rfl ?_
  have loop2 : ∀ (f9 : Nat) (k : Int), ((12 - k).toNat) < f9 → (0 ≤ k ∧ k ≤ 12) → tz_At l G M_X12_entryOf (tb_rm 0 0 0) none (tb_ZM G 0 0 (zQ n 0 (zqi (fun z J' => J = J' ∧ (z = -1 ∨ (0 ≤ z ∧ z < J 165 (J 164 16 + 26)))))) (zX n 0 zN)) 0 0 n J 2 [some (.ref 164), some (zi t), some (zi k)] [] := by
    intro f9
    induction f9 with
    | zero => intro k hm9; exact absurd hm9 (Nat.not_lt_zero _)
    | succ f9 ih2 =>
      intro k hm2 hk
      refine tz_iload_n (pc := 2) dX12_entryOf_2 rfl rfl ?_
      refine tz_aload_n (pc := 3) dX12_entryOf_3 rfl rfl ?_
      refine tz_fR (pc := 4) dX12_entryOf_4 fl_X12_9 r_164_0 ?_
      refine tz_aload_n (pc := 7) dX12_entryOf_7 rfl rfl ?_
      refine tz_fI (pc := 8) (kz := 16) (v := (J 164 16)) dX12_entryOf_8 fl_X12_85 i_164_16 rfl rfl (fun r_8 => ?_)
      refine tz_bipush (pc := 11) dX12_entryOf_11 (by decide) ?_
      refine tz_iadd (pc := 13) (v := (J 164 16) + 26) dX12_entryOf_13 rfl ?_
      refine tz_aL (pc := 14) (z := ((J 164 16) + 26)) (v := (J 165 ((J 164 16) + 26))) dX12_entryOf_14 a_165 rfl (by omega) rfl (fun r_14 => ?_)
      refine tz_icmp_ge (pc := 15) (tgt := 44) dX12_entryOf_15 (by decide) (by omega) (by omega) (fun h_15 => ?_) (fun h_15 => ?_)
      · refine tz_iconst (pc := 44) dX12_entryOf_44 ?_
        exact tz_iret (pc := 45) (z := (-1)) dX12_entryOf_45 rfl (Nat.le_of_ble_eq_true rfl) (Nat.le_of_ble_eq_true rfl) ⟨Nat.le_refl _, Nat.le_add_right _ _⟩ ⟨_, rfl, (by decide), ⟨rfl, by omega⟩⟩
      · refine tz_aload_n (pc := 18) dX12_entryOf_18 rfl rfl ?_
        refine tz_fR (pc := 19) dX12_entryOf_19 fl_X12_9 r_164_0 ?_
        refine tz_aload_n (pc := 22) dX12_entryOf_22 rfl rfl ?_
        refine tz_fI (pc := 23) (kz := 16) (v := (J 164 16)) dX12_entryOf_23 fl_X12_85 i_164_16 rfl rfl (fun r_23 => ?_)
        refine tz_bipush (pc := 26) dX12_entryOf_26 (by decide) ?_
        refine tz_iadd (pc := 28) (v := (J 164 16) + 27) dX12_entryOf_28 rfl ?_
        refine tz_iload_n (pc := 29) dX12_entryOf_29 rfl rfl ?_
        refine tz_iadd (pc := 30) (v := ((J 164 16) + 27) + k) dX12_entryOf_30 rfl ?_
        refine tz_aL (pc := 31) (z := (((J 164 16) + 27) + k)) (v := (J 165 (((J 164 16) + 27) + k))) dX12_entryOf_31 a_165 rfl (by omega) rfl (fun r_31 => ?_)
        refine tz_iload_n (pc := 32) dX12_entryOf_32 rfl rfl ?_
        refine tz_icmp_ne (pc := 33) (tgt := 38) dX12_entryOf_33 (by decide) (by omega) (by omega) (fun h_33 => ?_) (fun h_33 => ?_)
        · refine tz_iinc (pc := 38) (z := k + 1) (L2 := [_, _, _]) dX12_entryOf_38 rfl (by omega) rfl ?_
          refine tz_goto (pc := 41) (tgt := 2) dX12_entryOf_41 (by decide) ?_
          exact ih2 (k + 1) (by omega) (by omega)
        · refine tz_iload_n (pc := 36) dX12_entryOf_36 rfl rfl ?_
          exact tz_iret (pc := 37) (z := k) dX12_entryOf_37 rfl (Nat.le_of_ble_eq_true rfl) (Nat.le_of_ble_eq_true rfl) ⟨Nat.le_refl _, Nat.le_add_right _ _⟩ ⟨_, rfl, (by omega), ⟨rfl, by omega⟩⟩
  exact loop2 _ 0 (Nat.lt_succ_self _) (by omega)

set_option maxHeartbeats 4000000 in
set_option maxRecDepth 100000 in
theorem m_uses {l : Launch} {G : tb_G} (hl : l.stackTraces = false) (n : Nat) (J : zJ) (t : Int) (hr_t : -2147483648 ≤ t ∧ t < 2147483648) (b r d s m : Int) (hM : MS J b r d s m)  : tz_Ok l G M_X12_usesOf 3 0 0 [.ref 164, zi t] n J (zqi (fun z J' => J = J' ∧ 0 ≤ z)) zN := by
  refine tz_Ok.of hl (by decide +kernel) rfl (tb_c1 rfl) (Nat.le_of_ble_eq_true rfl) ?_
  show tz_At l G M_X12_usesOf (tb_rm 3 0 0) none (tb_ZM G 0 0 (zQ n 0 (zqi (fun z J' => J = J' ∧ 0 ≤ z))) (zX n 0 zN)) 0 0 n J 0 [some (.ref 164), some (zi t), none, none, none, none] []
  obtain ⟨hM1, hM2, hM3, hM4, hM5, hM6⟩ := id hM
  have hT := hM.told
  refine tz_iconst (pc := 0) dX12_usesOf_0 ?_
  refine tz_istore_n (pc := 1) (L2 := [_, _, _, _, _, _]) dX12_usesOf_1 rfl (by decide) rfl ?_
  refine tz_iconst (pc := 2) dX12_usesOf_2 ?_
  refine tz_istore_n (pc := 3) (L2 := [_, _, _, _, _, _]) dX12_usesOf_3 rfl (by decide) rfl ?_
  have loop4 : ∀ (f9 : Nat) (q : Int) (k : Int) (d4 : Option Value) (d5 : Option Value), ((m - k).toNat) < f9 → (0 ≤ q ∧ q ≤ k) → (0 ≤ k ∧ k ≤ m) → tz_At l G M_X12_usesOf (tb_rm 3 0 0) none (tb_ZM G 0 0 (zQ n 0 (zqi (fun z J' => J = J' ∧ 0 ≤ z))) (zX n 0 zN)) 0 0 n J 4 [some (.ref 164), some (zi t), some (zi q), some (zi k), d4, d5] [] := by
    intro f9
    induction f9 with
    | zero => intro q k d4 d5 hm9; exact absurd hm9 (Nat.not_lt_zero _)
    | succ f9 ih4 =>
      intro q k d4 d5 hm4 hq hk
      refine tz_iload_n (pc := 4) dX12_usesOf_4 rfl rfl ?_
      refine tz_aload_n (pc := 5) dX12_usesOf_5 rfl rfl ?_
      refine tz_cV (pc := 6) (m_many hl n _ b r d s m hM) vl_X12_96 dX12_usesOf_6 o_164 rfl rfl (Nat.le_of_ble_eq_true rfl) ⟨(Nat.le_of_ble_eq_true rfl), (Nat.le_of_ble_eq_true rfl)⟩ rfl rfl (Nat.le_of_ble_eq_true rfl) (Nat.le_of_ble_eq_true rfl) (fun r9 J_6 hq9 => ?_)
      obtain ⟨z_6, rfl, hz_6, rfl, rfl⟩ := hq9
      refine tz_icmp_ge (pc := 9) (tgt := 76) dX12_usesOf_9 (by decide) (by omega) (by omega) (fun h_9 => ?_) (fun h_9 => ?_)
      · refine tz_iload_n (pc := 76) dX12_usesOf_76 rfl rfl ?_
        exact tz_iret (pc := 77) (z := q) dX12_usesOf_77 rfl (Nat.le_of_ble_eq_true rfl) (Nat.le_of_ble_eq_true rfl) ⟨Nat.le_refl _, Nat.le_add_right _ _⟩ ⟨_, rfl, (by omega), ⟨rfl, by omega⟩⟩
      · refine tz_iconst (pc := 12) dX12_usesOf_12 ?_
        refine tz_istore (pc := 13) (L2 := [_, _, _, _, _, _]) dX12_usesOf_13 (by decide) rfl ?_
        refine tz_iconst (pc := 15) dX12_usesOf_15 ?_
        refine tz_istore (pc := 16) (L2 := [_, _, _, _, _, _]) dX12_usesOf_16 (by decide) rfl ?_
        have loop18 : ∀ (f9 : Nat) (e : Int) (i : Int), ((3 - i).toNat) < f9 → (e = 0 ∨ e = 1) → (0 ≤ i ∧ i ≤ 3) → tz_At l G M_X12_usesOf (tb_rm 3 0 0) none (tb_ZM G 0 0 (zQ n 0 (zqi (fun z J' => J = J' ∧ 0 ≤ z))) (zX n 0 zN)) 0 0 n J 18 [some (.ref 164), some (zi t), some (zi q), some (zi k), some (zi e), some (zi i)] [] := by
          intro f9
          induction f9 with
          | zero => intro e i hm9; exact absurd hm9 (Nat.not_lt_zero _)
          | succ f9 ih18 =>
            intro e i hm18 he hi
            have ha9 := hM.ar (t := k) (by omega)
            refine tz_iload (pc := 18) dX12_usesOf_18 rfl ?_
            refine tz_aload_n (pc := 20) dX12_usesOf_20 rfl rfl ?_
            refine tz_iload_n (pc := 21) dX12_usesOf_21 rfl rfl ?_
            refine tz_cV (pc := 22) (m_arity hl n _ _ (by omega) b r d s m hM (by omega)) vl_X12_111 dX12_usesOf_22 o_164 rfl rfl (Nat.le_of_ble_eq_true rfl) ⟨(Nat.le_of_ble_eq_true rfl), (Nat.le_of_ble_eq_true rfl)⟩ rfl rfl (Nat.le_of_ble_eq_true rfl) (Nat.le_of_ble_eq_true rfl) (fun r9 J_22 hq9 => ?_)
            obtain ⟨z_22, rfl, hz_22, rfl, rfl⟩ := hq9
            refine tz_icmp_ge (pc := 25) (tgt := 57) dX12_usesOf_25 (by decide) (by omega) (by omega) (fun h_25 => ?_) (fun h_25 => ?_)
            · refine tz_iload_n (pc := 57) dX12_usesOf_57 rfl rfl ?_
              refine tz_iload (pc := 58) dX12_usesOf_58 rfl ?_
              refine tz_if_eq (pc := 60) (tgt := 67) dX12_usesOf_60 (by decide) (by omega) (fun h_60 => ?_) (fun h_60 => ?_)
              · refine tz_iconst (pc := 67) dX12_usesOf_67 ?_
                refine tz_iadd (pc := 68) (v := q + 0) dX12_usesOf_68 rfl ?_
                refine tz_istore_n (pc := 69) (L2 := [_, _, _, _, _, _]) dX12_usesOf_69 rfl (by decide) rfl ?_
                refine tz_iinc (pc := 70) (z := k + 1) (L2 := [_, _, _, _, _, _]) dX12_usesOf_70 rfl (by omega) rfl ?_
                refine tz_goto (pc := 73) (tgt := 4) dX12_usesOf_73 (by decide) ?_
                exact ih4 _ (k + 1) _ _ (by omega) (by omega) (by omega)
              · refine tz_iconst (pc := 63) dX12_usesOf_63 ?_
                refine tz_goto (pc := 64) (tgt := 68) dX12_usesOf_64 (by decide) ?_
                refine tz_iadd (pc := 68) (v := q + 1) dX12_usesOf_68 rfl ?_
                refine tz_istore_n (pc := 69) (L2 := [_, _, _, _, _, _]) dX12_usesOf_69 rfl (by decide) rfl ?_
                refine tz_iinc (pc := 70) (z := k + 1) (L2 := [_, _, _, _, _, _]) dX12_usesOf_70 rfl (by omega) rfl ?_
                refine tz_goto (pc := 73) (tgt := 4) dX12_usesOf_73 (by decide) ?_
                exact ih4 _ (k + 1) _ _ (by omega) (by omega) (by omega)
            · refine tz_iload (pc := 28) dX12_usesOf_28 rfl ?_
              refine tz_if_ne (pc := 30) (tgt := 44) dX12_usesOf_30 (by decide) (by omega) (fun h_30 => ?_) (fun h_30 => ?_)
              · refine tz_iconst (pc := 44) dX12_usesOf_44 ?_
                refine tz_goto (pc := 45) (tgt := 49) dX12_usesOf_45 (by decide) ?_
                refine tz_istore (pc := 49) (L2 := [_, _, _, _, _, _]) dX12_usesOf_49 (by decide) rfl ?_
                refine tz_iinc (pc := 51) (z := i + 1) (L2 := [_, _, _, _, _, _]) dX12_usesOf_51 rfl (by omega) rfl ?_
                refine tz_goto (pc := 54) (tgt := 18) dX12_usesOf_54 (by decide) ?_
                exact ih18 _ (i + 1) (by omega) (by omega) (by omega)
              · refine tz_aload_n (pc := 33) dX12_usesOf_33 rfl rfl ?_
                refine tz_iload_n (pc := 34) dX12_usesOf_34 rfl rfl ?_
                refine tz_iload (pc := 35) dX12_usesOf_35 rfl ?_
                refine tz_cV (pc := 37) (m_arg hl n _ _ _ (by omega) (by omega) b r d s m hM (by omega) (by omega)) vl_X12_88 dX12_usesOf_37 o_164 rfl rfl (Nat.le_of_ble_eq_true rfl) ⟨(Nat.le_of_ble_eq_true rfl), (Nat.le_of_ble_eq_true rfl)⟩ rfl rfl (Nat.le_of_ble_eq_true rfl) (Nat.le_of_ble_eq_true rfl) (fun r9 J_37 hq9 => ?_)
                obtain ⟨z_37, rfl, hz_37, rfl, rfl⟩ := hq9
                refine tz_iload_n (pc := 40) dX12_usesOf_40 rfl rfl ?_
                refine tz_icmp_ne (pc := 41) (tgt := 48) dX12_usesOf_41 (by decide) (by omega) (by omega) (fun h_41 => ?_) (fun h_41 => ?_)
                · refine tz_iconst (pc := 48) dX12_usesOf_48 ?_
                  refine tz_istore (pc := 49) (L2 := [_, _, _, _, _, _]) dX12_usesOf_49 (by decide) rfl ?_
                  refine tz_iinc (pc := 51) (z := i + 1) (L2 := [_, _, _, _, _, _]) dX12_usesOf_51 rfl (by omega) rfl ?_
                  refine tz_goto (pc := 54) (tgt := 18) dX12_usesOf_54 (by decide) ?_
                  exact ih18 _ (i + 1) (by omega) (by omega) (by omega)
                · refine tz_iconst (pc := 44) dX12_usesOf_44 ?_
                  refine tz_goto (pc := 45) (tgt := 49) dX12_usesOf_45 (by decide) ?_
                  refine tz_istore (pc := 49) (L2 := [_, _, _, _, _, _]) dX12_usesOf_49 (by decide) rfl ?_
                  refine tz_iinc (pc := 51) (z := i + 1) (L2 := [_, _, _, _, _, _]) dX12_usesOf_51 rfl (by omega) rfl ?_
                  refine tz_goto (pc := 54) (tgt := 18) dX12_usesOf_54 (by decide) ?_
                  exact ih18 _ (i + 1) (by omega) (by omega) (by omega)
        exact loop18 _ 0 0 (Nat.lt_succ_self _) (by omega) (by omega)
  exact loop4 _ 0 0 none none (Nat.lt_succ_self _) (by omega) (by omega)

end
section
theorem f171_up {J1 J : zJ} {x v : Int} (f : zOf (zbut [171]) J1 J ∧ ∀ k, ¬ k = x → J1 171 k = J 171 k) : zOf (zbut [171]) (zup J1 171 x v) J ∧ ∀ k, ¬ k = x → zup J1 171 x v 171 k = J 171 k := ⟨zOf.up rfl f.1, fun k hk => (zup_ne hk).trans (f.2 k hk)⟩
theorem f171_end {J1 J : zJ} {x : Int} (f : zOf (zbut [171]) J1 J ∧ ∀ k, ¬ k = x → J1 171 k = J 171 k) : J = zup J1 171 x (J 171 x) := by
  funext c
  by_cases e : c = 171
  · subst e
    funext k
    by_cases ek : k = x
    · subst ek
      exact zup_at.symm
    · rw [zup_ne ek]
      exact (f.2 k ek).symm
  · rw [zup_nc e]
    exact (f.1 c (by simp [zbut, e])).symm
theorem mmsz_cl {J' J : zJ} {b d t : Int} (f : zOf (zbut [164, 177, 178, 179, 180]) J' J) : msz J' b d t = msz J b d t := by
  have e : mar J' b d = mar J b d := funext fun t => mar_cl f
  unfold msz
  rw [e, show mag J' b = mag J b by unfold mag; rw [f 167 rfl]]
set_option maxHeartbeats 4000000 in
set_option maxRecDepth 100000 in
theorem m_meet {l : Launch} {G : tb_G} (hl : l.stackTraces = false) (n : Nat) (J : zJ) (x : Int) (hr_x : -2147483648 ≤ x ∧ x < 2147483648) (b r d s m : Int) (hM : MS J b r d s m) (hR : MR (J 165) m) : tz_Ok l G M_X12_meetings 809 0 0 [.ref 164, zi x] n J (zqi (fun z J' => zOf (zbut [164, 177, 178, 179, 180]) J' J ∧ ∀ k, ¬ k = 30 → J' 164 k = J 164 k)) zN := by
  refine tz_Ok.of hl (by decide +kernel) rfl (tb_c1 rfl) (Nat.le_of_ble_eq_true rfl) ?_
  show tz_At l G M_X12_meetings (tb_rm 809 0 0) none (tb_ZM G 0 0 (zQ n 0 (zqi (fun z J' => zOf (zbut [164, 177, 178, 179, 180]) J' J ∧ ∀ k, ¬ k = 30 → J' 164 k = J 164 k))) (zX n 0 zN)) 0 0 n J 0 [some (.ref 164), some (zi x), none, none, none, none, none, none] []
  obtain ⟨hM1, hM2, hM3, hM4, hM5, hM6⟩ := id hM
  have hT := hM.told
  have hR1 := hR.1
  refine tz_iconst (pc := 0) dX12_meetings_0 ?_
  refine tz_istore_n (pc := 1) (L2 := [_, _, _, _, _, _, _, _]) dX12_meetings_1 rfl (by decide) rfl ?_
  refine tz_iconst (pc := 2) dX12_meetings_2 ?_
  refine tz_istore_n (pc := 3) (L2 := [_, _, _, _, _, _, _, _]) dX12_meetings_3 rfl (by decide) rfl ?_
  have loop4 : ∀ (f9 : Nat) (q : Int) (k : Int) (d4 : Option Value) (d5 : Option Value) (d6 : Option Value) (d7 : Option Value) (J1 : zJ), ((8 - k).toNat) < f9 → (0 ≤ q ∧ q ≤ 2912 * k) → (0 ≤ k ∧ k ≤ 8) → (zOf (zbut [164, 177, 178, 179, 180]) J1 J ∧ ∀ k, ¬ k = 30 → J1 164 k = J 164 k) → tz_At l G M_X12_meetings (tb_rm 809 0 0) none (tb_ZM G 0 0 (zQ n 0 (zqi (fun z J' => zOf (zbut [164, 177, 178, 179, 180]) J' J ∧ ∀ k, ¬ k = 30 → J' 164 k = J 164 k))) (zX n 0 zN)) 0 0 n J1 4 [some (.ref 164), some (zi x), some (zi q), some (zi k), d4, d5, d6, d7] [] := by
    intro f9
    induction f9 with
    | zero => intro q k d4 d5 d6 d7 J1 hm9; exact absurd hm9 (Nat.not_lt_zero _)
    | succ f9 ih4 =>
      intro q k d4 d5 d6 d7 J1 hm4 hq hk f1
      refine tz_iload_n (pc := 4) dX12_meetings_4 rfl rfl ?_
      refine tz_aload_n (pc := 5) dX12_meetings_5 rfl rfl ?_
      refine tz_fR (pc := 6) dX12_meetings_6 fl_X12_9 r_164_0 ?_
      refine tz_bipush (pc := 9) dX12_meetings_9 (by decide) ?_
      refine tz_aL (pc := 11) (z := 9) (v := (J 165 9)) dX12_meetings_11 a_165 rfl (by decide) (Eq.trans (congrFun (f1.1 165 rfl) 9) rfl) (fun r_11 => ?_)
      refine tz_icmp_ge (pc := 12) (tgt := 151) dX12_meetings_12 (by decide) (by omega) (by omega) (fun h_12 => ?_) (fun h_12 => ?_)
      · refine tz_iload_n (pc := 151) dX12_meetings_151 rfl rfl ?_
        refine tz_if_eq (pc := 152) (tgt := 159) dX12_meetings_152 (by decide) (by omega) (fun h_152 => ?_) (fun h_152 => ?_)
        · refine tz_iload_n (pc := 159) dX12_meetings_159 rfl rfl ?_
          exact tz_iret (pc := 160) (z := q) dX12_meetings_160 rfl (Nat.le_of_ble_eq_true rfl) (Nat.le_of_ble_eq_true rfl) ⟨Nat.le_refl _, Nat.le_add_right _ _⟩ ⟨_, rfl, (by omega), f1⟩
        · refine tz_iconst (pc := 155) dX12_meetings_155 ?_
          refine tz_goto (pc := 156) (tgt := 160) dX12_meetings_156 (by decide) ?_
          exact tz_iret (pc := 160) (z := (-1)) dX12_meetings_160 rfl (Nat.le_of_ble_eq_true rfl) (Nat.le_of_ble_eq_true rfl) ⟨Nat.le_refl _, Nat.le_add_right _ _⟩ ⟨_, rfl, (by decide), f1⟩
      · refine tz_aload_n (pc := 15) dX12_meetings_15 rfl rfl ?_
        refine tz_fR (pc := 16) dX12_meetings_16 fl_X12_9 r_164_0 ?_
        refine tz_bipush (pc := 19) dX12_meetings_19 (by decide) ?_
        refine tz_iconst (pc := 21) dX12_meetings_21 ?_
        refine tz_iload_n (pc := 22) dX12_meetings_22 rfl rfl ?_
        refine tz_imul (pc := 23) (v := 2 * k) dX12_meetings_23 rfl ?_
        refine tz_iadd (pc := 24) (v := 10 + (2 * k)) dX12_meetings_24 rfl ?_
        refine tz_aL (pc := 25) (z := (10 + (2 * k))) (v := (J 165 (10 + (2 * k)))) dX12_meetings_25 a_165 rfl (by omega) (Eq.trans (congrFun (f1.1 165 rfl) (10 + (2 * k))) rfl) (fun r_25 => ?_)
        have hA := hR.2 k (by omega) (by omega)
        refine tz_istore (pc := 26) (L2 := [_, _, _, _, _, _, _, _]) dX12_meetings_26 (by decide) rfl ?_
        refine tz_iconst (pc := 28) dX12_meetings_28 ?_
        refine tz_istore (pc := 29) (L2 := [_, _, _, _, _, _, _, _]) dX12_meetings_29 (by decide) rfl ?_
        have loop31 : ∀ (f9 : Nat) (q2 : Int) (p : Int) (e6 : Option Value) (e7 : Option Value) (J2 : zJ), ((364 - p).toNat) < f9 → (0 ≤ q2 ∧ q2 ≤ 2912 * k + 8 * p) → (0 ≤ p ∧ p ≤ 364) → (zOf (zbut [164, 177, 178, 179, 180]) J2 J ∧ ∀ k, ¬ k = 30 → J2 164 k = J 164 k) → tz_At l G M_X12_meetings (tb_rm 809 0 0) none (tb_ZM G 0 0 (zQ n 0 (zqi (fun z J' => zOf (zbut [164, 177, 178, 179, 180]) J' J ∧ ∀ k, ¬ k = 30 → J' 164 k = J 164 k))) (zX n 0 zN)) 0 0 n J2 31 [some (.ref 164), some (zi x), some (zi q2), some (zi k), some (zi (J 165 (10 + (2 * k)))), some (zi p), e6, e7] [] := by
          intro f9
          induction f9 with
          | zero => intro q2 p e6 e7 J2 hm9; exact absurd hm9 (Nat.not_lt_zero _)
          | succ f9 ih31 =>
            intro q2 p e6 e7 J2 hm31 hq2 hp f2
            refine tz_iload (pc := 31) dX12_meetings_31 rfl ?_
            refine tz_aload_n (pc := 33) dX12_meetings_33 rfl rfl ?_
            refine tz_iload (pc := 34) dX12_meetings_34 rfl ?_
            refine tz_cV (pc := 36) (m_size hl n _ _ (by omega) b r d s m (hM.cl f2.1 f2.2) hA.1) vl_X12_114 dX12_meetings_36 o_164 rfl rfl (Nat.le_of_ble_eq_true rfl) ⟨(Nat.le_of_ble_eq_true rfl), (Nat.le_of_ble_eq_true rfl)⟩ rfl rfl (Nat.le_of_ble_eq_true rfl) (Nat.le_of_ble_eq_true rfl) (fun r9 J_36 hq9 => ?_)
            obtain ⟨zs, rfl, hz_36, rfl, hz⟩ := hq9
            rw [mmsz_cl (J := J) f2.1] at hz
            have hS := hM.sz hA.1
            refine tz_icmp_ge (pc := 39) (tgt := 145) dX12_meetings_39 (by decide) (by omega) (by omega) (fun h_39 => ?_) (fun h_39 => ?_)
            · refine tz_iinc (pc := 145) (z := k + 1) (L2 := [_, _, _, _, _, _, _, _]) dX12_meetings_145 rfl (by omega) rfl ?_
              refine tz_goto (pc := 148) (tgt := 4) dX12_meetings_148 (by decide) ?_
              exact ih4 _ (k + 1) _ _ _ _ _ (by omega) (by omega) (by omega) f2
            · refine tz_aload_n (pc := 42) dX12_meetings_42 rfl rfl ?_
              refine tz_iload (pc := 43) dX12_meetings_43 rfl ?_
              refine tz_iload (pc := 45) dX12_meetings_45 rfl ?_
              refine tz_cV (pc := 47) (m_place hl n _ _ _ (by omega) (by omega) b r d s m (hM.cl f2.1 f2.2) hA.1) vl_X12_139 dX12_meetings_47 o_164 rfl rfl (Nat.le_of_ble_eq_true rfl) ⟨(Nat.le_of_ble_eq_true rfl), (Nat.le_of_ble_eq_true rfl)⟩ rfl rfl (Nat.le_of_ble_eq_true rfl) (Nat.le_of_ble_eq_true rfl) (fun r9 J_47 hq9 => ?_)
              obtain ⟨zp, rfl, hz_47, rfl, hp1, hp2⟩ := hq9
              rw [mmsz_cl (J := J) f2.1] at hp2
              have hp3 := hp2 (by omega) (by omega)
              refine tz_istore (pc := 50) (L2 := [_, _, _, _, _, _, _, _]) dX12_meetings_50 (by decide) rfl ?_
              refine tz_iconst (pc := 52) dX12_meetings_52 ?_
              refine tz_istore (pc := 53) (L2 := [_, _, _, _, _, _, _, _]) dX12_meetings_53 (by decide) rfl ?_
              have loop55 : ∀ (f9 : Nat) (q3 : Int) (j : Int) (J3 : zJ), ((8 - j).toNat) < f9 → (0 ≤ q3 ∧ q3 ≤ 2912 * k + 8 * p + j) → (0 ≤ j ∧ j ≤ 8) → (zOf (zbut [164, 177, 178, 179, 180]) J3 J ∧ ∀ k, ¬ k = 30 → J3 164 k = J 164 k) → tz_At l G M_X12_meetings (tb_rm 809 0 0) none (tb_ZM G 0 0 (zQ n 0 (zqi (fun z J' => zOf (zbut [164, 177, 178, 179, 180]) J' J ∧ ∀ k, ¬ k = 30 → J' 164 k = J 164 k))) (zX n 0 zN)) 0 0 n J3 55 [some (.ref 164), some (zi x), some (zi q3), some (zi k), some (zi (J 165 (10 + (2 * k)))), some (zi p), some (zi zp), some (zi j)] [] := by
                intro f9
                induction f9 with
                | zero => intro q3 j J3 hm9; exact absurd hm9 (Nat.not_lt_zero _)
                | succ f9 ih55 =>
                  intro q3 j J3 hm55 hq3 hj f3
                  refine tz_iload (pc := 55) dX12_meetings_55 rfl ?_
                  refine tz_aload_n (pc := 57) dX12_meetings_57 rfl rfl ?_
                  refine tz_fR (pc := 58) dX12_meetings_58 fl_X12_9 r_164_0 ?_
                  refine tz_bipush (pc := 61) dX12_meetings_61 (by decide) ?_
                  refine tz_aL (pc := 63) (z := 9) (v := (J 165 9)) dX12_meetings_63 a_165 rfl (by decide) (Eq.trans (congrFun (f3.1 165 rfl) 9) rfl) (fun r_63 => ?_)
                  refine tz_icmp_ge (pc := 64) (tgt := 139) dX12_meetings_64 (by decide) (by omega) (by omega) (fun h_64 => ?_) (fun h_64 => ?_)
                  · refine tz_iinc (pc := 139) (z := p + 1) (L2 := [_, _, _, _, _, _, _, _]) dX12_meetings_139 rfl (by omega) rfl ?_
                    refine tz_goto (pc := 142) (tgt := 31) dX12_meetings_142 (by decide) ?_
                    exact ih31 _ (p + 1) _ _ _ (by omega) (by omega) (by omega) f3
                  · refine tz_aload_n (pc := 67) dX12_meetings_67 rfl rfl ?_
                    refine tz_iload (pc := 68) dX12_meetings_68 rfl ?_
                    refine tz_cV (pc := 70) (m_isVar hl n _ _ (by omega) b r d s m (hM.cl f3.1 f3.2) (by omega)) vl_X12_78 dX12_meetings_70 o_164 rfl rfl (Nat.le_of_ble_eq_true rfl) ⟨(Nat.le_of_ble_eq_true rfl), (Nat.le_of_ble_eq_true rfl)⟩ rfl rfl (Nat.le_of_ble_eq_true rfl) (Nat.le_of_ble_eq_true rfl) (fun r9 J_70 hq9 => ?_)
                    obtain ⟨zv, rfl, hz_70, rfl, hv⟩ := hq9
                    have hv2 : zv = 0 ∨ zv = 1 := by rw [← hv]; split <;> omega
                    refine tz_if_ne (pc := 73) (tgt := 139) dX12_meetings_73 (by decide) (by omega) (fun h_73 => ?_) (fun h_73 => ?_)
                    · refine tz_iinc (pc := 139) (z := p + 1) (L2 := [_, _, _, _, _, _, _, _]) dX12_meetings_139 rfl (by omega) rfl ?_
                      refine tz_goto (pc := 142) (tgt := 31) dX12_meetings_142 (by decide) ?_
                      exact ih31 _ (p + 1) _ _ _ (by omega) (by omega) (by omega) f3
                    · refine tz_iload (pc := 76) dX12_meetings_76 rfl ?_
                      refine tz_if_ne (pc := 78) (tgt := 87) dX12_meetings_78 (by decide) (by omega) (fun h_78 => ?_) (fun h_78 => ?_)
                      · refine tz_aload_n (pc := 87) dX12_meetings_87 rfl rfl ?_
                        refine tz_iload (pc := 88) dX12_meetings_88 rfl ?_
                        refine tz_aload_n (pc := 90) dX12_meetings_90 rfl rfl ?_
                        refine tz_fR (pc := 91) dX12_meetings_91 fl_X12_9 r_164_0 ?_
                        refine tz_bipush (pc := 94) dX12_meetings_94 (by decide) ?_
                        refine tz_iconst (pc := 96) dX12_meetings_96 ?_
                        refine tz_iload (pc := 97) dX12_meetings_97 rfl ?_
                        refine tz_imul (pc := 99) (v := 2 * j) dX12_meetings_99 rfl ?_
                        refine tz_iadd (pc := 100) (v := 10 + (2 * j)) dX12_meetings_100 rfl ?_
                        refine tz_aL (pc := 101) (z := (10 + (2 * j))) (v := (J 165 (10 + (2 * j)))) dX12_meetings_101 a_165 rfl (by omega) (Eq.trans (congrFun (f3.1 165 rfl) (10 + (2 * j))) rfl) (fun r_101 => ?_)
                        have hr8 := hR.2 j (by omega) (by omega)
                        refine tz_cV (pc := 102) (m_canBe hl n _ _ _ (by omega) (by omega) b r d s m (hM.cl f3.1 f3.2) (by omega) hr8.1) vl_X12_359 dX12_meetings_102 o_164 rfl rfl (Nat.le_of_ble_eq_true rfl) ⟨(Nat.le_of_ble_eq_true rfl), (Nat.le_of_ble_eq_true rfl)⟩ rfl rfl (Nat.le_of_ble_eq_true rfl) (Nat.le_of_ble_eq_true rfl) (fun r9 J_102 hq9 => ?_)
                        obtain ⟨z_102, rfl, hz_102, b4, f4, g4⟩ := hq9
                        refine tz_if_ne (pc := 105) (tgt := 111) dX12_meetings_105 (by decide) (by omega) (fun h_105 => ?_) (fun h_105 => ?_)
                        · refine tz_iload_n (pc := 111) dX12_meetings_111 rfl rfl ?_
                          refine tz_if_eq (pc := 112) (tgt := 130) dX12_meetings_112 (by decide) (by omega) (fun h_112 => ?_) (fun h_112 => ?_)
                          · refine tz_iinc (pc := 130) (z := q3 + 1) (L2 := [_, _, _, _, _, _, _, _]) dX12_meetings_130 rfl (by omega) rfl ?_
                            refine tz_iinc (pc := 133) (z := j + 1) (L2 := [_, _, _, _, _, _, _, _]) dX12_meetings_133 rfl (by omega) rfl ?_
                            refine tz_goto (pc := 136) (tgt := 55) dX12_meetings_136 (by decide) ?_
                            exact ih55 _ (j + 1) _ (by omega) (by omega) (by omega) ⟨f4.tr f3.1, fun k hk => (g4 k hk).trans (f3.2 k hk)⟩
                          · refine tz_sipush (pc := 115) dX12_meetings_115 (by decide) ?_
                            refine tz_iload_n (pc := 118) dX12_meetings_118 rfl rfl ?_
                            refine tz_imul (pc := 119) (v := 1000 * k) dX12_meetings_119 rfl ?_
                            refine tz_bipush (pc := 120) dX12_meetings_120 (by decide) ?_
                            refine tz_iload (pc := 122) dX12_meetings_122 rfl ?_
                            refine tz_imul (pc := 124) (v := 10 * p) dX12_meetings_124 rfl ?_
                            refine tz_iadd (pc := 125) (v := (1000 * k) + (10 * p)) dX12_meetings_125 rfl ?_
                            refine tz_iload (pc := 126) dX12_meetings_126 rfl ?_
                            refine tz_iadd (pc := 128) (v := ((1000 * k) + (10 * p)) + j) dX12_meetings_128 rfl ?_
                            exact tz_iret (pc := 129) (z := (((1000 * k) + (10 * p)) + j)) dX12_meetings_129 rfl (Nat.le_of_ble_eq_true rfl) (Nat.le_of_ble_eq_true rfl) ⟨Nat.le_refl _, Nat.le_add_right _ _⟩ ⟨_, rfl, (by omega), ⟨f4.tr f3.1, fun k hk => (g4 k hk).trans (f3.2 k hk)⟩⟩
                        · refine tz_goto (pc := 108) (tgt := 133) dX12_meetings_108 (by decide) ?_
                          refine tz_iinc (pc := 133) (z := j + 1) (L2 := [_, _, _, _, _, _, _, _]) dX12_meetings_133 rfl (by omega) rfl ?_
                          refine tz_goto (pc := 136) (tgt := 55) dX12_meetings_136 (by decide) ?_
                          exact ih55 _ (j + 1) _ (by omega) (by omega) (by omega) ⟨f4.tr f3.1, fun k hk => (g4 k hk).trans (f3.2 k hk)⟩
                      · refine tz_iload_n (pc := 81) dX12_meetings_81 rfl rfl ?_
                        refine tz_iload (pc := 82) dX12_meetings_82 rfl ?_
                        refine tz_icmp_eq (pc := 84) (tgt := 133) dX12_meetings_84 (by decide) (by omega) (by omega) (fun h_84 => ?_) (fun h_84 => ?_)
                        · refine tz_iinc (pc := 133) (z := j + 1) (L2 := [_, _, _, _, _, _, _, _]) dX12_meetings_133 rfl (by omega) rfl ?_
                          refine tz_goto (pc := 136) (tgt := 55) dX12_meetings_136 (by decide) ?_
                          exact ih55 _ (j + 1) _ (by omega) (by omega) (by omega) f3
                        · refine tz_aload_n (pc := 87) dX12_meetings_87 rfl rfl ?_
                          refine tz_iload (pc := 88) dX12_meetings_88 rfl ?_
                          refine tz_aload_n (pc := 90) dX12_meetings_90 rfl rfl ?_
                          refine tz_fR (pc := 91) dX12_meetings_91 fl_X12_9 r_164_0 ?_
                          refine tz_bipush (pc := 94) dX12_meetings_94 (by decide) ?_
                          refine tz_iconst (pc := 96) dX12_meetings_96 ?_
                          refine tz_iload (pc := 97) dX12_meetings_97 rfl ?_
                          refine tz_imul (pc := 99) (v := 2 * j) dX12_meetings_99 rfl ?_
                          refine tz_iadd (pc := 100) (v := 10 + (2 * j)) dX12_meetings_100 rfl ?_
                          refine tz_aL (pc := 101) (z := (10 + (2 * j))) (v := (J 165 (10 + (2 * j)))) dX12_meetings_101 a_165 rfl (by omega) (Eq.trans (congrFun (f3.1 165 rfl) (10 + (2 * j))) rfl) (fun r_101 => ?_)
                          have hr8 := hR.2 j (by omega) (by omega)
                          refine tz_cV (pc := 102) (m_canBe hl n _ _ _ (by omega) (by omega) b r d s m (hM.cl f3.1 f3.2) (by omega) hr8.1) vl_X12_359 dX12_meetings_102 o_164 rfl rfl (Nat.le_of_ble_eq_true rfl) ⟨(Nat.le_of_ble_eq_true rfl), (Nat.le_of_ble_eq_true rfl)⟩ rfl rfl (Nat.le_of_ble_eq_true rfl) (Nat.le_of_ble_eq_true rfl) (fun r9 J_102 hq9 => ?_)
                          obtain ⟨z_102, rfl, hz_102, b4, f4, g4⟩ := hq9
                          refine tz_if_ne (pc := 105) (tgt := 111) dX12_meetings_105 (by decide) (by omega) (fun h_105 => ?_) (fun h_105 => ?_)
                          · refine tz_iload_n (pc := 111) dX12_meetings_111 rfl rfl ?_
                            refine tz_if_eq (pc := 112) (tgt := 130) dX12_meetings_112 (by decide) (by omega) (fun h_112 => ?_) (fun h_112 => ?_)
                            · refine tz_iinc (pc := 130) (z := q3 + 1) (L2 := [_, _, _, _, _, _, _, _]) dX12_meetings_130 rfl (by omega) rfl ?_
                              refine tz_iinc (pc := 133) (z := j + 1) (L2 := [_, _, _, _, _, _, _, _]) dX12_meetings_133 rfl (by omega) rfl ?_
                              refine tz_goto (pc := 136) (tgt := 55) dX12_meetings_136 (by decide) ?_
                              exact ih55 _ (j + 1) _ (by omega) (by omega) (by omega) ⟨f4.tr f3.1, fun k hk => (g4 k hk).trans (f3.2 k hk)⟩
                            · refine tz_sipush (pc := 115) dX12_meetings_115 (by decide) ?_
                              refine tz_iload_n (pc := 118) dX12_meetings_118 rfl rfl ?_
                              refine tz_imul (pc := 119) (v := 1000 * k) dX12_meetings_119 rfl ?_
                              refine tz_bipush (pc := 120) dX12_meetings_120 (by decide) ?_
                              refine tz_iload (pc := 122) dX12_meetings_122 rfl ?_
                              refine tz_imul (pc := 124) (v := 10 * p) dX12_meetings_124 rfl ?_
                              refine tz_iadd (pc := 125) (v := (1000 * k) + (10 * p)) dX12_meetings_125 rfl ?_
                              refine tz_iload (pc := 126) dX12_meetings_126 rfl ?_
                              refine tz_iadd (pc := 128) (v := ((1000 * k) + (10 * p)) + j) dX12_meetings_128 rfl ?_
                              exact tz_iret (pc := 129) (z := (((1000 * k) + (10 * p)) + j)) dX12_meetings_129 rfl (Nat.le_of_ble_eq_true rfl) (Nat.le_of_ble_eq_true rfl) ⟨Nat.le_refl _, Nat.le_add_right _ _⟩ ⟨_, rfl, (by omega), ⟨f4.tr f3.1, fun k hk => (g4 k hk).trans (f3.2 k hk)⟩⟩
                          · refine tz_goto (pc := 108) (tgt := 133) dX12_meetings_108 (by decide) ?_
                            refine tz_iinc (pc := 133) (z := j + 1) (L2 := [_, _, _, _, _, _, _, _]) dX12_meetings_133 rfl (by omega) rfl ?_
                            refine tz_goto (pc := 136) (tgt := 55) dX12_meetings_136 (by decide) ?_
                            exact ih55 _ (j + 1) _ (by omega) (by omega) (by omega) ⟨f4.tr f3.1, fun k hk => (g4 k hk).trans (f3.2 k hk)⟩
              exact loop55 _ _ 0 _ (Nat.lt_succ_self _) (by omega) (by omega) f2
        exact loop31 _ _ 0 _ _ _ (Nat.lt_succ_self _) (by omega) (by omega) f1
  exact loop4 _ 0 0 none none none none _ (Nat.lt_succ_self _) (by omega) (by omega) ⟨zOf.rf, fun _ _ => rfl⟩

end
section
/-! ===== acts of the reference ===== -/
def zbg (J : zJ) : zJ := zup (zup (zup (zmv J 165 0 63 63) 164 21 0) 164 33 0) 164 34 0
def zkL (J : zJ) : zJ := zup (zmv J 165 63 (189 + 63 * ((J 164 11 + J 164 10) % 40)) 63) 164 10 (J 164 10 + 1)
def zkF (J : zJ) : zJ := zup (zmv (zup (zup J 164 11 ((J 164 11 + 1) % 40)) 164 10 (J 164 10 - 1)) 165 63 (189 + 63 * (((J 164 11 + 1) % 40 + (J 164 10 - 1)) % 40)) 63) 164 10 (J 164 10 - 1 + 1)
set_option maxHeartbeats 4000000 in
set_option maxRecDepth 100000 in
theorem m_begins {l : Launch} {G : tb_G} (hl : l.stackTraces = false) (n : Nat) (J : zJ)     : tz_Ok l G M_X12_begins 1 0 0 [.ref 164] n J (zqv (fun J' => zbg J = J')) zN := by
  refine tz_Ok.of hl (by decide +kernel) rfl (tb_c1 rfl) (Nat.le_of_ble_eq_true rfl) ?_
  show tz_At l G M_X12_begins (tb_rm 1 0 0) none (tb_ZM G 0 0 (zQ n 0 (zqv (fun J' => zbg J = J'))) (zX n 0 zN)) 0 0 n J 0 [some (.ref 164)] []
  refine tz_aload_n (pc := 0) dX12_begins_0 rfl rfl ?_
  refine tz_iconst (pc := 1) dX12_begins_1 ?_
  refine tz_bipush (pc := 2) dX12_begins_2 (by decide) ?_
  refine tz_bipush (pc := 4) dX12_begins_4 (by decide) ?_
  refine tz_cV (pc := 6) (zm_copies hl n _ _ _ _ (by decide) (by decide) (by decide) (by omega) (by omega)) vl_X12_343 dX12_begins_6 o_164 rfl rfl (Nat.le_of_ble_eq_true rfl) ⟨(Nat.le_of_ble_eq_true rfl), (Nat.le_of_ble_eq_true rfl)⟩ rfl rfl (Nat.le_of_ble_eq_true rfl) (Nat.le_of_ble_eq_true rfl) (fun r9 J_6 hq9 => ?_)
  obtain ⟨rfl, rfl⟩ := hq9
  refine tz_aload_n (pc := 9) dX12_begins_9 rfl rfl ?_
  refine tz_iconst (pc := 10) dX12_begins_10 ?_
  refine tz_pZ (pc := 11) (kz := 21) dX12_begins_11 fl_X12_92 i_164_21 rfl rfl (Or.inl rfl) ?_
  refine tz_aload_n (pc := 14) dX12_begins_14 rfl rfl ?_
  refine tz_iconst (pc := 15) dX12_begins_15 ?_
  refine tz_pZ (pc := 16) (kz := 33) dX12_begins_16 fl_X12_195 i_164_33 rfl rfl (Or.inl rfl) ?_
  refine tz_aload_n (pc := 19) dX12_begins_19 rfl rfl ?_
  refine tz_iconst (pc := 20) dX12_begins_20 ?_
  refine tz_pI (pc := 21) (kz := 34) dX12_begins_21 fl_X12_208 i_164_34 rfl rfl (by decide) ?_
  exact tz_vret (pc := 24) dX12_begins_24 rfl (Nat.le_of_ble_eq_true rfl) (Nat.le_of_ble_eq_true rfl) ⟨Nat.le_refl _, Nat.le_add_right _ _⟩ ⟨rfl, rfl⟩

set_option maxHeartbeats 4000000 in
set_option maxRecDepth 100000 in
theorem m_refuses {l : Launch} {G : tb_G} (hl : l.stackTraces = false) (n : Nat) (J : zJ) (w : Int) (a : Int) (hr_w : -2147483648 ≤ w ∧ w < 2147483648) (hr_a : -2147483648 ≤ a ∧ a < 2147483648)  (h0 : 0 ≤ w ∧ w < 4) : tz_Ok l G M_X12_refuses 0 0 0 [.ref 164, zi w, zi a] n J (zqi (fun z J' => a = z ∧ zOf (zbut [172]) J' J)) zN := by
  refine tz_Ok.of hl (by decide +kernel) rfl (tb_c1 rfl) (Nat.le_of_ble_eq_true rfl) ?_
  show tz_At l G M_X12_refuses (tb_rm 0 0 0) none (tb_ZM G 0 0 (zQ n 0 (zqi (fun z J' => a = z ∧ zOf (zbut [172]) J' J))) (zX n 0 zN)) 0 0 n J 0 [some (.ref 164), some (zi w), some (zi a)] []
  refine tz_aload_n (pc := 0) dX12_refuses_0 rfl rfl ?_
  refine tz_fR (pc := 1) dX12_refuses_1 fl_X12_31 r_164_7 ?_
  refine tz_iload_n (pc := 4) dX12_refuses_4 rfl rfl ?_
  refine tz_dup2 (pc := 5) dX12_refuses_5 rfl rfl ?_
  refine tz_aL (pc := 6) (z := w) (v := (J 172 w)) dX12_refuses_6 a_172 rfl (by omega) rfl (fun r_6 => ?_)
  refine tz_iconst (pc := 7) dX12_refuses_7 ?_
  refine tz_iadd (pc := 8) (v := (J 172 w) + 1) dX12_refuses_8 rfl ?_
  refine tz_tw ?_
  have rw_9 := zw_rg ((J 172 w) + 1)
  refine tz_aS (pc := 9) (z := w) dX12_refuses_9 a_172 rfl (by omega) (zw_rg _) ?_
  refine tz_iload_n (pc := 10) dX12_refuses_10 rfl rfl ?_
  exact tz_iret (pc := 11) (z := a) dX12_refuses_11 rfl (Nat.le_of_ble_eq_true rfl) (Nat.le_of_ble_eq_true rfl) ⟨Nat.le_refl _, Nat.le_add_right _ _⟩ ⟨_, rfl, (by omega), ⟨rfl, zOf.up rfl zOf.rf⟩⟩

set_option maxHeartbeats 4000000 in
set_option maxRecDepth 100000 in
theorem m_fails {l : Launch} {G : tb_G} (hl : l.stackTraces = false) (n : Nat) (J : zJ) (w : Int) (a : Int) (hr_w : -2147483648 ≤ w ∧ w < 2147483648) (hr_a : -2147483648 ≤ a ∧ a < 2147483648)  (h0 : 0 ≤ w ∧ w < 4) : tz_Ok l G M_X12_fails 1 0 0 [.ref 164, zi w, zi a] n J (zqi (fun z J' => a = z ∧ zOf (zbut [172]) J' (zmv J 165 63 0 63))) zN := by
  refine tz_Ok.of hl (by decide +kernel) rfl (tb_c1 rfl) (Nat.le_of_ble_eq_true rfl) ?_
  show tz_At l G M_X12_fails (tb_rm 1 0 0) none (tb_ZM G 0 0 (zQ n 0 (zqi (fun z J' => a = z ∧ zOf (zbut [172]) J' (zmv J 165 63 0 63)))) (zX n 0 zN)) 0 0 n J 0 [some (.ref 164), some (zi w), some (zi a)] []
  refine tz_aload_n (pc := 0) dX12_fails_0 rfl rfl ?_
  refine tz_bipush (pc := 1) dX12_fails_1 (by decide) ?_
  refine tz_iconst (pc := 3) dX12_fails_3 ?_
  refine tz_bipush (pc := 4) dX12_fails_4 (by decide) ?_
  refine tz_cV (pc := 6) (zm_copies hl n _ _ _ _ (by decide) (by decide) (by decide) (by omega) (by omega)) vl_X12_343 dX12_fails_6 o_164 rfl rfl (Nat.le_of_ble_eq_true rfl) ⟨(Nat.le_of_ble_eq_true rfl), (Nat.le_of_ble_eq_true rfl)⟩ rfl rfl (Nat.le_of_ble_eq_true rfl) (Nat.le_of_ble_eq_true rfl) (fun r9 J_6 hq9 => ?_)
  obtain ⟨rfl, rfl⟩ := hq9
  refine tz_aload_n (pc := 9) dX12_fails_9 rfl rfl ?_
  refine tz_iload_n (pc := 10) dX12_fails_10 rfl rfl ?_
  refine tz_iload_n (pc := 11) dX12_fails_11 rfl rfl ?_
  refine tz_cV (pc := 12) (m_refuses hl n _ _ _ (by omega) (by omega) h0) vl_X12_391 dX12_fails_12 o_164 rfl rfl (Nat.le_of_ble_eq_true rfl) ⟨(Nat.le_of_ble_eq_true rfl), (Nat.le_of_ble_eq_true rfl)⟩ rfl rfl (Nat.le_of_ble_eq_true rfl) (Nat.le_of_ble_eq_true rfl) (fun r9 J_12 hq9 => ?_)
  obtain ⟨z_12, rfl, hz_12, rfl, f1⟩ := hq9
  exact tz_iret (pc := 15) (z := a) dX12_fails_15 rfl (Nat.le_of_ble_eq_true rfl) (Nat.le_of_ble_eq_true rfl) ⟨Nat.le_refl _, Nat.le_add_right _ _⟩ ⟨_, rfl, (by omega), ⟨rfl, f1⟩⟩

set_option maxHeartbeats 4000000 in
set_option maxRecDepth 100000 in
theorem m_keptAt {l : Launch} {G : tb_G} (hl : l.stackTraces = false) (n : Nat) (J : zJ) (a : Int) (b : Int) (hr_a : -2147483648 ≤ a ∧ a < 2147483648) (hr_b : -2147483648 ≤ b ∧ b < 2147483648)  (h0 : (0 ≤ a ∧ a < 40) ∧ 0 ≤ b ∧ b ≤ 40) : tz_Ok l G M_X12_keptAt 0 0 0 [zi a, zi b] n J (zqi (fun z J' => J = J' ∧ 189 + 63 * ((a + b) % 40) = z)) zN := by
  refine tz_Ok.of hl (by decide +kernel) rfl (tb_c1 rfl) (Nat.le_of_ble_eq_true rfl) ?_
  show tz_At l G M_X12_keptAt (tb_rm 0 0 0) none (tb_ZM G 0 0 (zQ n 0 (zqi (fun z J' => J = J' ∧ 189 + 63 * ((a + b) % 40) = z))) (zX n 0 zN)) 0 0 n J 0 [some (zi a), some (zi b)] []
  refine tz_sipush (pc := 0) dX12_keptAt_0 (by decide) ?_
  refine tz_bipush (pc := 3) dX12_keptAt_3 (by decide) ?_
  refine tz_iload_n (pc := 5) dX12_keptAt_5 rfl rfl ?_
  refine tz_iload_n (pc := 6) dX12_keptAt_6 rfl rfl ?_
  refine tz_iadd (pc := 7) (v := a + b) dX12_keptAt_7 rfl ?_
  refine tz_bipush (pc := 8) dX12_keptAt_8 (by decide) ?_
  refine tz_irem (pc := 10) (a := (a + b)) (b := 40) (v := ((a + b) % 40)) dX12_keptAt_10 (by omega) (by omega) rfl ?_
  refine tz_imul (pc := 11) (v := 63 * ((a + b) % 40)) dX12_keptAt_11 rfl ?_
  refine tz_iadd (pc := 12) (v := 189 + (63 * ((a + b) % 40))) dX12_keptAt_12 rfl ?_
  exact tz_iret (pc := 13) (z := (189 + (63 * ((a + b) % 40)))) dX12_keptAt_13 rfl (Nat.le_of_ble_eq_true rfl) (Nat.le_of_ble_eq_true rfl) ⟨Nat.le_refl _, Nat.le_add_right _ _⟩ ⟨_, rfl, (by omega), ⟨rfl, rfl⟩⟩

set_option maxHeartbeats 4000000 in
set_option maxRecDepth 100000 in
theorem m_keeps {l : Launch} {G : tb_G} (hl : l.stackTraces = false) (n : Nat) (J : zJ) (a : Int) (hr_a : -2147483648 ≤ a ∧ a < 2147483648)  (h0 : 0 ≤ J 164 10 ∧ J 164 10 ≤ 40) (h1 : 0 ≤ J 164 11 ∧ J 164 11 < 40) : tz_Ok l G M_X12_keeps 2 0 0 [.ref 164, zi a] n J (zqi (fun z J' => (¬ J 164 21 = 0 ∧ -3 = z ∧ zOf (zbut [172]) J' (zmv J 165 63 0 63)) ∨ (J 164 21 = 0 ∧ a = z ∧ ((¬ J 164 10 = 40 ∧ zkL J = J') ∨ (J 164 10 = 40 ∧ zkF J = J'))))) zN := by
  refine tz_Ok.of hl (by decide +kernel) rfl (tb_c1 rfl) (Nat.le_of_ble_eq_true rfl) ?_
  show tz_At l G M_X12_keeps (tb_rm 2 0 0) none (tb_ZM G 0 0 (zQ n 0 (zqi (fun z J' => (¬ J 164 21 = 0 ∧ -3 = z ∧ zOf (zbut [172]) J' (zmv J 165 63 0 63)) ∨ (J 164 21 = 0 ∧ a = z ∧ ((¬ J 164 10 = 40 ∧ zkL J = J') ∨ (J 164 10 = 40 ∧ zkF J = J')))))) (zX n 0 zN)) 0 0 n J 0 [some (.ref 164), some (zi a)] []
  refine tz_aload_n (pc := 0) dX12_keeps_0 rfl rfl ?_
  refine tz_fI (pc := 1) (kz := 21) (v := (J 164 21)) dX12_keeps_1 fl_X12_92 i_164_21 rfl rfl (fun r_1 => ?_)
  refine tz_if_eq (pc := 4) (tgt := 15) dX12_keeps_4 (by decide) (by omega) (fun h_4 => ?_) (fun h_4 => ?_)
  · refine tz_aload_n (pc := 15) dX12_keeps_15 rfl rfl ?_
    refine tz_fI (pc := 16) (kz := 10) (v := (J 164 10)) dX12_keeps_16 fl_X12_356 i_164_10 rfl rfl (fun r_16 => ?_)
    refine tz_bipush (pc := 19) dX12_keeps_19 (by decide) ?_
    refine tz_icmp_ne (pc := 21) (tgt := 47) dX12_keeps_21 (by decide) (by omega) (by decide) (fun h_21 => ?_) (fun h_21 => ?_)
    · refine tz_aload_n (pc := 47) dX12_keeps_47 rfl rfl ?_
      refine tz_bipush (pc := 48) dX12_keeps_48 (by decide) ?_
      refine tz_aload_n (pc := 50) dX12_keeps_50 rfl rfl ?_
      refine tz_fI (pc := 51) (kz := 11) (v := (J 164 11)) dX12_keeps_51 fl_X12_353 i_164_11 rfl rfl (fun r_51 => ?_)
      refine tz_aload_n (pc := 54) dX12_keeps_54 rfl rfl ?_
      refine tz_fI (pc := 55) (kz := 10) (v := (J 164 10)) dX12_keeps_55 fl_X12_356 i_164_10 rfl rfl (fun r_55 => ?_)
      refine tz_cS (pc := 58) (m_keptAt hl n _ _ _ (by omega) (by omega) (by omega)) sl_X12_397 dX12_keeps_58 rfl rfl (Nat.le_of_ble_eq_true rfl) ⟨(Nat.le_of_ble_eq_true rfl), (Nat.le_of_ble_eq_true rfl)⟩ rfl rfl (Nat.le_of_ble_eq_true rfl) (Nat.le_of_ble_eq_true rfl) (fun r9 J_58 hq9 => ?_)
      obtain ⟨z_58, rfl, hz_58, rfl, rfl⟩ := hq9
      refine tz_bipush (pc := 61) dX12_keeps_61 (by decide) ?_
      refine tz_cV (pc := 63) (zm_copies hl n _ _ _ _ (by decide) (by omega) (by decide) (by omega) (by omega)) vl_X12_343 dX12_keeps_63 o_164 rfl rfl (Nat.le_of_ble_eq_true rfl) ⟨(Nat.le_of_ble_eq_true rfl), (Nat.le_of_ble_eq_true rfl)⟩ rfl rfl (Nat.le_of_ble_eq_true rfl) (Nat.le_of_ble_eq_true rfl) (fun r9 J_63 hq9 => ?_)
      obtain ⟨rfl, rfl⟩ := hq9
      refine tz_aload_n (pc := 66) dX12_keeps_66 rfl rfl ?_
      refine tz_dup (pc := 67) dX12_keeps_67 rfl ?_
      refine tz_fI (pc := 68) (kz := 10) (v := (J 164 10)) dX12_keeps_68 fl_X12_356 i_164_10 rfl rfl (fun r_68 => ?_)
      refine tz_iconst (pc := 71) dX12_keeps_71 ?_
      refine tz_iadd (pc := 72) (v := (J 164 10) + 1) dX12_keeps_72 rfl ?_
      refine tz_pI (pc := 73) (kz := 10) dX12_keeps_73 fl_X12_356 i_164_10 rfl rfl (by omega) ?_
      refine tz_iload_n (pc := 76) dX12_keeps_76 rfl rfl ?_
      exact tz_iret (pc := 77) (z := a) dX12_keeps_77 rfl (Nat.le_of_ble_eq_true rfl) (Nat.le_of_ble_eq_true rfl) ⟨Nat.le_refl _, Nat.le_add_right _ _⟩ ⟨_, rfl, (by omega), Or.inr ⟨by omega, rfl, Or.inl ⟨by omega, rfl⟩⟩⟩
    · refine tz_aload_n (pc := 24) dX12_keeps_24 rfl rfl ?_
      refine tz_aload_n (pc := 25) dX12_keeps_25 rfl rfl ?_
      refine tz_fI (pc := 26) (kz := 11) (v := (J 164 11)) dX12_keeps_26 fl_X12_353 i_164_11 rfl rfl (fun r_26 => ?_)
      refine tz_iconst (pc := 29) dX12_keeps_29 ?_
      refine tz_iadd (pc := 30) (v := (J 164 11) + 1) dX12_keeps_30 rfl ?_
      refine tz_bipush (pc := 31) dX12_keeps_31 (by decide) ?_
      refine tz_irem (pc := 33) (a := ((J 164 11) + 1)) (b := 40) (v := (((J 164 11) + 1) % 40)) dX12_keeps_33 (by omega) (by omega) rfl ?_
      refine tz_pI (pc := 34) (kz := 11) dX12_keeps_34 fl_X12_353 i_164_11 rfl rfl (by omega) ?_
      refine tz_aload_n (pc := 37) dX12_keeps_37 rfl rfl ?_
      refine tz_dup (pc := 38) dX12_keeps_38 rfl ?_
      refine tz_fI (pc := 39) (kz := 10) (v := (J 164 10)) dX12_keeps_39 fl_X12_356 i_164_10 rfl rfl (fun r_39 => ?_)
      refine tz_iconst (pc := 42) dX12_keeps_42 ?_
      refine tz_isub (pc := 43) (v := (J 164 10) - 1) dX12_keeps_43 rfl ?_
      refine tz_pI (pc := 44) (kz := 10) dX12_keeps_44 fl_X12_356 i_164_10 rfl rfl (by omega) ?_
      refine tz_aload_n (pc := 47) dX12_keeps_47 rfl rfl ?_
      refine tz_bipush (pc := 48) dX12_keeps_48 (by decide) ?_
      refine tz_aload_n (pc := 50) dX12_keeps_50 rfl rfl ?_
      refine tz_fI (pc := 51) (kz := 11) (v := (((J 164 11) + 1) % 40)) dX12_keeps_51 fl_X12_353 i_164_11 rfl rfl (fun r_51 => ?_)
      refine tz_aload_n (pc := 54) dX12_keeps_54 rfl rfl ?_
      refine tz_fI (pc := 55) (kz := 10) (v := ((J 164 10) - 1)) dX12_keeps_55 fl_X12_356 i_164_10 rfl rfl (fun r_55 => ?_)
      refine tz_cS (pc := 58) (m_keptAt hl n _ _ _ (by omega) (by omega) (by omega)) sl_X12_397 dX12_keeps_58 rfl rfl (Nat.le_of_ble_eq_true rfl) ⟨(Nat.le_of_ble_eq_true rfl), (Nat.le_of_ble_eq_true rfl)⟩ rfl rfl (Nat.le_of_ble_eq_true rfl) (Nat.le_of_ble_eq_true rfl) (fun r9 J_58 hq9 => ?_)
      obtain ⟨z_58, rfl, hz_58, rfl, rfl⟩ := hq9
      refine tz_bipush (pc := 61) dX12_keeps_61 (by decide) ?_
      refine tz_cV (pc := 63) (zm_copies hl n _ _ _ _ (by decide) (by omega) (by decide) (by omega) (by omega)) vl_X12_343 dX12_keeps_63 o_164 rfl rfl (Nat.le_of_ble_eq_true rfl) ⟨(Nat.le_of_ble_eq_true rfl), (Nat.le_of_ble_eq_true rfl)⟩ rfl rfl (Nat.le_of_ble_eq_true rfl) (Nat.le_of_ble_eq_true rfl) (fun r9 J_63 hq9 => ?_)
      obtain ⟨rfl, rfl⟩ := hq9
      refine tz_aload_n (pc := 66) dX12_keeps_66 rfl rfl ?_
      refine tz_dup (pc := 67) dX12_keeps_67 rfl ?_
      refine tz_fI (pc := 68) (kz := 10) (v := ((J 164 10) - 1)) dX12_keeps_68 fl_X12_356 i_164_10 rfl rfl (fun r_68 => ?_)
      refine tz_iconst (pc := 71) dX12_keeps_71 ?_
      refine tz_iadd (pc := 72) (v := ((J 164 10) - 1) + 1) dX12_keeps_72 rfl ?_
      refine tz_pI (pc := 73) (kz := 10) dX12_keeps_73 fl_X12_356 i_164_10 rfl rfl (by omega) ?_
      refine tz_iload_n (pc := 76) dX12_keeps_76 rfl rfl ?_
      exact tz_iret (pc := 77) (z := a) dX12_keeps_77 rfl (Nat.le_of_ble_eq_true rfl) (Nat.le_of_ble_eq_true rfl) ⟨Nat.le_refl _, Nat.le_add_right _ _⟩ ⟨_, rfl, (by omega), Or.inr ⟨by omega, rfl, Or.inr ⟨by omega, rfl⟩⟩⟩
  · refine tz_aload_n (pc := 7) dX12_keeps_7 rfl rfl ?_
    refine tz_iconst (pc := 8) dX12_keeps_8 ?_
    refine tz_bipush (pc := 9) dX12_keeps_9 (by decide) ?_
    refine tz_cV (pc := 11) (m_fails hl n _ _ _ (by decide) (by decide) (by decide)) vl_X12_394 dX12_keeps_11 o_164 rfl rfl (Nat.le_of_ble_eq_true rfl) ⟨(Nat.le_of_ble_eq_true rfl), (Nat.le_of_ble_eq_true rfl)⟩ rfl rfl (Nat.le_of_ble_eq_true rfl) (Nat.le_of_ble_eq_true rfl) (fun r9 J_11 hq9 => ?_)
    obtain ⟨z_11, rfl, hz_11, rfl, f1⟩ := hq9
    exact tz_iret (pc := 14) (z := (-3)) dX12_keeps_14 rfl (Nat.le_of_ble_eq_true rfl) (Nat.le_of_ble_eq_true rfl) ⟨Nat.le_refl _, Nat.le_add_right _ _⟩ ⟨_, rfl, (by omega), Or.inl ⟨by omega, rfl, f1⟩⟩

end
section
set_option maxHeartbeats 4000000 in
set_option maxRecDepth 100000 in
theorem m_within {l : Launch} {G : tb_G} (hl : l.stackTraces = false) (n : Nat) (J : zJ) (x : Int) (a : Int) (b : Int) (hr_x : -2147483648 ≤ x ∧ x < 2147483648) (hr_a : -2147483648 ≤ a ∧ a < 2147483648) (hr_b : -2147483648 ≤ b ∧ b < 2147483648)   : tz_Ok l G M_X12_within 0 0 0 [zi x, zi a, zi b] n J (zqi (fun z J' => J = J' ∧ ((z = 1 ∧ a ≤ x ∧ x ≤ b) ∨ (z = 0 ∧ ¬ (a ≤ x ∧ x ≤ b))))) zN := by
  refine tz_Ok.of hl (by decide +kernel) rfl (tb_c1 rfl) (Nat.le_of_ble_eq_true rfl) ?_
  show tz_At l G M_X12_within (tb_rm 0 0 0) none (tb_ZM G 0 0 (zQ n 0 (zqi (fun z J' => J = J' ∧ ((z = 1 ∧ a ≤ x ∧ x ≤ b) ∨ (z = 0 ∧ ¬ (a ≤ x ∧ x ≤ b)))))) (zX n 0 zN)) 0 0 n J 0 [some (zi x), some (zi a), some (zi b)] []
  refine tz_iload_n (pc := 0) dX12_within_0 rfl rfl ?_
  refine tz_iload_n (pc := 1) dX12_within_1 rfl rfl ?_
  refine tz_icmp_lt (pc := 2) (tgt := 14) dX12_within_2 (by decide) (by omega) (by omega) (fun h_2 => ?_) (fun h_2 => ?_)
  · refine tz_iconst (pc := 14) dX12_within_14 ?_
    exact tz_zret (pc := 15) (z := 0) dX12_within_15 rfl (Or.inl rfl) (Nat.le_of_ble_eq_true rfl) (Nat.le_of_ble_eq_true rfl) ⟨Nat.le_refl _, Nat.le_add_right _ _⟩ ⟨_, rfl, (by decide), ⟨rfl, by omega⟩⟩
  · refine tz_iload_n (pc := 5) dX12_within_5 rfl rfl ?_
    refine tz_iload_n (pc := 6) dX12_within_6 rfl rfl ?_
    refine tz_icmp_gt (pc := 7) (tgt := 14) dX12_within_7 (by decide) (by omega) (by omega) (fun h_7 => ?_) (fun h_7 => ?_)
    · refine tz_iconst (pc := 14) dX12_within_14 ?_
      exact tz_zret (pc := 15) (z := 0) dX12_within_15 rfl (Or.inl rfl) (Nat.le_of_ble_eq_true rfl) (Nat.le_of_ble_eq_true rfl) ⟨Nat.le_refl _, Nat.le_add_right _ _⟩ ⟨_, rfl, (by decide), ⟨rfl, by omega⟩⟩
    · refine tz_iconst (pc := 10) dX12_within_10 ?_
      refine tz_goto (pc := 11) (tgt := 15) dX12_within_11 (by decide) ?_
      exact tz_zret (pc := 15) (z := 1) dX12_within_15 rfl (Or.inr rfl) (Nat.le_of_ble_eq_true rfl) (Nat.le_of_ble_eq_true rfl) ⟨Nat.le_refl _, Nat.le_add_right _ _⟩ ⟨_, rfl, (by decide), ⟨rfl, by omega⟩⟩

set_option maxHeartbeats 4000000 in
set_option maxRecDepth 100000 in
theorem m_isTerm {l : Launch} {G : tb_G} (hl : l.stackTraces = false) (n : Nat) (J : zJ) (t : Int) (hr_t : -2147483648 ≤ t ∧ t < 2147483648)  (h0 : 0 ≤ J 165 0) : tz_Ok l G M_X12_isTerm 1 0 0 [.ref 164, zi t] n J (zqi (fun z J' => J = J' ∧ ((z = 1 ∧ 0 ≤ t ∧ t < J 165 0) ∨ (z = 0 ∧ ¬ (0 ≤ t ∧ t < J 165 0))))) zN := by
  refine tz_Ok.of hl (by decide +kernel) rfl (tb_c1 rfl) (Nat.le_of_ble_eq_true rfl) ?_
  show tz_At l G M_X12_isTerm (tb_rm 1 0 0) none (tb_ZM G 0 0 (zQ n 0 (zqi (fun z J' => J = J' ∧ ((z = 1 ∧ 0 ≤ t ∧ t < J 165 0) ∨ (z = 0 ∧ ¬ (0 ≤ t ∧ t < J 165 0)))))) (zX n 0 zN)) 0 0 n J 0 [some (.ref 164), some (zi t)] []
  refine tz_iload_n (pc := 0) dX12_isTerm_0 rfl rfl ?_
  refine tz_iconst (pc := 1) dX12_isTerm_1 ?_
  refine tz_aload_n (pc := 2) dX12_isTerm_2 rfl rfl ?_
  refine tz_fR (pc := 3) dX12_isTerm_3 fl_X12_9 r_164_0 ?_
  refine tz_iconst (pc := 6) dX12_isTerm_6 ?_
  refine tz_aL (pc := 7) (z := 0) (v := (J 165 0)) dX12_isTerm_7 a_165 rfl (by decide) rfl (fun r_7 => ?_)
  refine tz_iconst (pc := 8) dX12_isTerm_8 ?_
  refine tz_isub (pc := 9) (v := (J 165 0) - 1) dX12_isTerm_9 rfl ?_
  refine tz_cS (pc := 10) (m_within hl n _ _ _ _ (by omega) (by decide) (by omega)) sl_X12_283 dX12_isTerm_10 rfl rfl (Nat.le_of_ble_eq_true rfl) ⟨(Nat.le_of_ble_eq_true rfl), (Nat.le_of_ble_eq_true rfl)⟩ rfl rfl (Nat.le_of_ble_eq_true rfl) (Nat.le_of_ble_eq_true rfl) (fun r9 J_10 hq9 => ?_)
  obtain ⟨z_10, rfl, hz_10, rfl, hw⟩ := hq9
  exact tz_zret (pc := 13) (z := z_10) dX12_isTerm_13 rfl (by omega) (Nat.le_of_ble_eq_true rfl) (Nat.le_of_ble_eq_true rfl) ⟨Nat.le_refl _, Nat.le_add_right _ _⟩ ⟨_, rfl, (by omega), ⟨rfl, by omega⟩⟩

set_option maxHeartbeats 4000000 in
set_option maxRecDepth 100000 in
theorem m_isSym {l : Launch} {G : tb_G} (hl : l.stackTraces = false) (n : Nat) (J : zJ) (t : Int) (hr_t : -2147483648 ≤ t ∧ t < 2147483648)  (h0 : 0 ≤ J 164 9) : tz_Ok l G M_X12_isSymbol 1 0 0 [.ref 164, zi t] n J (zqi (fun z J' => J = J' ∧ ((z = 1 ∧ 0 ≤ t ∧ t < J 164 9) ∨ (z = 0 ∧ ¬ (0 ≤ t ∧ t < J 164 9))))) zN := by
  refine tz_Ok.of hl (by decide +kernel) rfl (tb_c1 rfl) (Nat.le_of_ble_eq_true rfl) ?_
  show tz_At l G M_X12_isSymbol (tb_rm 1 0 0) none (tb_ZM G 0 0 (zQ n 0 (zqi (fun z J' => J = J' ∧ ((z = 1 ∧ 0 ≤ t ∧ t < J 164 9) ∨ (z = 0 ∧ ¬ (0 ≤ t ∧ t < J 164 9)))))) (zX n 0 zN)) 0 0 n J 0 [some (.ref 164), some (zi t)] []
  refine tz_iload_n (pc := 0) dX12_isSymbol_0 rfl rfl ?_
  refine tz_iconst (pc := 1) dX12_isSymbol_1 ?_
  refine tz_aload_n (pc := 2) dX12_isSymbol_2 rfl rfl ?_
  refine tz_fI (pc := 3) (kz := 9) (v := (J 164 9)) dX12_isSymbol_3 fl_X12_347 i_164_9 rfl rfl (fun r_3 => ?_)
  refine tz_iconst (pc := 6) dX12_isSymbol_6 ?_
  refine tz_isub (pc := 7) (v := (J 164 9) - 1) dX12_isSymbol_7 rfl ?_
  refine tz_cS (pc := 8) (m_within hl n _ _ _ _ (by omega) (by decide) (by omega)) sl_X12_283 dX12_isSymbol_8 rfl rfl (Nat.le_of_ble_eq_true rfl) ⟨(Nat.le_of_ble_eq_true rfl), (Nat.le_of_ble_eq_true rfl)⟩ rfl rfl (Nat.le_of_ble_eq_true rfl) (Nat.le_of_ble_eq_true rfl) (fun r9 J_8 hq9 => ?_)
  obtain ⟨z_8, rfl, hz_8, rfl, hw⟩ := hq9
  exact tz_zret (pc := 11) (z := z_8) dX12_isSymbol_11 rfl (by omega) (Nat.le_of_ble_eq_true rfl) (Nat.le_of_ble_eq_true rfl) ⟨Nat.le_refl _, Nat.le_add_right _ _⟩ ⟨_, rfl, (by omega), ⟨rfl, by omega⟩⟩

set_option maxHeartbeats 4000000 in
set_option maxRecDepth 100000 in
theorem m_right {l : Launch} {G : tb_G} (hl : l.stackTraces = false) (n : Nat) (J : zJ) (x : Int) (y : Int) (hr_x : -2147483648 ≤ x ∧ x < 2147483648) (hr_y : -2147483648 ≤ y ∧ y < 2147483648)  (hy : ¬ y = 0) : tz_Ok l G M_X12_right 0 0 0 [.ref 164, zi x, zi y] n J (zqi (fun z J' => (zOf (zbut [164]) J' J ∧ ∀ k, ¬ k = 8 → J' 164 k = J 164 k) ∧ (z = 0 ∨ z = 1) ∧ (z = 1 → J = J' ∧ J 164 8 = 0 ∧ (¬ x = 0 ∨ y = 0)))) zN := by
  refine tz_Ok.of hl (by decide +kernel) rfl (tb_c1 rfl) (Nat.le_of_ble_eq_true rfl) ?_
  show tz_At l G M_X12_right (tb_rm 0 0 0) none (tb_ZM G 0 0 (zQ n 0 (zqi (fun z J' => (zOf (zbut [164]) J' J ∧ ∀ k, ¬ k = 8 → J' 164 k = J 164 k) ∧ (z = 0 ∨ z = 1) ∧ (z = 1 → J = J' ∧ J 164 8 = 0 ∧ (¬ x = 0 ∨ y = 0))))) (zX n 0 zN)) 0 0 n J 0 [some (.ref 164), some (zi x), some (zi y)] []
  refine tz_aload_n (pc := 0) dX12_right_0 rfl rfl ?_
  refine tz_fI (pc := 1) (kz := 8) (v := (J 164 8)) dX12_right_1 fl_X12_68 i_164_8 rfl rfl (fun r_1 => ?_)
  refine tz_if_ne (pc := 4) (tgt := 16) dX12_right_4 (by decide) (by omega) (fun h_4 => ?_) (fun h_4 => ?_)
  · refine tz_aload_n (pc := 16) dX12_right_16 rfl rfl ?_
    refine tz_fI (pc := 17) (kz := 8) (v := (J 164 8)) dX12_right_17 fl_X12_68 i_164_8 rfl rfl (fun r_17 => ?_)
    refine tz_if_ne (pc := 20) (tgt := 27) dX12_right_20 (by decide) (by omega) (fun h_20 => ?_) (fun h_20 => ?_)
    · refine tz_iconst (pc := 27) dX12_right_27 ?_
      exact tz_zret (pc := 28) (z := 0) dX12_right_28 rfl (Or.inl rfl) (Nat.le_of_ble_eq_true rfl) (Nat.le_of_ble_eq_true rfl) ⟨Nat.le_refl _, Nat.le_add_right _ _⟩ ⟨_, rfl, (by decide), ⟨⟨zOf.rf, fun _ _ => rfl⟩, by omega, fun q9 => ⟨rfl, by omega, by omega⟩⟩⟩
    · refine tz_iconst (pc := 23) dX12_right_23 ?_
      refine tz_goto (pc := 24) (tgt := 28) dX12_right_24 (by decide) ?_
      exact tz_zret (pc := 28) (z := 1) dX12_right_28 rfl (Or.inr rfl) (Nat.le_of_ble_eq_true rfl) (Nat.le_of_ble_eq_true rfl) ⟨Nat.le_refl _, Nat.le_add_right _ _⟩ ⟨_, rfl, (by decide), ⟨⟨zOf.rf, fun _ _ => rfl⟩, by omega, fun q9 => ⟨rfl, by omega, by omega⟩⟩⟩
  · refine tz_iload_n (pc := 7) dX12_right_7 rfl rfl ?_
    refine tz_if_ne (pc := 8) (tgt := 16) dX12_right_8 (by decide) (by omega) (fun h_8 => ?_) (fun h_8 => ?_)
    · refine tz_aload_n (pc := 16) dX12_right_16 rfl rfl ?_
      refine tz_fI (pc := 17) (kz := 8) (v := (J 164 8)) dX12_right_17 fl_X12_68 i_164_8 rfl rfl (fun r_17 => ?_)
      refine tz_if_ne (pc := 20) (tgt := 27) dX12_right_20 (by decide) (by omega) (fun h_20 => ?_) (fun h_20 => ?_)
      · refine tz_iconst (pc := 27) dX12_right_27 ?_
        exact tz_zret (pc := 28) (z := 0) dX12_right_28 rfl (Or.inl rfl) (Nat.le_of_ble_eq_true rfl) (Nat.le_of_ble_eq_true rfl) ⟨Nat.le_refl _, Nat.le_add_right _ _⟩ ⟨_, rfl, (by decide), ⟨⟨zOf.rf, fun _ _ => rfl⟩, by omega, fun q9 => ⟨rfl, by omega, by omega⟩⟩⟩
      · refine tz_iconst (pc := 23) dX12_right_23 ?_
        refine tz_goto (pc := 24) (tgt := 28) dX12_right_24 (by decide) ?_
        exact tz_zret (pc := 28) (z := 1) dX12_right_28 rfl (Or.inr rfl) (Nat.le_of_ble_eq_true rfl) (Nat.le_of_ble_eq_true rfl) ⟨Nat.le_refl _, Nat.le_add_right _ _⟩ ⟨_, rfl, (by decide), ⟨⟨zOf.rf, fun _ _ => rfl⟩, by omega, fun q9 => ⟨rfl, by omega, by omega⟩⟩⟩
    · refine tz_aload_n (pc := 11) dX12_right_11 rfl rfl ?_
      refine tz_iload_n (pc := 12) dX12_right_12 rfl rfl ?_
      refine tz_pI (pc := 13) (kz := 8) dX12_right_13 fl_X12_68 i_164_8 rfl rfl (by omega) ?_
      refine tz_aload_n (pc := 16) dX12_right_16 rfl rfl ?_
      refine tz_fI (pc := 17) (kz := 8) (v := y) dX12_right_17 fl_X12_68 i_164_8 rfl rfl (fun r_17 => ?_)
      refine tz_if_ne (pc := 20) (tgt := 27) dX12_right_20 (by decide) (by omega) (fun h_20 => ?_) (fun h_20 => ?_)
      · refine tz_iconst (pc := 27) dX12_right_27 ?_
        exact tz_zret (pc := 28) (z := 0) dX12_right_28 rfl (Or.inl rfl) (Nat.le_of_ble_eq_true rfl) (Nat.le_of_ble_eq_true rfl) ⟨Nat.le_refl _, Nat.le_add_right _ _⟩ ⟨_, rfl, (by decide), ⟨⟨zOf.up rfl zOf.rf, fun k hk => zup_ne hk⟩, by omega, fun q9 => by omega⟩⟩
      · refine tz_iconst (pc := 23) dX12_right_23 ?_
        refine tz_goto (pc := 24) (tgt := 28) dX12_right_24 (by decide) ?_
        exact tz_zret (pc := 28) (z := 1) dX12_right_28 rfl (Or.inr rfl) (Nat.le_of_ble_eq_true rfl) (Nat.le_of_ble_eq_true rfl) ⟨Nat.le_refl _, Nat.le_add_right _ _⟩ ⟨_, rfl, (by decide), ⟨⟨zOf.up rfl zOf.rf, fun k hk => zup_ne hk⟩, by omega, fun q9 => by omega⟩⟩

/-! ===== a table is copied ===== -/
def fcy (f : Int → Int) (a b m : Int) : Int → Int := fun k => if b ≤ k ∧ k < b + m then f (a + (k - b)) else f k
theorem fcy_0 {f : Int → Int} {a b : Int} : f = fcy f a b 0 := by
  funext k
  unfold fcy
  rw [if_neg (by omega)]
theorem fcy_s {f g h : Int → Int} {a b i m : Int} (e : g = fcy f a b i) (hi : 0 ≤ i ∧ i < m) (hd : a + m ≤ b ∨ b + m ≤ a) (hh : ∀ k, h k = if k = b + i then g (a + i) else g k) : h = fcy f a b (i + 1) := by
  funext k
  rw [hh k, e]
  have e1 : fcy f a b i (a + i) = f (a + i) := by unfold fcy; rw [if_neg (by omega)]
  rw [e1]
  unfold fcy
  by_cases hk : k = b + i
  · rw [if_pos hk, if_pos (by omega), show a + (k - b) = a + i by omega]
  · rw [if_neg hk]
    by_cases h2 : b ≤ k ∧ k < b + i
    · rw [if_pos h2, if_pos (by omega)]
    · rw [if_neg h2, if_neg (by omega)]
set_option maxHeartbeats 4000000 in
set_option maxRecDepth 100000 in
theorem m_moves {l : Launch} {G : tb_G} (hl : l.stackTraces = false) (n : Nat) (J : zJ) (a : Int) (b : Int) (hr_a : -2147483648 ≤ a ∧ a < 2147483648) (hr_b : -2147483648 ≤ b ∧ b < 2147483648)  (h0 : (0 ≤ a ∧ a ≤ 800) ∧ 0 ≤ b ∧ b ≤ 800) (hd : a + 400 ≤ b ∨ b + 400 ≤ a) : tz_Ok l G M_X12_movesTerms 0 0 0 [.ref 164, zi a, zi b] n J (zqv (fun J' => zOf (zbut [166, 167, 168]) J' J ∧ (J' 166 = fcy (J 166) a b (400) ∧ J' 168 = fcy (J 168) a b (400) ∧ J' 167 = fcy (J 167) (3 * a) (3 * b) (1200)))) zN := by
  refine tz_Ok.of hl (by decide +kernel) rfl (tb_c1 rfl) (Nat.le_of_ble_eq_true rfl) ?_
  show tz_At l G M_X12_movesTerms (tb_rm 0 0 0) none (tb_ZM G 0 0 (zQ n 0 (zqv (fun J' => zOf (zbut [166, 167, 168]) J' J ∧ (J' 166 = fcy (J 166) a b (400) ∧ J' 168 = fcy (J 168) a b (400) ∧ J' 167 = fcy (J 167) (3 * a) (3 * b) (1200))))) (zX n 0 zN)) 0 0 n J 0 [some (.ref 164), some (zi a), some (zi b), none, none] []
  refine tz_iconst (pc := 0) dX12_movesTerms_0 ?_
  refine tz_istore_n (pc := 1) (L2 := [_, _, _, _, _]) dX12_movesTerms_1 rfl (by decide) rfl ?_
  have loop2 : ∀ (f9 : Nat) (i : Int) (d4 : Option Value) (J1 : zJ), ((400 - i).toNat) < f9 → (0 ≤ i ∧ i ≤ 400) → (zOf (zbut [166, 167, 168]) J1 J) → (J1 166 = fcy (J 166) a b (i) ∧ J1 168 = fcy (J 168) a b (i) ∧ J1 167 = fcy (J 167) (3 * a) (3 * b) (3 * i)) → tz_At l G M_X12_movesTerms (tb_rm 0 0 0) none (tb_ZM G 0 0 (zQ n 0 (zqv (fun J' => zOf (zbut [166, 167, 168]) J' J ∧ (J' 166 = fcy (J 166) a b (400) ∧ J' 168 = fcy (J 168) a b (400) ∧ J' 167 = fcy (J 167) (3 * a) (3 * b) (1200))))) (zX n 0 zN)) 0 0 n J1 2 [some (.ref 164), some (zi a), some (zi b), some (zi i), d4] [] := by
    intro f9
    induction f9 with
    | zero => intro i d4 J1 hm9; exact absurd hm9 (Nat.not_lt_zero _)
    | succ f9 ih2 =>
      intro i d4 J1 hm2 hi f1 e1
      refine tz_iload_n (pc := 2) dX12_movesTerms_2 rfl rfl ?_
      refine tz_sipush (pc := 3) dX12_movesTerms_3 (by decide) ?_
      refine tz_icmp_ge (pc := 6) (tgt := 88) dX12_movesTerms_6 (by decide) (by omega) (by decide) (fun h_6 => ?_) (fun h_6 => ?_)
      · exact tz_vret (pc := 88) dX12_movesTerms_88 rfl (Nat.le_of_ble_eq_true rfl) (Nat.le_of_ble_eq_true rfl) ⟨Nat.le_refl _, Nat.le_add_right _ _⟩ ⟨rfl, (by have ei : i = 400 := (by omega); subst ei; exact ⟨f1, e1⟩)⟩
      · refine tz_aload_n (pc := 9) dX12_movesTerms_9 rfl rfl ?_
        refine tz_fR (pc := 10) dX12_movesTerms_10 fl_X12_13 r_164_1 ?_
        refine tz_iload_n (pc := 13) dX12_movesTerms_13 rfl rfl ?_
        refine tz_iload_n (pc := 14) dX12_movesTerms_14 rfl rfl ?_
        refine tz_iadd (pc := 15) (v := b + i) dX12_movesTerms_15 rfl ?_
        refine tz_aload_n (pc := 16) dX12_movesTerms_16 rfl rfl ?_
        refine tz_fR (pc := 17) dX12_movesTerms_17 fl_X12_13 r_164_1 ?_
        refine tz_iload_n (pc := 20) dX12_movesTerms_20 rfl rfl ?_
        refine tz_iload_n (pc := 21) dX12_movesTerms_21 rfl rfl ?_
        refine tz_iadd (pc := 22) (v := a + i) dX12_movesTerms_22 rfl ?_
        refine tz_aL (pc := 23) (z := (a + i)) (v := (J1 166 (a + i))) dX12_movesTerms_23 a_166 rfl (by omega) rfl (fun r_23 => ?_)
        refine tz_aS (pc := 24) (z := (b + i)) dX12_movesTerms_24 a_166 rfl (by omega) (by omega) ?_
        refine tz_aload_n (pc := 25) dX12_movesTerms_25 rfl rfl ?_
        refine tz_fR (pc := 26) dX12_movesTerms_26 fl_X12_19 r_164_3 ?_
        refine tz_iload_n (pc := 29) dX12_movesTerms_29 rfl rfl ?_
        refine tz_iload_n (pc := 30) dX12_movesTerms_30 rfl rfl ?_
        refine tz_iadd (pc := 31) (v := b + i) dX12_movesTerms_31 rfl ?_
        refine tz_aload_n (pc := 32) dX12_movesTerms_32 rfl rfl ?_
        refine tz_fR (pc := 33) dX12_movesTerms_33 fl_X12_19 r_164_3 ?_
        refine tz_iload_n (pc := 36) dX12_movesTerms_36 rfl rfl ?_
        refine tz_iload_n (pc := 37) dX12_movesTerms_37 rfl rfl ?_
        refine tz_iadd (pc := 38) (v := a + i) dX12_movesTerms_38 rfl ?_
        refine tz_aL (pc := 39) (z := (a + i)) (v := (J1 168 (a + i))) dX12_movesTerms_39 a_168 rfl (by omega) rfl (fun r_39 => ?_)
        refine tz_aS (pc := 40) (z := (b + i)) dX12_movesTerms_40 a_168 rfl (by omega) (by omega) ?_
        refine tz_iconst (pc := 41) dX12_movesTerms_41 ?_
        refine tz_istore (pc := 42) (L2 := [_, _, _, _, _]) dX12_movesTerms_42 (by decide) rfl ?_
        have loop44 : ∀ (f9 : Nat) (j : Int) (J2 : zJ), ((3 - j).toNat) < f9 → (0 ≤ j ∧ j ≤ 3) → (zOf (zbut [166, 167, 168]) J2 J) → (J2 166 = fcy (J 166) a b (i + 1) ∧ J2 168 = fcy (J 168) a b (i + 1) ∧ J2 167 = fcy (J 167) (3 * a) (3 * b) (3 * i + j)) → tz_At l G M_X12_movesTerms (tb_rm 0 0 0) none (tb_ZM G 0 0 (zQ n 0 (zqv (fun J' => zOf (zbut [166, 167, 168]) J' J ∧ (J' 166 = fcy (J 166) a b (400) ∧ J' 168 = fcy (J 168) a b (400) ∧ J' 167 = fcy (J 167) (3 * a) (3 * b) (1200))))) (zX n 0 zN)) 0 0 n J2 44 [some (.ref 164), some (zi a), some (zi b), some (zi i), some (zi j)] [] := by
          intro f9
          induction f9 with
          | zero => intro j J2 hm9; exact absurd hm9 (Nat.not_lt_zero _)
          | succ f9 ih44 =>
            intro j J2 hm44 hj f2 e2
            refine tz_iload (pc := 44) dX12_movesTerms_44 rfl ?_
            refine tz_iconst (pc := 46) dX12_movesTerms_46 ?_
            refine tz_icmp_ge (pc := 47) (tgt := 82) dX12_movesTerms_47 (by decide) (by omega) (by decide) (fun h_47 => ?_) (fun h_47 => ?_)
            · refine tz_iinc (pc := 82) (z := i + 1) (L2 := [_, _, _, _, _]) dX12_movesTerms_82 rfl (by omega) rfl ?_
              refine tz_goto (pc := 85) (tgt := 2) dX12_movesTerms_85 (by decide) ?_
              have ej : j = 3 := by omega
              subst ej
              exact ih2 (i + 1) _ _ (by omega) (by omega) f2 ⟨e2.1, e2.2.1, (show 3 * (i + 1) = 3 * i + 3 by omega) ▸ e2.2.2⟩
            · refine tz_aload_n (pc := 50) dX12_movesTerms_50 rfl rfl ?_
              refine tz_fR (pc := 51) dX12_movesTerms_51 fl_X12_16 r_164_2 ?_
              refine tz_iconst (pc := 54) dX12_movesTerms_54 ?_
              refine tz_iload_n (pc := 55) dX12_movesTerms_55 rfl rfl ?_
              refine tz_iload_n (pc := 56) dX12_movesTerms_56 rfl rfl ?_
              refine tz_iadd (pc := 57) (v := b + i) dX12_movesTerms_57 rfl ?_
              refine tz_imul (pc := 58) (v := 3 * (b + i)) dX12_movesTerms_58 rfl ?_
              refine tz_iload (pc := 59) dX12_movesTerms_59 rfl ?_
              refine tz_iadd (pc := 61) (v := (3 * (b + i)) + j) dX12_movesTerms_61 rfl ?_
              refine tz_aload_n (pc := 62) dX12_movesTerms_62 rfl rfl ?_
              refine tz_fR (pc := 63) dX12_movesTerms_63 fl_X12_16 r_164_2 ?_
              refine tz_iconst (pc := 66) dX12_movesTerms_66 ?_
              refine tz_iload_n (pc := 67) dX12_movesTerms_67 rfl rfl ?_
              refine tz_iload_n (pc := 68) dX12_movesTerms_68 rfl rfl ?_
              refine tz_iadd (pc := 69) (v := a + i) dX12_movesTerms_69 rfl ?_
              refine tz_imul (pc := 70) (v := 3 * (a + i)) dX12_movesTerms_70 rfl ?_
              refine tz_iload (pc := 71) dX12_movesTerms_71 rfl ?_
              refine tz_iadd (pc := 73) (v := (3 * (a + i)) + j) dX12_movesTerms_73 rfl ?_
              refine tz_aL (pc := 74) (z := ((3 * (a + i)) + j)) (v := (J2 167 ((3 * (a + i)) + j))) dX12_movesTerms_74 a_167 rfl (by omega) rfl (fun r_74 => ?_)
              refine tz_aS (pc := 75) (z := ((3 * (b + i)) + j)) dX12_movesTerms_75 a_167 rfl (by omega) (by omega) ?_
              refine tz_iinc (pc := 76) (z := j + 1) (L2 := [_, _, _, _, _]) dX12_movesTerms_76 rfl (by omega) rfl ?_
              refine tz_goto (pc := 79) (tgt := 44) dX12_movesTerms_79 (by decide) ?_
              exact ih44 (j + 1) _ (by omega) (by omega) (zOf.up rfl f2) ⟨e2.1, e2.2.1, (show 3 * i + j + 1 = 3 * i + (j + 1) by omega) ▸ fcy_s (m := 1200) e2.2.2 (by omega) (by omega) (fun k => by rw [show 3 * b + (3 * i + j) = 3 * (b + i) + j by omega, show 3 * a + (3 * i + j) = 3 * (a + i) + j by omega]; rfl)⟩
        exact loop44 _ 0 _ (Nat.lt_succ_self _) (by omega) (zOf.up rfl (zOf.up rfl f1)) ⟨fcy_s (m := 400) e1.1 (by omega) hd (fun _ => rfl), fcy_s (m := 400) e1.2.1 (by omega) hd (fun _ => rfl), by rw [Int.add_zero]; exact e1.2.2⟩
  exact loop2 _ 0 none _ (Nat.lt_succ_self _) (by omega) zOf.rf ⟨fcy_0, fcy_0, fcy_0⟩

end
section
/-! ===== reading by the reference ===== -/
def RSz (J : zJ) : Prop := (0 ≤ J 164 37 ∧ J 164 37 ≤ 700) ∧ 0 ≤ J 164 35 ∧ J 164 35 ≤ J 164 37
def rdF (k : Int) : Bool := decide (k = 35 ∨ k = 36 ∨ k = 38 ∨ k = 39 ∨ k = 40 ∨ k = 41 ∨ k = 42)
/-- what a step of the reading changes -/
def RGo (J' J : zJ) : Prop := zOf (zbut [164]) J' J ∧ ∀ k, rdF k = false → J' 164 k = J 164 k
set_option maxHeartbeats 4000000 in
set_option maxRecDepth 100000 in
theorem m_byteAt {l : Launch} {G : tb_G} (hl : l.stackTraces = false) (n : Nat) (J : zJ) (x : Int) (hr_x : -2147483648 ≤ x ∧ x < 2147483648)  (h0 : 0 ≤ x) (h1 : J 164 37 ≤ 700) : tz_Ok l G M_X12_byteAt 0 0 0 [.ref 164, zi x] n J (zqi (fun z J' => J = J' ∧ (J 164 37 ≤ x → z = 0) ∧ (x < J 164 37 → J 173 x = z))) zN := by
  refine tz_Ok.of hl (by decide +kernel) rfl (tb_c1 rfl) (Nat.le_of_ble_eq_true rfl) ?_
  show tz_At l G M_X12_byteAt (tb_rm 0 0 0) none (tb_ZM G 0 0 (zQ n 0 (zqi (fun z J' => J = J' ∧ (J 164 37 ≤ x → z = 0) ∧ (x < J 164 37 → J 173 x = z)))) (zX n 0 zN)) 0 0 n J 0 [some (.ref 164), some (zi x)] []
  refine tz_iload_n (pc := 0) dX12_byteAt_0 rfl rfl ?_
  refine tz_aload_n (pc := 1) dX12_byteAt_1 rfl rfl ?_
  refine tz_fI (pc := 2) (kz := 37) (v := (J 164 37)) dX12_byteAt_2 fl_X12_233 i_164_37 rfl rfl (fun r_2 => ?_)
  refine tz_icmp_ge (pc := 5) (tgt := 17) dX12_byteAt_5 (by decide) (by omega) (by omega) (fun h_5 => ?_) (fun h_5 => ?_)
  · refine tz_iconst (pc := 17) dX12_byteAt_17 ?_
    exact tz_iret (pc := 18) (z := 0) dX12_byteAt_18 rfl (Nat.le_of_ble_eq_true rfl) (Nat.le_of_ble_eq_true rfl) ⟨Nat.le_refl _, Nat.le_add_right _ _⟩ ⟨_, rfl, (by decide), ⟨rfl, fun q9 => by omega, fun q9 => by omega⟩⟩
  · refine tz_aload_n (pc := 8) dX12_byteAt_8 rfl rfl ?_
    refine tz_fR (pc := 9) dX12_byteAt_9 fl_X12_34 r_164_18 ?_
    refine tz_iload_n (pc := 12) dX12_byteAt_12 rfl rfl ?_
    refine tz_aL (pc := 13) (z := x) (v := (J 173 x)) dX12_byteAt_13 a_173 rfl (by omega) rfl (fun r_13 => ?_)
    refine tz_goto (pc := 14) (tgt := 18) dX12_byteAt_14 (by decide) ?_
    exact tz_iret (pc := 18) (z := (J 173 x)) dX12_byteAt_18 rfl (Nat.le_of_ble_eq_true rfl) (Nat.le_of_ble_eq_true rfl) ⟨Nat.le_refl _, Nat.le_add_right _ _⟩ ⟨_, rfl, (by omega), ⟨rfl, fun q9 => by omega, fun q9 => by omega⟩⟩

set_option maxHeartbeats 4000000 in
set_option maxRecDepth 100000 in
theorem m_isLet {l : Launch} {G : tb_G} (hl : l.stackTraces = false) (n : Nat) (J : zJ) (x : Int) (hr_x : -2147483648 ≤ x ∧ x < 2147483648)   : tz_Ok l G M_X12_isLetter 0 0 0 [zi x] n J (zqi (fun z J' => J = J' ∧ ((z = 1 ∧ 97 ≤ x ∧ x ≤ 122) ∨ (z = 0 ∧ ¬ (97 ≤ x ∧ x ≤ 122))))) zN := by
  refine tz_Ok.of hl (by decide +kernel) rfl (tb_c1 rfl) (Nat.le_of_ble_eq_true rfl) ?_
  show tz_At l G M_X12_isLetter (tb_rm 0 0 0) none (tb_ZM G 0 0 (zQ n 0 (zqi (fun z J' => J = J' ∧ ((z = 1 ∧ 97 ≤ x ∧ x ≤ 122) ∨ (z = 0 ∧ ¬ (97 ≤ x ∧ x ≤ 122)))))) (zX n 0 zN)) 0 0 n J 0 [some (zi x)] []
  refine tz_iload_n (pc := 0) dX12_isLetter_0 rfl rfl ?_
  refine tz_bipush (pc := 1) dX12_isLetter_1 (by decide) ?_
  refine tz_icmp_lt (pc := 3) (tgt := 16) dX12_isLetter_3 (by decide) (by omega) (by decide) (fun h_3 => ?_) (fun h_3 => ?_)
  · refine tz_iconst (pc := 16) dX12_isLetter_16 ?_
    exact tz_zret (pc := 17) (z := 0) dX12_isLetter_17 rfl (Or.inl rfl) (Nat.le_of_ble_eq_true rfl) (Nat.le_of_ble_eq_true rfl) ⟨Nat.le_refl _, Nat.le_add_right _ _⟩ ⟨_, rfl, (by decide), ⟨rfl, by omega⟩⟩
  · refine tz_iload_n (pc := 6) dX12_isLetter_6 rfl rfl ?_
    refine tz_bipush (pc := 7) dX12_isLetter_7 (by decide) ?_
    refine tz_icmp_gt (pc := 9) (tgt := 16) dX12_isLetter_9 (by decide) (by omega) (by decide) (fun h_9 => ?_) (fun h_9 => ?_)
    · refine tz_iconst (pc := 16) dX12_isLetter_16 ?_
      exact tz_zret (pc := 17) (z := 0) dX12_isLetter_17 rfl (Or.inl rfl) (Nat.le_of_ble_eq_true rfl) (Nat.le_of_ble_eq_true rfl) ⟨Nat.le_refl _, Nat.le_add_right _ _⟩ ⟨_, rfl, (by decide), ⟨rfl, by omega⟩⟩
    · refine tz_iconst (pc := 12) dX12_isLetter_12 ?_
      refine tz_goto (pc := 13) (tgt := 17) dX12_isLetter_13 (by decide) ?_
      exact tz_zret (pc := 17) (z := 1) dX12_isLetter_17 rfl (Or.inr rfl) (Nat.le_of_ble_eq_true rfl) (Nat.le_of_ble_eq_true rfl) ⟨Nat.le_refl _, Nat.le_add_right _ _⟩ ⟨_, rfl, (by decide), ⟨rfl, by omega⟩⟩

set_option maxHeartbeats 4000000 in
set_option maxRecDepth 100000 in
theorem m_isSgn {l : Launch} {G : tb_G} (hl : l.stackTraces = false) (n : Nat) (J : zJ) (x : Int) (hr_x : -2147483648 ≤ x ∧ x < 2147483648)   : tz_Ok l G M_X12_isSignByte 0 0 0 [.ref 164, zi x] n J (zqi (fun z J' => J = J' ∧ (z = 0 ∨ z = 1))) zN := by
  refine tz_Ok.of hl (by decide +kernel) rfl (tb_c1 rfl) (Nat.le_of_ble_eq_true rfl) ?_
  show tz_At l G M_X12_isSignByte (tb_rm 0 0 0) none (tb_ZM G 0 0 (zQ n 0 (zqi (fun z J' => J = J' ∧ (z = 0 ∨ z = 1)))) (zX n 0 zN)) 0 0 n J 0 [some (.ref 164), some (zi x)] []
  refine tz_iload_n (pc := 0) dX12_isSignByte_0 rfl rfl ?_
  refine tz_bipush (pc := 1) dX12_isSignByte_1 (by decide) ?_
  refine tz_icmp_eq (pc := 3) (tgt := 30) dX12_isSignByte_3 (by decide) (by omega) (by decide) (fun h_3 => ?_) (fun h_3 => ?_)
  · refine tz_iconst (pc := 30) dX12_isSignByte_30 ?_
    refine tz_goto (pc := 31) (tgt := 35) dX12_isSignByte_31 (by decide) ?_
    exact tz_zret (pc := 35) (z := 1) dX12_isSignByte_35 rfl (Or.inr rfl) (Nat.le_of_ble_eq_true rfl) (Nat.le_of_ble_eq_true rfl) ⟨Nat.le_refl _, Nat.le_add_right _ _⟩ ⟨_, rfl, (by decide), ⟨rfl, by omega⟩⟩
  · refine tz_iload_n (pc := 6) dX12_isSignByte_6 rfl rfl ?_
    refine tz_bipush (pc := 7) dX12_isSignByte_7 (by decide) ?_
    refine tz_icmp_eq (pc := 9) (tgt := 30) dX12_isSignByte_9 (by decide) (by omega) (by decide) (fun h_9 => ?_) (fun h_9 => ?_)
    · refine tz_iconst (pc := 30) dX12_isSignByte_30 ?_
      refine tz_goto (pc := 31) (tgt := 35) dX12_isSignByte_31 (by decide) ?_
      exact tz_zret (pc := 35) (z := 1) dX12_isSignByte_35 rfl (Or.inr rfl) (Nat.le_of_ble_eq_true rfl) (Nat.le_of_ble_eq_true rfl) ⟨Nat.le_refl _, Nat.le_add_right _ _⟩ ⟨_, rfl, (by decide), ⟨rfl, by omega⟩⟩
    · refine tz_iload_n (pc := 12) dX12_isSignByte_12 rfl rfl ?_
      refine tz_bipush (pc := 13) dX12_isSignByte_13 (by decide) ?_
      refine tz_icmp_eq (pc := 15) (tgt := 30) dX12_isSignByte_15 (by decide) (by omega) (by decide) (fun h_15 => ?_) (fun h_15 => ?_)
      · refine tz_iconst (pc := 30) dX12_isSignByte_30 ?_
        refine tz_goto (pc := 31) (tgt := 35) dX12_isSignByte_31 (by decide) ?_
        exact tz_zret (pc := 35) (z := 1) dX12_isSignByte_35 rfl (Or.inr rfl) (Nat.le_of_ble_eq_true rfl) (Nat.le_of_ble_eq_true rfl) ⟨Nat.le_refl _, Nat.le_add_right _ _⟩ ⟨_, rfl, (by decide), ⟨rfl, by omega⟩⟩
      · refine tz_iload_n (pc := 18) dX12_isSignByte_18 rfl rfl ?_
        refine tz_bipush (pc := 19) dX12_isSignByte_19 (by decide) ?_
        refine tz_icmp_eq (pc := 21) (tgt := 30) dX12_isSignByte_21 (by decide) (by omega) (by decide) (fun h_21 => ?_) (fun h_21 => ?_)
        · refine tz_iconst (pc := 30) dX12_isSignByte_30 ?_
          refine tz_goto (pc := 31) (tgt := 35) dX12_isSignByte_31 (by decide) ?_
          exact tz_zret (pc := 35) (z := 1) dX12_isSignByte_35 rfl (Or.inr rfl) (Nat.le_of_ble_eq_true rfl) (Nat.le_of_ble_eq_true rfl) ⟨Nat.le_refl _, Nat.le_add_right _ _⟩ ⟨_, rfl, (by decide), ⟨rfl, by omega⟩⟩
        · refine tz_iload_n (pc := 24) dX12_isSignByte_24 rfl rfl ?_
          refine tz_bipush (pc := 25) dX12_isSignByte_25 (by decide) ?_
          refine tz_icmp_ne (pc := 27) (tgt := 34) dX12_isSignByte_27 (by decide) (by omega) (by decide) (fun h_27 => ?_) (fun h_27 => ?_)
          · refine tz_iconst (pc := 34) dX12_isSignByte_34 ?_
            exact tz_zret (pc := 35) (z := 0) dX12_isSignByte_35 rfl (Or.inl rfl) (Nat.le_of_ble_eq_true rfl) (Nat.le_of_ble_eq_true rfl) ⟨Nat.le_refl _, Nat.le_add_right _ _⟩ ⟨_, rfl, (by decide), ⟨rfl, by omega⟩⟩
          · refine tz_iconst (pc := 30) dX12_isSignByte_30 ?_
            refine tz_goto (pc := 31) (tgt := 35) dX12_isSignByte_31 (by decide) ?_
            exact tz_zret (pc := 35) (z := 1) dX12_isSignByte_35 rfl (Or.inr rfl) (Nat.le_of_ble_eq_true rfl) (Nat.le_of_ble_eq_true rfl) ⟨Nat.le_refl _, Nat.le_add_right _ _⟩ ⟨_, rfl, (by decide), ⟨rfl, by omega⟩⟩

set_option maxHeartbeats 4000000 in
set_option maxRecDepth 100000 in
theorem m_wants {l : Launch} {G : tb_G} (hl : l.stackTraces = false) (n : Nat) (J : zJ) (x : Int) (y : Int) (hr_x : -2147483648 ≤ x ∧ x < 2147483648) (hr_y : -2147483648 ≤ y ∧ y < 2147483648)  (hy : ¬ y = 0) : tz_Ok l G M_X12_wants 0 0 0 [.ref 164, zi x, zi y] n J (zqi (fun z J' => (zOf (zbut [164]) J' J ∧ ∀ k, ¬ k = 43 → ¬ k = 20 → J' 164 k = J 164 k) ∧ (z = 0 ∨ z = 1) ∧ (z = 1 → J = J' ∧ J 164 43 = 0 ∧ ¬ x = 0) ∧ (z = 0 → ¬ J' 164 43 = 0))) zN := by
  refine tz_Ok.of hl (by decide +kernel) rfl (tb_c1 rfl) (Nat.le_of_ble_eq_true rfl) ?_
  show tz_At l G M_X12_wants (tb_rm 0 0 0) none (tb_ZM G 0 0 (zQ n 0 (zqi (fun z J' => (zOf (zbut [164]) J' J ∧ ∀ k, ¬ k = 43 → ¬ k = 20 → J' 164 k = J 164 k) ∧ (z = 0 ∨ z = 1) ∧ (z = 1 → J = J' ∧ J 164 43 = 0 ∧ ¬ x = 0) ∧ (z = 0 → ¬ J' 164 43 = 0)))) (zX n 0 zN)) 0 0 n J 0 [some (.ref 164), some (zi x), some (zi y)] []
  refine tz_aload_n (pc := 0) dX12_wants_0 rfl rfl ?_
  refine tz_fI (pc := 1) (kz := 43) (v := (J 164 43)) dX12_wants_1 fl_X12_273 i_164_43 rfl rfl (fun r_1 => ?_)
  refine tz_if_ne (pc := 4) (tgt := 24) dX12_wants_4 (by decide) (by omega) (fun h_4 => ?_) (fun h_4 => ?_)
  · refine tz_aload_n (pc := 24) dX12_wants_24 rfl rfl ?_
    refine tz_fI (pc := 25) (kz := 43) (v := (J 164 43)) dX12_wants_25 fl_X12_273 i_164_43 rfl rfl (fun r_25 => ?_)
    refine tz_if_ne (pc := 28) (tgt := 35) dX12_wants_28 (by decide) (by omega) (fun h_28 => ?_) (fun h_28 => ?_)
    · refine tz_iconst (pc := 35) dX12_wants_35 ?_
      exact tz_zret (pc := 36) (z := 0) dX12_wants_36 rfl (Or.inl rfl) (Nat.le_of_ble_eq_true rfl) (Nat.le_of_ble_eq_true rfl) ⟨Nat.le_refl _, Nat.le_add_right _ _⟩ ⟨_, rfl, (by decide), ⟨⟨zOf.rf, fun _ _ _ => rfl⟩, by omega, fun q9 => ⟨rfl, by omega, by omega⟩, fun q9 => by omega⟩⟩
    · refine tz_iconst (pc := 31) dX12_wants_31 ?_
      refine tz_goto (pc := 32) (tgt := 36) dX12_wants_32 (by decide) ?_
      exact tz_zret (pc := 36) (z := 1) dX12_wants_36 rfl (Or.inr rfl) (Nat.le_of_ble_eq_true rfl) (Nat.le_of_ble_eq_true rfl) ⟨Nat.le_refl _, Nat.le_add_right _ _⟩ ⟨_, rfl, (by decide), ⟨⟨zOf.rf, fun _ _ _ => rfl⟩, by omega, fun q9 => ⟨rfl, by omega, by omega⟩, fun q9 => by omega⟩⟩
  · refine tz_iload_n (pc := 7) dX12_wants_7 rfl rfl ?_
    refine tz_if_ne (pc := 8) (tgt := 24) dX12_wants_8 (by decide) (by omega) (fun h_8 => ?_) (fun h_8 => ?_)
    · refine tz_aload_n (pc := 24) dX12_wants_24 rfl rfl ?_
      refine tz_fI (pc := 25) (kz := 43) (v := (J 164 43)) dX12_wants_25 fl_X12_273 i_164_43 rfl rfl (fun r_25 => ?_)
      refine tz_if_ne (pc := 28) (tgt := 35) dX12_wants_28 (by decide) (by omega) (fun h_28 => ?_) (fun h_28 => ?_)
      · refine tz_iconst (pc := 35) dX12_wants_35 ?_
        exact tz_zret (pc := 36) (z := 0) dX12_wants_36 rfl (Or.inl rfl) (Nat.le_of_ble_eq_true rfl) (Nat.le_of_ble_eq_true rfl) ⟨Nat.le_refl _, Nat.le_add_right _ _⟩ ⟨_, rfl, (by decide), ⟨⟨zOf.rf, fun _ _ _ => rfl⟩, by omega, fun q9 => ⟨rfl, by omega, by omega⟩, fun q9 => by omega⟩⟩
      · refine tz_iconst (pc := 31) dX12_wants_31 ?_
        refine tz_goto (pc := 32) (tgt := 36) dX12_wants_32 (by decide) ?_
        exact tz_zret (pc := 36) (z := 1) dX12_wants_36 rfl (Or.inr rfl) (Nat.le_of_ble_eq_true rfl) (Nat.le_of_ble_eq_true rfl) ⟨Nat.le_refl _, Nat.le_add_right _ _⟩ ⟨_, rfl, (by decide), ⟨⟨zOf.rf, fun _ _ _ => rfl⟩, by omega, fun q9 => ⟨rfl, by omega, by omega⟩, fun q9 => by omega⟩⟩
    · refine tz_aload_n (pc := 11) dX12_wants_11 rfl rfl ?_
      refine tz_iload_n (pc := 12) dX12_wants_12 rfl rfl ?_
      refine tz_pI (pc := 13) (kz := 43) dX12_wants_13 fl_X12_273 i_164_43 rfl rfl (by omega) ?_
      refine tz_aload_n (pc := 16) dX12_wants_16 rfl rfl ?_
      refine tz_aload_n (pc := 17) dX12_wants_17 rfl rfl ?_
      refine tz_fI (pc := 18) (kz := 36) (v := (J 164 36)) dX12_wants_18 fl_X12_246 i_164_36 rfl rfl (fun r_18 => ?_)
      refine tz_pI (pc := 21) (kz := 20) dX12_wants_21 fl_X12_37 i_164_20 rfl rfl (by omega) ?_
      refine tz_aload_n (pc := 24) dX12_wants_24 rfl rfl ?_
      refine tz_fI (pc := 25) (kz := 43) (v := y) dX12_wants_25 fl_X12_273 i_164_43 rfl rfl (fun r_25 => ?_)
      refine tz_if_ne (pc := 28) (tgt := 35) dX12_wants_28 (by decide) (by omega) (fun h_28 => ?_) (fun h_28 => ?_)
      · refine tz_iconst (pc := 35) dX12_wants_35 ?_
        exact tz_zret (pc := 36) (z := 0) dX12_wants_36 rfl (Or.inl rfl) (Nat.le_of_ble_eq_true rfl) (Nat.le_of_ble_eq_true rfl) ⟨Nat.le_refl _, Nat.le_add_right _ _⟩ ⟨_, rfl, (by decide), ⟨⟨zOf.up rfl (zOf.up rfl zOf.rf), fun k h1 h2 => (zup_ne h2).trans (zup_ne h1)⟩, by omega, fun q9 => by omega, fun q9 => by show ¬ zup J 164 43 y 164 43 = 0; rw [zup_at]; exact hy⟩⟩
      · refine tz_iconst (pc := 31) dX12_wants_31 ?_
        refine tz_goto (pc := 32) (tgt := 36) dX12_wants_32 (by decide) ?_
        exact tz_zret (pc := 36) (z := 1) dX12_wants_36 rfl (Or.inr rfl) (Nat.le_of_ble_eq_true rfl) (Nat.le_of_ble_eq_true rfl) ⟨Nat.le_refl _, Nat.le_add_right _ _⟩ ⟨_, rfl, (by decide), ⟨⟨zOf.up rfl (zOf.up rfl zOf.rf), fun k h1 h2 => (zup_ne h2).trans (zup_ne h1)⟩, by omega, fun q9 => by omega, fun q9 => by show ¬ zup J 164 43 y 164 43 = 0; rw [zup_at]; exact hy⟩⟩

set_option maxHeartbeats 4000000 in
set_option maxRecDepth 100000 in
theorem m_symOf {l : Launch} {G : tb_G} (hl : l.stackTraces = false) (n : Nat) (J : zJ) (x : Int) (hr_x : -2147483648 ≤ x ∧ x < 2147483648)  (h0 : 0 ≤ J 164 44 ∧ J 164 44 ≤ 10) : tz_Ok l G M_X12_symbolOf 0 0 0 [.ref 164, zi x] n J (zqi (fun z J' => J = J' ∧ (z = -1 ∨ (0 ≤ z ∧ z < J 164 44)))) zN := by
  refine tz_Ok.of hl (by decide +kernel) rfl (tb_c1 rfl) (Nat.le_of_ble_eq_true rfl) ?_
  show tz_At l G M_X12_symbolOf (tb_rm 0 0 0) none (tb_ZM G 0 0 (zQ n 0 (zqi (fun z J' => J = J' ∧ (z = -1 ∨ (0 ≤ z ∧ z < J 164 44))))) (zX n 0 zN)) 0 0 n J 0 [some (.ref 164), some (zi x), none] []
  refine tz_iconst (pc := 0) dX12_symbolOf_0 ?_
  refine tz_istore_n (pc := 1) (L2 := [_, _, _]) dX12_symbolOf_1 rfl (by decide) rfl ?_
  have loop2 : ∀ (f9 : Nat) (k : Int), ((10 - k).toNat) < f9 → (0 ≤ k ∧ k ≤ 10) → tz_At l G M_X12_symbolOf (tb_rm 0 0 0) none (tb_ZM G 0 0 (zQ n 0 (zqi (fun z J' => J = J' ∧ (z = -1 ∨ (0 ≤ z ∧ z < J 164 44))))) (zX n 0 zN)) 0 0 n J 2 [some (.ref 164), some (zi x), some (zi k)] [] := by
    intro f9
    induction f9 with
    | zero => intro k hm9; exact absurd hm9 (Nat.not_lt_zero _)
    | succ f9 ih2 =>
      intro k hm2 hk
      refine tz_iload_n (pc := 2) dX12_symbolOf_2 rfl rfl ?_
      refine tz_aload_n (pc := 3) dX12_symbolOf_3 rfl rfl ?_
      refine tz_fI (pc := 4) (kz := 44) (v := (J 164 44)) dX12_symbolOf_4 fl_X12_287 i_164_44 rfl rfl (fun r_4 => ?_)
      refine tz_icmp_ge (pc := 7) (tgt := 31) dX12_symbolOf_7 (by decide) (by omega) (by omega) (fun h_7 => ?_) (fun h_7 => ?_)
      · refine tz_iconst (pc := 31) dX12_symbolOf_31 ?_
        exact tz_iret (pc := 32) (z := (-1)) dX12_symbolOf_32 rfl (Nat.le_of_ble_eq_true rfl) (Nat.le_of_ble_eq_true rfl) ⟨Nat.le_refl _, Nat.le_add_right _ _⟩ ⟨_, rfl, (by decide), ⟨rfl, by omega⟩⟩
      · refine tz_aload_n (pc := 10) dX12_symbolOf_10 rfl rfl ?_
        refine tz_fR (pc := 11) dX12_symbolOf_11 fl_X12_22 r_164_4 ?_
        refine tz_bipush (pc := 14) dX12_symbolOf_14 (by decide) ?_
        refine tz_iload_n (pc := 16) dX12_symbolOf_16 rfl rfl ?_
        refine tz_iadd (pc := 17) (v := 10 + k) dX12_symbolOf_17 rfl ?_
        refine tz_aL (pc := 18) (z := (10 + k)) (v := (J 169 (10 + k))) dX12_symbolOf_18 a_169 rfl (by omega) rfl (fun r_18 => ?_)
        refine tz_iload_n (pc := 19) dX12_symbolOf_19 rfl rfl ?_
        refine tz_icmp_ne (pc := 20) (tgt := 25) dX12_symbolOf_20 (by decide) (by omega) (by omega) (fun h_20 => ?_) (fun h_20 => ?_)
        · refine tz_iinc (pc := 25) (z := k + 1) (L2 := [_, _, _]) dX12_symbolOf_25 rfl (by omega) rfl ?_
          refine tz_goto (pc := 28) (tgt := 2) dX12_symbolOf_28 (by decide) ?_
          exact ih2 (k + 1) (by omega) (by omega)
        · refine tz_iload_n (pc := 23) dX12_symbolOf_23 rfl rfl ?_
          exact tz_iret (pc := 24) (z := k) dX12_symbolOf_24 rfl (Nat.le_of_ble_eq_true rfl) (Nat.le_of_ble_eq_true rfl) ⟨Nat.le_refl _, Nat.le_add_right _ _⟩ ⟨_, rfl, (by omega), ⟨rfl, by omega⟩⟩
  exact loop2 _ 0 (Nat.lt_succ_self _) (by omega)

set_option maxHeartbeats 4000000 in
set_option maxRecDepth 100000 in
theorem m_wordFrom {l : Launch} {G : tb_G} (hl : l.stackTraces = false) (n : Nat) (J : zJ) (x : Int) (y : Int) (hr_x : -2147483648 ≤ x ∧ x < 2147483648) (hr_y : -2147483648 ≤ y ∧ y < 2147483648)  (h0 : 0 ≤ x ∧ x ≤ 700) (h1 : J 164 37 ≤ 700) (h2 : y ≤ 700) : tz_Ok l G M_X12_wordFrom 1 0 0 [.ref 164, zi x, zi y] n J (zqi (fun z J' => J = J' ∧ -1 ≤ z)) zN := by
  refine tz_Ok.of hl (by decide +kernel) rfl (tb_c1 rfl) (Nat.le_of_ble_eq_true rfl) ?_
  show tz_At l G M_X12_wordFrom (tb_rm 1 0 0) none (tb_ZM G 0 0 (zQ n 0 (zqi (fun z J' => J = J' ∧ -1 ≤ z))) (zX n 0 zN)) 0 0 n J 0 [some (.ref 164), some (zi x), some (zi y), none, none, none, none] []
  refine tz_iconst (pc := 0) dX12_wordFrom_0 ?_
  refine tz_istore_n (pc := 1) (L2 := [_, _, _, _, _, _, _]) dX12_wordFrom_1 rfl (by decide) rfl ?_
  refine tz_iload_n (pc := 2) dX12_wordFrom_2 rfl rfl ?_
  refine tz_istore (pc := 3) (L2 := [_, _, _, _, _, _, _]) dX12_wordFrom_3 (by decide) rfl ?_
  refine tz_iconst (pc := 5) dX12_wordFrom_5 ?_
  refine tz_istore (pc := 6) (L2 := [_, _, _, _, _, _, _]) dX12_wordFrom_6 (by decide) rfl ?_
  refine tz_iconst (pc := 8) dX12_wordFrom_8 ?_
  refine tz_istore (pc := 9) (L2 := [_, _, _, _, _, _, _]) dX12_wordFrom_9 (by decide) rfl ?_
  have loop11 : ∀ (f9 : Nat) (q : Int) (p : Int) (e : Int) (k : Int), ((31 - k).toNat) < f9 → (0 ≤ q ∧ q ≤ k) → (0 ≤ p ∧ p ≤ 700 + k) → (e = 0 ∨ e = 1) → (0 ≤ k ∧ k ≤ 31) → tz_At l G M_X12_wordFrom (tb_rm 1 0 0) none (tb_ZM G 0 0 (zQ n 0 (zqi (fun z J' => J = J' ∧ -1 ≤ z))) (zX n 0 zN)) 0 0 n J 11 [some (.ref 164), some (zi x), some (zi y), some (zi q), some (zi p), some (zi e), some (zi k)] [] := by
    intro f9
    induction f9 with
    | zero => intro q p e k hm9; exact absurd hm9 (Nat.not_lt_zero _)
    | succ f9 ih11 =>
      intro q p e k hm11 hq hp he hk
      refine tz_iload (pc := 11) dX12_wordFrom_11 rfl ?_
      refine tz_knL (pc := 13) dX12_wordFrom_13 dX12_wordFrom_16 (by decide +kernel) ?_
      refine tz_icmp_ge (pc := 17) (tgt := 98) dX12_wordFrom_17 (by decide) (by omega) (by decide) (fun h_17 => ?_) (fun h_17 => ?_)
      · refine tz_iconst (pc := 98) dX12_wordFrom_98 ?_
        exact tz_iret (pc := 99) (z := (-1)) dX12_wordFrom_99 rfl (Nat.le_of_ble_eq_true rfl) (Nat.le_of_ble_eq_true rfl) ⟨Nat.le_refl _, Nat.le_add_right _ _⟩ ⟨_, rfl, (by decide), ⟨rfl, by omega⟩⟩
      · obtain ⟨v_20, hv_20⟩ : ∃ v, (tb_kn.getD k.toNat 0).toInt = v := ⟨_, rfl⟩
        have hw_20 : -2147483648 ≤ v_20 ∧ v_20 < 2147483648 := hv_20 ▸ z_rg _
        refine tz_knD (pc := 20) (k9 := k) (v := v_20) (by omega) hv_20 rfl dX12_wordFrom_20 dX12_wordFrom_23 dX12_wordFrom_25 (by decide +kernel) ?_
        refine tz_bipush (pc := 26) dX12_wordFrom_26 (by decide) ?_
        refine tz_icmp_ne (pc := 28) (tgt := 56) dX12_wordFrom_28 (by decide) (by omega) (by decide) (fun h_28 => ?_) (fun h_28 => ?_)
        · refine tz_iload (pc := 56) dX12_wordFrom_56 rfl ?_
          refine tz_if_eq (pc := 58) (tgt := 86) dX12_wordFrom_58 (by decide) (by omega) (fun h_58 => ?_) (fun h_58 => ?_)
          · refine tz_iconst (pc := 86) dX12_wordFrom_86 ?_
            refine tz_istore (pc := 87) (L2 := [_, _, _, _, _, _, _]) dX12_wordFrom_87 (by decide) rfl ?_
            refine tz_iinc (pc := 89) (z := p + 1) (L2 := [_, _, _, _, _, _, _]) dX12_wordFrom_89 rfl (by omega) rfl ?_
            refine tz_iinc (pc := 92) (z := k + 1) (L2 := [_, _, _, _, _, _, _]) dX12_wordFrom_92 rfl (by omega) rfl ?_
            refine tz_goto (pc := 95) (tgt := 11) dX12_wordFrom_95 (by decide) ?_
            exact ih11 _ _ _ (k + 1) (by omega) (by omega) (by omega) (by omega) (by omega)
          · refine tz_iload (pc := 61) dX12_wordFrom_61 rfl ?_
            refine tz_iload_n (pc := 63) dX12_wordFrom_63 rfl rfl ?_
            refine tz_icmp_ge (pc := 64) (tgt := 86) dX12_wordFrom_64 (by decide) (by omega) (by omega) (fun h_64 => ?_) (fun h_64 => ?_)
            · refine tz_iconst (pc := 86) dX12_wordFrom_86 ?_
              refine tz_istore (pc := 87) (L2 := [_, _, _, _, _, _, _]) dX12_wordFrom_87 (by decide) rfl ?_
              refine tz_iinc (pc := 89) (z := p + 1) (L2 := [_, _, _, _, _, _, _]) dX12_wordFrom_89 rfl (by omega) rfl ?_
              refine tz_iinc (pc := 92) (z := k + 1) (L2 := [_, _, _, _, _, _, _]) dX12_wordFrom_92 rfl (by omega) rfl ?_
              refine tz_goto (pc := 95) (tgt := 11) dX12_wordFrom_95 (by decide) ?_
              exact ih11 _ _ _ (k + 1) (by omega) (by omega) (by omega) (by omega) (by omega)
            · refine tz_aload_n (pc := 67) dX12_wordFrom_67 rfl rfl ?_
              refine tz_iload (pc := 68) dX12_wordFrom_68 rfl ?_
              refine tz_cV (pc := 70) (m_byteAt hl n _ _ (by omega) (by omega) h1) vl_X12_240 dX12_wordFrom_70 o_164 rfl rfl (Nat.le_of_ble_eq_true rfl) ⟨(Nat.le_of_ble_eq_true rfl), (Nat.le_of_ble_eq_true rfl)⟩ rfl rfl (Nat.le_of_ble_eq_true rfl) (Nat.le_of_ble_eq_true rfl) (fun r9 J_70 hq9 => ?_)
              obtain ⟨z_70, rfl, hz_70, rfl, hb70, hc70⟩ := hq9
              obtain ⟨v_73, hv_73⟩ : ∃ v, (tb_kn.getD k.toNat 0).toInt = v := ⟨_, rfl⟩
              have hw_73 : -2147483648 ≤ v_73 ∧ v_73 < 2147483648 := hv_73 ▸ z_rg _
              refine tz_knD (pc := 73) (k9 := k) (v := v_73) (by omega) hv_73 rfl dX12_wordFrom_73 dX12_wordFrom_76 dX12_wordFrom_78 (by decide +kernel) ?_
              refine tz_icmp_ne (pc := 79) (tgt := 86) dX12_wordFrom_79 (by decide) (by omega) (by omega) (fun h_79 => ?_) (fun h_79 => ?_)
              · refine tz_iconst (pc := 86) dX12_wordFrom_86 ?_
                refine tz_istore (pc := 87) (L2 := [_, _, _, _, _, _, _]) dX12_wordFrom_87 (by decide) rfl ?_
                refine tz_iinc (pc := 89) (z := p + 1) (L2 := [_, _, _, _, _, _, _]) dX12_wordFrom_89 rfl (by omega) rfl ?_
                refine tz_iinc (pc := 92) (z := k + 1) (L2 := [_, _, _, _, _, _, _]) dX12_wordFrom_92 rfl (by omega) rfl ?_
                refine tz_goto (pc := 95) (tgt := 11) dX12_wordFrom_95 (by decide) ?_
                exact ih11 _ _ _ (k + 1) (by omega) (by omega) (by omega) (by omega) (by omega)
              · refine tz_iconst (pc := 82) dX12_wordFrom_82 ?_
                refine tz_goto (pc := 83) (tgt := 87) dX12_wordFrom_83 (by decide) ?_
                refine tz_istore (pc := 87) (L2 := [_, _, _, _, _, _, _]) dX12_wordFrom_87 (by decide) rfl ?_
                refine tz_iinc (pc := 89) (z := p + 1) (L2 := [_, _, _, _, _, _, _]) dX12_wordFrom_89 rfl (by omega) rfl ?_
                refine tz_iinc (pc := 92) (z := k + 1) (L2 := [_, _, _, _, _, _, _]) dX12_wordFrom_92 rfl (by omega) rfl ?_
                refine tz_goto (pc := 95) (tgt := 11) dX12_wordFrom_95 (by decide) ?_
                exact ih11 _ _ _ (k + 1) (by omega) (by omega) (by omega) (by omega) (by omega)
        · refine tz_iload (pc := 31) dX12_wordFrom_31 rfl ?_
          refine tz_if_eq (pc := 33) (tgt := 44) dX12_wordFrom_33 (by decide) (by omega) (fun h_33 => ?_) (fun h_33 => ?_)
          · refine tz_iinc (pc := 44) (z := q + 1) (L2 := [_, _, _, _, _, _, _]) dX12_wordFrom_44 rfl (by omega) rfl ?_
            refine tz_iload_n (pc := 47) dX12_wordFrom_47 rfl rfl ?_
            refine tz_istore (pc := 48) (L2 := [_, _, _, _, _, _, _]) dX12_wordFrom_48 (by decide) rfl ?_
            refine tz_iconst (pc := 50) dX12_wordFrom_50 ?_
            refine tz_istore (pc := 51) (L2 := [_, _, _, _, _, _, _]) dX12_wordFrom_51 (by decide) rfl ?_
            refine tz_goto (pc := 53) (tgt := 92) dX12_wordFrom_53 (by decide) ?_
            refine tz_iinc (pc := 92) (z := k + 1) (L2 := [_, _, _, _, _, _, _]) dX12_wordFrom_92 rfl (by omega) rfl ?_
            refine tz_goto (pc := 95) (tgt := 11) dX12_wordFrom_95 (by decide) ?_
            exact ih11 _ _ _ (k + 1) (by omega) (by omega) (by omega) (by omega) (by omega)
          · refine tz_iload (pc := 36) dX12_wordFrom_36 rfl ?_
            refine tz_iload_n (pc := 38) dX12_wordFrom_38 rfl rfl ?_
            refine tz_icmp_ne (pc := 39) (tgt := 44) dX12_wordFrom_39 (by decide) (by omega) (by omega) (fun h_39 => ?_) (fun h_39 => ?_)
            · refine tz_iinc (pc := 44) (z := q + 1) (L2 := [_, _, _, _, _, _, _]) dX12_wordFrom_44 rfl (by omega) rfl ?_
              refine tz_iload_n (pc := 47) dX12_wordFrom_47 rfl rfl ?_
              refine tz_istore (pc := 48) (L2 := [_, _, _, _, _, _, _]) dX12_wordFrom_48 (by decide) rfl ?_
              refine tz_iconst (pc := 50) dX12_wordFrom_50 ?_
              refine tz_istore (pc := 51) (L2 := [_, _, _, _, _, _, _]) dX12_wordFrom_51 (by decide) rfl ?_
              refine tz_goto (pc := 53) (tgt := 92) dX12_wordFrom_53 (by decide) ?_
              refine tz_iinc (pc := 92) (z := k + 1) (L2 := [_, _, _, _, _, _, _]) dX12_wordFrom_92 rfl (by omega) rfl ?_
              refine tz_goto (pc := 95) (tgt := 11) dX12_wordFrom_95 (by decide) ?_
              exact ih11 _ _ _ (k + 1) (by omega) (by omega) (by omega) (by omega) (by omega)
            · refine tz_iload_n (pc := 42) dX12_wordFrom_42 rfl rfl ?_
              exact tz_iret (pc := 43) (z := q) dX12_wordFrom_43 rfl (Nat.le_of_ble_eq_true rfl) (Nat.le_of_ble_eq_true rfl) ⟨Nat.le_refl _, Nat.le_add_right _ _⟩ ⟨_, rfl, (by omega), ⟨rfl, by omega⟩⟩
  exact loop11 _ 0 x 1 0 (Nat.lt_succ_self _) (by omega) (by omega) (by omega) (by omega)

end
