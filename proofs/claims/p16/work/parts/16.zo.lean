/-! ===== what stays ===== -/
def zOf (f : Nat → Bool) (J' J : zJ) : Prop := ∀ c, f c = true → J' c = J c
theorem zOf.rf {f : Nat → Bool} {J : zJ} : zOf f J J := fun _ _ => rfl
theorem zOf.up {f : Nat → Bool} {J' J : zJ} {c : Nat} {k z : Int} (hc : f c = false) (h : zOf f J' J) : zOf f (zup J' c k z) J := fun d hd => by
  have : ¬ d = c := fun e => by rw [e, hc] at hd; cases hd
  rw [zup_nc this]
  exact h d hd
theorem zOf.cp {f : Nat → Bool} {J' J : zJ} {c0 c9 : Nat} {sp dp ln : Int} (hc : f c9 = false) (h : zOf f J' J) : zOf f (zcp J' c0 c9 sp dp ln) J := fun d hd => by
  have : ¬ d = c9 := fun e => by rw [e, hc] at hd; cases hd
  rw [zcp_nc this]
  exact h d hd
theorem zOf.fl {f : Nat → Bool} {J' J : zJ} {c : Nat} {len v : Int} (hc : f c = false) (h : zOf f J' J) : zOf f (zfl J' c len v) J := fun d hd => by
  have : ¬ d = c := fun e => by rw [e, hc] at hd; cases hd
  rw [zfl_nc this]
  exact h d hd
theorem zOf.tr {f : Nat → Bool} {J3 J2 J1 : zJ} (h : zOf f J3 J2) (h2 : zOf f J2 J1) : zOf f J3 J1 := fun c hc => (h c hc).trans (h2 c hc)
theorem zOf.mono {f g : Nat → Bool} {J2 J1 : zJ} (h : zOf f J2 J1) (hg : ∀ c, g c = true → f c = true) : zOf g J2 J1 := fun c hc => h c (hg c hc)
/-- all but these cells; all but those between two -/
def zbut (cs : List Nat) : Nat → Bool := fun c => !(cs.contains c)
section TZT
variable {l : Launch} {G : tb_G} {y : tb_Mt} {R : Room} {xt : Option (Nat × (Nat → Int32))} {k1 k2 n : Nat} {J : zJ} {pc : Nat} {L : List (Option Value)} {S : List Value} {Q : Option Value → zJ → Prop} {X : String → zJ → Prop} {mc ms n0 : Nat}
theorem tz_throw {cls text : String} {names : List String} {ik is ic : Nat} (ht : tb_TH y.1.cls ik ic cls names) (hstr : (y.1.cls, is, text) ∈ tb_strs) (hh : y.2.2.2.2 = [])
    (d0 : decode y.2.1 pc = .ok (.new ik, 3)) (d3 : decode y.2.1 (pc + 3) = .ok (.dup, 1)) (d4 : decode y.2.1 (pc + 4) = .ok (.ldc is, 2)) (d6 : decode y.2.1 (pc + 6) = .ok (.invokespecial ic, 3)) (d9 : decode y.2.1 (pc + 9) = .ok (.athrow, 1))
    (hRf : names.length + 3 < R.frames) (hRl : (S.map fun v => v.category).sum + (13 * (names.length + 1) + 43) ≤ R.locals) (hRc : k1 + 1 ≤ R.cells) (hRs : k2 + 6 ≤ R.slots) (hc : k1 + 1 ≤ mc) (hs : k2 + 6 ≤ ms) (hn : n0 ≤ n ∧ n ≤ n0 + mc) (hx : X cls J) :
    tz_At l G y R xt (tb_ZM G mc ms (zQ n0 mc Q) (zX n0 mc X)) k1 k2 n J pc L S := fun ok => tb_throw ht hstr hh d0 d3 d4 d6 d9 hRf hRl hRc hRs hc hs ⟨J, rfl, rfl, ok, hn.1, hn.2, hx⟩
theorem tz_throwW {cls text : String} {names : List String} {ik is ic : Nat} (ht : tb_TH y.1.cls ik ic cls names) (hstr : (y.1.cls, is, text) ∈ tb_strs) (hh : y.2.2.2.2 = [])
    (d0 : decode y.2.1 pc = .ok (.new ik, 3)) (d3 : decode y.2.1 (pc + 3) = .ok (.dup, 1)) (d4 : decode y.2.1 (pc + 4) = .ok (.ldc_w is, 3)) (d7 : decode y.2.1 (pc + 7) = .ok (.invokespecial ic, 3)) (d10 : decode y.2.1 (pc + 10) = .ok (.athrow, 1))
    (hRf : names.length + 3 < R.frames) (hRl : (S.map fun v => v.category).sum + (13 * (names.length + 1) + 43) ≤ R.locals) (hRc : k1 + 1 ≤ R.cells) (hRs : k2 + 6 ≤ R.slots) (hc : k1 + 1 ≤ mc) (hs : k2 + 6 ≤ ms) (hn : n0 ≤ n ∧ n ≤ n0 + mc) (hx : X cls J) :
    tz_At l G y R xt (tb_ZM G mc ms (zQ n0 mc Q) (zX n0 mc X)) k1 k2 n J pc L S := fun ok => tb_throwW ht hstr hh d0 d3 d4 d7 d10 hRf hRl hRc hRs hc hs ⟨J, rfl, rfl, ok, hn.1, hn.2, hx⟩
theorem tz_throwN {cls text Y9 : String} {r9 : List String} {ik is ic : Nat} (ht : tb_TN y.1.cls ik ic cls Y9 r9) (hstr : (y.1.cls, is, text) ∈ tb_strs) (hh : y.2.2.2.2 = [])
    (d0 : decode y.2.1 pc = .ok (.new ik, 3)) (d3 : decode y.2.1 (pc + 3) = .ok (.dup, 1)) (d4 : decode y.2.1 (pc + 4) = .ok (.ldc is, 2)) (d6 : decode y.2.1 (pc + 6) = .ok (.invokespecial ic, 3)) (d9 : decode y.2.1 (pc + 9) = .ok (.athrow, 1))
    (hRf : (Y9 :: r9).length + 3 < R.frames) (hRl : (S.map fun v => v.category).sum + (13 * ((Y9 :: r9).length + 1) + 43) ≤ R.locals) (hRc : k1 + 1 ≤ R.cells) (hRs : k2 + 6 ≤ R.slots) (hc : k1 + 1 ≤ mc) (hs : k2 + 6 ≤ ms) (hn : n0 ≤ n ∧ n ≤ n0 + mc) (hx : X cls J) :
    tz_At l G y R xt (tb_ZM G mc ms (zQ n0 mc Q) (zX n0 mc X)) k1 k2 n J pc L S := fun ok => tb_throwN ht hstr hh d0 d3 d4 d6 d9 hRf hRl hRc hRs hc hs ⟨J, rfl, rfl, ok, hn.1, hn.2, hx⟩
theorem tz_throwNW {cls text Y9 : String} {r9 : List String} {ik is ic : Nat} (ht : tb_TN y.1.cls ik ic cls Y9 r9) (hstr : (y.1.cls, is, text) ∈ tb_strs) (hh : y.2.2.2.2 = [])
    (d0 : decode y.2.1 pc = .ok (.new ik, 3)) (d3 : decode y.2.1 (pc + 3) = .ok (.dup, 1)) (d4 : decode y.2.1 (pc + 4) = .ok (.ldc_w is, 3)) (d7 : decode y.2.1 (pc + 7) = .ok (.invokespecial ic, 3)) (d10 : decode y.2.1 (pc + 10) = .ok (.athrow, 1))
    (hRf : (Y9 :: r9).length + 3 < R.frames) (hRl : (S.map fun v => v.category).sum + (13 * ((Y9 :: r9).length + 1) + 43) ≤ R.locals) (hRc : k1 + 1 ≤ R.cells) (hRs : k2 + 6 ≤ R.slots) (hc : k1 + 1 ≤ mc) (hs : k2 + 6 ≤ ms) (hn : n0 ≤ n ∧ n ≤ n0 + mc) (hx : X cls J) :
    tz_At l G y R xt (tb_ZM G mc ms (zQ n0 mc Q) (zX n0 mc X)) k1 k2 n J pc L S := fun ok => tb_throwNW ht hstr hh d0 d3 d4 d7 d10 hRf hRl hRc hRs hc hs ⟨J, rfl, rfl, ok, hn.1, hn.2, hx⟩
end TZT
set_option maxHeartbeats 4000000 in
set_option maxRecDepth 100000 in
theorem zm_greater {l : Launch} {G : tb_G} (hl : l.stackTraces = false) (n : Nat) (J : zJ) (a : Int) (b : Int) (hr_a : -2147483648 ≤ a ∧ a < 2147483648) (hr_b : -2147483648 ≤ b ∧ b < 2147483648)   : tz_Ok l G M_X12_greater 0 0 0 [zi a, zi b] n J (zqi (fun z J' => J = J' ∧ (if b < a then a else b) = z)) zN := by
  refine tz_Ok.of hl (by decide +kernel) rfl (tb_c1 rfl) (Nat.le_of_ble_eq_true rfl) ?_
  show tz_At l G M_X12_greater (tb_rm 0 0 0) none (tb_ZM G 0 0 (zQ n 0 (zqi (fun z J' => J = J' ∧ (if b < a then a else b) = z))) (zX n 0 zN)) 0 0 n J 0 [some (zi a), some (zi b)] []
  refine tz_iload_n (pc := 0) dX12_greater_0 rfl rfl ?_
  refine tz_iload_n (pc := 1) dX12_greater_1 rfl rfl ?_
  refine tz_icmp_le (pc := 2) (tgt := 9) dX12_greater_2 (by decide) (by omega) (by omega) (fun h_2 => ?_) (fun h_2 => ?_)
  · refine tz_iload_n (pc := 9) dX12_greater_9 rfl rfl ?_
    exact tz_iret (pc := 10) (z := b) dX12_greater_10 rfl (Nat.le_of_ble_eq_true rfl) (Nat.le_of_ble_eq_true rfl) ⟨Nat.le_refl _, Nat.le_add_right _ _⟩ ⟨_, rfl, (by omega), ⟨rfl, by split <;> omega⟩⟩
  · refine tz_iload_n (pc := 5) dX12_greater_5 rfl rfl ?_
    refine tz_goto (pc := 6) (tgt := 10) dX12_greater_6 (by decide) ?_
    exact tz_iret (pc := 10) (z := a) dX12_greater_10 rfl (Nat.le_of_ble_eq_true rfl) (Nat.le_of_ble_eq_true rfl) ⟨Nat.le_refl _, Nat.le_add_right _ _⟩ ⟨_, rfl, (by omega), ⟨rfl, by split <;> omega⟩⟩

def zmv (J : zJ) (c : Nat) (a b m : Int) : zJ := fun c' => if c' = c then (fun k => if b ≤ k ∧ k < b + m then J c (a + (k - b)) else J c k) else J c'
theorem zmv_0 (J : zJ) (c : Nat) (a b : Int) : zmv J c a b 0 = J := by
  funext c' k
  unfold zmv
  by_cases h : c' = c
  · subst h
    have : ¬ (b ≤ k ∧ k < b + 0) := by omega
    simp only [if_true, this, if_false]
  · simp only [h, if_false]
theorem zmv_s (J : zJ) (c : Nat) (a b i m : Int) (h0 : 0 ≤ i ∧ i < m) (hd : a + m ≤ b ∨ b + m ≤ a) : zup (zmv J c a b i) c (b + i) (J c (a + i)) = zmv J c a b (i + 1) := by
  funext c' k
  unfold zup zmv
  by_cases h : c' = c
  · subst h
    simp only [if_true]
    by_cases h1 : k = b + i
    · have h2 : b ≤ k ∧ k < b + (i + 1) := by omega
      have h3 : a + (k - b) = a + i := by omega
      rw [if_pos h1, if_pos h2, h3]
    · rw [if_neg h1]
      by_cases h2 : b ≤ k ∧ k < b + i
      · rw [if_pos h2, if_pos (by omega)]
      · rw [if_neg h2, if_neg (by omega)]
  · simp only [h, if_false]
theorem zmv_rd (J : zJ) (c : Nat) (a b i m : Int) (h0 : 0 ≤ i ∧ i < m) (hd : a + m ≤ b ∨ b + m ≤ a) : zmv J c a b i c (a + i) = J c (a + i) := by
  unfold zmv
  simp only [if_true]
  rw [if_neg (by omega)]
theorem zmv_nc {J : zJ} {c c' : Nat} {a b m : Int} (h : ¬ c' = c) : zmv J c a b m c' = J c' := by simp [zmv, h]
theorem zOf.mv {f : Nat → Bool} {J' J : zJ} {c : Nat} {a b m : Int} (hc : f c = false) (h : zOf f J' J) : zOf f (zmv J' c a b m) J := fun d hd => by
  have : ¬ d = c := fun e => by rw [e, hc] at hd; cases hd
  rw [zmv_nc this]
  exact h d hd
theorem zok.mv {n : Nat} {J : zJ} (h : zok n J) {c : Nat} {a b m : Int} : zok n (zmv J c a b m) := by
  refine ⟨h.1, fun c' k' => ?_⟩
  by_cases e : c' = c
  · subst e
    show -2147483648 ≤ (if c' = c' then (fun k => if b ≤ k ∧ k < b + m then J c' (a + (k - b)) else J c' k) else J c') k' ∧ (if c' = c' then (fun k => if b ≤ k ∧ k < b + m then J c' (a + (k - b)) else J c' k) else J c') k' < 2147483648
    rw [if_pos rfl]
    show -2147483648 ≤ (if b ≤ k' ∧ k' < b + m then J c' (a + (k' - b)) else J c' k') ∧ (if b ≤ k' ∧ k' < b + m then J c' (a + (k' - b)) else J c' k') < 2147483648
    split
    · exact h.2 _ _
    · exact h.2 _ _
  · rw [zmv_nc e]
    exact h.2 _ _
set_option maxHeartbeats 4000000 in
set_option maxRecDepth 100000 in
theorem zm_copies {l : Launch} {G : tb_G} (hl : l.stackTraces = false) (n : Nat) (J : zJ) (a : Int) (b : Int) (m : Int) (hr_a : -2147483648 ≤ a ∧ a < 2147483648) (hr_b : -2147483648 ≤ b ∧ b < 2147483648) (hr_m : -2147483648 ≤ m ∧ m < 2147483648)  (h0 : 0 ≤ a ∧ 0 ≤ b ∧ 0 ≤ m ∧ a + m ≤ 5400 ∧ b + m ≤ 5400) (hd : a + m ≤ b ∨ b + m ≤ a) : tz_Ok l G M_X12_copies 0 0 0 [.ref 164, zi a, zi b, zi m] n J (zqv (fun J' => zmv J 165 a b m = J')) zN := by
  refine tz_Ok.of hl (by decide +kernel) rfl (tb_c1 rfl) (Nat.le_of_ble_eq_true rfl) ?_
  show tz_At l G M_X12_copies (tb_rm 0 0 0) none (tb_ZM G 0 0 (zQ n 0 (zqv (fun J' => zmv J 165 a b m = J'))) (zX n 0 zN)) 0 0 n J 0 [some (.ref 164), some (zi a), some (zi b), some (zi m), none] []
  refine tz_iconst (pc := 0) dX12_copies_0 ?_
  refine tz_istore (pc := 1) (L2 := [_, _, _, _, _]) dX12_copies_1 (by decide) rfl ?_
  have loop3 : ∀ (f9 : Nat) (i : Int), ((m - i).toNat) < f9 → (0 ≤ i ∧ i ≤ m) → tz_At l G M_X12_copies (tb_rm 0 0 0) none (tb_ZM G 0 0 (zQ n 0 (zqv (fun J' => zmv J 165 a b m = J'))) (zX n 0 zN)) 0 0 n (zmv J 165 a b i) 3 [some (.ref 164), some (zi a), some (zi b), some (zi m), some (zi i)] [] := by
    intro f9
    induction f9 with
    | zero => intro i hm9; exact absurd hm9 (Nat.not_lt_zero _)
    | succ f9 ih3 =>
      intro i hm3 hi
      refine tz_iload (pc := 3) dX12_copies_3 rfl ?_
      refine tz_iload_n (pc := 5) dX12_copies_5 rfl rfl ?_
      refine tz_icmp_ge (pc := 6) (tgt := 33) dX12_copies_6 (by decide) (by omega) (by omega) (fun h_6 => ?_) (fun h_6 => ?_)
      · exact tz_vret (pc := 33) dX12_copies_33 rfl (Nat.le_of_ble_eq_true rfl) (Nat.le_of_ble_eq_true rfl) ⟨Nat.le_refl _, Nat.le_add_right _ _⟩ ⟨rfl, by rw [show m = i by omega]⟩
      · refine tz_aload_n (pc := 9) dX12_copies_9 rfl rfl ?_
        refine tz_fR (pc := 10) dX12_copies_10 fl_X12_9 r_164_0 ?_
        refine tz_iload_n (pc := 13) dX12_copies_13 rfl rfl ?_
        refine tz_iload (pc := 14) dX12_copies_14 rfl ?_
        refine tz_iadd (pc := 16) (v := b + i) dX12_copies_16 rfl ?_
        refine tz_aload_n (pc := 17) dX12_copies_17 rfl rfl ?_
        refine tz_fR (pc := 18) dX12_copies_18 fl_X12_9 r_164_0 ?_
        refine tz_iload_n (pc := 21) dX12_copies_21 rfl rfl ?_
        refine tz_iload (pc := 22) dX12_copies_22 rfl ?_
        refine tz_iadd (pc := 24) (v := a + i) dX12_copies_24 rfl ?_
        refine tz_aL (pc := 25) (z := (a + i)) (v := (J 165 (a + i))) dX12_copies_25 a_165 rfl (by omega) (zmv_rd J 165 a b i m (by omega) hd) (fun r_25 => ?_)
        refine tz_aS (pc := 26) (z := (b + i)) dX12_copies_26 a_165 rfl (by omega) (by omega) ?_
        refine tz_iinc (pc := 27) (z := i + 1) (L2 := [_, _, _, _, _]) dX12_copies_27 rfl (by omega) rfl ?_
        refine tz_goto (pc := 30) (tgt := 3) dX12_copies_30 (by decide) ?_
        rw [zmv_s J 165 a b i m (by omega) hd]
        exact ih3 (i + 1) (by omega) (by omega)
  have h9 := loop3 _ 0 (Nat.lt_succ_self _) (by omega)
  rw [zmv_0] at h9
  exact h9

