/-! ===== the walk over whole numbers ===== -/
def zi (z : Int) : Value := .int (Int32.ofInt z)
abbrev zJ : Type := Nat → Int → Int
def zI (J : zJ) : tb_I := fun c k => Int32.ofInt (J c k)
def zj (I : tb_I) : zJ := fun c k => (I c k.toNat).toInt
theorem zI_zj (I : tb_I) : zI (zj I) = I := by
  funext c k
  simp [zI, zj]
theorem z_rg (x : Int32) : -2147483648 ≤ x.toInt ∧ x.toInt < 2147483648 := ⟨x.le_toInt, x.toInt_lt⟩
theorem zj_rg (I : tb_I) (c : Nat) (k : Int) : -2147483648 ≤ zj I c k ∧ zj I c k < 2147483648 := z_rg _
theorem zi_toInt (x : Int32) : zi x.toInt = .int x := by rw [zi, Int32.ofInt_toInt]
theorem zt {z : Int} (h : -2147483648 ≤ z ∧ z < 2147483648) : (Int32.ofInt z).toInt = z := Int32.toInt_ofInt_of_le h.1 h.2
theorem zlt {a b : Int} (ha : -2147483648 ≤ a ∧ a < 2147483648) (hb : -2147483648 ≤ b ∧ b < 2147483648) : Int32.ofInt a < Int32.ofInt b ↔ a < b := by rw [Int32.lt_iff_toInt_lt, zt ha, zt hb]
theorem zle {a b : Int} (ha : -2147483648 ≤ a ∧ a < 2147483648) (hb : -2147483648 ≤ b ∧ b < 2147483648) : Int32.ofInt a ≤ Int32.ofInt b ↔ a ≤ b := by rw [Int32.le_iff_toInt_le, zt ha, zt hb]
theorem zeq {a b : Int} (ha : -2147483648 ≤ a ∧ a < 2147483648) (hb : -2147483648 ≤ b ∧ b < 2147483648) : Int32.ofInt a = Int32.ofInt b ↔ a = b := by rw [← Int32.toInt_inj, zt ha, zt hb]
theorem z0 : Int32.ofInt 0 = (0 : Int32) := by decide
theorem z0r : -2147483648 ≤ (0 : Int) ∧ (0 : Int) < 2147483648 := by decide
theorem zn {z : Int} (h : 0 ≤ z) : Int32.ofInt z = nI z.toNat := by
  obtain ⟨m, rfl⟩ := Int.eq_ofNat_of_zero_le h
  rw [Int.toNat_natCast]
  exact Int32.ofInt_eq_ofNat
def zup (J : zJ) (c : Nat) (k z : Int) : zJ := fun c' => if c' = c then (fun k' => if k' = k then z else J c' k') else J c'
def zcp (J : zJ) (c0 c9 : Nat) (sp dp ln : Int) : zJ := fun c' => if c' = c9 then (fun k' => if dp ≤ k' ∧ k' < dp + ln then J c0 (sp + (k' - dp)) else J c' k') else J c'
def zfl (J : zJ) (c : Nat) (len v : Int) : zJ := fun c' => if c' = c then (fun k' => if k' < len then v else J c' k') else J c'
theorem zup_at {J : zJ} {c : Nat} {k z : Int} : zup J c k z c k = z := by simp [zup]
theorem zup_ne {J : zJ} {c : Nat} {k k' z : Int} (h : ¬ k' = k) : zup J c k z c k' = J c k' := by simp [zup, h]
theorem zup_nc {J : zJ} {c c' : Nat} {k z : Int} (h : ¬ c' = c) : zup J c k z c' = J c' := by simp [zup, h]
theorem zcp_nc {J : zJ} {c0 c9 c' : Nat} {sp dp ln : Int} (h : ¬ c' = c9) : zcp J c0 c9 sp dp ln c' = J c' := by simp [zcp, h]
theorem zcp_in {J : zJ} {c0 c9 : Nat} {sp dp ln k : Int} (h : dp ≤ k ∧ k < dp + ln) : zcp J c0 c9 sp dp ln c9 k = J c0 (sp + (k - dp)) := by simp [zcp, h]
theorem zcp_out {J : zJ} {c0 c9 : Nat} {sp dp ln k : Int} (h : ¬ (dp ≤ k ∧ k < dp + ln)) : zcp J c0 c9 sp dp ln c9 k = J c9 k := by
  simp only [zcp, if_true, h, if_false]
theorem zfl_nc {J : zJ} {c c' : Nat} {len v : Int} (h : ¬ c' = c) : zfl J c len v c' = J c' := by simp [zfl, h]
theorem zfl_in {J : zJ} {c : Nat} {len v k : Int} (h : k < len) : zfl J c len v c k = v := by simp [zfl, h]
theorem zfl_out {J : zJ} {c : Nat} {len v k : Int} (h : ¬ k < len) : zfl J c len v c k = J c k := by simp [zfl, h]
theorem zI_up {J : zJ} {c : Nat} {k z : Int} (h : 0 ≤ k) : tb_up (zI J) c k.toNat (Int32.ofInt z) = zI (zup J c k z) := by
  obtain ⟨m, rfl⟩ := Int.eq_ofNat_of_zero_le h
  funext c' k'
  rw [Int.toNat_natCast]
  show (if c' = c then (fun j => if j = m then Int32.ofInt z else Int32.ofInt (J c j)) else (fun j : Nat => Int32.ofInt (J c' j))) k' = Int32.ofInt ((if c' = c then (fun j : Int => if j = (m : Int) then z else J c' j) else J c') k')
  by_cases h1 : c' = c
  · subst h1
    rw [if_pos rfl, if_pos rfl]
    by_cases h2 : k' = m
    · subst h2
      simp
    · have : ¬ (k' : Int) = (m : Int) := by omega
      simp only [h2, if_false, this]
  · rw [if_neg h1, if_neg h1]
theorem zI_cp {J : zJ} {c0 c9 : Nat} {sp dp ln : Int} (h1 : 0 ≤ sp) (h2 : 0 ≤ dp) (h3 : 0 ≤ ln) : tb_row (zI J) c9 (va_cpy (zI J c0) (zI J c9) sp.toNat dp.toNat ln.toNat) = zI (zcp J c0 c9 sp dp ln) := by
  obtain ⟨a, rfl⟩ := Int.eq_ofNat_of_zero_le h1
  obtain ⟨b, rfl⟩ := Int.eq_ofNat_of_zero_le h2
  obtain ⟨m, rfl⟩ := Int.eq_ofNat_of_zero_le h3
  funext c' k'
  rw [Int.toNat_natCast, Int.toNat_natCast, Int.toNat_natCast]
  show (if c' = c9 then (fun j => if b ≤ j ∧ j < b + m then Int32.ofInt (J c0 ((a + (j - b) : Nat) : Int)) else Int32.ofInt (J c9 j)) else (fun j : Nat => Int32.ofInt (J c' j))) k' = Int32.ofInt ((if c' = c9 then (fun j : Int => if (b : Int) ≤ j ∧ j < (b : Int) + (m : Int) then J c0 ((a : Int) + (j - (b : Int))) else J c' j) else J c') k')
  by_cases e : c' = c9
  · subst e
    rw [if_pos rfl, if_pos rfl]
    show (if b ≤ k' ∧ k' < b + m then Int32.ofInt (J c0 ((a + (k' - b) : Nat) : Int)) else Int32.ofInt (J c' k')) = Int32.ofInt (if (b : Int) ≤ (k' : Int) ∧ (k' : Int) < (b : Int) + (m : Int) then J c0 ((a : Int) + ((k' : Int) - (b : Int))) else J c' k')
    by_cases e2 : b ≤ k' ∧ k' < b + m
    · have e3 : (b : Int) ≤ (k' : Int) ∧ (k' : Int) < (b : Int) + (m : Int) := by omega
      have e4 : ((a + (k' - b) : Nat) : Int) = (a : Int) + ((k' : Int) - (b : Int)) := by omega
      rw [if_pos e2, if_pos e3, e4]
    · have e3 : ¬ ((b : Int) ≤ (k' : Int) ∧ (k' : Int) < (b : Int) + (m : Int)) := by omega
      rw [if_neg e2, if_neg e3]
  · rw [if_neg e, if_neg e]
theorem zI_fl {J : zJ} {c len : Nat} {v : Int} : tb_fl (zI J) c len (Int32.ofInt v) = zI (zfl J c len v) := by
  funext c' k'
  show (if c' = c then (fun j => if j < len then Int32.ofInt v else Int32.ofInt (J c j)) else (fun j : Nat => Int32.ofInt (J c' j))) k' = Int32.ofInt ((if c' = c then (fun j : Int => if j < (len : Int) then v else J c' j) else J c') k')
  by_cases e : c' = c
  · subst e
    rw [if_pos rfl, if_pos rfl]
    show (if k' < len then Int32.ofInt v else Int32.ofInt (J c' k')) = Int32.ofInt (if (k' : Int) < (len : Int) then v else J c' k')
    by_cases e2 : k' < len
    · have e3 : (k' : Int) < (len : Int) := by omega
      rw [if_pos e2, if_pos e3]
    · have e3 : ¬ (k' : Int) < (len : Int) := by omega
      rw [if_neg e2, if_neg e3]
  · rw [if_neg e, if_neg e]
def zok (n : Nat) (J : zJ) : Prop := tb_N0 ≤ n ∧ ∀ c k, -2147483648 ≤ J c k ∧ J c k < 2147483648
theorem zok.up {n : Nat} {J : zJ} (h : zok n J) {c : Nat} {k z : Int} (hz : -2147483648 ≤ z ∧ z < 2147483648) : zok n (zup J c k z) := by
  refine ⟨h.1, fun c' k' => ?_⟩
  by_cases e : c' = c
  · subst e
    by_cases e2 : k' = k
    · subst e2
      rw [zup_at]
      exact hz
    · rw [zup_ne e2]
      exact h.2 _ _
  · rw [zup_nc e]
    exact h.2 _ _
theorem zok.cp {n : Nat} {J : zJ} (h : zok n J) {c0 c9 : Nat} {sp dp ln : Int} : zok n (zcp J c0 c9 sp dp ln) := by
  refine ⟨h.1, fun c' k' => ?_⟩
  by_cases e : c' = c9
  · subst e
    by_cases e2 : dp ≤ k' ∧ k' < dp + ln
    · rw [zcp_in e2]
      exact h.2 _ _
    · rw [zcp_out e2]
      exact h.2 _ _
  · rw [zcp_nc e]
    exact h.2 _ _
theorem zok.fl {n : Nat} {J : zJ} (h : zok n J) {c : Nat} {len v : Int} (hz : -2147483648 ≤ v ∧ v < 2147483648) : zok n (zfl J c len v) := by
  refine ⟨h.1, fun c' k' => ?_⟩
  by_cases e : c' = c
  · subst e
    by_cases e2 : k' < len
    · rw [zfl_in e2]
      exact hz
    · rw [zfl_out e2]
      exact h.2 _ _
  · rw [zfl_nc e]
    exact h.2 _ _
/-- what two ints give, wrapped -/
def zw (z : Int) : Int := (Int32.ofInt z).toInt
theorem zw_rg (z : Int) : -2147483648 ≤ zw z ∧ zw z < 2147483648 := z_rg _
theorem zi_zw (z : Int) : zi (zw z) = zi z := by rw [zi, zw, Int32.ofInt_toInt, zi]
theorem zw_eq {z : Int} (h : -2147483648 ≤ z ∧ z < 2147483648) : zw z = z := zt h
def zand (a b : Int) : Int := (Int32.ofInt a &&& Int32.ofInt b).toInt
def zor (a b : Int) : Int := (Int32.ofInt a ||| Int32.ofInt b).toInt
def zxor (a b : Int) : Int := (Int32.ofInt a ^^^ Int32.ofInt b).toInt
def zshl (a b : Int) : Int := (Int32.ofInt a <<< (Int32.ofInt b &&& 31)).toInt
def zshr (a b : Int) : Int := (Int32.ofInt a >>> (Int32.ofInt b &&& 31)).toInt
def zushr (a b : Int) : Int := ((Int32.ofInt a).toUInt32 >>> ((Int32.ofInt b).toUInt32 &&& Int32.toUInt32 31)).toInt32.toInt
theorem zand_rg (a b : Int) : -2147483648 ≤ zand a b ∧ zand a b < 2147483648 := z_rg _
theorem zor_rg (a b : Int) : -2147483648 ≤ zor a b ∧ zor a b < 2147483648 := z_rg _
theorem zxor_rg (a b : Int) : -2147483648 ≤ zxor a b ∧ zxor a b < 2147483648 := z_rg _
theorem zshl_rg (a b : Int) : -2147483648 ≤ zshl a b ∧ zshl a b < 2147483648 := z_rg _
theorem zshr_rg (a b : Int) : -2147483648 ≤ zshr a b ∧ zshr a b < 2147483648 := z_rg _
theorem z_of (x : Int32) : x = Int32.ofInt x.toInt := (Int32.ofInt_toInt x).symm
theorem z_rem {a b : Int} (ha : 0 ≤ a ∧ a < 2147483648) (hb : 0 < b ∧ b < 2147483648) : Int32.ofInt a - Int32.ofInt a / Int32.ofInt b * Int32.ofInt b = Int32.ofInt (a % b) := by
  obtain ⟨x, rfl⟩ := Int.eq_ofNat_of_zero_le ha.1
  obtain ⟨y, rfl⟩ := Int.eq_ofNat_of_zero_le (Int.le_of_lt hb.1)
  rw [zn ha.1, zn (Int.le_of_lt hb.1), pk_rem (by simp; omega) (by simp; omega) (by simp; omega), Int.toNat_natCast, Int.toNat_natCast, ← Int.natCast_emod, zn (by omega), Int.toNat_natCast]
theorem z_div {a b : Int} (ha : 0 ≤ a ∧ a < 2147483648) (hb : 0 < b ∧ b < 2147483648) : Int32.ofInt a / Int32.ofInt b = Int32.ofInt (a / b) := by
  obtain ⟨x, rfl⟩ := Int.eq_ofNat_of_zero_le ha.1
  obtain ⟨y, rfl⟩ := Int.eq_ofNat_of_zero_le (Int.le_of_lt hb.1)
  rw [zn ha.1, zn (Int.le_of_lt hb.1), pk_div (by simp; omega) (by simp; omega) (by simp; omega), Int.toNat_natCast, Int.toNat_natCast, ← Int.natCast_ediv, zn (Int.natCast_nonneg _), Int.toNat_natCast]
theorem z_and (a : Int) {m : Int} (k : Nat) (hm : (Int32.ofInt m).toBitVec.toNat = 2 ^ k - 1) (hk : k ≤ 30) : 0 ≤ zand a m ∧ zand a m < 2 ^ k := by
  obtain ⟨j, hj, e⟩ := pk_andE (Int32.ofInt a) k hm
  have h1 : (2 : Nat) ^ k ≤ 2 ^ 30 := Nat.pow_le_pow_right (by decide) hk
  unfold zand
  rw [e, nI_toInt (by omega)]
  refine ⟨by omega, ?_⟩
  have h2 : ((j : Nat) : Int) < ((2 ^ k : Nat) : Int) := by omega
  simpa using h2
theorem z_01 {z : Int} (h : z = 0 ∨ z = 1) : Int32.ofInt z = 0 ∨ Int32.ofInt z = 1 := by
  rcases h with rfl | rfl
  · exact Or.inl (by decide)
  · exact Or.inr (by decide)
theorem z_len {len : Nat} {lz : Int} (hl : ((len : Nat) : Int) = lz) : nI len = Int32.ofInt lz := by
  rw [← hl]
  exact Int32.ofInt_eq_ofNat.symm
theorem z_bool {z : Int} (h : z = 0 ∨ z = 1) : narrow .boolean (zi z) = zi z ∧ fits .boolean (zi z) = true := by
  rcases h with rfl | rfl <;> exact ⟨by decide, by decide⟩
/-- at pc, over whole numbers -/
def tz_At (l : Launch) (G : tb_G) (y : tb_Mt) (R : Room) (xt : Option (Nat × (Nat → Int32))) (Z : tb_CT → State → Prop) (k1 k2 n : Nat) (J : zJ) (pc : Nat) (L : List (Option Value)) (S : List Value) : Prop := zok n J → tb_At l G y R xt Z k1 k2 n tb_shT (zI J) pc L S
def zQ (n mc : Nat) (Q : Option Value → zJ → Prop) : tb_Q := fun r n' sh' I' => ∃ J' : zJ, sh' = tb_shT ∧ I' = zI J' ∧ zok n' J' ∧ n ≤ n' ∧ n' ≤ n + mc ∧ Q r J'
def zX (n mc : Nat) (X : String → zJ → Prop) : tb_X := fun E n' sh' I' => ∃ J' : zJ, sh' = tb_shT ∧ I' = zI J' ∧ zok n' J' ∧ n ≤ n' ∧ n' ≤ n + mc ∧ X E J'
def zN : String → zJ → Prop := fun _ _ => False
def tz_Ok (l : Launch) (G : tb_G) (y : tb_Mt) (d mc ms : Nat) (as : List Value) (n : Nat) (J : zJ) (Q : Option Value → zJ → Prop) (X : String → zJ → Prop) : Prop := zok n J → tb_Ok l G y d mc ms as n tb_shT (zI J) (zQ n mc Q) (zX n mc X)
/-- it answers a whole number, or nothing -/
def zqi (P : Int → zJ → Prop) : Option Value → zJ → Prop := fun r J' => ∃ z : Int, r = some (zi z) ∧ (-2147483648 ≤ z ∧ z < 2147483648) ∧ P z J'
def zqv (P : zJ → Prop) : Option Value → zJ → Prop := fun r J' => r = none ∧ P J'
theorem tz_Ok.of {l : Launch} {G : tb_G} {y : tb_Mt} {d mc ms : Nat} {as : List Value} {n : Nat} {J : zJ} {Q : Option Value → zJ → Prop} {X : String → zJ → Prop} (hl : l.stackTraces = false) (hy : plainName y.1.cls = true) (hh : y.2.2.2.2 = []) (hc : ∀ v ∈ as, v.category = 1) (hn : as.length ≤ y.2.2.1)
    (h : tz_At l G y (tb_rm d mc ms) none (tb_ZM G mc ms (zQ n mc Q) (zX n mc X)) 0 0 n J 0 (tb_L0 as y.2.2.1) []) : tz_Ok l G y d mc ms as n J Q X := fun ok => tb_Ok.of hl hy hh hc hn (h ok)
theorem tb_Ok.mono {l : Launch} {G : tb_G} {y : tb_Mt} {d mc ms : Nat} {as : List Value} {n : Nat} {sh : Nat → tb_Sh} {I : tb_I} {Q Q2 : tb_Q} {X X2 : tb_X} (h : tb_Ok l G y d mc ms as n sh I Q X) (hq : ∀ r n' sh' I', Q r n' sh' I' → Q2 r n' sh' I') (hx : ∀ E n' sh' I', X E n' sh' I' → X2 E n' sh' I') : tb_Ok l G y d mc ms as n sh I Q2 X2 := by
  intro h1 h2 adr sz p e ha hc hk s m args below hf happ hP hK
  obtain ⟨n', o, a1, a2, a3, hq9⟩ := h h1 h2 adr sz p e ha hc hk s m args below hf happ hP hK
  refine ⟨n', o, a1, a2, a3, ?_⟩
  rcases hq9 with b | ⟨q, ho, E, ce, L, hx1, b⟩
  · refine Or.inl ?_
    obtain ⟨b1, b2⟩ := b
    refine ⟨?_, b2⟩
    obtain ⟨r, n2, sh2, I2, adr2, c1, c2, c3⟩ := b1
    exact ⟨r, n2, sh2, I2, adr2, c1, hq _ _ _ _ c2, c3⟩
  · refine Or.inr ⟨q, ho, E, ce, L, ?_, b⟩
    obtain ⟨n2, sh2, I2, adr2, c2, c3⟩ := hx1
    exact ⟨n2, sh2, I2, adr2, hx _ _ _ _ c2, c3⟩
theorem tz_Ok.mono {l : Launch} {G : tb_G} {y : tb_Mt} {d mc ms : Nat} {as : List Value} {n : Nat} {J : zJ} {Q Q2 : Option Value → zJ → Prop} {X X2 : String → zJ → Prop} (h : tz_Ok l G y d mc ms as n J Q X) (hq : ∀ r J', zok n J' → Q r J' → Q2 r J') (hx : ∀ E J', zok n J' → X E J' → X2 E J') : tz_Ok l G y d mc ms as n J Q2 X2 := by
  intro ok
  refine (h ok).mono ?_ ?_
  · rintro r n' sh' I' ⟨J', h1, h2, h3, h4, h5, h6⟩
    exact ⟨J', h1, h2, h3, h4, h5, hq r J' ⟨ok.1, h3.2⟩ h6⟩
  · rintro E n' sh' I' ⟨J', h1, h2, h3, h4, h5, h6⟩
    exact ⟨J', h1, h2, h3, h4, h5, hx E J' ⟨ok.1, h3.2⟩ h6⟩
section TZ
variable {l : Launch} {G : tb_G} {y : tb_Mt} {R : Room} {xt : Option (Nat × (Nat → Int32))} {Z : tb_CT → State → Prop} {k1 k2 n : Nat} {J : zJ} {pc : Nat} {L : List (Option Value)} {S : List Value}
theorem tz_iconst {i : Int} (hd : decode y.2.1 pc = .ok (.iconst i, 1)) (k : tz_At l G y R xt Z k1 k2 n J (pc + 1) L (zi i :: S)) : tz_At l G y R xt Z k1 k2 n J pc L S := fun ok => tb_iconst hd rfl (k ok)
theorem tz_bipush {i : Int} (hd : decode y.2.1 pc = .ok (.bipush i, 2)) (hv : (Int8.ofInt i).toInt32 = Int32.ofInt i) (k : tz_At l G y R xt Z k1 k2 n J (pc + 2) L (zi i :: S)) : tz_At l G y R xt Z k1 k2 n J pc L S := fun ok => tb_bipush hd hv (k ok)
theorem tz_sipush {i : Int} (hd : decode y.2.1 pc = .ok (.sipush i, 3)) (hv : (Int16.ofInt i).toInt32 = Int32.ofInt i) (k : tz_At l G y R xt Z k1 k2 n J (pc + 3) L (zi i :: S)) : tz_At l G y R xt Z k1 k2 n J pc L S := fun ok => tb_sipush hd hv (k ok)
theorem tz_ldc {i : Nat} {v : Int32} {z : Int} (hd : decode y.2.1 pc = .ok (.ldc i, 2)) (hw : Cond.constant y.1.cls i v ∈ tb_W) (hz : v = Int32.ofInt z) (k : tz_At l G y R xt Z k1 k2 n J (pc + 2) L (zi z :: S)) : tz_At l G y R xt Z k1 k2 n J pc L S := fun ok => tb_ldc hd (hz ▸ hw) (k ok)
theorem tb_ldcw {sh : Nat → tb_Sh} {I : tb_I} {i : Nat} {v : Int32} (hd : decode y.2.1 pc = .ok (.ldc_w i, 3)) (hw : Cond.constant y.1.cls i v ∈ tb_W)
    (k : tb_At l G y R xt Z k1 k2 n sh I (pc + 3) L (.int v :: S)) : tb_At l G y R xt Z k1 k2 n sh I pc L S := by
  intro ok p e s m args below meth c A adr0 n0 bx C H locs adr ls ha hP hD hS hl
  exact lv_ldcw C.1 C.2.1 C.2.2.2.2.2.1 (C.2.2.2.2.2.2.2.2.1 _ hw) hd (k ⟨ok.1, ok.2.1, .cons trivial ok.2.2⟩ p e s m args below meth c A adr0 n0 bx C H locs adr ls ha hP hD hS hl)
theorem tz_ldcw {i : Nat} {v : Int32} {z : Int} (hd : decode y.2.1 pc = .ok (.ldc_w i, 3)) (hw : Cond.constant y.1.cls i v ∈ tb_W) (hz : v = Int32.ofInt z) (k : tz_At l G y R xt Z k1 k2 n J (pc + 3) L (zi z :: S)) : tz_At l G y R xt Z k1 k2 n J pc L S := fun ok => tb_ldcw hd (hz ▸ hw) (k ok)
theorem tz_iload_n {q : Fin 4} {i : Nat} {x : Int} (hd : decode y.2.1 pc = .ok (.iload_n q, 1)) (hq : (q : Nat) = i) (hL : L[i]? = some (some (zi x))) (k : tz_At l G y R xt Z k1 k2 n J (pc + 1) L (zi x :: S)) : tz_At l G y R xt Z k1 k2 n J pc L S := fun ok => tb_iload_n hd hq hL (k ok)
theorem tz_iload {i : Nat} {x : Int} (hd : decode y.2.1 pc = .ok (.iload i, 2)) (hL : L[i]? = some (some (zi x))) (k : tz_At l G y R xt Z k1 k2 n J (pc + 2) L (zi x :: S)) : tz_At l G y R xt Z k1 k2 n J pc L S := fun ok => tb_iload hd hL (k ok)
theorem tz_aload_n {q : Fin 4} {i x : Nat} (hd : decode y.2.1 pc = .ok (.aload_n q, 1)) (hq : (q : Nat) = i) (hL : L[i]? = some (some (.ref x))) (k : tz_At l G y R xt Z k1 k2 n J (pc + 1) L (.ref x :: S)) : tz_At l G y R xt Z k1 k2 n J pc L S := fun ok => tb_aload_n hd hq hL (k ok)
theorem tz_aload {i x : Nat} (hd : decode y.2.1 pc = .ok (.aload i, 2)) (hL : L[i]? = some (some (.ref x))) (k : tz_At l G y R xt Z k1 k2 n J (pc + 2) L (.ref x :: S)) : tz_At l G y R xt Z k1 k2 n J pc L S := fun ok => tb_aload hd hL (k ok)
theorem tz_istore_n {q : Fin 4} {i : Nat} {x : Int} {L2 : List (Option Value)} (hd : decode y.2.1 pc = .ok (.istore_n q, 1)) (hq : (q : Nat) = i) (hi : i < y.2.2.1) (hL : L.set i (some (zi x)) = L2) (k : tz_At l G y R xt Z k1 k2 n J (pc + 1) L2 S) : tz_At l G y R xt Z k1 k2 n J pc L (zi x :: S) := fun ok => tb_istore_n hd hq hi hL (k ok)
theorem tz_istore {i : Nat} {x : Int} {L2 : List (Option Value)} (hd : decode y.2.1 pc = .ok (.istore i, 2)) (hi : i < y.2.2.1) (hL : L.set i (some (zi x)) = L2) (k : tz_At l G y R xt Z k1 k2 n J (pc + 2) L2 S) : tz_At l G y R xt Z k1 k2 n J pc L (zi x :: S) := fun ok => tb_istore hd hi hL (k ok)
theorem tz_astore_n {q : Fin 4} {i : Nat} {x : Nat} {L2 : List (Option Value)} (hd : decode y.2.1 pc = .ok (.astore_n q, 1)) (hq : (q : Nat) = i) (hi : i < y.2.2.1) (hL : L.set i (some (.ref x)) = L2) (k : tz_At l G y R xt Z k1 k2 n J (pc + 1) L2 S) : tz_At l G y R xt Z k1 k2 n J pc L (.ref x :: S) := fun ok => tb_astore_n hd hq hi hL (k ok)
theorem tz_astore {i : Nat} {x : Nat} {L2 : List (Option Value)} (hd : decode y.2.1 pc = .ok (.astore i, 2)) (hi : i < y.2.2.1) (hL : L.set i (some (.ref x)) = L2) (k : tz_At l G y R xt Z k1 k2 n J (pc + 2) L2 S) : tz_At l G y R xt Z k1 k2 n J pc L (.ref x :: S) := fun ok => tb_astore hd hi hL (k ok)
theorem tz_iinc {i : Nat} {cn x z : Int} {L2 : List (Option Value)} (hd : decode y.2.1 pc = .ok (.iinc i cn, 3)) (hx : L[i]? = some (some (zi x))) (hz : x + cn = z) (hL : L.set i (some (zi z)) = L2) (k : tz_At l G y R xt Z k1 k2 n J (pc + 3) L2 S) : tz_At l G y R xt Z k1 k2 n J pc L S := fun ok => tb_iinc hd hx (by rw [← hz, Int32.ofInt_add]) hL (k ok)
theorem tz_iadd {a b v : Int} (hd : decode y.2.1 pc = .ok (.iadd, 1)) (hv : a + b = v) (k : tz_At l G y R xt Z k1 k2 n J (pc + 1) L (zi v :: S)) : tz_At l G y R xt Z k1 k2 n J pc L (zi b :: zi a :: S) := fun ok => tb_iaddv hd (by rw [← hv]; exact (Int32.ofInt_add a b).symm) (k ok)
theorem tz_isub {a b v : Int} (hd : decode y.2.1 pc = .ok (.isub, 1)) (hv : a - b = v) (k : tz_At l G y R xt Z k1 k2 n J (pc + 1) L (zi v :: S)) : tz_At l G y R xt Z k1 k2 n J pc L (zi b :: zi a :: S) := fun ok => tb_isubv hd (by rw [← hv]; exact (Int32.ofInt_sub a b).symm) (k ok)
theorem tz_imul {a b v : Int} (hd : decode y.2.1 pc = .ok (.imul, 1)) (hv : a * b = v) (k : tz_At l G y R xt Z k1 k2 n J (pc + 1) L (zi v :: S)) : tz_At l G y R xt Z k1 k2 n J pc L (zi b :: zi a :: S) := fun ok => tb_imulv hd (by rw [← hv]; exact (Int32.ofInt_mul a b).symm) (k ok)
theorem tz_iand {a b v : Int} (hd : decode y.2.1 pc = .ok (.iand, 1)) (hv : zand a b = v) (k : tz_At l G y R xt Z k1 k2 n J (pc + 1) L (zi v :: S)) : tz_At l G y R xt Z k1 k2 n J pc L (zi b :: zi a :: S) := fun ok => tb_iandv hd (by rw [← hv]; exact (z_of _)) (k ok)
theorem tz_ior {a b v : Int} (hd : decode y.2.1 pc = .ok (.ior, 1)) (hv : zor a b = v) (k : tz_At l G y R xt Z k1 k2 n J (pc + 1) L (zi v :: S)) : tz_At l G y R xt Z k1 k2 n J pc L (zi b :: zi a :: S) := fun ok => tb_iorv hd (by rw [← hv]; exact (z_of _)) (k ok)
theorem tz_ixor {a b v : Int} (hd : decode y.2.1 pc = .ok (.ixor, 1)) (hv : zxor a b = v) (k : tz_At l G y R xt Z k1 k2 n J (pc + 1) L (zi v :: S)) : tz_At l G y R xt Z k1 k2 n J pc L (zi b :: zi a :: S) := fun ok => tb_ixorv hd (by rw [← hv]; exact (z_of _)) (k ok)
theorem tz_ishl {a b v : Int} (hd : decode y.2.1 pc = .ok (.ishl, 1)) (hv : zshl a b = v) (k : tz_At l G y R xt Z k1 k2 n J (pc + 1) L (zi v :: S)) : tz_At l G y R xt Z k1 k2 n J pc L (zi b :: zi a :: S) := fun ok => tb_ishlv hd (by rw [← hv]; exact (z_of _)) (k ok)
theorem tz_ishr {a b v : Int} (hd : decode y.2.1 pc = .ok (.ishr, 1)) (hv : zshr a b = v) (k : tz_At l G y R xt Z k1 k2 n J (pc + 1) L (zi v :: S)) : tz_At l G y R xt Z k1 k2 n J pc L (zi b :: zi a :: S) := fun ok => tb_ishrv hd (by rw [← hv]; exact (z_of _)) (k ok)
theorem tz_iushr {a b v : Int} (hd : decode y.2.1 pc = .ok (.iushr, 1)) (hv : zushr a b = v) (k : tz_At l G y R xt Z k1 k2 n J (pc + 1) L (zi v :: S)) : tz_At l G y R xt Z k1 k2 n J pc L (zi b :: zi a :: S) := fun ok => tb_iushr hd (by rw [← hv]; exact z_of _) (k ok)
theorem tz_irem {a b v : Int} (hd : decode y.2.1 pc = .ok (.irem, 1)) (ha : 0 ≤ a ∧ a < 2147483648) (hb : 0 < b ∧ b < 2147483648) (hv : a % b = v) (k : tz_At l G y R xt Z k1 k2 n J (pc + 1) L (zi v :: S)) : tz_At l G y R xt Z k1 k2 n J pc L (zi b :: zi a :: S) := fun ok => tb_iremv hd (fun h => by rw [← z0, zeq (by omega) (by omega)] at h; omega) (hv ▸ z_rem ha hb) (k ok)
theorem tz_idiv {a b v : Int} (hd : decode y.2.1 pc = .ok (.idiv, 1)) (ha : 0 ≤ a ∧ a < 2147483648) (hb : 0 < b ∧ b < 2147483648) (hv : a / b = v) (k : tz_At l G y R xt Z k1 k2 n J (pc + 1) L (zi v :: S)) : tz_At l G y R xt Z k1 k2 n J pc L (zi b :: zi a :: S) := fun ok => tb_idivv hd (fun h => by rw [← z0, zeq (by omega) (by omega)] at h; omega) (hv ▸ z_div ha hb) (k ok)
theorem tz_tw {z : Int} (k : tz_At l G y R xt Z k1 k2 n J pc L (zi (zw z) :: S)) : tz_At l G y R xt Z k1 k2 n J pc L (zi z :: S) := by rw [← zi_zw]; exact k
theorem tz_pop {v : Value} (hd : decode y.2.1 pc = .ok (.pop, 1)) (hv : v.category = 1) (k : tz_At l G y R xt Z k1 k2 n J (pc + 1) L S) : tz_At l G y R xt Z k1 k2 n J pc L (v :: S) := fun ok => tb_pop hd hv (k ok)
theorem tz_dup {v : Value} (hd : decode y.2.1 pc = .ok (.dup, 1)) (hv : v.category = 1) (k : tz_At l G y R xt Z k1 k2 n J (pc + 1) L (v :: v :: S)) : tz_At l G y R xt Z k1 k2 n J pc L (v :: S) := fun ok => tb_dup hd hv (k ok)
theorem tz_dup_x1 {v w : Value} (hd : decode y.2.1 pc = .ok (.dup_x1, 1)) (hv : v.category = 1) (hw : w.category = 1) (k : tz_At l G y R xt Z k1 k2 n J (pc + 1) L (v :: w :: v :: S)) : tz_At l G y R xt Z k1 k2 n J pc L (v :: w :: S) := fun ok => tb_dup_x1 hd hv hw (k ok)
theorem tz_dup2 {v w : Value} (hd : decode y.2.1 pc = .ok (.dup2, 1)) (hv : v.category = 1) (hw : w.category = 1) (k : tz_At l G y R xt Z k1 k2 n J (pc + 1) L (v :: w :: v :: w :: S)) : tz_At l G y R xt Z k1 k2 n J pc L (v :: w :: S) := fun ok => tb_dup2 hd hv hw (k ok)
theorem tz_goto {off : Int} {tgt : Nat} (hd : decode y.2.1 pc = .ok (.goto off, 3)) (ht : (pc : Int) + off = (tgt : Int)) (k : tz_At l G y R xt Z k1 k2 n J tgt L S) : tz_At l G y R xt Z k1 k2 n J pc L S := fun ok => tb_goto hd ht (k ok)
theorem tz_icmp_eq {a b off : Int} {tgt : Nat} (hd : decode y.2.1 pc = .ok (.if_icmp .eq off, 3)) (ht : (pc : Int) + off = (tgt : Int)) (ha : (-2147483648 ≤ a ∧ a < 2147483648)) (hb : (-2147483648 ≤ b ∧ b < 2147483648)) (kt : a = b → tz_At l G y R xt Z k1 k2 n J tgt L S) (kf : ¬ a = b → tz_At l G y R xt Z k1 k2 n J (pc + 3) L S) : tz_At l G y R xt Z k1 k2 n J pc L (zi b :: zi a :: S) := fun ok => tb_icmp_eq hd ht (fun h => kt ((zeq ha hb).mp h) ok) (fun h => kf (fun h2 => h ((zeq ha hb).mpr h2)) ok)
theorem tz_icmp_eqT {a b off : Int} {tgt : Nat} (h : a = b) (hd : decode y.2.1 pc = .ok (.if_icmp .eq off, 3)) (ht : (pc : Int) + off = (tgt : Int)) (ha : (-2147483648 ≤ a ∧ a < 2147483648)) (hb : (-2147483648 ≤ b ∧ b < 2147483648)) (k : tz_At l G y R xt Z k1 k2 n J tgt L S) : tz_At l G y R xt Z k1 k2 n J pc L (zi b :: zi a :: S) := tz_icmp_eq hd ht ha hb (fun _ => k) (fun h9 => absurd h h9)
theorem tz_icmp_eqF {a b off : Int} {tgt : Nat} (h : ¬ a = b) (hd : decode y.2.1 pc = .ok (.if_icmp .eq off, 3)) (ht : (pc : Int) + off = (tgt : Int)) (ha : (-2147483648 ≤ a ∧ a < 2147483648)) (hb : (-2147483648 ≤ b ∧ b < 2147483648)) (k : tz_At l G y R xt Z k1 k2 n J (pc + 3) L S) : tz_At l G y R xt Z k1 k2 n J pc L (zi b :: zi a :: S) := tz_icmp_eq hd ht ha hb (fun h9 => absurd h9 h) (fun _ => k)
theorem tz_if_eq {a off : Int} {tgt : Nat} (hd : decode y.2.1 pc = .ok (.ifCond .eq off, 3)) (ht : (pc : Int) + off = (tgt : Int)) (ha : (-2147483648 ≤ a ∧ a < 2147483648)) (kt : a = 0 → tz_At l G y R xt Z k1 k2 n J tgt L S) (kf : ¬ a = 0 → tz_At l G y R xt Z k1 k2 n J (pc + 3) L S) : tz_At l G y R xt Z k1 k2 n J pc L (zi a :: S) := fun ok => tb_if_eq hd ht (fun h => kt ((zeq ha z0r).mp h) ok) (fun h => kf (fun h2 => h ((zeq ha z0r).mpr h2)) ok)
theorem tz_if_eqT {a off : Int} {tgt : Nat} (h : a = 0) (hd : decode y.2.1 pc = .ok (.ifCond .eq off, 3)) (ht : (pc : Int) + off = (tgt : Int)) (ha : (-2147483648 ≤ a ∧ a < 2147483648)) (k : tz_At l G y R xt Z k1 k2 n J tgt L S) : tz_At l G y R xt Z k1 k2 n J pc L (zi a :: S) := tz_if_eq hd ht ha (fun _ => k) (fun h9 => absurd h h9)
theorem tz_if_eqF {a off : Int} {tgt : Nat} (h : ¬ a = 0) (hd : decode y.2.1 pc = .ok (.ifCond .eq off, 3)) (ht : (pc : Int) + off = (tgt : Int)) (ha : (-2147483648 ≤ a ∧ a < 2147483648)) (k : tz_At l G y R xt Z k1 k2 n J (pc + 3) L S) : tz_At l G y R xt Z k1 k2 n J pc L (zi a :: S) := tz_if_eq hd ht ha (fun h9 => absurd h9 h) (fun _ => k)
theorem tz_icmp_ne {a b off : Int} {tgt : Nat} (hd : decode y.2.1 pc = .ok (.if_icmp .ne off, 3)) (ht : (pc : Int) + off = (tgt : Int)) (ha : (-2147483648 ≤ a ∧ a < 2147483648)) (hb : (-2147483648 ≤ b ∧ b < 2147483648)) (kt : ¬ a = b → tz_At l G y R xt Z k1 k2 n J tgt L S) (kf : a = b → tz_At l G y R xt Z k1 k2 n J (pc + 3) L S) : tz_At l G y R xt Z k1 k2 n J pc L (zi b :: zi a :: S) := fun ok => tb_icmp_ne hd ht (fun h => kt (fun h2 => h ((zeq ha hb).mpr h2)) ok) (fun h => kf ((zeq ha hb).mp h) ok)
theorem tz_icmp_neT {a b off : Int} {tgt : Nat} (h : ¬ a = b) (hd : decode y.2.1 pc = .ok (.if_icmp .ne off, 3)) (ht : (pc : Int) + off = (tgt : Int)) (ha : (-2147483648 ≤ a ∧ a < 2147483648)) (hb : (-2147483648 ≤ b ∧ b < 2147483648)) (k : tz_At l G y R xt Z k1 k2 n J tgt L S) : tz_At l G y R xt Z k1 k2 n J pc L (zi b :: zi a :: S) := tz_icmp_ne hd ht ha hb (fun _ => k) (fun h9 => absurd h9 h)
theorem tz_icmp_neF {a b off : Int} {tgt : Nat} (h : a = b) (hd : decode y.2.1 pc = .ok (.if_icmp .ne off, 3)) (ht : (pc : Int) + off = (tgt : Int)) (ha : (-2147483648 ≤ a ∧ a < 2147483648)) (hb : (-2147483648 ≤ b ∧ b < 2147483648)) (k : tz_At l G y R xt Z k1 k2 n J (pc + 3) L S) : tz_At l G y R xt Z k1 k2 n J pc L (zi b :: zi a :: S) := tz_icmp_ne hd ht ha hb (fun h9 => absurd h h9) (fun _ => k)
theorem tz_if_ne {a off : Int} {tgt : Nat} (hd : decode y.2.1 pc = .ok (.ifCond .ne off, 3)) (ht : (pc : Int) + off = (tgt : Int)) (ha : (-2147483648 ≤ a ∧ a < 2147483648)) (kt : ¬ a = 0 → tz_At l G y R xt Z k1 k2 n J tgt L S) (kf : a = 0 → tz_At l G y R xt Z k1 k2 n J (pc + 3) L S) : tz_At l G y R xt Z k1 k2 n J pc L (zi a :: S) := fun ok => tb_if_ne hd ht (fun h => kt (fun h2 => h ((zeq ha z0r).mpr h2)) ok) (fun h => kf ((zeq ha z0r).mp h) ok)
theorem tz_if_neT {a off : Int} {tgt : Nat} (h : ¬ a = 0) (hd : decode y.2.1 pc = .ok (.ifCond .ne off, 3)) (ht : (pc : Int) + off = (tgt : Int)) (ha : (-2147483648 ≤ a ∧ a < 2147483648)) (k : tz_At l G y R xt Z k1 k2 n J tgt L S) : tz_At l G y R xt Z k1 k2 n J pc L (zi a :: S) := tz_if_ne hd ht ha (fun _ => k) (fun h9 => absurd h9 h)
theorem tz_if_neF {a off : Int} {tgt : Nat} (h : a = 0) (hd : decode y.2.1 pc = .ok (.ifCond .ne off, 3)) (ht : (pc : Int) + off = (tgt : Int)) (ha : (-2147483648 ≤ a ∧ a < 2147483648)) (k : tz_At l G y R xt Z k1 k2 n J (pc + 3) L S) : tz_At l G y R xt Z k1 k2 n J pc L (zi a :: S) := tz_if_ne hd ht ha (fun h9 => absurd h h9) (fun _ => k)
theorem tz_icmp_lt {a b off : Int} {tgt : Nat} (hd : decode y.2.1 pc = .ok (.if_icmp .lt off, 3)) (ht : (pc : Int) + off = (tgt : Int)) (ha : (-2147483648 ≤ a ∧ a < 2147483648)) (hb : (-2147483648 ≤ b ∧ b < 2147483648)) (kt : a < b → tz_At l G y R xt Z k1 k2 n J tgt L S) (kf : ¬ a < b → tz_At l G y R xt Z k1 k2 n J (pc + 3) L S) : tz_At l G y R xt Z k1 k2 n J pc L (zi b :: zi a :: S) := fun ok => tb_icmp_lt hd ht (fun h => kt ((zlt ha hb).mp h) ok) (fun h => kf (fun h2 => h ((zlt ha hb).mpr h2)) ok)
theorem tz_icmp_ltT {a b off : Int} {tgt : Nat} (h : a < b) (hd : decode y.2.1 pc = .ok (.if_icmp .lt off, 3)) (ht : (pc : Int) + off = (tgt : Int)) (ha : (-2147483648 ≤ a ∧ a < 2147483648)) (hb : (-2147483648 ≤ b ∧ b < 2147483648)) (k : tz_At l G y R xt Z k1 k2 n J tgt L S) : tz_At l G y R xt Z k1 k2 n J pc L (zi b :: zi a :: S) := tz_icmp_lt hd ht ha hb (fun _ => k) (fun h9 => absurd h h9)
theorem tz_if_lt {a off : Int} {tgt : Nat} (hd : decode y.2.1 pc = .ok (.ifCond .lt off, 3)) (ht : (pc : Int) + off = (tgt : Int)) (ha : (-2147483648 ≤ a ∧ a < 2147483648)) (kt : a < 0 → tz_At l G y R xt Z k1 k2 n J tgt L S) (kf : ¬ a < 0 → tz_At l G y R xt Z k1 k2 n J (pc + 3) L S) : tz_At l G y R xt Z k1 k2 n J pc L (zi a :: S) := fun ok => tb_if_lt hd ht (fun h => kt ((zlt ha z0r).mp h) ok) (fun h => kf (fun h2 => h ((zlt ha z0r).mpr h2)) ok)
theorem tz_if_ltF {a off : Int} {tgt : Nat} (h : ¬ a < 0) (hd : decode y.2.1 pc = .ok (.ifCond .lt off, 3)) (ht : (pc : Int) + off = (tgt : Int)) (ha : (-2147483648 ≤ a ∧ a < 2147483648)) (k : tz_At l G y R xt Z k1 k2 n J (pc + 3) L S) : tz_At l G y R xt Z k1 k2 n J pc L (zi a :: S) := tz_if_lt hd ht ha (fun h9 => absurd h9 h) (fun _ => k)
theorem tz_icmp_ge {a b off : Int} {tgt : Nat} (hd : decode y.2.1 pc = .ok (.if_icmp .ge off, 3)) (ht : (pc : Int) + off = (tgt : Int)) (ha : (-2147483648 ≤ a ∧ a < 2147483648)) (hb : (-2147483648 ≤ b ∧ b < 2147483648)) (kt : b ≤ a → tz_At l G y R xt Z k1 k2 n J tgt L S) (kf : ¬ b ≤ a → tz_At l G y R xt Z k1 k2 n J (pc + 3) L S) : tz_At l G y R xt Z k1 k2 n J pc L (zi b :: zi a :: S) := fun ok => tb_icmp_ge hd ht (fun h => kt ((zle hb ha).mp h) ok) (fun h => kf (fun h2 => h ((zle hb ha).mpr h2)) ok)
theorem tz_icmp_geT {a b off : Int} {tgt : Nat} (h : b ≤ a) (hd : decode y.2.1 pc = .ok (.if_icmp .ge off, 3)) (ht : (pc : Int) + off = (tgt : Int)) (ha : (-2147483648 ≤ a ∧ a < 2147483648)) (hb : (-2147483648 ≤ b ∧ b < 2147483648)) (k : tz_At l G y R xt Z k1 k2 n J tgt L S) : tz_At l G y R xt Z k1 k2 n J pc L (zi b :: zi a :: S) := tz_icmp_ge hd ht ha hb (fun _ => k) (fun h9 => absurd h h9)
theorem tz_icmp_geF {a b off : Int} {tgt : Nat} (h : ¬ b ≤ a) (hd : decode y.2.1 pc = .ok (.if_icmp .ge off, 3)) (ht : (pc : Int) + off = (tgt : Int)) (ha : (-2147483648 ≤ a ∧ a < 2147483648)) (hb : (-2147483648 ≤ b ∧ b < 2147483648)) (k : tz_At l G y R xt Z k1 k2 n J (pc + 3) L S) : tz_At l G y R xt Z k1 k2 n J pc L (zi b :: zi a :: S) := tz_icmp_ge hd ht ha hb (fun h9 => absurd h9 h) (fun _ => k)
theorem tz_if_ge {a off : Int} {tgt : Nat} (hd : decode y.2.1 pc = .ok (.ifCond .ge off, 3)) (ht : (pc : Int) + off = (tgt : Int)) (ha : (-2147483648 ≤ a ∧ a < 2147483648)) (kt : 0 ≤ a → tz_At l G y R xt Z k1 k2 n J tgt L S) (kf : ¬ 0 ≤ a → tz_At l G y R xt Z k1 k2 n J (pc + 3) L S) : tz_At l G y R xt Z k1 k2 n J pc L (zi a :: S) := fun ok => tb_if_ge hd ht (fun h => kt ((zle z0r ha).mp h) ok) (fun h => kf (fun h2 => h ((zle z0r ha).mpr h2)) ok)
theorem tz_if_geT {a off : Int} {tgt : Nat} (h : 0 ≤ a) (hd : decode y.2.1 pc = .ok (.ifCond .ge off, 3)) (ht : (pc : Int) + off = (tgt : Int)) (ha : (-2147483648 ≤ a ∧ a < 2147483648)) (k : tz_At l G y R xt Z k1 k2 n J tgt L S) : tz_At l G y R xt Z k1 k2 n J pc L (zi a :: S) := tz_if_ge hd ht ha (fun _ => k) (fun h9 => absurd h h9)
theorem tz_if_geF {a off : Int} {tgt : Nat} (h : ¬ 0 ≤ a) (hd : decode y.2.1 pc = .ok (.ifCond .ge off, 3)) (ht : (pc : Int) + off = (tgt : Int)) (ha : (-2147483648 ≤ a ∧ a < 2147483648)) (k : tz_At l G y R xt Z k1 k2 n J (pc + 3) L S) : tz_At l G y R xt Z k1 k2 n J pc L (zi a :: S) := tz_if_ge hd ht ha (fun h9 => absurd h9 h) (fun _ => k)
theorem tz_icmp_gt {a b off : Int} {tgt : Nat} (hd : decode y.2.1 pc = .ok (.if_icmp .gt off, 3)) (ht : (pc : Int) + off = (tgt : Int)) (ha : (-2147483648 ≤ a ∧ a < 2147483648)) (hb : (-2147483648 ≤ b ∧ b < 2147483648)) (kt : b < a → tz_At l G y R xt Z k1 k2 n J tgt L S) (kf : ¬ b < a → tz_At l G y R xt Z k1 k2 n J (pc + 3) L S) : tz_At l G y R xt Z k1 k2 n J pc L (zi b :: zi a :: S) := fun ok => tb_icmp_gt hd ht (fun h => kt ((zlt hb ha).mp h) ok) (fun h => kf (fun h2 => h ((zlt hb ha).mpr h2)) ok)
theorem tz_icmp_gtT {a b off : Int} {tgt : Nat} (h : b < a) (hd : decode y.2.1 pc = .ok (.if_icmp .gt off, 3)) (ht : (pc : Int) + off = (tgt : Int)) (ha : (-2147483648 ≤ a ∧ a < 2147483648)) (hb : (-2147483648 ≤ b ∧ b < 2147483648)) (k : tz_At l G y R xt Z k1 k2 n J tgt L S) : tz_At l G y R xt Z k1 k2 n J pc L (zi b :: zi a :: S) := tz_icmp_gt hd ht ha hb (fun _ => k) (fun h9 => absurd h h9)
theorem tz_icmp_gtF {a b off : Int} {tgt : Nat} (h : ¬ b < a) (hd : decode y.2.1 pc = .ok (.if_icmp .gt off, 3)) (ht : (pc : Int) + off = (tgt : Int)) (ha : (-2147483648 ≤ a ∧ a < 2147483648)) (hb : (-2147483648 ≤ b ∧ b < 2147483648)) (k : tz_At l G y R xt Z k1 k2 n J (pc + 3) L S) : tz_At l G y R xt Z k1 k2 n J pc L (zi b :: zi a :: S) := tz_icmp_gt hd ht ha hb (fun h9 => absurd h9 h) (fun _ => k)
theorem tz_if_gt {a off : Int} {tgt : Nat} (hd : decode y.2.1 pc = .ok (.ifCond .gt off, 3)) (ht : (pc : Int) + off = (tgt : Int)) (ha : (-2147483648 ≤ a ∧ a < 2147483648)) (kt : 0 < a → tz_At l G y R xt Z k1 k2 n J tgt L S) (kf : ¬ 0 < a → tz_At l G y R xt Z k1 k2 n J (pc + 3) L S) : tz_At l G y R xt Z k1 k2 n J pc L (zi a :: S) := fun ok => tb_if_gt hd ht (fun h => kt ((zlt z0r ha).mp h) ok) (fun h => kf (fun h2 => h ((zlt z0r ha).mpr h2)) ok)
theorem tz_icmp_le {a b off : Int} {tgt : Nat} (hd : decode y.2.1 pc = .ok (.if_icmp .le off, 3)) (ht : (pc : Int) + off = (tgt : Int)) (ha : (-2147483648 ≤ a ∧ a < 2147483648)) (hb : (-2147483648 ≤ b ∧ b < 2147483648)) (kt : a ≤ b → tz_At l G y R xt Z k1 k2 n J tgt L S) (kf : ¬ a ≤ b → tz_At l G y R xt Z k1 k2 n J (pc + 3) L S) : tz_At l G y R xt Z k1 k2 n J pc L (zi b :: zi a :: S) := fun ok => tb_icmp_le hd ht (fun h => kt ((zle ha hb).mp h) ok) (fun h => kf (fun h2 => h ((zle ha hb).mpr h2)) ok)
theorem tz_icmp_leT {a b off : Int} {tgt : Nat} (h : a ≤ b) (hd : decode y.2.1 pc = .ok (.if_icmp .le off, 3)) (ht : (pc : Int) + off = (tgt : Int)) (ha : (-2147483648 ≤ a ∧ a < 2147483648)) (hb : (-2147483648 ≤ b ∧ b < 2147483648)) (k : tz_At l G y R xt Z k1 k2 n J tgt L S) : tz_At l G y R xt Z k1 k2 n J pc L (zi b :: zi a :: S) := tz_icmp_le hd ht ha hb (fun _ => k) (fun h9 => absurd h h9)
theorem tz_icmp_leF {a b off : Int} {tgt : Nat} (h : ¬ a ≤ b) (hd : decode y.2.1 pc = .ok (.if_icmp .le off, 3)) (ht : (pc : Int) + off = (tgt : Int)) (ha : (-2147483648 ≤ a ∧ a < 2147483648)) (hb : (-2147483648 ≤ b ∧ b < 2147483648)) (k : tz_At l G y R xt Z k1 k2 n J (pc + 3) L S) : tz_At l G y R xt Z k1 k2 n J pc L (zi b :: zi a :: S) := tz_icmp_le hd ht ha hb (fun h9 => absurd h9 h) (fun _ => k)
theorem tz_if_le {a off : Int} {tgt : Nat} (hd : decode y.2.1 pc = .ok (.ifCond .le off, 3)) (ht : (pc : Int) + off = (tgt : Int)) (ha : (-2147483648 ≤ a ∧ a < 2147483648)) (kt : a ≤ 0 → tz_At l G y R xt Z k1 k2 n J tgt L S) (kf : ¬ a ≤ 0 → tz_At l G y R xt Z k1 k2 n J (pc + 3) L S) : tz_At l G y R xt Z k1 k2 n J pc L (zi a :: S) := fun ok => tb_if_le hd ht (fun h => kt ((zle ha z0r).mp h) ok) (fun h => kf (fun h2 => h ((zle ha z0r).mpr h2)) ok)
theorem tz_if_leT {a off : Int} {tgt : Nat} (h : a ≤ 0) (hd : decode y.2.1 pc = .ok (.ifCond .le off, 3)) (ht : (pc : Int) + off = (tgt : Int)) (ha : (-2147483648 ≤ a ∧ a < 2147483648)) (k : tz_At l G y R xt Z k1 k2 n J tgt L S) : tz_At l G y R xt Z k1 k2 n J pc L (zi a :: S) := tz_if_le hd ht ha (fun _ => k) (fun h9 => absurd h h9)
theorem tz_if_leF {a off : Int} {tgt : Nat} (h : ¬ a ≤ 0) (hd : decode y.2.1 pc = .ok (.ifCond .le off, 3)) (ht : (pc : Int) + off = (tgt : Int)) (ha : (-2147483648 ≤ a ∧ a < 2147483648)) (k : tz_At l G y R xt Z k1 k2 n J (pc + 3) L S) : tz_At l G y R xt Z k1 k2 n J pc L (zi a :: S) := tz_if_le hd ht ha (fun h9 => absurd h9 h) (fun _ => k)
theorem tz_tabOut {dflt lo hi x : Int} {offs : Array Int} {len : Nat} {tgt : Nat} (hd : decode y.2.1 pc = .ok (.tableswitch dflt lo hi offs, len)) (hx : (-2147483648 ≤ x ∧ x < 2147483648)) (h : x < lo ∨ hi < x) (ht : (pc : Int) + dflt = (tgt : Int)) (k : tz_At l G y R xt Z k1 k2 n J tgt L S) : tz_At l G y R xt Z k1 k2 n J pc L (zi x :: S) := fun ok => tb_tabOut hd (by rw [zt hx]; exact h) ht (k ok)
theorem tz_tabIn {dflt lo hi off x : Int} {offs : Array Int} {len : Nat} {tgt : Nat} (v : Int) (hd : decode y.2.1 pc = .ok (.tableswitch dflt lo hi offs, len)) (hx : x = v) (h : (lo ≤ v ∧ v ≤ hi) ∧ (-2147483648 ≤ v ∧ v < 2147483648)) (ho : offs[(v - lo).toNat]? = some off) (ht : (pc : Int) + off = (tgt : Int)) (k : tz_At l G y R xt Z k1 k2 n J tgt L S) : tz_At l G y R xt Z k1 k2 n J pc L (zi x :: S) := fun ok => tb_tabIn hd (by rw [hx, zt h.2]; omega) (by rw [hx, zt h.2]; omega) (by rw [hx, zt h.2]; exact ho) ht (k ok)
theorem tz_fI {idx ci k c9 : Nat} {fin : Bool} {kz v : Int} (hd : decode y.2.1 pc = .ok (.getfield idx, 3)) (hf : tb_FL y.1.cls idx ci k fin) (h : tb_cI tb_shT c9 ci k = true) (hk : ((k : Nat) : Int) = kz) (hv : J c9 kz = v) (kk : (-2147483648 ≤ v ∧ v < 2147483648) → tz_At l G y R xt Z k1 k2 n J (pc + 3) L (zi v :: S)) : tz_At l G y R xt Z k1 k2 n J pc L (.ref c9 :: S) := fun ok => tb_fIv hd hf h (by rw [← hv, ← hk]; rfl) (kk (hv ▸ ok.2 c9 kz) ok)
theorem tz_fR {idx ci k c9 r : Nat} {fin : Bool} (hd : decode y.2.1 pc = .ok (.getfield idx, 3)) (hf : tb_FL y.1.cls idx ci k fin) (h : tb_cR tb_shT c9 ci k r = true) (kk : tz_At l G y R xt Z k1 k2 n J (pc + 3) L (.ref r :: S)) : tz_At l G y R xt Z k1 k2 n J pc L (.ref c9 :: S) := fun ok => tb_fR hd hf h (kk ok)
theorem zI_upN {J : zJ} {c k : Nat} {kz z : Int} (hk : ((k : Nat) : Int) = kz) : tb_up (zI J) c k (Int32.ofInt z) = zI (zup J c kz z) := by
  subst hk
  have h := zI_up (J := J) (c := c) (k := ((k : Nat) : Int)) (z := z) (by omega)
  rwa [Int.toNat_natCast] at h
theorem tz_pI {idx ci k c9 : Nat} {kz z : Int} (hd : decode y.2.1 pc = .ok (.putfield idx, 3)) (hf : tb_FL y.1.cls idx ci k false) (h : tb_cI tb_shT c9 ci k = true) (ht : tb_ft ci k = .int) (hk : ((k : Nat) : Int) = kz) (hz : (-2147483648 ≤ z ∧ z < 2147483648)) (kk : tz_At l G y R xt Z k1 k2 n (zup J c9 kz z) (pc + 3) L S) : tz_At l G y R xt Z k1 k2 n J pc L (zi z :: .ref c9 :: S) := fun ok => tb_pI hd hf h ht (by rw [zI_upN hk]; exact kk (ok.up hz))
theorem tz_pZ {idx ci k c9 : Nat} {kz z : Int} (hd : decode y.2.1 pc = .ok (.putfield idx, 3)) (hf : tb_FL y.1.cls idx ci k false) (h : tb_cI tb_shT c9 ci k = true) (ht : tb_ft ci k = .boolean) (hk : ((k : Nat) : Int) = kz) (hz : z = 0 ∨ z = 1) (kk : tz_At l G y R xt Z k1 k2 n (zup J c9 kz z) (pc + 3) L S) : tz_At l G y R xt Z k1 k2 n J pc L (zi z :: .ref c9 :: S) := fun ok => tb_pZ hd hf h ht (z_01 hz) (by rw [zI_upN hk]; exact kk (ok.up (by omega)))
theorem tz_aL {len c9 : Nat} {lz z v : Int} (hd : decode y.2.1 pc = .ok (.iaload, 1)) (h : tb_cA tb_shT c9 len = true) (hl : ((len : Nat) : Int) = lz) (hz : 0 ≤ z ∧ z < lz) (hv : J c9 z = v) (kk : (-2147483648 ≤ v ∧ v < 2147483648) → tz_At l G y R xt Z k1 k2 n J (pc + 1) L (zi v :: S)) : tz_At l G y R xt Z k1 k2 n J pc L (zi z :: .ref c9 :: S) := fun ok => tb_aLv (j := z.toNat) hd h (zn hz.1) (by omega) (by show Int32.ofInt (J c9 (z.toNat : Int)) = _; rw [Int.toNat_of_nonneg hz.1, hv]) (kk (hv ▸ ok.2 c9 z) ok)
theorem tz_aS {len c9 : Nat} {lz z v : Int} (hd : decode y.2.1 pc = .ok (.iastore, 1)) (h : tb_cA tb_shT c9 len = true) (hl : ((len : Nat) : Int) = lz) (hz : 0 ≤ z ∧ z < lz) (hr : (-2147483648 ≤ v ∧ v < 2147483648)) (kk : tz_At l G y R xt Z k1 k2 n (zup J c9 z v) (pc + 1) L S) : tz_At l G y R xt Z k1 k2 n J pc L (zi v :: zi z :: .ref c9 :: S) := fun ok => tb_aS (j := z.toNat) hd h (zn hz.1) (by omega) (by rw [zI_up hz.1]; exact kk (ok.up hr))
theorem tz_aN {len c9 : Nat} {lz : Int} (hd : decode y.2.1 pc = .ok (.arraylength, 1)) (h : tb_cA tb_shT c9 len = true) (hl : ((len : Nat) : Int) = lz) (kk : tz_At l G y R xt Z k1 k2 n J (pc + 1) L (zi lz :: S)) : tz_At l G y R xt Z k1 k2 n J pc L (.ref c9 :: S) := fun ok => tb_aN hd h (by rw [z_len hl]; exact kk ok)
theorem tz_aR {len c9 r : Nat} {lz z : Int} (hd : decode y.2.1 pc = .ok (.aaload, 1)) (h : tb_cB tb_shT c9 len z.toNat r = true) (hl : ((len : Nat) : Int) = lz) (hz : 0 ≤ z ∧ z < lz) (kk : tz_At l G y R xt Z k1 k2 n J (pc + 1) L (.ref r :: S)) : tz_At l G y R xt Z k1 k2 n J pc L (zi z :: .ref c9 :: S) := fun ok => tb_aR (j := z.toNat) hd h (zn hz.1) (by omega) (kk ok)
theorem tz_cp {idx c0 c9 n0 n1 : Nat} {sp dp ln m0 m1 : Int} (hd : decode y.2.1 pc = .ok (.invokestatic idx, 3)) (hw1 : Cond.methodLink y.1.cls idx arraycopyName ∈ tb_W) (h0 : tb_cA tb_shT c0 n0 = true) (h9 : tb_cA tb_shT c9 n1 = true) (e0 : ((n0 : Nat) : Int) = m0) (e1 : ((n1 : Nat) : Int) = m1) (h1 : (0 ≤ sp ∧ 0 ≤ dp ∧ 0 ≤ ln) ∧ sp + ln ≤ m0 ∧ dp + ln ≤ m1) (hfr : 1 ≤ R.frames) (hlo : (S.map fun v => v.category).sum + (nativeFrameWords "java/lang/System" "arraycopy" 5 + 11) ≤ R.locals) (kk : tz_At l G y R xt Z k1 k2 n (zcp J c0 c9 sp dp ln) (pc + 3) L S) : tz_At l G y R xt Z k1 k2 n J pc L (zi ln :: zi dp :: .ref c9 :: zi sp :: .ref c0 :: S) := fun ok => tb_cp (sp := sp.toNat) (dp := dp.toNat) (ln := ln.toNat) hd hw1 h0 h9 (zn h1.1.1) (zn h1.1.2.1) (zn h1.1.2.2) (by omega) (by omega) hfr hlo (by rw [zI_cp h1.1.1 h1.1.2.1 h1.1.2.2]; exact kk ok.cp)
theorem tz_mx {idx : Nat} {a b v : Int} (hd : decode y.2.1 pc = .ok (.invokestatic idx, 3)) (hw1 : Cond.methodLink y.1.cls idx Lib.Math.max.name ∈ tb_W) (hfr : 1 ≤ R.frames) (hlo : (S.map fun v => v.category).sum + 13 ≤ R.locals) (hc : k1 ≤ R.cells) (hs : k2 ≤ R.slots) (ha : (-2147483648 ≤ a ∧ a < 2147483648)) (hb : (-2147483648 ≤ b ∧ b < 2147483648)) (hv : (if a < b then b else a) = v) (kk : tz_At l G y R xt Z k1 k2 n J (pc + 3) L (zi v :: S)) : tz_At l G y R xt Z k1 k2 n J pc L (zi b :: zi a :: S) := fun ok => tb_mx hd hw1 hfr hlo hc hs (by rw [← hv]; simp only [zlt ha hb]; split <;> rfl) (kk ok)
theorem tz_mn {idx : Nat} {a b v : Int} (hd : decode y.2.1 pc = .ok (.invokestatic idx, 3)) (hw1 : Cond.methodLink y.1.cls idx Lib.Math.min.name ∈ tb_W) (hfr : 1 ≤ R.frames) (hlo : (S.map fun v => v.category).sum + 13 ≤ R.locals) (hc : k1 ≤ R.cells) (hs : k2 ≤ R.slots) (ha : (-2147483648 ≤ a ∧ a < 2147483648)) (hb : (-2147483648 ≤ b ∧ b < 2147483648)) (hv : (if b < a then b else a) = v) (kk : tz_At l G y R xt Z k1 k2 n J (pc + 3) L (zi v :: S)) : tz_At l G y R xt Z k1 k2 n J pc L (zi b :: zi a :: S) := fun ok => tb_mn hd hw1 hfr hlo hc hs (by rw [← hv]; simp only [zlt hb ha]; split <;> rfl) (kk ok)
theorem tz_cV {idx nA d ms m1 m2 c9 ci : Nat} {y' : tb_Mt} {as St : List Value} {Q' : Option Value → zJ → Prop} (hM : tz_Ok l G y' d 0 ms (.ref c9 :: as) n J Q' zN) (hv : tb_VL y.1.cls idx y' nA ci) (hd : decode y.2.1 pc = .ok (.invokevirtual idx, 3)) (hs : tb_cO tb_shT c9 ci = true) (hna : as.length = nA) (hst : St = as.reverse ++ .ref c9 :: S)
    (hcat : (S.map fun v => v.category).sum ≤ 8) (hR : d + 1 ≤ R.frames ∧ 8 + (y'.2.2.1 + 11) + 40 * d ≤ R.locals) (h1 : k1 + 0 = m1) (h2 : k2 + ms = m2) (hce : m1 ≤ R.cells) (hsl : m2 ≤ R.slots)
    (kk : ∀ (r : Option Value) (J' : zJ), Q' r J' → tz_At l G y R xt Z m1 m2 n J' (pc + 3) L (r.toList ++ S)) : tz_At l G y R xt Z k1 k2 n J pc L St := fun ok => by
  simp only [tb_cO, Bool.and_eq_true, bne_iff_ne, ne_eq, beq_iff_eq] at hs
  refine tb_callV (hM ok) hv hd (tb_sh3 hs.2 rfl) hs.1 hna hst hcat hR h1 h2 hce hsl ?_ ?_
  · rintro r n' sh' I' ⟨J', rfl, rfl, ok', hn1, hn2, hq⟩
    have : n' = n := by omega
    subst this
    exact kk r J' hq ok'
  · rintro E n' sh' I' ⟨J', -, -, -, -, -, hx⟩
    exact hx.elim
theorem tz_cS {idx nA d ms m1 m2 : Nat} {y' : tb_Mt} {as St : List Value} {Q' : Option Value → zJ → Prop} (hM : tz_Ok l G y' d 0 ms as n J Q' zN) (hv : tb_SL y.1.cls idx y' nA) (hd : decode y.2.1 pc = .ok (.invokestatic idx, 3)) (hna : as.length = nA) (hst : St = as.reverse ++ S)
    (hcat : (S.map fun v => v.category).sum ≤ 8) (hR : d + 1 ≤ R.frames ∧ 8 + (y'.2.2.1 + 11) + 40 * d ≤ R.locals) (h1 : k1 + 0 = m1) (h2 : k2 + ms = m2) (hce : m1 ≤ R.cells) (hsl : m2 ≤ R.slots)
    (kk : ∀ (r : Option Value) (J' : zJ), Q' r J' → tz_At l G y R xt Z m1 m2 n J' (pc + 3) L (r.toList ++ S)) : tz_At l G y R xt Z k1 k2 n J pc L St := fun ok => by
  refine tb_callS (hM ok) hv hd hna hst hcat hR h1 h2 hce hsl ?_ ?_
  · rintro r n' sh' I' ⟨J', rfl, rfl, ok', hn1, hn2, hq⟩
    have : n' = n := by omega
    subst this
    exact kk r J' hq ok'
  · rintro E n' sh' I' ⟨J', -, -, -, -, -, hx⟩
    exact hx.elim
def tz_Ax (l : Launch) (G : tb_G) (y : tb_Mt) (R : Room) (xt : Option (Nat × (Nat → Int32))) (Z : tb_CT → State → Prop) (k1 k2 n : Nat) (J : zJ) (pc : Nat) (L : List (Option Value)) (S : List Value) (E : String) : Prop := zok n J → tb_Ax l G y R xt Z k1 k2 n tb_shT (zI J) pc L S E
theorem tz_cVX {idx nA d mc ms m1 m2 c9 ci : Nat} {y' : tb_Mt} {as St : List Value} {Q' : Option Value → zJ → Prop} {X' : String → zJ → Prop} (hM : tz_Ok l G y' d mc ms (.ref c9 :: as) n J Q' X') (hv : tb_VL y.1.cls idx y' nA ci) (hd : decode y.2.1 pc = .ok (.invokevirtual idx, 3)) (hs : tb_cO tb_shT c9 ci = true) (hna : as.length = nA) (hst : St = as.reverse ++ .ref c9 :: S)
    (hcat : (S.map fun v => v.category).sum ≤ 8) (hR : d + 1 ≤ R.frames ∧ 8 + (y'.2.2.1 + 11) + 40 * d ≤ R.locals) (h1 : k1 + mc = m1) (h2 : k2 + ms = m2) (hce : m1 ≤ R.cells) (hsl : m2 ≤ R.slots)
    (kk : ∀ (r : Option Value) (n' : Nat) (J' : zJ), n ≤ n' → n' ≤ n + mc → Q' r J' → tz_At l G y R xt Z m1 m2 n' J' (pc + 3) L (r.toList ++ S))
    (kx : ∀ (E : String) (n' : Nat) (J' : zJ), n ≤ n' → n' ≤ n + mc → X' E J' → tz_Ax l G y R xt Z m1 m2 n' J' pc L S E) : tz_At l G y R xt Z k1 k2 n J pc L St := fun ok => by
  simp only [tb_cO, Bool.and_eq_true, bne_iff_ne, ne_eq, beq_iff_eq] at hs
  refine tb_callV (hM ok) hv hd (tb_sh3 hs.2 rfl) hs.1 hna hst hcat hR h1 h2 hce hsl ?_ ?_
  · rintro r n' sh' I' ⟨J', rfl, rfl, ok', hn1, hn2, hq⟩
    exact kk r n' J' hn1 hn2 hq ok'
  · rintro E n' sh' I' ⟨J', rfl, rfl, ok', hn1, hn2, hx⟩
    exact kx E n' J' hn1 hn2 hx ok'
section Ends
variable {Q : Option Value → zJ → Prop} {X : String → zJ → Prop} {mc ms n0 : Nat}
theorem tz_iret {z : Int} (hd : decode y.2.1 pc = .ok (.ireturn, 1)) (hr : y.2.2.2.1 = some .int) (hc : k1 ≤ mc) (hs : k2 ≤ ms) (hn : n0 ≤ n ∧ n ≤ n0 + mc) (hq : Q (some (zi z)) J) :
    tz_At l G y R xt (tb_ZM G mc ms (zQ n0 mc Q) (zX n0 mc X)) k1 k2 n J pc L [zi z] := fun ok => tb_iret (ty := .int) hd hr rfl hc hs ⟨J, rfl, rfl, ok, hn.1, hn.2, hq⟩
theorem tz_zret {z : Int} (hd : decode y.2.1 pc = .ok (.ireturn, 1)) (hr : y.2.2.2.1 = some .boolean) (hz : z = 0 ∨ z = 1) (hc : k1 ≤ mc) (hs : k2 ≤ ms) (hn : n0 ≤ n ∧ n ≤ n0 + mc) (hq : Q (some (zi z)) J) :
    tz_At l G y R xt (tb_ZM G mc ms (zQ n0 mc Q) (zX n0 mc X)) k1 k2 n J pc L [zi z] := fun ok => tb_iret (ty := .boolean) hd hr (z_bool hz).1 hc hs ⟨J, rfl, rfl, ok, hn.1, hn.2, hq⟩
theorem tz_vret (hd : decode y.2.1 pc = .ok (.return_, 1)) (hr : y.2.2.2.1 = none) (hc : k1 ≤ mc) (hs : k2 ≤ ms) (hn : n0 ≤ n ∧ n ≤ n0 + mc) (hq : Q none J) :
    tz_At l G y R xt (tb_ZM G mc ms (zQ n0 mc Q) (zX n0 mc X)) k1 k2 n J pc L [] := fun ok => tb_vret hd hr hc hs ⟨J, rfl, rfl, ok, hn.1, hn.2, hq⟩
theorem tz_out {E : String} (hh : y.2.2.2.2 = []) (hc : k1 ≤ mc) (hs : k2 ≤ ms) (hn : n0 ≤ n ∧ n ≤ n0 + mc) (hx : X E J) : tz_Ax l G y R xt (tb_ZM G mc ms (zQ n0 mc Q) (zX n0 mc X)) k1 k2 n J pc L S E := fun ok => tb_out hh hc hs ⟨J, rfl, rfl, ok, hn.1, hn.2, hx⟩
end Ends
end TZ
theorem zJ_fill {l : Launch} {G : tb_G} (hl : l.stackTraces = false) (n : Nat) (J : zJ) (c len : Nat) (lz v : Int) (hv : -2147483648 ≤ v ∧ v < 2147483648) (a_c : tb_cA tb_shT c len = true) (e : ((len : Nat) : Int) = lz) : tz_Ok l G M_J7_fill_53178 0 0 0 [.ref c, zi v] n J (zqv (fun J' => J' = zfl J c lz v)) zN := fun ok =>
  (kJ_fill hl n tb_shT (zI J) c len (Int32.ofInt v) a_c).mono (fun r n' sh' I' h => by
    obtain ⟨rfl, rfl, rfl, rfl⟩ := h
    exact ⟨zfl J c lz v, rfl, by rw [← e]; exact zI_fl, ok.fl hv, Nat.le_refl _, Nat.le_refl _, rfl, rfl⟩) (fun _ _ _ _ h => h.elim)
