section
/-! ===== the same over whole numbers ===== -/
def tz_OkP (P : (Nat → Prop) → State → Nat → Prop) (l : Launch) (G : tb_G) (y : tb_Mt) (d : Nat) (as : List Value) (n : Nat) (J : zJ) (Q : Option Value → zJ → Prop) : Prop := zok n J → tb_OkP P l G y d 0 0 as n tb_shT (zI J) (zQ n 0 Q) (zX n 0 zN)
theorem tz_OkP.of {P : (Nat → Prop) → State → Nat → Prop} {l : Launch} {G : tb_G} {y : tb_Mt} {d : Nat} {as : List Value} {n : Nat} {J : zJ} {Q : Option Value → zJ → Prop} (hl : l.stackTraces = false) (hy : plainName y.1.cls = true) (hh : y.2.2.2.2 = []) (hc : ∀ v ∈ as, v.category = 1) (hn : as.length ≤ y.2.2.1)
    (h : tz_At l G y (tb_rm d 0 0) none (ZP P (tb_ZM G 0 0 (zQ n 0 Q) (zX n 0 zN))) 0 0 n J 0 (tb_L0 as y.2.2.1) []) : tz_OkP P l G y d as n J Q := fun ok => tb_OkP.of hl hy hh hc hn (h ok)
theorem zq_F {n : Nat} {P : Int → zJ → Prop} (hn : n ≤ tb_sc) : ∀ r n' sh' I', zQ n 0 (zqi P) r n' sh' I' → n' ≤ tb_sc ∧ ∀ q, ¬ r = some (.ref q) := by
  rintro r n' sh' I' ⟨J', -, -, -, -, h2, z, rfl, -⟩
  exact ⟨by omega, fun q h => by cases h⟩
theorem zx_F {n : Nat} : ∀ E n' sh' I', ¬ zX n 0 zN E n' sh' I' := by
  rintro E n' sh' I' ⟨J', -, -, -, -, -, h⟩
  exact h
section TZF
variable {l : Launch} {G : tb_G} {y : tb_Mt} {R : Room} {xt : Option (Nat × (Nat → Int32))} {Z : tb_CT → State → Prop} {k1 k2 n : Nat} {J : zJ} {pc : Nat} {L : List (Option Value)} {S : List Value}
theorem tz_zp {P : (Nat → Prop) → State → Nat → Prop} (h : tz_At l G y R xt Z k1 k2 n J pc L S) : tz_At l G y R xt (ZP P Z) k1 k2 n J pc L S := by
  intro ok ok0 p e s m args below meth c A adr0 n0 bx C H locs adr ls ha hP hD hS hl
  have h9 := h ok ok0 p e s m args below meth c A adr0 n0 bx C H locs adr ls ha hP hD hS hl
  intro T hT X
  obtain ⟨t, a1, b1⟩ := h9 T hT X
  exact ⟨t, a1, fun _ => b1⟩
theorem zi_map (z : Int) (adr : Nat → Nat) : (zi z :: S).map (tb_rn adr) = .int (Int32.ofInt z) :: S.map (tb_rn adr) := rfl
theorem tz_gCS (hd : decode y.2.1 pc = .ok (.getstatic 38, 3)) (hw : Cond.fieldLink y.1.cls 38 "java/lang/String" "COMPACT_STRINGS" "Z" ∈ tb_W) (k : tz_At l G y R xt Z k1 k2 n J (pc + 3) L (zi 1 :: S)) : tz_At l G y R xt Z k1 k2 n J pc L S := by
  intro ok ok0 p e s m args below meth c A adr0 n0 bx C H locs adr ls ha hP hD hS hl
  have h9 := k ok ⟨ok0.1, ok0.2.1, .cons trivial ok0.2.2⟩ p e s m args below meth c A adr0 n0 bx C H locs adr ls ha hP hD hS hl
  rw [zi_map, show Int32.ofInt 1 = (1 : Int32) by decide] at h9
  exact va_gets C.1 C.2.1 C.2.2.2.2.2.2.2.2.2.2.2.1.2.2.2.2.2.2.2.2.2.1 hS C.2.2.2.2.2.1 (C.2.2.2.2.2.2.2.2.1 _ hw) (fun _ h => h) hd h9
theorem tz_gCo {bs : List Int32} (hd : decode y.2.1 pc = .ok (.getfield 15, 3)) (hw : Cond.fieldLink y.1.cls 15 "java/lang/String" "coder" "B" ∈ tb_W) (k : tz_At l G y R xt (ZP (PS bs) Z) k1 k2 n J (pc + 3) L (zi 0 :: S)) : tz_At l G y R xt (ZP (PS bs) Z) k1 k2 n J pc L (.ref tb_sc :: S) := by
  intro ok ok0 p e s m args below meth c A adr0 n0 bx C H locs adr ls ha hP hD hS hl
  by_cases hp : PS bs A s (adr0 tb_sc)
  · obtain ⟨v, h1, h2, h3, h4⟩ := hp.T
    have h9 := k ok ⟨ok0.1, ok0.2.1, .cons trivial ok0.2.2.tail⟩ p e s m args below meth c A adr0 n0 bx C H locs adr ls ha hP hD hS hl
    rw [zi_map, show Int32.ofInt 0 = (0 : Int32) by decide] at h9
    show W p l e R s m args below meth c H locs k1 k2 _ (F0 m pc ls (.ref (adr tb_sc) :: S.map (tb_rn adr)))
    rw [ha.2.1]
    exact vk_getf C.1 C.2.1 h2 hS C.2.2.2.2.2.1 (C.2.2.2.2.2.2.2.2.1 _ hw) (fun _ h => h) hd h9
  · intro T hT X
    exact ⟨_, Steps.refl _, fun h => absurd h hp⟩
theorem tz_gVL {bs : List Int32} {z : Int} (hz : (bs.length : Int) = z) (hd : decode y.2.1 pc = .ok (.getfield 9, 3)) (hd2 : decode y.2.1 (pc + 3) = .ok (.arraylength, 1)) (hw : Cond.fieldLink y.1.cls 9 "java/lang/String" "value" "[B" ∈ tb_W) (k : tz_At l G y R xt (ZP (PS bs) Z) k1 k2 n J (pc + 4) L (zi z :: S)) : tz_At l G y R xt (ZP (PS bs) Z) k1 k2 n J pc L (.ref tb_sc :: S) := by
  intro ok ok0 p e s m args below meth c A adr0 n0 bx C H locs adr ls ha hP hD hS hl
  by_cases hp : PS bs A s (adr0 tb_sc)
  · obtain ⟨v, h1, h2, h3, h4⟩ := hp.T
    have h9 := k ok ⟨ok0.1, ok0.2.1, .cons trivial ok0.2.2.tail⟩ p e s m args below meth c A adr0 n0 bx C H locs adr ls ha hP hD hS hl
    rw [zi_map, ← hz, Int32.ofInt_eq_ofNat] at h9
    show W p l e R s m args below meth c H locs k1 k2 _ (F0 m pc ls (.ref (adr tb_sc) :: S.map (tb_rn adr)))
    rw [ha.2.1]
    exact vk_getf C.1 C.2.1 h3 hS C.2.2.2.2.2.1 (C.2.2.2.2.2.2.2.2.1 _ hw) (fun _ h => h) hd (va_tlen (pc := pc + 3) C.1 C.2.1 h4 hS rfl hd2 h9)
  · intro T hT X
    exact ⟨_, Steps.refl _, fun h => absurd h hp⟩
theorem tz_bLen {bs : List Int32} {z : Int} (hz : (bs.length : Int) = z) (hd : decode y.2.1 pc = .ok (.arraylength, 1)) (k : tz_At l G y R xt (ZP (PB bs) Z) k1 k2 n J (pc + 1) L (zi z :: S)) : tz_At l G y R xt (ZP (PB bs) Z) k1 k2 n J pc L (.ref tb_sc :: S) := by
  intro ok ok0 p e s m args below meth c A adr0 n0 bx C H locs adr ls ha hP hD hS hl
  by_cases hp : PB bs A s (adr0 tb_sc)
  · have h9 := k ok ⟨ok0.1, ok0.2.1, .cons trivial ok0.2.2.tail⟩ p e s m args below meth c A adr0 n0 bx C H locs adr ls ha hP hD hS hl
    rw [zi_map, ← hz, Int32.ofInt_eq_ofNat] at h9
    show W p l e R s m args below meth c H locs k1 k2 _ (F0 m pc ls (.ref (adr tb_sc) :: S.map (tb_rn adr)))
    rw [ha.2.1]
    exact va_tlen C.1 C.2.1 hp hS rfl hd h9
  · intro T hT X
    exact ⟨_, Steps.refl _, fun h => absurd h hp⟩
theorem tz_bLd {bs : List Int32} {k9 v : Int} (hk : 0 ≤ k9 ∧ k9 < bs.length) (hb : bs.length < 1000) (hv : (bs.getD k9.toNat 0).toInt = v) (hd : decode y.2.1 pc = .ok (.baload, 1)) (k : tz_At l G y R xt (ZP (PB bs) Z) k1 k2 n J (pc + 1) L (zi v :: S)) : tz_At l G y R xt (ZP (PB bs) Z) k1 k2 n J pc L (zi k9 :: .ref tb_sc :: S) := by
  intro ok ok0 p e s m args below meth c A adr0 n0 bx C H locs adr ls ha hP hD hS hl
  by_cases hp : PB bs A s (adr0 tb_sc)
  · have h9 := k ok ⟨ok0.1, ok0.2.1, .cons trivial ok0.2.2.tail.tail⟩ p e s m args below meth c A adr0 n0 bx C H locs adr ls ha hP hD hS hl
    rw [zi_map, ← hv, Int32.ofInt_toInt] at h9
    show W p l e R s m args below meth c H locs k1 k2 _ (F0 m pc ls (.int (Int32.ofInt k9) :: .ref (adr tb_sc) :: S.map (tb_rn adr)))
    rw [ha.2.1, zn hk.1]
    exact va_tb C.1 C.2.1 hp hS (vp_in_nI (by omega) (by omega)) (by rw [nI_clamp (by omega)]) hd h9
  · intro T hT X
    exact ⟨_, Steps.refl _, fun h => absurd h hp⟩
theorem tz_i2c {x v : Int} (hd : decode y.2.1 pc = .ok (.i2c, 1)) (hv : ((Int32.ofInt x).toUInt32 % 65536).toInt32 = Int32.ofInt v) (k : tz_At l G y R xt Z k1 k2 n J (pc + 1) L (zi v :: S)) : tz_At l G y R xt Z k1 k2 n J pc L (zi x :: S) := by
  intro ok ok0 p e s m args below meth c A adr0 n0 bx C H locs adr ls ha hP hD hS hl
  have h9 := k ok ⟨ok0.1, ok0.2.1, .cons trivial ok0.2.2.tail⟩ p e s m args below meth c A adr0 n0 bx C H locs adr ls ha hP hD hS hl
  exact lv_i2c C.1 C.2.1 hd hv h9
/-- a call of a text's own method -/
theorem tz_cVP {bs : List Int32} {idx nA d : Nat} {y' : tb_Mt} {as St : List Value} {Q' : Int → zJ → Prop} (hM : tz_OkP (PS bs) l G y' d (.ref tb_sc :: as) n J (zqi Q')) (hc : y'.1.cls = "java/lang/String") (hv : tb_VR y.1.cls idx y' nA) (hd : decode y.2.1 pc = .ok (.invokevirtual idx, 3)) (hna : as.length = nA) (hst : St = as.reverse ++ .ref tb_sc :: S)
    (hcat : (S.map fun v => v.category).sum ≤ 8) (hR : d + 1 ≤ R.frames ∧ 8 + (y'.2.2.1 + 11) + 40 * d ≤ R.locals) (hce : k1 ≤ R.cells) (hsl : k2 ≤ R.slots)
    (kk : ∀ (z : Int) (J' : zJ), (-2147483648 ≤ z ∧ z < 2147483648) → Q' z J' → tz_At l G y R xt (ZP (PS bs) Z) k1 k2 n J' (pc + 3) L (zi z :: S)) : tz_At l G y R xt (ZP (PS bs) Z) k1 k2 n J pc L St := by
  subst hst
  intro ok ok0 p e s m args below meth c A adr0 n0 bx C H locs adr ls ha hP hD hS hl
  by_cases hp : PS bs A s (adr0 tb_sc)
  · obtain ⟨so1, so2⟩ := tb_so_take (S := .ref tb_sc :: S) ok0.2.2
    obtain ⟨hl1, hl2, hl3, hCD⟩ := hv
    have hts := C.2.2.2.2.2.2.2.2.1
    have hp' : PS bs A s (adr tb_sc) := by rw [ha.2.1]; exact hp
    have hstk : (as.reverse ++ .ref tb_sc :: S).map (tb_rn adr) = (as.map (tb_rn adr)).reverse ++ .ref (adr tb_sc) :: S.map (tb_rn adr) := by
      rw [List.map_append, List.map_reverse]
      rfl
    have hrecv : ∃ cell : Cell, H[adr tb_sc]? = some cell ∧ cell.vm.isStatics = false ∧ s.vm.findClass y'.1.cls = some cell.cls := by
      obtain ⟨v, h1, -⟩ := hp'.T
      obtain ⟨cell, g1, g2, g3, -⟩ := h1.kept hS.2.1
      exact ⟨cell, g1, g2, by rw [hc]; exact g3⟩
    have hpre : ∀ U : State, U.heap = H → s.WarmedH U.vm → va_Pc ((Value.ref tb_sc :: as).map (tb_rn adr)) (fun U => tb_Pr G adr H.size n tb_shT (zI J) U ∧ PS bs (va_A (tb_ws G adr n tb_shT (zI J)) H.size) U (adr tb_sc)) ((Value.ref tb_sc :: as).map (tb_rn adr)).toArray U := by
      intro U hU hW
      obtain ⟨-, a⟩ := tb_pre C hP hD hS (.ref tb_sc :: as) U hU hW
      exact ⟨rfl, a, PS.go bs A _ s U _ hp' hW (fun a h1 h2 => by rw [hU]; exact hS.2.1 a h1 h2) (tb_Asub hD hS C.2.2.2.2.2.2.2.2.2.1)⟩
    rw [hstk]
    exact tb_back C ha hD hS hl ok0.2.1 so2.tail
      (vx_runV (As := as.map (tb_rn adr)) (rest := S.map (tb_rn adr)) (Ts := tb_W) (own := y.1.cls) (cc := y.2.1) (nL := y.2.2.1) ⟨C.1, C.2.1, C.2.2.1, C.2.2.2.2.2.1, hts⟩ (hM ok (.cons so2.head so1) ok0.1 adr H.size) ⟨tb_callB hts hl1 hCD hR, hts _ hl2, hts _ hl3⟩
        ⟨tb_blindP (PS.go bs), hrecv, hpre⟩ rfl (by rw [List.length_map]; exact hna) hl.1 rfl (lv_room (by rw [tb_cats]; exact hcat)) hd ⟨hce, hsl⟩)
      (by
        rintro r n' sh' I' ⟨J', rfl, rfl, ok', hn1, hn2, z, rfl, hz, hq⟩
        have : n' = n := by omega
        subst this
        exact kk z J' hz hq ok') (fun E n' sh' I' h => absurd h (zx_F _ _ _ _))
  · intro T hT X
    exact ⟨_, Steps.refl _, fun h => absurd h hp⟩
/-- getfield value; iload_1; invokestatic, of a text: a call over its bytes -/
theorem tz_chA {bs : List Int32} {idx d : Nat} {k9 : Int} {y' : tb_Mt} {Q' : Int → zJ → Prop} (hM : tz_OkP (PB bs) l G y' d [.ref tb_sc, zi k9] n J (zqi Q')) (hnb : n ≤ tb_sc) (hv : tb_SL y.1.cls idx y' 2) (hL : L[1]? = some (some (zi k9))) (d0 : decode y.2.1 pc = .ok (.getfield 9, 3)) (d3 : decode y.2.1 (pc + 3) = .ok (.iload_n 1, 1)) (d4 : decode y.2.1 (pc + 4) = .ok (.invokestatic idx, 3)) (hw : Cond.fieldLink y.1.cls 9 "java/lang/String" "value" "[B" ∈ tb_W)
    (hcat : (S.map fun v => v.category).sum ≤ 8) (hR : d + 1 ≤ R.frames ∧ 8 + (y'.2.2.1 + 11) + 40 * d ≤ R.locals) (hce : k1 ≤ R.cells) (hsl : k2 ≤ R.slots)
    (kk : ∀ (z : Int) (J' : zJ), (-2147483648 ≤ z ∧ z < 2147483648) → Q' z J' → tz_At l G y R xt (ZP (PS bs) Z) k1 k2 n J' (pc + 7) L (zi z :: S)) : tz_At l G y R xt (ZP (PS bs) Z) k1 k2 n J pc L (.ref tb_sc :: S) := by
  intro ok ok0 p e s m args below meth c A adr0 n0 bx C H locs adr ls ha hP hD hS hl
  by_cases hp : PS bs A s (adr0 tb_sc)
  · obtain ⟨v, h1, h2, h3, h4⟩ := hp.T
    have h9 := tb_callSF (S := S) (v := v) (k1 := k1) (k2 := k2) (Z := ZP (PS bs) Z) (below := below) (PB.go bs) (hM ok) hv d4 rfl hcat hR hce hsl hnb (zq_F hnb) zx_F C ha hP hD hS hl ok0.1 ok0.2.1 ok0.2.2.tail (.cons (Or.inr rfl) (.cons trivial (fun _ h => nomatch h))) h4 (by
      rintro r n' sh' I' ⟨J', rfl, rfl, ok', hn1, hn2, z, rfl, hz, hq⟩
      have : n' = n := by omega
      subst this
      exact kk z J' hz hq ok')
    rw [show (([Value.ref tb_sc, zi k9] : List Value).map (tb_rn (tb_ad adr tb_sc v))).reverse = [.int (Int32.ofInt k9), .ref (tb_ad adr tb_sc v tb_sc)] from rfl, tb_ad_sc] at h9
    show W p l e R s m args below meth c H locs k1 k2 _ (F0 m pc ls (.ref (adr tb_sc) :: S.map (tb_rn adr)))
    rw [ha.2.1]
    exact vk_getf C.1 C.2.1 h3 hS C.2.2.2.2.2.1 (C.2.2.2.2.2.2.2.2.1 _ hw) (fun _ h => h) d0 (lv_iload_n (pc := pc + 3) C.1 C.2.1 d3 rfl (hl.2.2.2 1 _ hL) h9)
  · intro T hT X
    exact ⟨_, Steps.refl _, fun h => absurd h hp⟩
/-- getstatic of the formatter; invokestatic -/
theorem tz_chk {idx d : Nat} {i9 n9 : Int} {y' : tb_Mt} {Q' : Int → zJ → Prop} (hM : ∀ w : Value, w = .null ∨ w = .ref tb_sc → tz_OkP PA l G y' d [zi i9, zi n9, w] n J (zqi Q')) (hnb : n ≤ tb_sc) (hv : tb_SL y.1.cls idx y' 3) (d0 : decode y.2.1 pc = .ok (.getstatic 1053, 3)) (d3 : decode y.2.1 (pc + 3) = .ok (.invokestatic idx, 3)) (hw : Cond.fieldLink y.1.cls 1053 "jdk/internal/util/Preconditions" "SIOOBE_FORMATTER" "Ljava/util/function/BiFunction;" ∈ tb_W)
    (hcat : (S.map fun v => v.category).sum ≤ 8) (hR : d + 1 ≤ R.frames ∧ 8 + (y'.2.2.1 + 11) + 40 * d ≤ R.locals) (hce : k1 ≤ R.cells) (hsl : k2 ≤ R.slots)
    (kk : ∀ (z : Int) (J' : zJ), (-2147483648 ≤ z ∧ z < 2147483648) → Q' z J' → tz_At l G y R xt Z k1 k2 n J' (pc + 6) L (zi z :: S)) : tz_At l G y R xt Z k1 k2 n J pc L (zi n9 :: zi i9 :: S) := by
  intro ok ok0 p e s m args below meth c A adr0 n0 bx C H locs adr ls ha hP hD hS hl
  have h9 : ∀ (w : Value) (v : Nat), w = .null ∨ w = .ref tb_sc → W p l e R s m args below meth c H locs k1 k2 (Z (s, args, below, A, adr0, n0)) (F0 m (pc + 3) ls ((([zi i9, zi n9, w] : List Value).map (tb_rn (tb_ad adr tb_sc v))).reverse ++ S.map (tb_rn adr))) := fun w v hw9 =>
    tb_callSF (S := S) (v := v) (k1 := k1) (k2 := k2) (Z := Z) (below := below) PA.go (hM w hw9 ok) hv d3 rfl hcat hR hce hsl hnb (zq_F hnb) zx_F C ha hP hD hS hl ok0.1 ok0.2.1 ok0.2.2.tail.tail (.cons trivial (.cons trivial (.cons (by rcases hw9 with rfl | rfl <;> first | exact trivial | exact Or.inr rfl) (fun _ h => nomatch h)))) trivial (by
      rintro r n' sh' I' ⟨J', rfl, rfl, ok', hn1, hn2, z, rfl, hz, hq⟩
      have : n' = n := by omega
      subst this
      exact kk z J' hz hq ok')
  obtain ⟨-, -, ka, -, -, hz⟩ := C.2.2.2.2.2.2.2.2.2.2.2.1.2.2.2.2.2.2.2.2
  rcases hz with hz | ⟨t, hz⟩
  · exact va_gets C.1 C.2.1 hz hS C.2.2.2.2.2.1 (C.2.2.2.2.2.2.2.2.1 _ hw) (fun _ h => h) d0 (h9 .null 0 (Or.inl rfl))
  · have h8 := h9 (.ref tb_sc) t (Or.inr rfl)
    rw [show (([zi i9, zi n9, Value.ref tb_sc] : List Value).map (tb_rn (tb_ad adr tb_sc t))).reverse = [.ref (tb_ad adr tb_sc t tb_sc), .int (Int32.ofInt n9), .int (Int32.ofInt i9)] from rfl, tb_ad_sc] at h8
    exact va_gets C.1 C.2.1 hz hS C.2.2.2.2.2.1 (C.2.2.2.2.2.2.2.2.1 _ hw) (fun _ h => h) d0 h8
/-- ldc of a text; a call with it of the reader's -/
theorem tz_word {idx ik d N : Nat} {tx : String} {bs : List Int32} {rs : List (Option Nat)} {y' : tb_Mt} {Q' : Int → zJ → Prop} (hq : (ik, tx, bs) ∈ tb_rs) (hy : y.1.cls = "TermBank$Reader") (hM : tz_OkP (PS bs) l G y' d [.ref 163, .ref tb_sc] n J (zqi Q')) (hnb : n ≤ tb_sc) (hv : tb_VL y.1.cls idx y' 1 5) (hs : tb_shT 163 = (5, N, rs)) (d0 : decode y.2.1 pc = .ok (.ldc ik, 2)) (d2 : decode y.2.1 (pc + 2) = .ok (.invokevirtual idx, 3))
    (hcat : (S.map fun v => v.category).sum ≤ 8) (hR : d + 1 ≤ R.frames ∧ 8 + (y'.2.2.1 + 11) + 40 * d ≤ R.locals) (hce : k1 ≤ R.cells) (hsl : k2 ≤ R.slots)
    (kk : ∀ (z : Int) (J' : zJ), (-2147483648 ≤ z ∧ z < 2147483648) → Q' z J' → tz_At l G y R xt Z k1 k2 n J' (pc + 5) L (zi z :: S)) : tz_At l G y R xt Z k1 k2 n J pc L (.ref 163 :: S) := by
  intro ok ok0 p e s m args below meth c A adr0 n0 bx C H locs adr ls ha hP hD hS hl
  obtain ⟨hstr, -⟩ := C.2.2.2.2.2.2.2.2.2.2.2.1.2.2.2.2.2.2.2.2
  obtain ⟨a, v, g1, g2⟩ := hstr _ hq
  have hcn : 163 < n := ok0.2.2.head.resolve_right (by decide)
  have h9 := tb_callVF (S := S) (v := a) (k1 := k1) (k2 := k2) (Z := Z) (below := below) (c9 := 163) (as := [.ref tb_sc]) (PS.go bs) (hM ok) hv d2 hs hcn rfl hcat hR hce hsl hnb (zq_F hnb) zx_F C ha hP hD hS hl ok0.1 ok0.2.1 ok0.2.2.tail (.cons (Or.inr rfl) (fun _ h => nomatch h)) ⟨v, g2⟩ (by
    rintro r n' sh' I' ⟨J', rfl, rfl, ok', hn1, hn2, z, rfl, hz, hq⟩
    have : n' = n := by omega
    subst this
    exact kk z J' hz hq ok')
  rw [show (([Value.ref tb_sc] : List Value).map (tb_rn (tb_ad adr tb_sc a))).reverse = [.ref (tb_ad adr tb_sc a tb_sc)] from rfl, tb_ad_sc] at h9
  exact va_ldcS C.1 C.2.1 (own := "TermBank$Reader") (by rw [← hy]; exact C.2.2.2.2.2.1) g1 d0 h9
/-- the reference's known words: how many bytes; one of them -/
theorem tz_knL (hd : decode y.2.1 pc = .ok (.getstatic 236, 3)) (hd2 : decode y.2.1 (pc + 3) = .ok (.arraylength, 1)) (hw : Cond.fieldLink y.1.cls 236 "TermBankModel" "KNOWN" "[B" ∈ tb_W) (k : tz_At l G y R xt Z k1 k2 n J (pc + 4) L (zi 31 :: S)) : tz_At l G y R xt Z k1 k2 n J pc L S := by
  intro ok ok0 p e s m args below meth c A adr0 n0 bx C H locs adr ls ha hP hD hS hl
  obtain ⟨-, -, ka, h1, h2, -⟩ := C.2.2.2.2.2.2.2.2.2.2.2.1.2.2.2.2.2.2.2.2
  have h9 := k ok ⟨ok0.1, ok0.2.1, .cons trivial ok0.2.2⟩ p e s m args below meth c A adr0 n0 bx C H locs adr ls ha hP hD hS hl
  exact va_gets C.1 C.2.1 h1 hS C.2.2.2.2.2.1 (C.2.2.2.2.2.2.2.2.1 _ hw) (fun _ h => h) hd (va_tlen (pc := pc + 3) (v := Int32.ofInt 31) C.1 C.2.1 h2 hS (by decide) hd2 h9)
theorem tz_knD {i : Nat} {k9 v : Int} (hk : 0 ≤ k9 ∧ k9 < 31) (hv : (tb_kn.getD k9.toNat 0).toInt = v) (hL : L[i]? = some (some (zi k9))) (hd : decode y.2.1 pc = .ok (.getstatic 236, 3)) (hd2 : decode y.2.1 (pc + 3) = .ok (.iload i, 2)) (hd3 : decode y.2.1 (pc + 5) = .ok (.baload, 1)) (hw : Cond.fieldLink y.1.cls 236 "TermBankModel" "KNOWN" "[B" ∈ tb_W) (k : tz_At l G y R xt Z k1 k2 n J (pc + 6) L (zi v :: S)) : tz_At l G y R xt Z k1 k2 n J pc L S := by
  intro ok ok0 p e s m args below meth c A adr0 n0 bx C H locs adr ls ha hP hD hS hl
  obtain ⟨-, -, ka, h1, h2, -⟩ := C.2.2.2.2.2.2.2.2.2.2.2.1.2.2.2.2.2.2.2.2
  have h9 := k ok ⟨ok0.1, ok0.2.1, .cons trivial ok0.2.2⟩ p e s m args below meth c A adr0 n0 bx C H locs adr ls ha hP hD hS hl
  rw [zi_map, ← hv, Int32.ofInt_toInt] at h9
  have hx : ls[i]? = some (.val (.int (nI k9.toNat))) := by
    rw [← zn hk.1]
    exact hl.2.2.2 i _ hL
  exact va_gets C.1 C.2.1 h1 hS C.2.2.2.2.2.1 (C.2.2.2.2.2.2.2.2.1 _ hw) (fun _ h => h) hd (lv_iload (pc := pc + 3) C.1 C.2.1 hd2 hx (va_tb (pc := pc + 5) C.1 C.2.1 h2 hS (vp_in_nI (by omega) (by omega)) (by rw [nI_clamp (by omega)]) hd3 h9))
theorem tz_nret {z : Int} {ty : FieldType} {Q : Option Value → zJ → Prop} {X : String → zJ → Prop} {mc ms n0 : Nat} (hd : decode y.2.1 pc = .ok (.ireturn, 1)) (hr : y.2.2.2.1 = some ty) (hz : narrow ty (zi z) = zi z) (hc : k1 ≤ mc) (hs : k2 ≤ ms) (hn : n0 ≤ n ∧ n ≤ n0 + mc) (hq : Q (some (zi z)) J) :
    tz_At l G y R xt (tb_ZM G mc ms (zQ n0 mc Q) (zX n0 mc X)) k1 k2 n J pc L [zi z] := fun ok => tb_iret (ty := ty) hd hr hz hc hs ⟨J, rfl, rfl, ok, hn.1, hn.2, hq⟩
end TZF
theorem zshr0 {a : Int} (h : -2147483648 ≤ a ∧ a < 2147483648) : zshr a 0 = a := by
  have e : Int32.ofInt a >>> (Int32.ofInt 0 &&& 31) = Int32.ofInt a := by
    rw [← Int32.toInt_inj, pk_shr (Int32.ofInt a) _ 0 (by decide)]
    simp
  unfold zshr
  rw [e, zt h]
/-- a byte of a text, as a char -/
def zch (bs : List Int32) (k : Int) : Int := zand ((bs.getD k.toNat 0).toInt) 255
theorem zch_rg (bs : List Int32) (k : Int) : 0 ≤ zch bs k ∧ zch bs k < 256 := z_and _ (m := 255) 8 (by decide) (by decide)
theorem zch_of (bs : List Int32) (k : Int) : Int32.ofInt (zch bs k) = bs.getD k.toNat 0 &&& 255 := by
  unfold zch zand
  rw [Int32.ofInt_toInt, Int32.ofInt_toInt, show Int32.ofInt 255 = (255 : Int32) by decide]
theorem zch_c2 (bs : List Int32) (k : Int) : ((Int32.ofInt (zch bs k)).toUInt32 % 65536).toInt32 = Int32.ofInt (zch bs k) := by
  rw [zch_of]
  exact sc_c2 _
theorem zch_nar (bs : List Int32) (k : Int) : narrow .char (zi (zch bs k)) = zi (zch bs k) := by
  unfold zi
  rw [zch_of]
  exact sc_nar _
end
section
set_option maxHeartbeats 4000000 in
set_option maxRecDepth 100000 in
theorem c_jcoder {l : Launch} {G : tb_G} (hl : l.stackTraces = false) (n : Nat) (J : zJ)   (bs : List Int32)  : tz_OkP (PS bs) l G M_J0_coder_7d493 0 [.ref tb_sc] n J (zqi (fun z J' => J = J' ∧ 0 = z)) := by
  refine tz_OkP.of hl (by decide +kernel) rfl (tb_c1 rfl) (Nat.le_of_ble_eq_true rfl) ?_
  show tz_At l G M_J0_coder_7d493 (tb_rm 0 0 0) none (ZP (PS bs) (tb_ZM G 0 0 (zQ n 0 (zqi (fun z J' => J = J' ∧ 0 = z))) (zX n 0 zN))) 0 0 n J 0 [some (.ref tb_sc)] []
  refine tz_gCS (pc := 0) dJ0_coder_7d493_0 fs_cs ?_
  refine tz_if_eqF (pc := 3) (tgt := 13) (by decide) dJ0_coder_7d493_3 (by decide) (by decide) ?_
  refine tz_aload_n (pc := 6) dJ0_coder_7d493_6 rfl rfl ?_
  refine tz_gCo (pc := 7) dJ0_coder_7d493_7 fs_co ?_
  refine tz_goto (pc := 10) (tgt := 14) dJ0_coder_7d493_10 (by decide) ?_
  refine tz_zp ?_
  exact tz_nret (pc := 14) (z := 0) (ty := .byte) dJ0_coder_7d493_14 rfl (by decide) (Nat.le_of_ble_eq_true rfl) (Nat.le_of_ble_eq_true rfl) ⟨Nat.le_refl _, Nat.le_add_right _ _⟩ ⟨_, rfl, (by decide), ⟨rfl, rfl⟩⟩

set_option maxHeartbeats 4000000 in
set_option maxRecDepth 100000 in
theorem c_jlatin {l : Launch} {G : tb_G} (hl : l.stackTraces = false) (n : Nat) (J : zJ)   (bs : List Int32)  : tz_OkP (PS bs) l G M_J0_isLatin1_aae02 0 [.ref tb_sc] n J (zqi (fun z J' => J = J' ∧ 1 = z)) := by
  refine tz_OkP.of hl (by decide +kernel) rfl (tb_c1 rfl) (Nat.le_of_ble_eq_true rfl) ?_
  show tz_At l G M_J0_isLatin1_aae02 (tb_rm 0 0 0) none (ZP (PS bs) (tb_ZM G 0 0 (zQ n 0 (zqi (fun z J' => J = J' ∧ 1 = z))) (zX n 0 zN))) 0 0 n J 0 [some (.ref tb_sc)] []
  refine tz_gCS (pc := 0) dJ0_isLatin1_aae02_0 fs_cs ?_
  refine tz_if_eqF (pc := 3) (tgt := 17) (by decide) dJ0_isLatin1_aae02_3 (by decide) (by decide) ?_
  refine tz_aload_n (pc := 6) dJ0_isLatin1_aae02_6 rfl rfl ?_
  refine tz_gCo (pc := 7) dJ0_isLatin1_aae02_7 fs_co ?_
  refine tz_if_neF (pc := 10) (tgt := 17) (by decide) dJ0_isLatin1_aae02_10 (by decide) (by decide) ?_
  refine tz_iconst (pc := 13) dJ0_isLatin1_aae02_13 ?_
  refine tz_goto (pc := 14) (tgt := 18) dJ0_isLatin1_aae02_14 (by decide) ?_
  refine tz_zp ?_
  exact tz_zret (pc := 18) (z := 1) dJ0_isLatin1_aae02_18 rfl (Or.inr rfl) (Nat.le_of_ble_eq_true rfl) (Nat.le_of_ble_eq_true rfl) ⟨Nat.le_refl _, Nat.le_add_right _ _⟩ ⟨_, rfl, (by decide), ⟨rfl, rfl⟩⟩

set_option maxHeartbeats 4000000 in
set_option maxRecDepth 100000 in
theorem c_jlen {l : Launch} {G : tb_G} (hl : l.stackTraces = false) (n : Nat) (J : zJ)   (bs : List Int32) (hb : bs.length < 1000) : tz_OkP (PS bs) l G M_J0_length_8abf5 1 [.ref tb_sc] n J (zqi (fun z J' => J = J' ∧ (bs.length : Int) = z)) := by
  refine tz_OkP.of hl (by decide +kernel) rfl (tb_c1 rfl) (Nat.le_of_ble_eq_true rfl) ?_
  show tz_At l G M_J0_length_8abf5 (tb_rm 1 0 0) none (ZP (PS bs) (tb_ZM G 0 0 (zQ n 0 (zqi (fun z J' => J = J' ∧ (bs.length : Int) = z))) (zX n 0 zN))) 0 0 n J 0 [some (.ref tb_sc)] []
  refine tz_aload_n (pc := 0) dJ0_length_8abf5_0 rfl rfl ?_
  refine tz_gVL (pc := 1) (z := (bs.length : Int)) rfl dJ0_length_8abf5_1 dJ0_length_8abf5_4 fs_va ?_
  refine tz_aload_n (pc := 5) dJ0_length_8abf5_5 rfl rfl ?_
  refine tz_cVP (pc := 6) (as := []) (c_jcoder hl n _ bs) rfl vr_J0_335 dJ0_length_8abf5_6 rfl rfl (Nat.le_of_ble_eq_true rfl) ⟨(Nat.le_of_ble_eq_true rfl), (Nat.le_of_ble_eq_true rfl)⟩ (Nat.le_of_ble_eq_true rfl) (Nat.le_of_ble_eq_true rfl) (fun z_6 J_6 hz_6 hq9 => ?_)
  obtain ⟨rfl, rfl⟩ := hq9
  refine tz_ishr (pc := 9) (v := (bs.length : Int)) dJ0_length_8abf5_9 (zshr0 (by omega)) ?_
  refine tz_zp ?_
  exact tz_iret (pc := 10) (z := (bs.length : Int)) dJ0_length_8abf5_10 rfl (Nat.le_of_ble_eq_true rfl) (Nat.le_of_ble_eq_true rfl) ⟨Nat.le_refl _, Nat.le_add_right _ _⟩ ⟨_, rfl, (by omega), ⟨rfl, rfl⟩⟩

set_option maxHeartbeats 4000000 in
set_option maxRecDepth 100000 in
theorem c_jchk3n {l : Launch} {G : tb_G} (hl : l.stackTraces = false) (n : Nat) (J : zJ) (i : Int) (q : Int) (hr_i : -2147483648 ≤ i ∧ i < 2147483648) (hr_q : -2147483648 ≤ q ∧ q < 2147483648)  (hi : 0 ≤ i ∧ i < q) : tz_OkP (PA) l G M_J3_checkIndex_8e157 0 [zi i, zi q, .null] n J (zqi (fun z J' => J = J' ∧ i = z)) := by
  refine tz_OkP.of hl (by decide +kernel) rfl (tb_c1 rfl) (Nat.le_of_ble_eq_true rfl) ?_
  show tz_At l G M_J3_checkIndex_8e157 (tb_rm 0 0 0) none (ZP (PA) (tb_ZM G 0 0 (zQ n 0 (zqi (fun z J' => J = J' ∧ i = z))) (zX n 0 zN))) 0 0 n J 0 [some (zi i), some (zi q), some (.null)] []
  refine tz_iload_n (pc := 0) dJ3_checkIndex_8e157_0 rfl rfl ?_
  refine tz_if_ltF (pc := 1) (tgt := 9) (by omega) dJ3_checkIndex_8e157_1 (by decide) (by omega) ?_
  refine tz_iload_n (pc := 4) dJ3_checkIndex_8e157_4 rfl rfl ?_
  refine tz_iload_n (pc := 5) dJ3_checkIndex_8e157_5 rfl rfl ?_
  refine tz_icmp_ltT (pc := 6) (tgt := 16) (by omega) dJ3_checkIndex_8e157_6 (by decide) (by omega) (by omega) ?_
  refine tz_iload_n (pc := 16) dJ3_checkIndex_8e157_16 rfl rfl ?_
  refine tz_zp ?_
  exact tz_iret (pc := 17) (z := i) dJ3_checkIndex_8e157_17 rfl (Nat.le_of_ble_eq_true rfl) (Nat.le_of_ble_eq_true rfl) ⟨Nat.le_refl _, Nat.le_add_right _ _⟩ ⟨_, rfl, (by omega), ⟨rfl, rfl⟩⟩

set_option maxHeartbeats 4000000 in
set_option maxRecDepth 100000 in
theorem c_jchk3r {l : Launch} {G : tb_G} (hl : l.stackTraces = false) (n : Nat) (J : zJ) (i : Int) (q : Int) (hr_i : -2147483648 ≤ i ∧ i < 2147483648) (hr_q : -2147483648 ≤ q ∧ q < 2147483648)  (hi : 0 ≤ i ∧ i < q) : tz_OkP (PA) l G M_J3_checkIndex_8e157 0 [zi i, zi q, .ref tb_sc] n J (zqi (fun z J' => J = J' ∧ i = z)) := by
  refine tz_OkP.of hl (by decide +kernel) rfl (tb_c1 rfl) (Nat.le_of_ble_eq_true rfl) ?_
  show tz_At l G M_J3_checkIndex_8e157 (tb_rm 0 0 0) none (ZP (PA) (tb_ZM G 0 0 (zQ n 0 (zqi (fun z J' => J = J' ∧ i = z))) (zX n 0 zN))) 0 0 n J 0 [some (zi i), some (zi q), some (.ref tb_sc)] []
  refine tz_iload_n (pc := 0) dJ3_checkIndex_8e157_0 rfl rfl ?_
  refine tz_if_ltF (pc := 1) (tgt := 9) (by omega) dJ3_checkIndex_8e157_1 (by decide) (by omega) ?_
  refine tz_iload_n (pc := 4) dJ3_checkIndex_8e157_4 rfl rfl ?_
  refine tz_iload_n (pc := 5) dJ3_checkIndex_8e157_5 rfl rfl ?_
  refine tz_icmp_ltT (pc := 6) (tgt := 16) (by omega) dJ3_checkIndex_8e157_6 (by decide) (by omega) (by omega) ?_
  refine tz_iload_n (pc := 16) dJ3_checkIndex_8e157_16 rfl rfl ?_
  refine tz_zp ?_
  exact tz_iret (pc := 17) (z := i) dJ3_checkIndex_8e157_17 rfl (Nat.le_of_ble_eq_true rfl) (Nat.le_of_ble_eq_true rfl) ⟨Nat.le_refl _, Nat.le_add_right _ _⟩ ⟨_, rfl, (by omega), ⟨rfl, rfl⟩⟩

set_option maxHeartbeats 4000000 in
set_option maxRecDepth 100000 in
theorem c_jchk {l : Launch} {G : tb_G} (hl : l.stackTraces = false) (n : Nat) (J : zJ) (i : Int) (q : Int) (hr_i : -2147483648 ≤ i ∧ i < 2147483648) (hr_q : -2147483648 ≤ q ∧ q < 2147483648)  (hnb : n ≤ tb_sc) (hi : 0 ≤ i ∧ i < q) : tz_Ok l G M_J0_checkIndex_df160 1 0 0 [zi i, zi q] n J (zqv (fun J' => J = J')) zN := by
  refine tz_Ok.of hl (by decide +kernel) rfl (tb_c1 rfl) (Nat.le_of_ble_eq_true rfl) ?_
  show tz_At l G M_J0_checkIndex_df160 (tb_rm 1 0 0) none (tb_ZM G 0 0 (zQ n 0 (zqv (fun J' => J = J'))) (zX n 0 zN)) 0 0 n J 0 [some (zi i), some (zi q)] []
  refine tz_iload_n (pc := 0) dJ0_checkIndex_df160_0 rfl rfl ?_
  refine tz_iload_n (pc := 1) dJ0_checkIndex_df160_1 rfl rfl ?_
  refine tz_chk (pc := 2) (fun w9 hw9 => by rcases hw9 with rfl | rfl <;> first | exact c_jchk3n hl n _ i q hr_i hr_q hi | exact c_jchk3r hl n _ i q hr_i hr_q hi) hnb sl_J0_1059 dJ0_checkIndex_df160_2 dJ0_checkIndex_df160_5 fs_si (Nat.le_of_ble_eq_true rfl) ⟨(Nat.le_of_ble_eq_true rfl), (Nat.le_of_ble_eq_true rfl)⟩ (Nat.le_of_ble_eq_true rfl) (Nat.le_of_ble_eq_true rfl) (fun z9 J9 hz9 hq9 => ?_)
  obtain ⟨rfl, rfl⟩ := hq9
  refine tz_pop (pc := 8) dJ0_checkIndex_df160_8 rfl ?_
  exact tz_vret (pc := 9) dJ0_checkIndex_df160_9 rfl (Nat.le_of_ble_eq_true rfl) (Nat.le_of_ble_eq_true rfl) ⟨Nat.le_refl _, Nat.le_add_right _ _⟩ ⟨rfl, rfl⟩

set_option maxHeartbeats 4000000 in
set_option maxRecDepth 100000 in
theorem c_jchar1 {l : Launch} {G : tb_G} (hl : l.stackTraces = false) (n : Nat) (J : zJ) (k : Int) (hr_k : -2147483648 ≤ k ∧ k < 2147483648) (bs : List Int32) (hb : bs.length < 1000) (hnb : n ≤ tb_sc) (hk : 0 ≤ k ∧ k < (bs.length : Int)) : tz_OkP (PB bs) l G M_J1_charAt_3b067 2 [.ref tb_sc, zi k] n J (zqi (fun z J' => J = J' ∧ zch bs k = z)) := by
  refine tz_OkP.of hl (by decide +kernel) rfl (tb_c1 rfl) (Nat.le_of_ble_eq_true rfl) ?_
  show tz_At l G M_J1_charAt_3b067 (tb_rm 2 0 0) none (ZP (PB bs) (tb_ZM G 0 0 (zQ n 0 (zqi (fun z J' => J = J' ∧ zch bs k = z))) (zX n 0 zN))) 0 0 n J 0 [some (.ref tb_sc), some (zi k)] []
  have hc := zch_rg bs k
  refine tz_iload_n (pc := 0) dJ1_charAt_3b067_0 rfl rfl ?_
  refine tz_aload_n (pc := 1) dJ1_charAt_3b067_1 rfl rfl ?_
  refine tz_bLen (pc := 2) (z := (bs.length : Int)) rfl dJ1_charAt_3b067_2 ?_
  refine tz_cS (pc := 3) (c_jchk hl n _ _ _ (by omega) (by omega) hnb hk) sl_J1_9 dJ1_charAt_3b067_3 rfl rfl (Nat.le_of_ble_eq_true rfl) ⟨(Nat.le_of_ble_eq_true rfl), (Nat.le_of_ble_eq_true rfl)⟩ rfl rfl (Nat.le_of_ble_eq_true rfl) (Nat.le_of_ble_eq_true rfl) (fun r9 J_3 hq9 => ?_)
  obtain ⟨rfl, rfl⟩ := hq9
  refine tz_aload_n (pc := 6) dJ1_charAt_3b067_6 rfl rfl ?_
  refine tz_iload_n (pc := 7) dJ1_charAt_3b067_7 rfl rfl ?_
  refine tz_bLd (pc := 8) (k9 := k) (v := (bs.getD k.toNat 0).toInt) hk hb rfl dJ1_charAt_3b067_8 ?_
  refine tz_sipush (pc := 9) dJ1_charAt_3b067_9 (by decide) ?_
  refine tz_iand (pc := 12) (v := zch bs k) dJ1_charAt_3b067_12 rfl ?_
  refine tz_i2c (pc := 13) (v := zch bs k) dJ1_charAt_3b067_13 (zch_c2 bs k) ?_
  refine tz_zp ?_
  exact tz_nret (pc := 14) (z := (zch bs k)) (ty := .char) dJ1_charAt_3b067_14 rfl (zch_nar bs k) (Nat.le_of_ble_eq_true rfl) (Nat.le_of_ble_eq_true rfl) ⟨Nat.le_refl _, Nat.le_add_right _ _⟩ ⟨_, rfl, (by omega), ⟨rfl, rfl⟩⟩

set_option maxHeartbeats 4000000 in
set_option maxRecDepth 100000 in
theorem c_jchar {l : Launch} {G : tb_G} (hl : l.stackTraces = false) (n : Nat) (J : zJ) (k : Int) (hr_k : -2147483648 ≤ k ∧ k < 2147483648) (bs : List Int32) (hb : bs.length < 1000) (hnb : n ≤ tb_sc) (hk : 0 ≤ k ∧ k < (bs.length : Int)) : tz_OkP (PS bs) l G M_J0_charAt_5068e 3 [.ref tb_sc, zi k] n J (zqi (fun z J' => J = J' ∧ zch bs k = z)) := by
  refine tz_OkP.of hl (by decide +kernel) rfl (tb_c1 rfl) (Nat.le_of_ble_eq_true rfl) ?_
  show tz_At l G M_J0_charAt_5068e (tb_rm 3 0 0) none (ZP (PS bs) (tb_ZM G 0 0 (zQ n 0 (zqi (fun z J' => J = J' ∧ zch bs k = z))) (zX n 0 zN))) 0 0 n J 0 [some (.ref tb_sc), some (zi k)] []
  have hc := zch_rg bs k
  refine tz_aload_n (pc := 0) dJ0_charAt_5068e_0 rfl rfl ?_
  refine tz_cVP (pc := 1) (as := []) (c_jlatin hl n _ bs) rfl vr_J0_492 dJ0_charAt_5068e_1 rfl rfl (Nat.le_of_ble_eq_true rfl) ⟨(Nat.le_of_ble_eq_true rfl), (Nat.le_of_ble_eq_true rfl)⟩ (Nat.le_of_ble_eq_true rfl) (Nat.le_of_ble_eq_true rfl) (fun z_1 J_1 hz_1 hq9 => ?_)
  obtain ⟨rfl, rfl⟩ := hq9
  refine tz_if_eqF (pc := 4) (tgt := 16) (by decide) dJ0_charAt_5068e_4 (by decide) (by decide) ?_
  refine tz_aload_n (pc := 7) dJ0_charAt_5068e_7 rfl rfl ?_
  refine tz_chA (pc := 8) (k9 := k) (c_jchar1 hl n _ k hr_k bs hb hnb hk) hnb sl_J0_495 rfl dJ0_charAt_5068e_8 dJ0_charAt_5068e_11 dJ0_charAt_5068e_12 fs_va (Nat.le_of_ble_eq_true rfl) ⟨(Nat.le_of_ble_eq_true rfl), (Nat.le_of_ble_eq_true rfl)⟩ (Nat.le_of_ble_eq_true rfl) (Nat.le_of_ble_eq_true rfl) (fun z9 J9 hz9 hq9 => ?_)
  obtain ⟨rfl, rfl⟩ := hq9
  refine tz_zp ?_
  exact tz_nret (pc := 15) (z := (zch bs k)) (ty := .char) dJ0_charAt_5068e_15 rfl (zch_nar bs k) (Nat.le_of_ble_eq_true rfl) (Nat.le_of_ble_eq_true rfl) ⟨Nat.le_refl _, Nat.le_add_right _ _⟩ ⟨_, rfl, (by omega), ⟨rfl, rfl⟩⟩

def RD (J : zJ) : Prop := (0 ≤ J 163 6 ∧ J 163 6 ≤ J 163 7) ∧ (J 163 7 ≤ J 163 4 ∧ J 163 4 ≤ 700)
end
section
theorem CT.su4 {J' J : zJ} {m : Int} (h : CT J m) (hT : TS (J' 1 3) (J' 3)) (hW : cSW J') (hle : J 1 3 ≤ J' 1 3) (h3 : ∀ k, 0 ≤ k → k < J 1 3 → J' 3 k = J 3 k ∧ J' 4 k = J 4 k) (h16 : ∀ b, 0 ≤ b → b < 256 → J' 16 b = J 16 b) (hs : zSU J' J m) : CT J' m := by
  refine ⟨⟨h.1.1.congr hT hle (fun k a b => (h3 k a b).1) (fun t a b => (hs.1 t a b).1) (fun t a b i x y => ?_) (fun t a b => (hs.1 t a b).2.2.2.2.1), hW⟩, fun t h0 h1 => ⟨?_, cC1_su h hs h0 h1⟩, fun b x y => ?_⟩
  · have h2 := h.1.1.ar a b
    exact hs.2 (t * 3 + i) (by omega) (by omega)
  · obtain ⟨a, ⟨b1, b2⟩, ⟨c1, c2⟩, d⟩ := (h.2.1 t h0 h1).1
    obtain ⟨e7, e8, e10, e11, e12, e13, e14, e15⟩ := hs.1 t h0 h1
    have har := h.ar h0 h1
    have hg : ∀ i, 0 ≤ i → i < J 8 t → J' 9 (t * 3 + i) = J 9 (t * 3 + i) ∧ (0 ≤ J 9 (t * 3 + i) ∧ J 9 (t * 3 + i) < m) := fun i x y => by
      have := h.arg h0 h1 x y
      exact ⟨hs.2 _ (by omega) (by omega), by omega⟩
    refine ⟨by rw [e8, e7, arh_congr (fun k a b => (h3 k a b).1) (by omega)]; exact a, ⟨?_, by rw [e10, e12]; exact b2⟩, ⟨?_, by rw [e11, e10]; exact c2⟩, ?_⟩
    · rw [e10, zs3_su e8 (fun i x y => by rw [(hg i x y).1]; exact (hs.1 _ (hg i x y).2.1 (hg i x y).2.2).2.2.1)]
      exact b1
    · have e4 : (if J' 7 t < 0 then (1 : Int) else J' 4 (J' 7 t)) = if J 7 t < 0 then 1 else J 4 (J 7 t) := by
        rw [e7]
        split
        · rfl
        · exact (h3 _ (by omega) (by omega)).2
      rw [e11, e4, zw3_su e8 (fun i x y => by rw [(hg i x y).1]; exact (hs.1 _ (hg i x y).2.1 (hg i x y).2.2).2.2.2.1)]
      exact c1
    · rw [e13, zv3_su e7 e8 (fun i x y => by rw [(hg i x y).1]; exact (hs.1 _ (hg i x y).2.1 (hg i x y).2.2).2.2.2.2.2.1)]
      exact d
  · obtain ⟨p, q⟩ := h.2.2 b x y
    refine ⟨?_, fun t u v w => ?_⟩
    · rw [h16 b x y]
      rcases p with p | ⟨p1, p2⟩
      · exact Or.inl p
      · exact Or.inr ⟨p1, by rw [zbk_su h hs p1.1 p1.2]; exact p2⟩
    · rw [h16 b x y]
      rw [zbk_su h hs u v] at w
      exact q t u v w
theorem CT.su3 {J' J : zJ} {m : Int} (h : CT J m) (h1 : J' 1 3 = J 1 3) (h3 : ∀ k, 0 ≤ k → k < J 1 3 → J' 3 k = J 3 k ∧ J' 4 k = J 4 k) (h16 : ∀ b, 0 ≤ b → b < 256 → J' 16 b = J 16 b) (hs : zSU J' J m) : CT J' m := by
  refine h.su4 ⟨by rw [h1]; exact h.1.1.1.1, fun k a b => ?_⟩ (fun k a b => ?_) (by omega) h3 h16 hs
  · rw [h1] at b
    rw [(h3 k a b).1]
    exact h.1.1.1.2 k a b
  · rw [h1] at b
    rw [(h3 k a b).2]
    exact h.1.2 k a b
theorem CT.sym {J : zJ} {m x u w : Int} (h : CT J m) (h9 : J 1 3 < 10) (hu : 0 ≤ u ∧ u ≤ 3) (hw : 1 ≤ w ∧ w ≤ 9) : CT (zup (zup (zup (zup J 2 (J 1 3) x) 3 (J 1 3) u) 4 (J 1 3) w) 1 3 (J 1 3 + 1)) m := by
  have h0 := h.told
  have e1 : zup (zup (zup (zup J 2 (J 1 3) x) 3 (J 1 3) u) 4 (J 1 3) w) 1 3 (J 1 3 + 1) 1 3 = J 1 3 + 1 := zup_at
  have e3 : ∀ k, zup (zup (zup (zup J 2 (J 1 3) x) 3 (J 1 3) u) 4 (J 1 3) w) 1 3 (J 1 3 + 1) 3 k = if k = J 1 3 then u else J 3 k := fun k => rfl
  have e4 : ∀ k, zup (zup (zup (zup J 2 (J 1 3) x) 3 (J 1 3) u) 4 (J 1 3) w) 1 3 (J 1 3 + 1) 4 k = if k = J 1 3 then w else J 4 k := fun k => rfl
  refine h.su4 ⟨by rw [e1]; omega, fun k a b => ?_⟩ (fun k a b => ?_) (by rw [e1]; omega) (fun k a b => by rw [e3, e4, if_neg (by omega), if_neg (by omega)]; exact ⟨rfl, rfl⟩) (fun _ _ _ => rfl) ⟨fun _ _ _ => ⟨rfl, rfl, rfl, rfl, rfl, rfl, rfl, rfl⟩, fun _ _ _ => rfl⟩
  · rw [e1] at b
    rw [e3]
    split
    · exact hu
    · exact h.1.1.1.2 k a (by omega)
  · rw [e1] at b
    rw [e4]
    split
    · exact hw
    · exact h.1.2 k a (by omega)
/-- an empty table -/
theorem CT.none {J : zJ} (h1 : TS (J 1 3) (J 3)) (hW : cSW J) (hb : ∀ b, 0 ≤ b → b < 256 → J 16 b = -1) : CT J 0 := ⟨⟨⟨h1, by omega, fun t a b => by omega, fun s t a b => by omega⟩, hW⟩, fun t a b => by omega, fun b x y => ⟨Or.inl (hb b x y), fun t u v => by omega⟩⟩
theorem LI.c61 {f g : Int → Int} {m : Int} (h : LI f m) (e : ∀ k, 0 ≤ k → k < 61 → g k = f k) : LI g m := by
  obtain ⟨⟨a1, a4, a5, a6⟩, h2, h3, h4, h5⟩ := h
  unfold LI
  rw [e 1 (by omega) (by omega), e 4 (by omega) (by omega), e 5 (by omega) (by omega), e 6 (by omega) (by omega)]
  refine ⟨⟨a1, a4, a5, a6⟩, fun v a b => ?_, fun i a b => ?_, fun i a b => ?_, fun i a b => ?_⟩
  · rw [e (7 + v) (by omega) (by omega)]
    exact h2 v a b
  · rw [e (15 + i) (by omega) (by omega), e (23 + i) (by omega) (by omega)]
    exact h3 i a b
  · rw [e (31 + i) (by omega) (by omega)]
    exact h4 i a b
  · rw [e (43 + i) (by omega) (by omega), e (52 + i) (by omega) (by omega)]
    exact h5 i a b
end
section
def RD2 (J : zJ) : Prop := RD J ∧ (J 163 5 = 0 ∨ J 163 6 < J 163 4)
/-- only the reader's own fields; a fault stays -/
def RN (J' J : zJ) : Prop := zOf (zbut [163]) J' J ∧ J' 163 4 = J 163 4 ∧ (J' 163 8 = 0 → J 163 8 = 0)
theorem RN.rf {J : zJ} : RN J J := ⟨zOf.rf, rfl, id⟩
theorem RN.tr {J3 J2 J1 : zJ} (h : RN J3 J2) (g : RN J2 J1) : RN J3 J1 := ⟨h.1.tr g.1, h.2.1.trans g.2.1, fun q => g.2.2 (h.2.2 q)⟩
def zmn (a b : Int) : Int := if b < a then b else a
theorem zmn_le (a b : Int) : (zmn a b ≤ a ∧ zmn a b ≤ b) ∧ (zmn a b = a ∨ zmn a b = b) := by
  unfold zmn
  split <;> omega
set_option maxHeartbeats 4000000 in
set_option maxRecDepth 100000 in
theorem c_kindOf {l : Launch} {G : tb_G} (hl : l.stackTraces = false) (n : Nat) (J : zJ) (x : Int) (hr_x : -2147483648 ≤ x ∧ x < 2147483648)   : tz_Ok l G M_X5_kindOf 0 0 0 [zi x] n J (zqi (fun z J' => J = J')) zN := by
  refine tz_Ok.of hl (by decide +kernel) rfl (tb_c1 rfl) (Nat.le_of_ble_eq_true rfl) ?_
  show tz_At l G M_X5_kindOf (tb_rm 0 0 0) none (tb_ZM G 0 0 (zQ n 0 (zqi (fun z J' => J = J'))) (zX n 0 zN)) 0 0 n J 0 [some (zi x), none] []
  refine tz_iload_n (pc := 0) dX5_kindOf_0 rfl rfl ?_
  refine tz_bipush (pc := 1) dX5_kindOf_1 (by decide) ?_
  refine tz_icmp_lt (pc := 3) (tgt := 14) dX5_kindOf_3 (by decide) (by omega) (by decide) (fun h_3 => ?_) (fun h_3 => ?_)
  · refine tz_iload_n (pc := 14) dX5_kindOf_14 rfl rfl ?_
    refine tz_bipush (pc := 15) dX5_kindOf_15 (by decide) ?_
    refine tz_icmp_lt (pc := 17) (tgt := 28) dX5_kindOf_17 (by decide) (by omega) (by decide) (fun h_17 => ?_) (fun h_17 => ?_)
    · refine tz_iload_n (pc := 28) dX5_kindOf_28 rfl rfl ?_
      refine tz_bipush (pc := 29) dX5_kindOf_29 (by decide) ?_
      refine tz_icmp_eq (pc := 31) (tgt := 58) dX5_kindOf_31 (by decide) (by omega) (by decide) (fun h_31 => ?_) (fun h_31 => ?_)
      · refine tz_iconst (pc := 58) dX5_kindOf_58 ?_
        refine tz_goto (pc := 59) (tgt := 63) dX5_kindOf_59 (by decide) ?_
        refine tz_istore_n (pc := 63) (L2 := [_, _]) dX5_kindOf_63 rfl (by decide) rfl ?_
        refine tz_iload_n (pc := 64) dX5_kindOf_64 rfl rfl ?_
        refine tz_if_eqF (pc := 65) (tgt := 72) (by decide) dX5_kindOf_65 (by decide) (by decide) ?_
        refine tz_iload_n (pc := 68) dX5_kindOf_68 rfl rfl ?_
        refine tz_goto (pc := 69) (tgt := 73) dX5_kindOf_69 (by decide) ?_
        exact tz_iret (pc := 73) (z := x) dX5_kindOf_73 rfl (Nat.le_of_ble_eq_true rfl) (Nat.le_of_ble_eq_true rfl) ⟨Nat.le_refl _, Nat.le_add_right _ _⟩ ⟨_, rfl, (by omega), rfl⟩
      · refine tz_iload_n (pc := 34) dX5_kindOf_34 rfl rfl ?_
        refine tz_bipush (pc := 35) dX5_kindOf_35 (by decide) ?_
        refine tz_icmp_eq (pc := 37) (tgt := 58) dX5_kindOf_37 (by decide) (by omega) (by decide) (fun h_37 => ?_) (fun h_37 => ?_)
        · refine tz_iconst (pc := 58) dX5_kindOf_58 ?_
          refine tz_goto (pc := 59) (tgt := 63) dX5_kindOf_59 (by decide) ?_
          refine tz_istore_n (pc := 63) (L2 := [_, _]) dX5_kindOf_63 rfl (by decide) rfl ?_
          refine tz_iload_n (pc := 64) dX5_kindOf_64 rfl rfl ?_
          refine tz_if_eqF (pc := 65) (tgt := 72) (by decide) dX5_kindOf_65 (by decide) (by decide) ?_
          refine tz_iload_n (pc := 68) dX5_kindOf_68 rfl rfl ?_
          refine tz_goto (pc := 69) (tgt := 73) dX5_kindOf_69 (by decide) ?_
          exact tz_iret (pc := 73) (z := x) dX5_kindOf_73 rfl (Nat.le_of_ble_eq_true rfl) (Nat.le_of_ble_eq_true rfl) ⟨Nat.le_refl _, Nat.le_add_right _ _⟩ ⟨_, rfl, (by omega), rfl⟩
        · refine tz_iload_n (pc := 40) dX5_kindOf_40 rfl rfl ?_
          refine tz_bipush (pc := 41) dX5_kindOf_41 (by decide) ?_
          refine tz_icmp_eq (pc := 43) (tgt := 58) dX5_kindOf_43 (by decide) (by omega) (by decide) (fun h_43 => ?_) (fun h_43 => ?_)
          · refine tz_iconst (pc := 58) dX5_kindOf_58 ?_
            refine tz_goto (pc := 59) (tgt := 63) dX5_kindOf_59 (by decide) ?_
            refine tz_istore_n (pc := 63) (L2 := [_, _]) dX5_kindOf_63 rfl (by decide) rfl ?_
            refine tz_iload_n (pc := 64) dX5_kindOf_64 rfl rfl ?_
            refine tz_if_eqF (pc := 65) (tgt := 72) (by decide) dX5_kindOf_65 (by decide) (by decide) ?_
            refine tz_iload_n (pc := 68) dX5_kindOf_68 rfl rfl ?_
            refine tz_goto (pc := 69) (tgt := 73) dX5_kindOf_69 (by decide) ?_
            exact tz_iret (pc := 73) (z := x) dX5_kindOf_73 rfl (Nat.le_of_ble_eq_true rfl) (Nat.le_of_ble_eq_true rfl) ⟨Nat.le_refl _, Nat.le_add_right _ _⟩ ⟨_, rfl, (by omega), rfl⟩
          · refine tz_iload_n (pc := 46) dX5_kindOf_46 rfl rfl ?_
            refine tz_bipush (pc := 47) dX5_kindOf_47 (by decide) ?_
            refine tz_icmp_eq (pc := 49) (tgt := 58) dX5_kindOf_49 (by decide) (by omega) (by decide) (fun h_49 => ?_) (fun h_49 => ?_)
            · refine tz_iconst (pc := 58) dX5_kindOf_58 ?_
              refine tz_goto (pc := 59) (tgt := 63) dX5_kindOf_59 (by decide) ?_
              refine tz_istore_n (pc := 63) (L2 := [_, _]) dX5_kindOf_63 rfl (by decide) rfl ?_
              refine tz_iload_n (pc := 64) dX5_kindOf_64 rfl rfl ?_
              refine tz_if_eqF (pc := 65) (tgt := 72) (by decide) dX5_kindOf_65 (by decide) (by decide) ?_
              refine tz_iload_n (pc := 68) dX5_kindOf_68 rfl rfl ?_
              refine tz_goto (pc := 69) (tgt := 73) dX5_kindOf_69 (by decide) ?_
              exact tz_iret (pc := 73) (z := x) dX5_kindOf_73 rfl (Nat.le_of_ble_eq_true rfl) (Nat.le_of_ble_eq_true rfl) ⟨Nat.le_refl _, Nat.le_add_right _ _⟩ ⟨_, rfl, (by omega), rfl⟩
            · refine tz_iload_n (pc := 52) dX5_kindOf_52 rfl rfl ?_
              refine tz_bipush (pc := 53) dX5_kindOf_53 (by decide) ?_
              refine tz_icmp_ne (pc := 55) (tgt := 62) dX5_kindOf_55 (by decide) (by omega) (by decide) (fun h_55 => ?_) (fun h_55 => ?_)
              · refine tz_iconst (pc := 62) dX5_kindOf_62 ?_
                refine tz_istore_n (pc := 63) (L2 := [_, _]) dX5_kindOf_63 rfl (by decide) rfl ?_
                refine tz_iload_n (pc := 64) dX5_kindOf_64 rfl rfl ?_
                refine tz_if_eqT (pc := 65) (tgt := 72) (by decide) dX5_kindOf_65 (by decide) (by decide) ?_
                refine tz_iconst (pc := 72) dX5_kindOf_72 ?_
                exact tz_iret (pc := 73) (z := 1) dX5_kindOf_73 rfl (Nat.le_of_ble_eq_true rfl) (Nat.le_of_ble_eq_true rfl) ⟨Nat.le_refl _, Nat.le_add_right _ _⟩ ⟨_, rfl, (by decide), rfl⟩
              · refine tz_iconst (pc := 58) dX5_kindOf_58 ?_
                refine tz_goto (pc := 59) (tgt := 63) dX5_kindOf_59 (by decide) ?_
                refine tz_istore_n (pc := 63) (L2 := [_, _]) dX5_kindOf_63 rfl (by decide) rfl ?_
                refine tz_iload_n (pc := 64) dX5_kindOf_64 rfl rfl ?_
                refine tz_if_eqF (pc := 65) (tgt := 72) (by decide) dX5_kindOf_65 (by decide) (by decide) ?_
                refine tz_iload_n (pc := 68) dX5_kindOf_68 rfl rfl ?_
                refine tz_goto (pc := 69) (tgt := 73) dX5_kindOf_69 (by decide) ?_
                exact tz_iret (pc := 73) (z := x) dX5_kindOf_73 rfl (Nat.le_of_ble_eq_true rfl) (Nat.le_of_ble_eq_true rfl) ⟨Nat.le_refl _, Nat.le_add_right _ _⟩ ⟨_, rfl, (by omega), rfl⟩
    · refine tz_iload_n (pc := 20) dX5_kindOf_20 rfl rfl ?_
      refine tz_bipush (pc := 21) dX5_kindOf_21 (by decide) ?_
      refine tz_icmp_gt (pc := 23) (tgt := 28) dX5_kindOf_23 (by decide) (by omega) (by decide) (fun h_23 => ?_) (fun h_23 => ?_)
      · refine tz_iload_n (pc := 28) dX5_kindOf_28 rfl rfl ?_
        refine tz_bipush (pc := 29) dX5_kindOf_29 (by decide) ?_
        refine tz_icmp_eq (pc := 31) (tgt := 58) dX5_kindOf_31 (by decide) (by omega) (by decide) (fun h_31 => ?_) (fun h_31 => ?_)
        · refine tz_iconst (pc := 58) dX5_kindOf_58 ?_
          refine tz_goto (pc := 59) (tgt := 63) dX5_kindOf_59 (by decide) ?_
          refine tz_istore_n (pc := 63) (L2 := [_, _]) dX5_kindOf_63 rfl (by decide) rfl ?_
          refine tz_iload_n (pc := 64) dX5_kindOf_64 rfl rfl ?_
          refine tz_if_eqF (pc := 65) (tgt := 72) (by decide) dX5_kindOf_65 (by decide) (by decide) ?_
          refine tz_iload_n (pc := 68) dX5_kindOf_68 rfl rfl ?_
          refine tz_goto (pc := 69) (tgt := 73) dX5_kindOf_69 (by decide) ?_
          exact tz_iret (pc := 73) (z := x) dX5_kindOf_73 rfl (Nat.le_of_ble_eq_true rfl) (Nat.le_of_ble_eq_true rfl) ⟨Nat.le_refl _, Nat.le_add_right _ _⟩ ⟨_, rfl, (by omega), rfl⟩
        · refine tz_iload_n (pc := 34) dX5_kindOf_34 rfl rfl ?_
          refine tz_bipush (pc := 35) dX5_kindOf_35 (by decide) ?_
          refine tz_icmp_eq (pc := 37) (tgt := 58) dX5_kindOf_37 (by decide) (by omega) (by decide) (fun h_37 => ?_) (fun h_37 => ?_)
          · refine tz_iconst (pc := 58) dX5_kindOf_58 ?_
            refine tz_goto (pc := 59) (tgt := 63) dX5_kindOf_59 (by decide) ?_
            refine tz_istore_n (pc := 63) (L2 := [_, _]) dX5_kindOf_63 rfl (by decide) rfl ?_
            refine tz_iload_n (pc := 64) dX5_kindOf_64 rfl rfl ?_
            refine tz_if_eqF (pc := 65) (tgt := 72) (by decide) dX5_kindOf_65 (by decide) (by decide) ?_
            refine tz_iload_n (pc := 68) dX5_kindOf_68 rfl rfl ?_
            refine tz_goto (pc := 69) (tgt := 73) dX5_kindOf_69 (by decide) ?_
            exact tz_iret (pc := 73) (z := x) dX5_kindOf_73 rfl (Nat.le_of_ble_eq_true rfl) (Nat.le_of_ble_eq_true rfl) ⟨Nat.le_refl _, Nat.le_add_right _ _⟩ ⟨_, rfl, (by omega), rfl⟩
          · refine tz_iload_n (pc := 40) dX5_kindOf_40 rfl rfl ?_
            refine tz_bipush (pc := 41) dX5_kindOf_41 (by decide) ?_
            refine tz_icmp_eq (pc := 43) (tgt := 58) dX5_kindOf_43 (by decide) (by omega) (by decide) (fun h_43 => ?_) (fun h_43 => ?_)
            · refine tz_iconst (pc := 58) dX5_kindOf_58 ?_
              refine tz_goto (pc := 59) (tgt := 63) dX5_kindOf_59 (by decide) ?_
              refine tz_istore_n (pc := 63) (L2 := [_, _]) dX5_kindOf_63 rfl (by decide) rfl ?_
              refine tz_iload_n (pc := 64) dX5_kindOf_64 rfl rfl ?_
              refine tz_if_eqF (pc := 65) (tgt := 72) (by decide) dX5_kindOf_65 (by decide) (by decide) ?_
              refine tz_iload_n (pc := 68) dX5_kindOf_68 rfl rfl ?_
              refine tz_goto (pc := 69) (tgt := 73) dX5_kindOf_69 (by decide) ?_
              exact tz_iret (pc := 73) (z := x) dX5_kindOf_73 rfl (Nat.le_of_ble_eq_true rfl) (Nat.le_of_ble_eq_true rfl) ⟨Nat.le_refl _, Nat.le_add_right _ _⟩ ⟨_, rfl, (by omega), rfl⟩
            · refine tz_iload_n (pc := 46) dX5_kindOf_46 rfl rfl ?_
              refine tz_bipush (pc := 47) dX5_kindOf_47 (by decide) ?_
              refine tz_icmp_eq (pc := 49) (tgt := 58) dX5_kindOf_49 (by decide) (by omega) (by decide) (fun h_49 => ?_) (fun h_49 => ?_)
              · refine tz_iconst (pc := 58) dX5_kindOf_58 ?_
                refine tz_goto (pc := 59) (tgt := 63) dX5_kindOf_59 (by decide) ?_
                refine tz_istore_n (pc := 63) (L2 := [_, _]) dX5_kindOf_63 rfl (by decide) rfl ?_
                refine tz_iload_n (pc := 64) dX5_kindOf_64 rfl rfl ?_
                refine tz_if_eqF (pc := 65) (tgt := 72) (by decide) dX5_kindOf_65 (by decide) (by decide) ?_
                refine tz_iload_n (pc := 68) dX5_kindOf_68 rfl rfl ?_
                refine tz_goto (pc := 69) (tgt := 73) dX5_kindOf_69 (by decide) ?_
                exact tz_iret (pc := 73) (z := x) dX5_kindOf_73 rfl (Nat.le_of_ble_eq_true rfl) (Nat.le_of_ble_eq_true rfl) ⟨Nat.le_refl _, Nat.le_add_right _ _⟩ ⟨_, rfl, (by omega), rfl⟩
              · refine tz_iload_n (pc := 52) dX5_kindOf_52 rfl rfl ?_
                refine tz_bipush (pc := 53) dX5_kindOf_53 (by decide) ?_
                refine tz_icmp_ne (pc := 55) (tgt := 62) dX5_kindOf_55 (by decide) (by omega) (by decide) (fun h_55 => ?_) (fun h_55 => ?_)
                · refine tz_iconst (pc := 62) dX5_kindOf_62 ?_
                  refine tz_istore_n (pc := 63) (L2 := [_, _]) dX5_kindOf_63 rfl (by decide) rfl ?_
                  refine tz_iload_n (pc := 64) dX5_kindOf_64 rfl rfl ?_
                  refine tz_if_eqT (pc := 65) (tgt := 72) (by decide) dX5_kindOf_65 (by decide) (by decide) ?_
                  refine tz_iconst (pc := 72) dX5_kindOf_72 ?_
                  exact tz_iret (pc := 73) (z := 1) dX5_kindOf_73 rfl (Nat.le_of_ble_eq_true rfl) (Nat.le_of_ble_eq_true rfl) ⟨Nat.le_refl _, Nat.le_add_right _ _⟩ ⟨_, rfl, (by decide), rfl⟩
                · refine tz_iconst (pc := 58) dX5_kindOf_58 ?_
                  refine tz_goto (pc := 59) (tgt := 63) dX5_kindOf_59 (by decide) ?_
                  refine tz_istore_n (pc := 63) (L2 := [_, _]) dX5_kindOf_63 rfl (by decide) rfl ?_
                  refine tz_iload_n (pc := 64) dX5_kindOf_64 rfl rfl ?_
                  refine tz_if_eqF (pc := 65) (tgt := 72) (by decide) dX5_kindOf_65 (by decide) (by decide) ?_
                  refine tz_iload_n (pc := 68) dX5_kindOf_68 rfl rfl ?_
                  refine tz_goto (pc := 69) (tgt := 73) dX5_kindOf_69 (by decide) ?_
                  exact tz_iret (pc := 73) (z := x) dX5_kindOf_73 rfl (Nat.le_of_ble_eq_true rfl) (Nat.le_of_ble_eq_true rfl) ⟨Nat.le_refl _, Nat.le_add_right _ _⟩ ⟨_, rfl, (by omega), rfl⟩
      · refine tz_iconst (pc := 26) dX5_kindOf_26 ?_
        exact tz_iret (pc := 27) (z := 3) dX5_kindOf_27 rfl (Nat.le_of_ble_eq_true rfl) (Nat.le_of_ble_eq_true rfl) ⟨Nat.le_refl _, Nat.le_add_right _ _⟩ ⟨_, rfl, (by decide), rfl⟩
  · refine tz_iload_n (pc := 6) dX5_kindOf_6 rfl rfl ?_
    refine tz_bipush (pc := 7) dX5_kindOf_7 (by decide) ?_
    refine tz_icmp_gt (pc := 9) (tgt := 14) dX5_kindOf_9 (by decide) (by omega) (by decide) (fun h_9 => ?_) (fun h_9 => ?_)
    · refine tz_iload_n (pc := 14) dX5_kindOf_14 rfl rfl ?_
      refine tz_bipush (pc := 15) dX5_kindOf_15 (by decide) ?_
      refine tz_icmp_lt (pc := 17) (tgt := 28) dX5_kindOf_17 (by decide) (by omega) (by decide) (fun h_17 => ?_) (fun h_17 => ?_)
      · refine tz_iload_n (pc := 28) dX5_kindOf_28 rfl rfl ?_
        refine tz_bipush (pc := 29) dX5_kindOf_29 (by decide) ?_
        refine tz_icmp_eq (pc := 31) (tgt := 58) dX5_kindOf_31 (by decide) (by omega) (by decide) (fun h_31 => ?_) (fun h_31 => ?_)
        · refine tz_iconst (pc := 58) dX5_kindOf_58 ?_
          refine tz_goto (pc := 59) (tgt := 63) dX5_kindOf_59 (by decide) ?_
          refine tz_istore_n (pc := 63) (L2 := [_, _]) dX5_kindOf_63 rfl (by decide) rfl ?_
          refine tz_iload_n (pc := 64) dX5_kindOf_64 rfl rfl ?_
          refine tz_if_eqF (pc := 65) (tgt := 72) (by decide) dX5_kindOf_65 (by decide) (by decide) ?_
          refine tz_iload_n (pc := 68) dX5_kindOf_68 rfl rfl ?_
          refine tz_goto (pc := 69) (tgt := 73) dX5_kindOf_69 (by decide) ?_
          exact tz_iret (pc := 73) (z := x) dX5_kindOf_73 rfl (Nat.le_of_ble_eq_true rfl) (Nat.le_of_ble_eq_true rfl) ⟨Nat.le_refl _, Nat.le_add_right _ _⟩ ⟨_, rfl, (by omega), rfl⟩
        · refine tz_iload_n (pc := 34) dX5_kindOf_34 rfl rfl ?_
          refine tz_bipush (pc := 35) dX5_kindOf_35 (by decide) ?_
          refine tz_icmp_eq (pc := 37) (tgt := 58) dX5_kindOf_37 (by decide) (by omega) (by decide) (fun h_37 => ?_) (fun h_37 => ?_)
          · refine tz_iconst (pc := 58) dX5_kindOf_58 ?_
            refine tz_goto (pc := 59) (tgt := 63) dX5_kindOf_59 (by decide) ?_
            refine tz_istore_n (pc := 63) (L2 := [_, _]) dX5_kindOf_63 rfl (by decide) rfl ?_
            refine tz_iload_n (pc := 64) dX5_kindOf_64 rfl rfl ?_
            refine tz_if_eqF (pc := 65) (tgt := 72) (by decide) dX5_kindOf_65 (by decide) (by decide) ?_
            refine tz_iload_n (pc := 68) dX5_kindOf_68 rfl rfl ?_
            refine tz_goto (pc := 69) (tgt := 73) dX5_kindOf_69 (by decide) ?_
            exact tz_iret (pc := 73) (z := x) dX5_kindOf_73 rfl (Nat.le_of_ble_eq_true rfl) (Nat.le_of_ble_eq_true rfl) ⟨Nat.le_refl _, Nat.le_add_right _ _⟩ ⟨_, rfl, (by omega), rfl⟩
          · refine tz_iload_n (pc := 40) dX5_kindOf_40 rfl rfl ?_
            refine tz_bipush (pc := 41) dX5_kindOf_41 (by decide) ?_
            refine tz_icmp_eq (pc := 43) (tgt := 58) dX5_kindOf_43 (by decide) (by omega) (by decide) (fun h_43 => ?_) (fun h_43 => ?_)
            · refine tz_iconst (pc := 58) dX5_kindOf_58 ?_
              refine tz_goto (pc := 59) (tgt := 63) dX5_kindOf_59 (by decide) ?_
              refine tz_istore_n (pc := 63) (L2 := [_, _]) dX5_kindOf_63 rfl (by decide) rfl ?_
              refine tz_iload_n (pc := 64) dX5_kindOf_64 rfl rfl ?_
              refine tz_if_eqF (pc := 65) (tgt := 72) (by decide) dX5_kindOf_65 (by decide) (by decide) ?_
              refine tz_iload_n (pc := 68) dX5_kindOf_68 rfl rfl ?_
              refine tz_goto (pc := 69) (tgt := 73) dX5_kindOf_69 (by decide) ?_
              exact tz_iret (pc := 73) (z := x) dX5_kindOf_73 rfl (Nat.le_of_ble_eq_true rfl) (Nat.le_of_ble_eq_true rfl) ⟨Nat.le_refl _, Nat.le_add_right _ _⟩ ⟨_, rfl, (by omega), rfl⟩
            · refine tz_iload_n (pc := 46) dX5_kindOf_46 rfl rfl ?_
              refine tz_bipush (pc := 47) dX5_kindOf_47 (by decide) ?_
              refine tz_icmp_eq (pc := 49) (tgt := 58) dX5_kindOf_49 (by decide) (by omega) (by decide) (fun h_49 => ?_) (fun h_49 => ?_)
              · refine tz_iconst (pc := 58) dX5_kindOf_58 ?_
                refine tz_goto (pc := 59) (tgt := 63) dX5_kindOf_59 (by decide) ?_
                refine tz_istore_n (pc := 63) (L2 := [_, _]) dX5_kindOf_63 rfl (by decide) rfl ?_
                refine tz_iload_n (pc := 64) dX5_kindOf_64 rfl rfl ?_
                refine tz_if_eqF (pc := 65) (tgt := 72) (by decide) dX5_kindOf_65 (by decide) (by decide) ?_
                refine tz_iload_n (pc := 68) dX5_kindOf_68 rfl rfl ?_
                refine tz_goto (pc := 69) (tgt := 73) dX5_kindOf_69 (by decide) ?_
                exact tz_iret (pc := 73) (z := x) dX5_kindOf_73 rfl (Nat.le_of_ble_eq_true rfl) (Nat.le_of_ble_eq_true rfl) ⟨Nat.le_refl _, Nat.le_add_right _ _⟩ ⟨_, rfl, (by omega), rfl⟩
              · refine tz_iload_n (pc := 52) dX5_kindOf_52 rfl rfl ?_
                refine tz_bipush (pc := 53) dX5_kindOf_53 (by decide) ?_
                refine tz_icmp_ne (pc := 55) (tgt := 62) dX5_kindOf_55 (by decide) (by omega) (by decide) (fun h_55 => ?_) (fun h_55 => ?_)
                · refine tz_iconst (pc := 62) dX5_kindOf_62 ?_
                  refine tz_istore_n (pc := 63) (L2 := [_, _]) dX5_kindOf_63 rfl (by decide) rfl ?_
                  refine tz_iload_n (pc := 64) dX5_kindOf_64 rfl rfl ?_
                  refine tz_if_eqT (pc := 65) (tgt := 72) (by decide) dX5_kindOf_65 (by decide) (by decide) ?_
                  refine tz_iconst (pc := 72) dX5_kindOf_72 ?_
                  exact tz_iret (pc := 73) (z := 1) dX5_kindOf_73 rfl (Nat.le_of_ble_eq_true rfl) (Nat.le_of_ble_eq_true rfl) ⟨Nat.le_refl _, Nat.le_add_right _ _⟩ ⟨_, rfl, (by decide), rfl⟩
                · refine tz_iconst (pc := 58) dX5_kindOf_58 ?_
                  refine tz_goto (pc := 59) (tgt := 63) dX5_kindOf_59 (by decide) ?_
                  refine tz_istore_n (pc := 63) (L2 := [_, _]) dX5_kindOf_63 rfl (by decide) rfl ?_
                  refine tz_iload_n (pc := 64) dX5_kindOf_64 rfl rfl ?_
                  refine tz_if_eqF (pc := 65) (tgt := 72) (by decide) dX5_kindOf_65 (by decide) (by decide) ?_
                  refine tz_iload_n (pc := 68) dX5_kindOf_68 rfl rfl ?_
                  refine tz_goto (pc := 69) (tgt := 73) dX5_kindOf_69 (by decide) ?_
                  exact tz_iret (pc := 73) (z := x) dX5_kindOf_73 rfl (Nat.le_of_ble_eq_true rfl) (Nat.le_of_ble_eq_true rfl) ⟨Nat.le_refl _, Nat.le_add_right _ _⟩ ⟨_, rfl, (by omega), rfl⟩
      · refine tz_iload_n (pc := 20) dX5_kindOf_20 rfl rfl ?_
        refine tz_bipush (pc := 21) dX5_kindOf_21 (by decide) ?_
        refine tz_icmp_gt (pc := 23) (tgt := 28) dX5_kindOf_23 (by decide) (by omega) (by decide) (fun h_23 => ?_) (fun h_23 => ?_)
        · refine tz_iload_n (pc := 28) dX5_kindOf_28 rfl rfl ?_
          refine tz_bipush (pc := 29) dX5_kindOf_29 (by decide) ?_
          refine tz_icmp_eq (pc := 31) (tgt := 58) dX5_kindOf_31 (by decide) (by omega) (by decide) (fun h_31 => ?_) (fun h_31 => ?_)
          · refine tz_iconst (pc := 58) dX5_kindOf_58 ?_
            refine tz_goto (pc := 59) (tgt := 63) dX5_kindOf_59 (by decide) ?_
            refine tz_istore_n (pc := 63) (L2 := [_, _]) dX5_kindOf_63 rfl (by decide) rfl ?_
            refine tz_iload_n (pc := 64) dX5_kindOf_64 rfl rfl ?_
            refine tz_if_eqF (pc := 65) (tgt := 72) (by decide) dX5_kindOf_65 (by decide) (by decide) ?_
            refine tz_iload_n (pc := 68) dX5_kindOf_68 rfl rfl ?_
            refine tz_goto (pc := 69) (tgt := 73) dX5_kindOf_69 (by decide) ?_
            exact tz_iret (pc := 73) (z := x) dX5_kindOf_73 rfl (Nat.le_of_ble_eq_true rfl) (Nat.le_of_ble_eq_true rfl) ⟨Nat.le_refl _, Nat.le_add_right _ _⟩ ⟨_, rfl, (by omega), rfl⟩
          · refine tz_iload_n (pc := 34) dX5_kindOf_34 rfl rfl ?_
            refine tz_bipush (pc := 35) dX5_kindOf_35 (by decide) ?_
            refine tz_icmp_eq (pc := 37) (tgt := 58) dX5_kindOf_37 (by decide) (by omega) (by decide) (fun h_37 => ?_) (fun h_37 => ?_)
            · refine tz_iconst (pc := 58) dX5_kindOf_58 ?_
              refine tz_goto (pc := 59) (tgt := 63) dX5_kindOf_59 (by decide) ?_
              refine tz_istore_n (pc := 63) (L2 := [_, _]) dX5_kindOf_63 rfl (by decide) rfl ?_
              refine tz_iload_n (pc := 64) dX5_kindOf_64 rfl rfl ?_
              refine tz_if_eqF (pc := 65) (tgt := 72) (by decide) dX5_kindOf_65 (by decide) (by decide) ?_
              refine tz_iload_n (pc := 68) dX5_kindOf_68 rfl rfl ?_
              refine tz_goto (pc := 69) (tgt := 73) dX5_kindOf_69 (by decide) ?_
              exact tz_iret (pc := 73) (z := x) dX5_kindOf_73 rfl (Nat.le_of_ble_eq_true rfl) (Nat.le_of_ble_eq_true rfl) ⟨Nat.le_refl _, Nat.le_add_right _ _⟩ ⟨_, rfl, (by omega), rfl⟩
            · refine tz_iload_n (pc := 40) dX5_kindOf_40 rfl rfl ?_
              refine tz_bipush (pc := 41) dX5_kindOf_41 (by decide) ?_
              refine tz_icmp_eq (pc := 43) (tgt := 58) dX5_kindOf_43 (by decide) (by omega) (by decide) (fun h_43 => ?_) (fun h_43 => ?_)
              · refine tz_iconst (pc := 58) dX5_kindOf_58 ?_
                refine tz_goto (pc := 59) (tgt := 63) dX5_kindOf_59 (by decide) ?_
                refine tz_istore_n (pc := 63) (L2 := [_, _]) dX5_kindOf_63 rfl (by decide) rfl ?_
                refine tz_iload_n (pc := 64) dX5_kindOf_64 rfl rfl ?_
                refine tz_if_eqF (pc := 65) (tgt := 72) (by decide) dX5_kindOf_65 (by decide) (by decide) ?_
                refine tz_iload_n (pc := 68) dX5_kindOf_68 rfl rfl ?_
                refine tz_goto (pc := 69) (tgt := 73) dX5_kindOf_69 (by decide) ?_
                exact tz_iret (pc := 73) (z := x) dX5_kindOf_73 rfl (Nat.le_of_ble_eq_true rfl) (Nat.le_of_ble_eq_true rfl) ⟨Nat.le_refl _, Nat.le_add_right _ _⟩ ⟨_, rfl, (by omega), rfl⟩
              · refine tz_iload_n (pc := 46) dX5_kindOf_46 rfl rfl ?_
                refine tz_bipush (pc := 47) dX5_kindOf_47 (by decide) ?_
                refine tz_icmp_eq (pc := 49) (tgt := 58) dX5_kindOf_49 (by decide) (by omega) (by decide) (fun h_49 => ?_) (fun h_49 => ?_)
                · refine tz_iconst (pc := 58) dX5_kindOf_58 ?_
                  refine tz_goto (pc := 59) (tgt := 63) dX5_kindOf_59 (by decide) ?_
                  refine tz_istore_n (pc := 63) (L2 := [_, _]) dX5_kindOf_63 rfl (by decide) rfl ?_
                  refine tz_iload_n (pc := 64) dX5_kindOf_64 rfl rfl ?_
                  refine tz_if_eqF (pc := 65) (tgt := 72) (by decide) dX5_kindOf_65 (by decide) (by decide) ?_
                  refine tz_iload_n (pc := 68) dX5_kindOf_68 rfl rfl ?_
                  refine tz_goto (pc := 69) (tgt := 73) dX5_kindOf_69 (by decide) ?_
                  exact tz_iret (pc := 73) (z := x) dX5_kindOf_73 rfl (Nat.le_of_ble_eq_true rfl) (Nat.le_of_ble_eq_true rfl) ⟨Nat.le_refl _, Nat.le_add_right _ _⟩ ⟨_, rfl, (by omega), rfl⟩
                · refine tz_iload_n (pc := 52) dX5_kindOf_52 rfl rfl ?_
                  refine tz_bipush (pc := 53) dX5_kindOf_53 (by decide) ?_
                  refine tz_icmp_ne (pc := 55) (tgt := 62) dX5_kindOf_55 (by decide) (by omega) (by decide) (fun h_55 => ?_) (fun h_55 => ?_)
                  · refine tz_iconst (pc := 62) dX5_kindOf_62 ?_
                    refine tz_istore_n (pc := 63) (L2 := [_, _]) dX5_kindOf_63 rfl (by decide) rfl ?_
                    refine tz_iload_n (pc := 64) dX5_kindOf_64 rfl rfl ?_
                    refine tz_if_eqT (pc := 65) (tgt := 72) (by decide) dX5_kindOf_65 (by decide) (by decide) ?_
                    refine tz_iconst (pc := 72) dX5_kindOf_72 ?_
                    exact tz_iret (pc := 73) (z := 1) dX5_kindOf_73 rfl (Nat.le_of_ble_eq_true rfl) (Nat.le_of_ble_eq_true rfl) ⟨Nat.le_refl _, Nat.le_add_right _ _⟩ ⟨_, rfl, (by decide), rfl⟩
                  · refine tz_iconst (pc := 58) dX5_kindOf_58 ?_
                    refine tz_goto (pc := 59) (tgt := 63) dX5_kindOf_59 (by decide) ?_
                    refine tz_istore_n (pc := 63) (L2 := [_, _]) dX5_kindOf_63 rfl (by decide) rfl ?_
                    refine tz_iload_n (pc := 64) dX5_kindOf_64 rfl rfl ?_
                    refine tz_if_eqF (pc := 65) (tgt := 72) (by decide) dX5_kindOf_65 (by decide) (by decide) ?_
                    refine tz_iload_n (pc := 68) dX5_kindOf_68 rfl rfl ?_
                    refine tz_goto (pc := 69) (tgt := 73) dX5_kindOf_69 (by decide) ?_
                    exact tz_iret (pc := 73) (z := x) dX5_kindOf_73 rfl (Nat.le_of_ble_eq_true rfl) (Nat.le_of_ble_eq_true rfl) ⟨Nat.le_refl _, Nat.le_add_right _ _⟩ ⟨_, rfl, (by omega), rfl⟩
        · refine tz_iconst (pc := 26) dX5_kindOf_26 ?_
          exact tz_iret (pc := 27) (z := 3) dX5_kindOf_27 rfl (Nat.le_of_ble_eq_true rfl) (Nat.le_of_ble_eq_true rfl) ⟨Nat.le_refl _, Nat.le_add_right _ _⟩ ⟨_, rfl, (by decide), rfl⟩
    · refine tz_iconst (pc := 12) dX5_kindOf_12 ?_
      exact tz_iret (pc := 13) (z := 2) dX5_kindOf_13 rfl (Nat.le_of_ble_eq_true rfl) (Nat.le_of_ble_eq_true rfl) ⟨Nat.le_refl _, Nat.le_add_right _ _⟩ ⟨_, rfl, (by decide), rfl⟩

set_option maxHeartbeats 4000000 in
set_option maxRecDepth 100000 in
theorem c_next {l : Launch} {G : tb_G} (hl : l.stackTraces = false) (n : Nat) (J : zJ)    (h0 : 0 ≤ J 163 7 ∧ J 163 7 ≤ J 163 4) (h4 : J 163 4 ≤ 700) : tz_Ok l G M_X5_next 1 0 0 [.ref 163] n J (zqv (fun J' => RN J' J ∧ RD2 J' ∧ J' 163 8 = J 163 8)) zN := by
  refine tz_Ok.of hl (by decide +kernel) rfl (tb_c1 rfl) (Nat.le_of_ble_eq_true rfl) ?_
  show tz_At l G M_X5_next (tb_rm 1 0 0) none (tb_ZM G 0 0 (zQ n 0 (zqv (fun J' => RN J' J ∧ RD2 J' ∧ J' 163 8 = J 163 8))) (zX n 0 zN)) 0 0 n J 0 [some (.ref 163)] []
  refine tz_aload_n (pc := 0) dX5_next_0 rfl rfl ?_
  refine tz_aload_n (pc := 1) dX5_next_1 rfl rfl ?_
  refine tz_fI (pc := 2) (kz := 7) (v := (J 163 7)) dX5_next_2 fl_X5_21 i_163_7 rfl rfl (fun r_2 => ?_)
  refine tz_pI (pc := 5) (kz := 6) dX5_next_5 fl_X5_18 i_163_6 rfl rfl (by omega) ?_
  have loop8 : ∀ (f9 : Nat) (J1 : zJ), ((J1 163 4 - J1 163 6).toNat) < f9 → (zOf (zbut [163]) J1 J ∧ J1 163 4 = J 163 4 ∧ J1 163 8 = J 163 8) → (0 ≤ J1 163 6 ∧ J1 163 6 ≤ J1 163 4) → tz_At l G M_X5_next (tb_rm 1 0 0) none (tb_ZM G 0 0 (zQ n 0 (zqv (fun J' => RN J' J ∧ RD2 J' ∧ J' 163 8 = J 163 8))) (zX n 0 zN)) 0 0 n J1 8 [some (.ref 163)] [] := by
    intro f9
    induction f9 with
    | zero => intro J1 hm9; exact absurd hm9 (Nat.not_lt_zero _)
    | succ f9 ih8 =>
      intro J1 hm8 f1 h1
      have r4 := f1.2.1
      refine tz_aload_n (pc := 8) dX5_next_8 rfl rfl ?_
      refine tz_fI (pc := 9) (kz := 6) (v := (J1 163 6)) dX5_next_9 fl_X5_18 i_163_6 rfl rfl (fun r_9 => ?_)
      refine tz_aload_n (pc := 12) dX5_next_12 rfl rfl ?_
      refine tz_fI (pc := 13) (kz := 4) (v := (J1 163 4)) dX5_next_13 fl_X5_9 i_163_4 rfl rfl (fun r_13 => ?_)
      refine tz_icmp_ge (pc := 16) (tgt := 60) dX5_next_16 (by decide) (by omega) (by omega) (fun h_16 => ?_) (fun h_16 => ?_)
      · refine tz_aload_n (pc := 60) dX5_next_60 rfl rfl ?_
        refine tz_aload_n (pc := 61) dX5_next_61 rfl rfl ?_
        refine tz_fI (pc := 62) (kz := 6) (v := (J1 163 6)) dX5_next_62 fl_X5_18 i_163_6 rfl rfl (fun r_62 => ?_)
        refine tz_aload_n (pc := 65) dX5_next_65 rfl rfl ?_
        refine tz_fI (pc := 66) (kz := 4) (v := (J1 163 4)) dX5_next_66 fl_X5_9 i_163_4 rfl rfl (fun r_66 => ?_)
        refine tz_icmp_ge (pc := 69) (tgt := 87) dX5_next_69 (by decide) (by omega) (by omega) (fun h_69 => ?_) (fun h_69 => ?_)
        · refine tz_iconst (pc := 87) dX5_next_87 ?_
          refine tz_pI (pc := 88) (kz := 5) dX5_next_88 fl_X5_15 i_163_5 rfl rfl (by decide) ?_
          refine tz_aload_n (pc := 91) dX5_next_91 rfl rfl ?_
          refine tz_aload_n (pc := 92) dX5_next_92 rfl rfl ?_
          refine tz_fI (pc := 93) (kz := 6) (v := (J1 163 6)) dX5_next_93 fl_X5_18 i_163_6 rfl rfl (fun r_93 => ?_)
          refine tz_iconst (pc := 96) dX5_next_96 ?_
          refine tz_iadd (pc := 97) (v := (J1 163 6) + 1) dX5_next_97 rfl ?_
          refine tz_aload_n (pc := 98) dX5_next_98 rfl rfl ?_
          refine tz_fI (pc := 99) (kz := 4) (v := (J1 163 4)) dX5_next_99 fl_X5_9 i_163_4 rfl rfl (fun r_99 => ?_)
          have hmn := zmn_le (J1 163 6 + 1) (J1 163 4)
          refine tz_mn (pc := 102) (v := zmn (J1 163 6 + 1) (J1 163 4)) dX5_next_102 ml_X5_59 (Nat.le_of_ble_eq_true rfl) (Nat.le_of_ble_eq_true rfl) (Nat.le_of_ble_eq_true rfl) (Nat.le_of_ble_eq_true rfl) (by omega) (by omega) rfl ?_
          refine tz_pI (pc := 105) (kz := 7) dX5_next_105 fl_X5_21 i_163_7 rfl rfl (by omega) ?_
          have loop108 : ∀ (f9 : Nat) (J2 : zJ), ((J2 163 4 - J2 163 7).toNat) < f9 → (zOf (zbut [163]) J2 J ∧ J2 163 4 = J 163 4 ∧ J2 163 8 = J 163 8) → ((0 ≤ J2 163 6 ∧ J2 163 6 ≤ J2 163 7) ∧ J2 163 7 ≤ J2 163 4 ∧ (J2 163 5 = 0 ∨ J2 163 6 < J2 163 4)) → tz_At l G M_X5_next (tb_rm 1 0 0) none (tb_ZM G 0 0 (zQ n 0 (zqv (fun J' => RN J' J ∧ RD2 J' ∧ J' 163 8 = J 163 8))) (zX n 0 zN)) 0 0 n J2 108 [some (.ref 163)] [] := by
            intro f9
            induction f9 with
            | zero => intro J2 hm9; exact absurd hm9 (Nat.not_lt_zero _)
            | succ f9 ih108 =>
              intro J2 hm108 f2 h2
              have r42 := f2.2.1
              have h2a := h2.1
              have h2b := h2.2.1
              refine tz_aload_n (pc := 108) dX5_next_108 rfl rfl ?_
              refine tz_fI (pc := 109) (kz := 5) (v := (J2 163 5)) dX5_next_109 fl_X5_15 i_163_5 rfl rfl (fun r_109 => ?_)
              refine tz_iconst (pc := 112) dX5_next_112 ?_
              refine tz_icmp_eq (pc := 113) (tgt := 124) dX5_next_113 (by decide) (by omega) (by decide) (fun h_113 => ?_) (fun h_113 => ?_)
              · refine tz_aload_n (pc := 124) dX5_next_124 rfl rfl ?_
                refine tz_fI (pc := 125) (kz := 7) (v := (J2 163 7)) dX5_next_125 fl_X5_21 i_163_7 rfl rfl (fun r_125 => ?_)
                refine tz_aload_n (pc := 128) dX5_next_128 rfl rfl ?_
                refine tz_fI (pc := 129) (kz := 4) (v := (J2 163 4)) dX5_next_129 fl_X5_9 i_163_4 rfl rfl (fun r_129 => ?_)
                refine tz_icmp_ge (pc := 132) (tgt := 167) dX5_next_132 (by decide) (by omega) (by omega) (fun h_132 => ?_) (fun h_132 => ?_)
                · exact tz_vret (pc := 167) dX5_next_167 rfl (Nat.le_of_ble_eq_true rfl) (Nat.le_of_ble_eq_true rfl) ⟨Nat.le_refl _, Nat.le_add_right _ _⟩ ⟨rfl, ⟨⟨f2.1, f2.2.1, fun q => by rw [← f2.2.2]; exact q⟩, ⟨⟨h2.1, h2.2.1, by omega⟩, h2.2.2⟩, f2.2.2⟩⟩
                · refine tz_aload_n (pc := 135) dX5_next_135 rfl rfl ?_
                  refine tz_fR (pc := 136) dX5_next_136 fl_X5_34 r_163_0 ?_
                  refine tz_aload_n (pc := 139) dX5_next_139 rfl rfl ?_
                  refine tz_fI (pc := 140) (kz := 7) (v := (J2 163 7)) dX5_next_140 fl_X5_21 i_163_7 rfl rfl (fun r_140 => ?_)
                  refine tz_aL (pc := 143) (z := (J2 163 7)) (v := (J 162 (J2 163 7))) dX5_next_143 a_162 rfl (by omega) (Eq.trans (congrFun (f2.1 162 rfl) (J2 163 7)) rfl) (fun r_143 => ?_)
                  refine tz_cS (pc := 144) (c_kindOf hl n _ _ (by omega)) sl_X5_101 dX5_next_144 rfl rfl (Nat.le_of_ble_eq_true rfl) ⟨(Nat.le_of_ble_eq_true rfl), (Nat.le_of_ble_eq_true rfl)⟩ rfl rfl (Nat.le_of_ble_eq_true rfl) (Nat.le_of_ble_eq_true rfl) (fun r9 J_144 hq9 => ?_)
                  obtain ⟨z_144, rfl, hz_144, rfl⟩ := hq9
                  refine tz_aload_n (pc := 147) dX5_next_147 rfl rfl ?_
                  refine tz_fI (pc := 148) (kz := 5) (v := (J2 163 5)) dX5_next_148 fl_X5_15 i_163_5 rfl rfl (fun r_148 => ?_)
                  refine tz_icmp_ne (pc := 151) (tgt := 167) dX5_next_151 (by decide) (by omega) (by omega) (fun h_151 => ?_) (fun h_151 => ?_)
                  · exact tz_vret (pc := 167) dX5_next_167 rfl (Nat.le_of_ble_eq_true rfl) (Nat.le_of_ble_eq_true rfl) ⟨Nat.le_refl _, Nat.le_add_right _ _⟩ ⟨rfl, ⟨⟨f2.1, f2.2.1, fun q => by rw [← f2.2.2]; exact q⟩, ⟨⟨h2.1, h2.2.1, by omega⟩, h2.2.2⟩, f2.2.2⟩⟩
                  · refine tz_aload_n (pc := 154) dX5_next_154 rfl rfl ?_
                    refine tz_dup (pc := 155) dX5_next_155 rfl ?_
                    refine tz_fI (pc := 156) (kz := 7) (v := (J2 163 7)) dX5_next_156 fl_X5_21 i_163_7 rfl rfl (fun r_156 => ?_)
                    refine tz_iconst (pc := 159) dX5_next_159 ?_
                    refine tz_iadd (pc := 160) (v := (J2 163 7) + 1) dX5_next_160 rfl ?_
                    refine tz_pI (pc := 161) (kz := 7) dX5_next_161 fl_X5_21 i_163_7 rfl rfl (by omega) ?_
                    refine tz_goto (pc := 164) (tgt := 108) dX5_next_164 (by decide) ?_
                    exact ih108 _ (by show (J2 163 4 - (J2 163 7 + 1)).toNat < _; omega) ⟨zOf.up rfl f2.1, f2.2⟩ ⟨⟨h2.1.1, by show J2 163 6 ≤ J2 163 7 + 1; omega⟩, by show J2 163 7 + 1 ≤ J2 163 4; omega, h2.2.2⟩
              · refine tz_aload_n (pc := 116) dX5_next_116 rfl rfl ?_
                refine tz_fI (pc := 117) (kz := 5) (v := (J2 163 5)) dX5_next_117 fl_X5_15 i_163_5 rfl rfl (fun r_117 => ?_)
                refine tz_iconst (pc := 120) dX5_next_120 ?_
                refine tz_icmp_ne (pc := 121) (tgt := 167) dX5_next_121 (by decide) (by omega) (by decide) (fun h_121 => ?_) (fun h_121 => ?_)
                · exact tz_vret (pc := 167) dX5_next_167 rfl (Nat.le_of_ble_eq_true rfl) (Nat.le_of_ble_eq_true rfl) ⟨Nat.le_refl _, Nat.le_add_right _ _⟩ ⟨rfl, ⟨⟨f2.1, f2.2.1, fun q => by rw [← f2.2.2]; exact q⟩, ⟨⟨h2.1, h2.2.1, by omega⟩, h2.2.2⟩, f2.2.2⟩⟩
                · refine tz_aload_n (pc := 124) dX5_next_124 rfl rfl ?_
                  refine tz_fI (pc := 125) (kz := 7) (v := (J2 163 7)) dX5_next_125 fl_X5_21 i_163_7 rfl rfl (fun r_125 => ?_)
                  refine tz_aload_n (pc := 128) dX5_next_128 rfl rfl ?_
                  refine tz_fI (pc := 129) (kz := 4) (v := (J2 163 4)) dX5_next_129 fl_X5_9 i_163_4 rfl rfl (fun r_129 => ?_)
                  refine tz_icmp_ge (pc := 132) (tgt := 167) dX5_next_132 (by decide) (by omega) (by omega) (fun h_132 => ?_) (fun h_132 => ?_)
                  · exact tz_vret (pc := 167) dX5_next_167 rfl (Nat.le_of_ble_eq_true rfl) (Nat.le_of_ble_eq_true rfl) ⟨Nat.le_refl _, Nat.le_add_right _ _⟩ ⟨rfl, ⟨⟨f2.1, f2.2.1, fun q => by rw [← f2.2.2]; exact q⟩, ⟨⟨h2.1, h2.2.1, by omega⟩, h2.2.2⟩, f2.2.2⟩⟩
                  · refine tz_aload_n (pc := 135) dX5_next_135 rfl rfl ?_
                    refine tz_fR (pc := 136) dX5_next_136 fl_X5_34 r_163_0 ?_
                    refine tz_aload_n (pc := 139) dX5_next_139 rfl rfl ?_
                    refine tz_fI (pc := 140) (kz := 7) (v := (J2 163 7)) dX5_next_140 fl_X5_21 i_163_7 rfl rfl (fun r_140 => ?_)
                    refine tz_aL (pc := 143) (z := (J2 163 7)) (v := (J 162 (J2 163 7))) dX5_next_143 a_162 rfl (by omega) (Eq.trans (congrFun (f2.1 162 rfl) (J2 163 7)) rfl) (fun r_143 => ?_)
                    refine tz_cS (pc := 144) (c_kindOf hl n _ _ (by omega)) sl_X5_101 dX5_next_144 rfl rfl (Nat.le_of_ble_eq_true rfl) ⟨(Nat.le_of_ble_eq_true rfl), (Nat.le_of_ble_eq_true rfl)⟩ rfl rfl (Nat.le_of_ble_eq_true rfl) (Nat.le_of_ble_eq_true rfl) (fun r9 J_144 hq9 => ?_)
                    obtain ⟨z_144, rfl, hz_144, rfl⟩ := hq9
                    refine tz_aload_n (pc := 147) dX5_next_147 rfl rfl ?_
                    refine tz_fI (pc := 148) (kz := 5) (v := (J2 163 5)) dX5_next_148 fl_X5_15 i_163_5 rfl rfl (fun r_148 => ?_)
                    refine tz_icmp_ne (pc := 151) (tgt := 167) dX5_next_151 (by decide) (by omega) (by omega) (fun h_151 => ?_) (fun h_151 => ?_)
                    · exact tz_vret (pc := 167) dX5_next_167 rfl (Nat.le_of_ble_eq_true rfl) (Nat.le_of_ble_eq_true rfl) ⟨Nat.le_refl _, Nat.le_add_right _ _⟩ ⟨rfl, ⟨⟨f2.1, f2.2.1, fun q => by rw [← f2.2.2]; exact q⟩, ⟨⟨h2.1, h2.2.1, by omega⟩, h2.2.2⟩, f2.2.2⟩⟩
                    · refine tz_aload_n (pc := 154) dX5_next_154 rfl rfl ?_
                      refine tz_dup (pc := 155) dX5_next_155 rfl ?_
                      refine tz_fI (pc := 156) (kz := 7) (v := (J2 163 7)) dX5_next_156 fl_X5_21 i_163_7 rfl rfl (fun r_156 => ?_)
                      refine tz_iconst (pc := 159) dX5_next_159 ?_
                      refine tz_iadd (pc := 160) (v := (J2 163 7) + 1) dX5_next_160 rfl ?_
                      refine tz_pI (pc := 161) (kz := 7) dX5_next_161 fl_X5_21 i_163_7 rfl rfl (by omega) ?_
                      refine tz_goto (pc := 164) (tgt := 108) dX5_next_164 (by decide) ?_
                      exact ih108 _ (by show (J2 163 4 - (J2 163 7 + 1)).toNat < _; omega) ⟨zOf.up rfl f2.1, f2.2⟩ ⟨⟨h2.1.1, by show J2 163 6 ≤ J2 163 7 + 1; omega⟩, by show J2 163 7 + 1 ≤ J2 163 4; omega, h2.2.2⟩
          exact loop108 _ _ (Nat.lt_succ_self _) ⟨zOf.up rfl (zOf.up rfl f1.1), f1.2⟩ (by first | exact ⟨⟨h1.1, by show J1 163 6 ≤ zmn _ _; omega⟩, by show zmn _ _ ≤ J1 163 4; omega, Or.inr (by show J1 163 6 < J1 163 4; omega)⟩ | exact ⟨⟨h1.1, by show J1 163 6 ≤ zmn _ _; omega⟩, by show zmn _ _ ≤ J1 163 4; omega, Or.inl rfl⟩)
        · refine tz_aload_n (pc := 72) dX5_next_72 rfl rfl ?_
          refine tz_fR (pc := 73) dX5_next_73 fl_X5_34 r_163_0 ?_
          refine tz_aload_n (pc := 76) dX5_next_76 rfl rfl ?_
          refine tz_fI (pc := 77) (kz := 6) (v := (J1 163 6)) dX5_next_77 fl_X5_18 i_163_6 rfl rfl (fun r_77 => ?_)
          refine tz_aL (pc := 80) (z := (J1 163 6)) (v := (J 162 (J1 163 6))) dX5_next_80 a_162 rfl (by omega) (Eq.trans (congrFun (f1.1 162 rfl) (J1 163 6)) rfl) (fun r_80 => ?_)
          refine tz_cS (pc := 81) (c_kindOf hl n _ _ (by omega)) sl_X5_101 dX5_next_81 rfl rfl (Nat.le_of_ble_eq_true rfl) ⟨(Nat.le_of_ble_eq_true rfl), (Nat.le_of_ble_eq_true rfl)⟩ rfl rfl (Nat.le_of_ble_eq_true rfl) (Nat.le_of_ble_eq_true rfl) (fun r9 J_81 hq9 => ?_)
          obtain ⟨z_81, rfl, hz_81, rfl⟩ := hq9
          refine tz_goto (pc := 84) (tgt := 88) dX5_next_84 (by decide) ?_
          refine tz_pI (pc := 88) (kz := 5) dX5_next_88 fl_X5_15 i_163_5 rfl rfl (by omega) ?_
          refine tz_aload_n (pc := 91) dX5_next_91 rfl rfl ?_
          refine tz_aload_n (pc := 92) dX5_next_92 rfl rfl ?_
          refine tz_fI (pc := 93) (kz := 6) (v := (J1 163 6)) dX5_next_93 fl_X5_18 i_163_6 rfl rfl (fun r_93 => ?_)
          refine tz_iconst (pc := 96) dX5_next_96 ?_
          refine tz_iadd (pc := 97) (v := (J1 163 6) + 1) dX5_next_97 rfl ?_
          refine tz_aload_n (pc := 98) dX5_next_98 rfl rfl ?_
          refine tz_fI (pc := 99) (kz := 4) (v := (J1 163 4)) dX5_next_99 fl_X5_9 i_163_4 rfl rfl (fun r_99 => ?_)
          have hmn := zmn_le (J1 163 6 + 1) (J1 163 4)
          refine tz_mn (pc := 102) (v := zmn (J1 163 6 + 1) (J1 163 4)) dX5_next_102 ml_X5_59 (Nat.le_of_ble_eq_true rfl) (Nat.le_of_ble_eq_true rfl) (Nat.le_of_ble_eq_true rfl) (Nat.le_of_ble_eq_true rfl) (by omega) (by omega) rfl ?_
          refine tz_pI (pc := 105) (kz := 7) dX5_next_105 fl_X5_21 i_163_7 rfl rfl (by omega) ?_
          have loop108 : ∀ (f9 : Nat) (J2 : zJ), ((J2 163 4 - J2 163 7).toNat) < f9 → (zOf (zbut [163]) J2 J ∧ J2 163 4 = J 163 4 ∧ J2 163 8 = J 163 8) → ((0 ≤ J2 163 6 ∧ J2 163 6 ≤ J2 163 7) ∧ J2 163 7 ≤ J2 163 4 ∧ (J2 163 5 = 0 ∨ J2 163 6 < J2 163 4)) → tz_At l G M_X5_next (tb_rm 1 0 0) none (tb_ZM G 0 0 (zQ n 0 (zqv (fun J' => RN J' J ∧ RD2 J' ∧ J' 163 8 = J 163 8))) (zX n 0 zN)) 0 0 n J2 108 [some (.ref 163)] [] := by
            intro f9
            induction f9 with
            | zero => intro J2 hm9; exact absurd hm9 (Nat.not_lt_zero _)
            | succ f9 ih108 =>
              intro J2 hm108 f2 h2
              have r42 := f2.2.1
              have h2a := h2.1
              have h2b := h2.2.1
              refine tz_aload_n (pc := 108) dX5_next_108 rfl rfl ?_
              refine tz_fI (pc := 109) (kz := 5) (v := (J2 163 5)) dX5_next_109 fl_X5_15 i_163_5 rfl rfl (fun r_109 => ?_)
              refine tz_iconst (pc := 112) dX5_next_112 ?_
              refine tz_icmp_eq (pc := 113) (tgt := 124) dX5_next_113 (by decide) (by omega) (by decide) (fun h_113 => ?_) (fun h_113 => ?_)
              · refine tz_aload_n (pc := 124) dX5_next_124 rfl rfl ?_
                refine tz_fI (pc := 125) (kz := 7) (v := (J2 163 7)) dX5_next_125 fl_X5_21 i_163_7 rfl rfl (fun r_125 => ?_)
                refine tz_aload_n (pc := 128) dX5_next_128 rfl rfl ?_
                refine tz_fI (pc := 129) (kz := 4) (v := (J2 163 4)) dX5_next_129 fl_X5_9 i_163_4 rfl rfl (fun r_129 => ?_)
                refine tz_icmp_ge (pc := 132) (tgt := 167) dX5_next_132 (by decide) (by omega) (by omega) (fun h_132 => ?_) (fun h_132 => ?_)
                · exact tz_vret (pc := 167) dX5_next_167 rfl (Nat.le_of_ble_eq_true rfl) (Nat.le_of_ble_eq_true rfl) ⟨Nat.le_refl _, Nat.le_add_right _ _⟩ ⟨rfl, ⟨⟨f2.1, f2.2.1, fun q => by rw [← f2.2.2]; exact q⟩, ⟨⟨h2.1, h2.2.1, by omega⟩, h2.2.2⟩, f2.2.2⟩⟩
                · refine tz_aload_n (pc := 135) dX5_next_135 rfl rfl ?_
                  refine tz_fR (pc := 136) dX5_next_136 fl_X5_34 r_163_0 ?_
                  refine tz_aload_n (pc := 139) dX5_next_139 rfl rfl ?_
                  refine tz_fI (pc := 140) (kz := 7) (v := (J2 163 7)) dX5_next_140 fl_X5_21 i_163_7 rfl rfl (fun r_140 => ?_)
                  refine tz_aL (pc := 143) (z := (J2 163 7)) (v := (J 162 (J2 163 7))) dX5_next_143 a_162 rfl (by omega) (Eq.trans (congrFun (f2.1 162 rfl) (J2 163 7)) rfl) (fun r_143 => ?_)
                  refine tz_cS (pc := 144) (c_kindOf hl n _ _ (by omega)) sl_X5_101 dX5_next_144 rfl rfl (Nat.le_of_ble_eq_true rfl) ⟨(Nat.le_of_ble_eq_true rfl), (Nat.le_of_ble_eq_true rfl)⟩ rfl rfl (Nat.le_of_ble_eq_true rfl) (Nat.le_of_ble_eq_true rfl) (fun r9 J_144 hq9 => ?_)
                  obtain ⟨z_144, rfl, hz_144, rfl⟩ := hq9
                  refine tz_aload_n (pc := 147) dX5_next_147 rfl rfl ?_
                  refine tz_fI (pc := 148) (kz := 5) (v := (J2 163 5)) dX5_next_148 fl_X5_15 i_163_5 rfl rfl (fun r_148 => ?_)
                  refine tz_icmp_ne (pc := 151) (tgt := 167) dX5_next_151 (by decide) (by omega) (by omega) (fun h_151 => ?_) (fun h_151 => ?_)
                  · exact tz_vret (pc := 167) dX5_next_167 rfl (Nat.le_of_ble_eq_true rfl) (Nat.le_of_ble_eq_true rfl) ⟨Nat.le_refl _, Nat.le_add_right _ _⟩ ⟨rfl, ⟨⟨f2.1, f2.2.1, fun q => by rw [← f2.2.2]; exact q⟩, ⟨⟨h2.1, h2.2.1, by omega⟩, h2.2.2⟩, f2.2.2⟩⟩
                  · refine tz_aload_n (pc := 154) dX5_next_154 rfl rfl ?_
                    refine tz_dup (pc := 155) dX5_next_155 rfl ?_
                    refine tz_fI (pc := 156) (kz := 7) (v := (J2 163 7)) dX5_next_156 fl_X5_21 i_163_7 rfl rfl (fun r_156 => ?_)
                    refine tz_iconst (pc := 159) dX5_next_159 ?_
                    refine tz_iadd (pc := 160) (v := (J2 163 7) + 1) dX5_next_160 rfl ?_
                    refine tz_pI (pc := 161) (kz := 7) dX5_next_161 fl_X5_21 i_163_7 rfl rfl (by omega) ?_
                    refine tz_goto (pc := 164) (tgt := 108) dX5_next_164 (by decide) ?_
                    exact ih108 _ (by show (J2 163 4 - (J2 163 7 + 1)).toNat < _; omega) ⟨zOf.up rfl f2.1, f2.2⟩ ⟨⟨h2.1.1, by show J2 163 6 ≤ J2 163 7 + 1; omega⟩, by show J2 163 7 + 1 ≤ J2 163 4; omega, h2.2.2⟩
              · refine tz_aload_n (pc := 116) dX5_next_116 rfl rfl ?_
                refine tz_fI (pc := 117) (kz := 5) (v := (J2 163 5)) dX5_next_117 fl_X5_15 i_163_5 rfl rfl (fun r_117 => ?_)
                refine tz_iconst (pc := 120) dX5_next_120 ?_
                refine tz_icmp_ne (pc := 121) (tgt := 167) dX5_next_121 (by decide) (by omega) (by decide) (fun h_121 => ?_) (fun h_121 => ?_)
                · exact tz_vret (pc := 167) dX5_next_167 rfl (Nat.le_of_ble_eq_true rfl) (Nat.le_of_ble_eq_true rfl) ⟨Nat.le_refl _, Nat.le_add_right _ _⟩ ⟨rfl, ⟨⟨f2.1, f2.2.1, fun q => by rw [← f2.2.2]; exact q⟩, ⟨⟨h2.1, h2.2.1, by omega⟩, h2.2.2⟩, f2.2.2⟩⟩
                · refine tz_aload_n (pc := 124) dX5_next_124 rfl rfl ?_
                  refine tz_fI (pc := 125) (kz := 7) (v := (J2 163 7)) dX5_next_125 fl_X5_21 i_163_7 rfl rfl (fun r_125 => ?_)
                  refine tz_aload_n (pc := 128) dX5_next_128 rfl rfl ?_
                  refine tz_fI (pc := 129) (kz := 4) (v := (J2 163 4)) dX5_next_129 fl_X5_9 i_163_4 rfl rfl (fun r_129 => ?_)
                  refine tz_icmp_ge (pc := 132) (tgt := 167) dX5_next_132 (by decide) (by omega) (by omega) (fun h_132 => ?_) (fun h_132 => ?_)
                  · exact tz_vret (pc := 167) dX5_next_167 rfl (Nat.le_of_ble_eq_true rfl) (Nat.le_of_ble_eq_true rfl) ⟨Nat.le_refl _, Nat.le_add_right _ _⟩ ⟨rfl, ⟨⟨f2.1, f2.2.1, fun q => by rw [← f2.2.2]; exact q⟩, ⟨⟨h2.1, h2.2.1, by omega⟩, h2.2.2⟩, f2.2.2⟩⟩
                  · refine tz_aload_n (pc := 135) dX5_next_135 rfl rfl ?_
                    refine tz_fR (pc := 136) dX5_next_136 fl_X5_34 r_163_0 ?_
                    refine tz_aload_n (pc := 139) dX5_next_139 rfl rfl ?_
                    refine tz_fI (pc := 140) (kz := 7) (v := (J2 163 7)) dX5_next_140 fl_X5_21 i_163_7 rfl rfl (fun r_140 => ?_)
                    refine tz_aL (pc := 143) (z := (J2 163 7)) (v := (J 162 (J2 163 7))) dX5_next_143 a_162 rfl (by omega) (Eq.trans (congrFun (f2.1 162 rfl) (J2 163 7)) rfl) (fun r_143 => ?_)
                    refine tz_cS (pc := 144) (c_kindOf hl n _ _ (by omega)) sl_X5_101 dX5_next_144 rfl rfl (Nat.le_of_ble_eq_true rfl) ⟨(Nat.le_of_ble_eq_true rfl), (Nat.le_of_ble_eq_true rfl)⟩ rfl rfl (Nat.le_of_ble_eq_true rfl) (Nat.le_of_ble_eq_true rfl) (fun r9 J_144 hq9 => ?_)
                    obtain ⟨z_144, rfl, hz_144, rfl⟩ := hq9
                    refine tz_aload_n (pc := 147) dX5_next_147 rfl rfl ?_
                    refine tz_fI (pc := 148) (kz := 5) (v := (J2 163 5)) dX5_next_148 fl_X5_15 i_163_5 rfl rfl (fun r_148 => ?_)
                    refine tz_icmp_ne (pc := 151) (tgt := 167) dX5_next_151 (by decide) (by omega) (by omega) (fun h_151 => ?_) (fun h_151 => ?_)
                    · exact tz_vret (pc := 167) dX5_next_167 rfl (Nat.le_of_ble_eq_true rfl) (Nat.le_of_ble_eq_true rfl) ⟨Nat.le_refl _, Nat.le_add_right _ _⟩ ⟨rfl, ⟨⟨f2.1, f2.2.1, fun q => by rw [← f2.2.2]; exact q⟩, ⟨⟨h2.1, h2.2.1, by omega⟩, h2.2.2⟩, f2.2.2⟩⟩
                    · refine tz_aload_n (pc := 154) dX5_next_154 rfl rfl ?_
                      refine tz_dup (pc := 155) dX5_next_155 rfl ?_
                      refine tz_fI (pc := 156) (kz := 7) (v := (J2 163 7)) dX5_next_156 fl_X5_21 i_163_7 rfl rfl (fun r_156 => ?_)
                      refine tz_iconst (pc := 159) dX5_next_159 ?_
                      refine tz_iadd (pc := 160) (v := (J2 163 7) + 1) dX5_next_160 rfl ?_
                      refine tz_pI (pc := 161) (kz := 7) dX5_next_161 fl_X5_21 i_163_7 rfl rfl (by omega) ?_
                      refine tz_goto (pc := 164) (tgt := 108) dX5_next_164 (by decide) ?_
                      exact ih108 _ (by show (J2 163 4 - (J2 163 7 + 1)).toNat < _; omega) ⟨zOf.up rfl f2.1, f2.2⟩ ⟨⟨h2.1.1, by show J2 163 6 ≤ J2 163 7 + 1; omega⟩, by show J2 163 7 + 1 ≤ J2 163 4; omega, h2.2.2⟩
          exact loop108 _ _ (Nat.lt_succ_self _) ⟨zOf.up rfl (zOf.up rfl f1.1), f1.2⟩ (by first | exact ⟨⟨h1.1, by show J1 163 6 ≤ zmn _ _; omega⟩, by show zmn _ _ ≤ J1 163 4; omega, Or.inr (by show J1 163 6 < J1 163 4; omega)⟩ | exact ⟨⟨h1.1, by show J1 163 6 ≤ zmn _ _; omega⟩, by show zmn _ _ ≤ J1 163 4; omega, Or.inl rfl⟩)
      · refine tz_aload_n (pc := 19) dX5_next_19 rfl rfl ?_
        refine tz_fR (pc := 20) dX5_next_20 fl_X5_34 r_163_0 ?_
        refine tz_aload_n (pc := 23) dX5_next_23 rfl rfl ?_
        refine tz_fI (pc := 24) (kz := 6) (v := (J1 163 6)) dX5_next_24 fl_X5_18 i_163_6 rfl rfl (fun r_24 => ?_)
        refine tz_aL (pc := 27) (z := (J1 163 6)) (v := (J 162 (J1 163 6))) dX5_next_27 a_162 rfl (by omega) (Eq.trans (congrFun (f1.1 162 rfl) (J1 163 6)) rfl) (fun r_27 => ?_)
        refine tz_bipush (pc := 28) dX5_next_28 (by decide) ?_
        refine tz_icmp_eq (pc := 30) (tgt := 47) dX5_next_30 (by decide) (by omega) (by decide) (fun h_30 => ?_) (fun h_30 => ?_)
        · refine tz_aload_n (pc := 47) dX5_next_47 rfl rfl ?_
          refine tz_dup (pc := 48) dX5_next_48 rfl ?_
          refine tz_fI (pc := 49) (kz := 6) (v := (J1 163 6)) dX5_next_49 fl_X5_18 i_163_6 rfl rfl (fun r_49 => ?_)
          refine tz_iconst (pc := 52) dX5_next_52 ?_
          refine tz_iadd (pc := 53) (v := (J1 163 6) + 1) dX5_next_53 rfl ?_
          refine tz_pI (pc := 54) (kz := 6) dX5_next_54 fl_X5_18 i_163_6 rfl rfl (by omega) ?_
          refine tz_goto (pc := 57) (tgt := 8) dX5_next_57 (by decide) ?_
          exact ih8 _ (by show (J1 163 4 - (J1 163 6 + 1)).toNat < _; omega) ⟨zOf.up rfl f1.1, f1.2⟩ ⟨by show 0 ≤ J1 163 6 + 1; omega, by show J1 163 6 + 1 ≤ J1 163 4; omega⟩
        · refine tz_aload_n (pc := 33) dX5_next_33 rfl rfl ?_
          refine tz_fR (pc := 34) dX5_next_34 fl_X5_34 r_163_0 ?_
          refine tz_aload_n (pc := 37) dX5_next_37 rfl rfl ?_
          refine tz_fI (pc := 38) (kz := 6) (v := (J1 163 6)) dX5_next_38 fl_X5_18 i_163_6 rfl rfl (fun r_38 => ?_)
          refine tz_aL (pc := 41) (z := (J1 163 6)) (v := (J 162 (J1 163 6))) dX5_next_41 a_162 rfl (by omega) (Eq.trans (congrFun (f1.1 162 rfl) (J1 163 6)) rfl) (fun r_41 => ?_)
          refine tz_bipush (pc := 42) dX5_next_42 (by decide) ?_
          refine tz_icmp_ne (pc := 44) (tgt := 60) dX5_next_44 (by decide) (by omega) (by decide) (fun h_44 => ?_) (fun h_44 => ?_)
          · refine tz_aload_n (pc := 60) dX5_next_60 rfl rfl ?_
            refine tz_aload_n (pc := 61) dX5_next_61 rfl rfl ?_
            refine tz_fI (pc := 62) (kz := 6) (v := (J1 163 6)) dX5_next_62 fl_X5_18 i_163_6 rfl rfl (fun r_62 => ?_)
            refine tz_aload_n (pc := 65) dX5_next_65 rfl rfl ?_
            refine tz_fI (pc := 66) (kz := 4) (v := (J1 163 4)) dX5_next_66 fl_X5_9 i_163_4 rfl rfl (fun r_66 => ?_)
            refine tz_icmp_ge (pc := 69) (tgt := 87) dX5_next_69 (by decide) (by omega) (by omega) (fun h_69 => ?_) (fun h_69 => ?_)
            · refine tz_iconst (pc := 87) dX5_next_87 ?_
              refine tz_pI (pc := 88) (kz := 5) dX5_next_88 fl_X5_15 i_163_5 rfl rfl (by decide) ?_
              refine tz_aload_n (pc := 91) dX5_next_91 rfl rfl ?_
              refine tz_aload_n (pc := 92) dX5_next_92 rfl rfl ?_
              refine tz_fI (pc := 93) (kz := 6) (v := (J1 163 6)) dX5_next_93 fl_X5_18 i_163_6 rfl rfl (fun r_93 => ?_)
              refine tz_iconst (pc := 96) dX5_next_96 ?_
              refine tz_iadd (pc := 97) (v := (J1 163 6) + 1) dX5_next_97 rfl ?_
              refine tz_aload_n (pc := 98) dX5_next_98 rfl rfl ?_
              refine tz_fI (pc := 99) (kz := 4) (v := (J1 163 4)) dX5_next_99 fl_X5_9 i_163_4 rfl rfl (fun r_99 => ?_)
              have hmn := zmn_le (J1 163 6 + 1) (J1 163 4)
              refine tz_mn (pc := 102) (v := zmn (J1 163 6 + 1) (J1 163 4)) dX5_next_102 ml_X5_59 (Nat.le_of_ble_eq_true rfl) (Nat.le_of_ble_eq_true rfl) (Nat.le_of_ble_eq_true rfl) (Nat.le_of_ble_eq_true rfl) (by omega) (by omega) rfl ?_
              refine tz_pI (pc := 105) (kz := 7) dX5_next_105 fl_X5_21 i_163_7 rfl rfl (by omega) ?_
              have loop108 : ∀ (f9 : Nat) (J2 : zJ), ((J2 163 4 - J2 163 7).toNat) < f9 → (zOf (zbut [163]) J2 J ∧ J2 163 4 = J 163 4 ∧ J2 163 8 = J 163 8) → ((0 ≤ J2 163 6 ∧ J2 163 6 ≤ J2 163 7) ∧ J2 163 7 ≤ J2 163 4 ∧ (J2 163 5 = 0 ∨ J2 163 6 < J2 163 4)) → tz_At l G M_X5_next (tb_rm 1 0 0) none (tb_ZM G 0 0 (zQ n 0 (zqv (fun J' => RN J' J ∧ RD2 J' ∧ J' 163 8 = J 163 8))) (zX n 0 zN)) 0 0 n J2 108 [some (.ref 163)] [] := by
                intro f9
                induction f9 with
                | zero => intro J2 hm9; exact absurd hm9 (Nat.not_lt_zero _)
                | succ f9 ih108 =>
                  intro J2 hm108 f2 h2
                  have r42 := f2.2.1
                  have h2a := h2.1
                  have h2b := h2.2.1
                  refine tz_aload_n (pc := 108) dX5_next_108 rfl rfl ?_
                  refine tz_fI (pc := 109) (kz := 5) (v := (J2 163 5)) dX5_next_109 fl_X5_15 i_163_5 rfl rfl (fun r_109 => ?_)
                  refine tz_iconst (pc := 112) dX5_next_112 ?_
                  refine tz_icmp_eq (pc := 113) (tgt := 124) dX5_next_113 (by decide) (by omega) (by decide) (fun h_113 => ?_) (fun h_113 => ?_)
                  · refine tz_aload_n (pc := 124) dX5_next_124 rfl rfl ?_
                    refine tz_fI (pc := 125) (kz := 7) (v := (J2 163 7)) dX5_next_125 fl_X5_21 i_163_7 rfl rfl (fun r_125 => ?_)
                    refine tz_aload_n (pc := 128) dX5_next_128 rfl rfl ?_
                    refine tz_fI (pc := 129) (kz := 4) (v := (J2 163 4)) dX5_next_129 fl_X5_9 i_163_4 rfl rfl (fun r_129 => ?_)
                    refine tz_icmp_ge (pc := 132) (tgt := 167) dX5_next_132 (by decide) (by omega) (by omega) (fun h_132 => ?_) (fun h_132 => ?_)
                    · exact tz_vret (pc := 167) dX5_next_167 rfl (Nat.le_of_ble_eq_true rfl) (Nat.le_of_ble_eq_true rfl) ⟨Nat.le_refl _, Nat.le_add_right _ _⟩ ⟨rfl, ⟨⟨f2.1, f2.2.1, fun q => by rw [← f2.2.2]; exact q⟩, ⟨⟨h2.1, h2.2.1, by omega⟩, h2.2.2⟩, f2.2.2⟩⟩
                    · refine tz_aload_n (pc := 135) dX5_next_135 rfl rfl ?_
                      refine tz_fR (pc := 136) dX5_next_136 fl_X5_34 r_163_0 ?_
                      refine tz_aload_n (pc := 139) dX5_next_139 rfl rfl ?_
                      refine tz_fI (pc := 140) (kz := 7) (v := (J2 163 7)) dX5_next_140 fl_X5_21 i_163_7 rfl rfl (fun r_140 => ?_)
                      refine tz_aL (pc := 143) (z := (J2 163 7)) (v := (J 162 (J2 163 7))) dX5_next_143 a_162 rfl (by omega) (Eq.trans (congrFun (f2.1 162 rfl) (J2 163 7)) rfl) (fun r_143 => ?_)
                      refine tz_cS (pc := 144) (c_kindOf hl n _ _ (by omega)) sl_X5_101 dX5_next_144 rfl rfl (Nat.le_of_ble_eq_true rfl) ⟨(Nat.le_of_ble_eq_true rfl), (Nat.le_of_ble_eq_true rfl)⟩ rfl rfl (Nat.le_of_ble_eq_true rfl) (Nat.le_of_ble_eq_true rfl) (fun r9 J_144 hq9 => ?_)
                      obtain ⟨z_144, rfl, hz_144, rfl⟩ := hq9
                      refine tz_aload_n (pc := 147) dX5_next_147 rfl rfl ?_
                      refine tz_fI (pc := 148) (kz := 5) (v := (J2 163 5)) dX5_next_148 fl_X5_15 i_163_5 rfl rfl (fun r_148 => ?_)
                      refine tz_icmp_ne (pc := 151) (tgt := 167) dX5_next_151 (by decide) (by omega) (by omega) (fun h_151 => ?_) (fun h_151 => ?_)
                      · exact tz_vret (pc := 167) dX5_next_167 rfl (Nat.le_of_ble_eq_true rfl) (Nat.le_of_ble_eq_true rfl) ⟨Nat.le_refl _, Nat.le_add_right _ _⟩ ⟨rfl, ⟨⟨f2.1, f2.2.1, fun q => by rw [← f2.2.2]; exact q⟩, ⟨⟨h2.1, h2.2.1, by omega⟩, h2.2.2⟩, f2.2.2⟩⟩
                      · refine tz_aload_n (pc := 154) dX5_next_154 rfl rfl ?_
                        refine tz_dup (pc := 155) dX5_next_155 rfl ?_
                        refine tz_fI (pc := 156) (kz := 7) (v := (J2 163 7)) dX5_next_156 fl_X5_21 i_163_7 rfl rfl (fun r_156 => ?_)
                        refine tz_iconst (pc := 159) dX5_next_159 ?_
                        refine tz_iadd (pc := 160) (v := (J2 163 7) + 1) dX5_next_160 rfl ?_
                        refine tz_pI (pc := 161) (kz := 7) dX5_next_161 fl_X5_21 i_163_7 rfl rfl (by omega) ?_
                        refine tz_goto (pc := 164) (tgt := 108) dX5_next_164 (by decide) ?_
                        exact ih108 _ (by show (J2 163 4 - (J2 163 7 + 1)).toNat < _; omega) ⟨zOf.up rfl f2.1, f2.2⟩ ⟨⟨h2.1.1, by show J2 163 6 ≤ J2 163 7 + 1; omega⟩, by show J2 163 7 + 1 ≤ J2 163 4; omega, h2.2.2⟩
                  · refine tz_aload_n (pc := 116) dX5_next_116 rfl rfl ?_
                    refine tz_fI (pc := 117) (kz := 5) (v := (J2 163 5)) dX5_next_117 fl_X5_15 i_163_5 rfl rfl (fun r_117 => ?_)
                    refine tz_iconst (pc := 120) dX5_next_120 ?_
                    refine tz_icmp_ne (pc := 121) (tgt := 167) dX5_next_121 (by decide) (by omega) (by decide) (fun h_121 => ?_) (fun h_121 => ?_)
                    · exact tz_vret (pc := 167) dX5_next_167 rfl (Nat.le_of_ble_eq_true rfl) (Nat.le_of_ble_eq_true rfl) ⟨Nat.le_refl _, Nat.le_add_right _ _⟩ ⟨rfl, ⟨⟨f2.1, f2.2.1, fun q => by rw [← f2.2.2]; exact q⟩, ⟨⟨h2.1, h2.2.1, by omega⟩, h2.2.2⟩, f2.2.2⟩⟩
                    · refine tz_aload_n (pc := 124) dX5_next_124 rfl rfl ?_
                      refine tz_fI (pc := 125) (kz := 7) (v := (J2 163 7)) dX5_next_125 fl_X5_21 i_163_7 rfl rfl (fun r_125 => ?_)
                      refine tz_aload_n (pc := 128) dX5_next_128 rfl rfl ?_
                      refine tz_fI (pc := 129) (kz := 4) (v := (J2 163 4)) dX5_next_129 fl_X5_9 i_163_4 rfl rfl (fun r_129 => ?_)
                      refine tz_icmp_ge (pc := 132) (tgt := 167) dX5_next_132 (by decide) (by omega) (by omega) (fun h_132 => ?_) (fun h_132 => ?_)
                      · exact tz_vret (pc := 167) dX5_next_167 rfl (Nat.le_of_ble_eq_true rfl) (Nat.le_of_ble_eq_true rfl) ⟨Nat.le_refl _, Nat.le_add_right _ _⟩ ⟨rfl, ⟨⟨f2.1, f2.2.1, fun q => by rw [← f2.2.2]; exact q⟩, ⟨⟨h2.1, h2.2.1, by omega⟩, h2.2.2⟩, f2.2.2⟩⟩
                      · refine tz_aload_n (pc := 135) dX5_next_135 rfl rfl ?_
                        refine tz_fR (pc := 136) dX5_next_136 fl_X5_34 r_163_0 ?_
                        refine tz_aload_n (pc := 139) dX5_next_139 rfl rfl ?_
                        refine tz_fI (pc := 140) (kz := 7) (v := (J2 163 7)) dX5_next_140 fl_X5_21 i_163_7 rfl rfl (fun r_140 => ?_)
                        refine tz_aL (pc := 143) (z := (J2 163 7)) (v := (J 162 (J2 163 7))) dX5_next_143 a_162 rfl (by omega) (Eq.trans (congrFun (f2.1 162 rfl) (J2 163 7)) rfl) (fun r_143 => ?_)
                        refine tz_cS (pc := 144) (c_kindOf hl n _ _ (by omega)) sl_X5_101 dX5_next_144 rfl rfl (Nat.le_of_ble_eq_true rfl) ⟨(Nat.le_of_ble_eq_true rfl), (Nat.le_of_ble_eq_true rfl)⟩ rfl rfl (Nat.le_of_ble_eq_true rfl) (Nat.le_of_ble_eq_true rfl) (fun r9 J_144 hq9 => ?_)
                        obtain ⟨z_144, rfl, hz_144, rfl⟩ := hq9
                        refine tz_aload_n (pc := 147) dX5_next_147 rfl rfl ?_
                        refine tz_fI (pc := 148) (kz := 5) (v := (J2 163 5)) dX5_next_148 fl_X5_15 i_163_5 rfl rfl (fun r_148 => ?_)
                        refine tz_icmp_ne (pc := 151) (tgt := 167) dX5_next_151 (by decide) (by omega) (by omega) (fun h_151 => ?_) (fun h_151 => ?_)
                        · exact tz_vret (pc := 167) dX5_next_167 rfl (Nat.le_of_ble_eq_true rfl) (Nat.le_of_ble_eq_true rfl) ⟨Nat.le_refl _, Nat.le_add_right _ _⟩ ⟨rfl, ⟨⟨f2.1, f2.2.1, fun q => by rw [← f2.2.2]; exact q⟩, ⟨⟨h2.1, h2.2.1, by omega⟩, h2.2.2⟩, f2.2.2⟩⟩
                        · refine tz_aload_n (pc := 154) dX5_next_154 rfl rfl ?_
                          refine tz_dup (pc := 155) dX5_next_155 rfl ?_
                          refine tz_fI (pc := 156) (kz := 7) (v := (J2 163 7)) dX5_next_156 fl_X5_21 i_163_7 rfl rfl (fun r_156 => ?_)
                          refine tz_iconst (pc := 159) dX5_next_159 ?_
                          refine tz_iadd (pc := 160) (v := (J2 163 7) + 1) dX5_next_160 rfl ?_
                          refine tz_pI (pc := 161) (kz := 7) dX5_next_161 fl_X5_21 i_163_7 rfl rfl (by omega) ?_
                          refine tz_goto (pc := 164) (tgt := 108) dX5_next_164 (by decide) ?_
                          exact ih108 _ (by show (J2 163 4 - (J2 163 7 + 1)).toNat < _; omega) ⟨zOf.up rfl f2.1, f2.2⟩ ⟨⟨h2.1.1, by show J2 163 6 ≤ J2 163 7 + 1; omega⟩, by show J2 163 7 + 1 ≤ J2 163 4; omega, h2.2.2⟩
              exact loop108 _ _ (Nat.lt_succ_self _) ⟨zOf.up rfl (zOf.up rfl f1.1), f1.2⟩ (by first | exact ⟨⟨h1.1, by show J1 163 6 ≤ zmn _ _; omega⟩, by show zmn _ _ ≤ J1 163 4; omega, Or.inr (by show J1 163 6 < J1 163 4; omega)⟩ | exact ⟨⟨h1.1, by show J1 163 6 ≤ zmn _ _; omega⟩, by show zmn _ _ ≤ J1 163 4; omega, Or.inl rfl⟩)
            · refine tz_aload_n (pc := 72) dX5_next_72 rfl rfl ?_
              refine tz_fR (pc := 73) dX5_next_73 fl_X5_34 r_163_0 ?_
              refine tz_aload_n (pc := 76) dX5_next_76 rfl rfl ?_
              refine tz_fI (pc := 77) (kz := 6) (v := (J1 163 6)) dX5_next_77 fl_X5_18 i_163_6 rfl rfl (fun r_77 => ?_)
              refine tz_aL (pc := 80) (z := (J1 163 6)) (v := (J 162 (J1 163 6))) dX5_next_80 a_162 rfl (by omega) (Eq.trans (congrFun (f1.1 162 rfl) (J1 163 6)) rfl) (fun r_80 => ?_)
              refine tz_cS (pc := 81) (c_kindOf hl n _ _ (by omega)) sl_X5_101 dX5_next_81 rfl rfl (Nat.le_of_ble_eq_true rfl) ⟨(Nat.le_of_ble_eq_true rfl), (Nat.le_of_ble_eq_true rfl)⟩ rfl rfl (Nat.le_of_ble_eq_true rfl) (Nat.le_of_ble_eq_true rfl) (fun r9 J_81 hq9 => ?_)
              obtain ⟨z_81, rfl, hz_81, rfl⟩ := hq9
              refine tz_goto (pc := 84) (tgt := 88) dX5_next_84 (by decide) ?_
              refine tz_pI (pc := 88) (kz := 5) dX5_next_88 fl_X5_15 i_163_5 rfl rfl (by omega) ?_
              refine tz_aload_n (pc := 91) dX5_next_91 rfl rfl ?_
              refine tz_aload_n (pc := 92) dX5_next_92 rfl rfl ?_
              refine tz_fI (pc := 93) (kz := 6) (v := (J1 163 6)) dX5_next_93 fl_X5_18 i_163_6 rfl rfl (fun r_93 => ?_)
              refine tz_iconst (pc := 96) dX5_next_96 ?_
              refine tz_iadd (pc := 97) (v := (J1 163 6) + 1) dX5_next_97 rfl ?_
              refine tz_aload_n (pc := 98) dX5_next_98 rfl rfl ?_
              refine tz_fI (pc := 99) (kz := 4) (v := (J1 163 4)) dX5_next_99 fl_X5_9 i_163_4 rfl rfl (fun r_99 => ?_)
              have hmn := zmn_le (J1 163 6 + 1) (J1 163 4)
              refine tz_mn (pc := 102) (v := zmn (J1 163 6 + 1) (J1 163 4)) dX5_next_102 ml_X5_59 (Nat.le_of_ble_eq_true rfl) (Nat.le_of_ble_eq_true rfl) (Nat.le_of_ble_eq_true rfl) (Nat.le_of_ble_eq_true rfl) (by omega) (by omega) rfl ?_
              refine tz_pI (pc := 105) (kz := 7) dX5_next_105 fl_X5_21 i_163_7 rfl rfl (by omega) ?_
              have loop108 : ∀ (f9 : Nat) (J2 : zJ), ((J2 163 4 - J2 163 7).toNat) < f9 → (zOf (zbut [163]) J2 J ∧ J2 163 4 = J 163 4 ∧ J2 163 8 = J 163 8) → ((0 ≤ J2 163 6 ∧ J2 163 6 ≤ J2 163 7) ∧ J2 163 7 ≤ J2 163 4 ∧ (J2 163 5 = 0 ∨ J2 163 6 < J2 163 4)) → tz_At l G M_X5_next (tb_rm 1 0 0) none (tb_ZM G 0 0 (zQ n 0 (zqv (fun J' => RN J' J ∧ RD2 J' ∧ J' 163 8 = J 163 8))) (zX n 0 zN)) 0 0 n J2 108 [some (.ref 163)] [] := by
                intro f9
                induction f9 with
                | zero => intro J2 hm9; exact absurd hm9 (Nat.not_lt_zero _)
                | succ f9 ih108 =>
                  intro J2 hm108 f2 h2
                  have r42 := f2.2.1
                  have h2a := h2.1
                  have h2b := h2.2.1
                  refine tz_aload_n (pc := 108) dX5_next_108 rfl rfl ?_
                  refine tz_fI (pc := 109) (kz := 5) (v := (J2 163 5)) dX5_next_109 fl_X5_15 i_163_5 rfl rfl (fun r_109 => ?_)
                  refine tz_iconst (pc := 112) dX5_next_112 ?_
                  refine tz_icmp_eq (pc := 113) (tgt := 124) dX5_next_113 (by decide) (by omega) (by decide) (fun h_113 => ?_) (fun h_113 => ?_)
                  · refine tz_aload_n (pc := 124) dX5_next_124 rfl rfl ?_
                    refine tz_fI (pc := 125) (kz := 7) (v := (J2 163 7)) dX5_next_125 fl_X5_21 i_163_7 rfl rfl (fun r_125 => ?_)
                    refine tz_aload_n (pc := 128) dX5_next_128 rfl rfl ?_
                    refine tz_fI (pc := 129) (kz := 4) (v := (J2 163 4)) dX5_next_129 fl_X5_9 i_163_4 rfl rfl (fun r_129 => ?_)
                    refine tz_icmp_ge (pc := 132) (tgt := 167) dX5_next_132 (by decide) (by omega) (by omega) (fun h_132 => ?_) (fun h_132 => ?_)
                    · exact tz_vret (pc := 167) dX5_next_167 rfl (Nat.le_of_ble_eq_true rfl) (Nat.le_of_ble_eq_true rfl) ⟨Nat.le_refl _, Nat.le_add_right _ _⟩ ⟨rfl, ⟨⟨f2.1, f2.2.1, fun q => by rw [← f2.2.2]; exact q⟩, ⟨⟨h2.1, h2.2.1, by omega⟩, h2.2.2⟩, f2.2.2⟩⟩
                    · refine tz_aload_n (pc := 135) dX5_next_135 rfl rfl ?_
                      refine tz_fR (pc := 136) dX5_next_136 fl_X5_34 r_163_0 ?_
                      refine tz_aload_n (pc := 139) dX5_next_139 rfl rfl ?_
                      refine tz_fI (pc := 140) (kz := 7) (v := (J2 163 7)) dX5_next_140 fl_X5_21 i_163_7 rfl rfl (fun r_140 => ?_)
                      refine tz_aL (pc := 143) (z := (J2 163 7)) (v := (J 162 (J2 163 7))) dX5_next_143 a_162 rfl (by omega) (Eq.trans (congrFun (f2.1 162 rfl) (J2 163 7)) rfl) (fun r_143 => ?_)
                      refine tz_cS (pc := 144) (c_kindOf hl n _ _ (by omega)) sl_X5_101 dX5_next_144 rfl rfl (Nat.le_of_ble_eq_true rfl) ⟨(Nat.le_of_ble_eq_true rfl), (Nat.le_of_ble_eq_true rfl)⟩ rfl rfl (Nat.le_of_ble_eq_true rfl) (Nat.le_of_ble_eq_true rfl) (fun r9 J_144 hq9 => ?_)
                      obtain ⟨z_144, rfl, hz_144, rfl⟩ := hq9
                      refine tz_aload_n (pc := 147) dX5_next_147 rfl rfl ?_
                      refine tz_fI (pc := 148) (kz := 5) (v := (J2 163 5)) dX5_next_148 fl_X5_15 i_163_5 rfl rfl (fun r_148 => ?_)
                      refine tz_icmp_ne (pc := 151) (tgt := 167) dX5_next_151 (by decide) (by omega) (by omega) (fun h_151 => ?_) (fun h_151 => ?_)
                      · exact tz_vret (pc := 167) dX5_next_167 rfl (Nat.le_of_ble_eq_true rfl) (Nat.le_of_ble_eq_true rfl) ⟨Nat.le_refl _, Nat.le_add_right _ _⟩ ⟨rfl, ⟨⟨f2.1, f2.2.1, fun q => by rw [← f2.2.2]; exact q⟩, ⟨⟨h2.1, h2.2.1, by omega⟩, h2.2.2⟩, f2.2.2⟩⟩
                      · refine tz_aload_n (pc := 154) dX5_next_154 rfl rfl ?_
                        refine tz_dup (pc := 155) dX5_next_155 rfl ?_
                        refine tz_fI (pc := 156) (kz := 7) (v := (J2 163 7)) dX5_next_156 fl_X5_21 i_163_7 rfl rfl (fun r_156 => ?_)
                        refine tz_iconst (pc := 159) dX5_next_159 ?_
                        refine tz_iadd (pc := 160) (v := (J2 163 7) + 1) dX5_next_160 rfl ?_
                        refine tz_pI (pc := 161) (kz := 7) dX5_next_161 fl_X5_21 i_163_7 rfl rfl (by omega) ?_
                        refine tz_goto (pc := 164) (tgt := 108) dX5_next_164 (by decide) ?_
                        exact ih108 _ (by show (J2 163 4 - (J2 163 7 + 1)).toNat < _; omega) ⟨zOf.up rfl f2.1, f2.2⟩ ⟨⟨h2.1.1, by show J2 163 6 ≤ J2 163 7 + 1; omega⟩, by show J2 163 7 + 1 ≤ J2 163 4; omega, h2.2.2⟩
                  · refine tz_aload_n (pc := 116) dX5_next_116 rfl rfl ?_
                    refine tz_fI (pc := 117) (kz := 5) (v := (J2 163 5)) dX5_next_117 fl_X5_15 i_163_5 rfl rfl (fun r_117 => ?_)
                    refine tz_iconst (pc := 120) dX5_next_120 ?_
                    refine tz_icmp_ne (pc := 121) (tgt := 167) dX5_next_121 (by decide) (by omega) (by decide) (fun h_121 => ?_) (fun h_121 => ?_)
                    · exact tz_vret (pc := 167) dX5_next_167 rfl (Nat.le_of_ble_eq_true rfl) (Nat.le_of_ble_eq_true rfl) ⟨Nat.le_refl _, Nat.le_add_right _ _⟩ ⟨rfl, ⟨⟨f2.1, f2.2.1, fun q => by rw [← f2.2.2]; exact q⟩, ⟨⟨h2.1, h2.2.1, by omega⟩, h2.2.2⟩, f2.2.2⟩⟩
                    · refine tz_aload_n (pc := 124) dX5_next_124 rfl rfl ?_
                      refine tz_fI (pc := 125) (kz := 7) (v := (J2 163 7)) dX5_next_125 fl_X5_21 i_163_7 rfl rfl (fun r_125 => ?_)
                      refine tz_aload_n (pc := 128) dX5_next_128 rfl rfl ?_
                      refine tz_fI (pc := 129) (kz := 4) (v := (J2 163 4)) dX5_next_129 fl_X5_9 i_163_4 rfl rfl (fun r_129 => ?_)
                      refine tz_icmp_ge (pc := 132) (tgt := 167) dX5_next_132 (by decide) (by omega) (by omega) (fun h_132 => ?_) (fun h_132 => ?_)
                      · exact tz_vret (pc := 167) dX5_next_167 rfl (Nat.le_of_ble_eq_true rfl) (Nat.le_of_ble_eq_true rfl) ⟨Nat.le_refl _, Nat.le_add_right _ _⟩ ⟨rfl, ⟨⟨f2.1, f2.2.1, fun q => by rw [← f2.2.2]; exact q⟩, ⟨⟨h2.1, h2.2.1, by omega⟩, h2.2.2⟩, f2.2.2⟩⟩
                      · refine tz_aload_n (pc := 135) dX5_next_135 rfl rfl ?_
                        refine tz_fR (pc := 136) dX5_next_136 fl_X5_34 r_163_0 ?_
                        refine tz_aload_n (pc := 139) dX5_next_139 rfl rfl ?_
                        refine tz_fI (pc := 140) (kz := 7) (v := (J2 163 7)) dX5_next_140 fl_X5_21 i_163_7 rfl rfl (fun r_140 => ?_)
                        refine tz_aL (pc := 143) (z := (J2 163 7)) (v := (J 162 (J2 163 7))) dX5_next_143 a_162 rfl (by omega) (Eq.trans (congrFun (f2.1 162 rfl) (J2 163 7)) rfl) (fun r_143 => ?_)
                        refine tz_cS (pc := 144) (c_kindOf hl n _ _ (by omega)) sl_X5_101 dX5_next_144 rfl rfl (Nat.le_of_ble_eq_true rfl) ⟨(Nat.le_of_ble_eq_true rfl), (Nat.le_of_ble_eq_true rfl)⟩ rfl rfl (Nat.le_of_ble_eq_true rfl) (Nat.le_of_ble_eq_true rfl) (fun r9 J_144 hq9 => ?_)
                        obtain ⟨z_144, rfl, hz_144, rfl⟩ := hq9
                        refine tz_aload_n (pc := 147) dX5_next_147 rfl rfl ?_
                        refine tz_fI (pc := 148) (kz := 5) (v := (J2 163 5)) dX5_next_148 fl_X5_15 i_163_5 rfl rfl (fun r_148 => ?_)
                        refine tz_icmp_ne (pc := 151) (tgt := 167) dX5_next_151 (by decide) (by omega) (by omega) (fun h_151 => ?_) (fun h_151 => ?_)
                        · exact tz_vret (pc := 167) dX5_next_167 rfl (Nat.le_of_ble_eq_true rfl) (Nat.le_of_ble_eq_true rfl) ⟨Nat.le_refl _, Nat.le_add_right _ _⟩ ⟨rfl, ⟨⟨f2.1, f2.2.1, fun q => by rw [← f2.2.2]; exact q⟩, ⟨⟨h2.1, h2.2.1, by omega⟩, h2.2.2⟩, f2.2.2⟩⟩
                        · refine tz_aload_n (pc := 154) dX5_next_154 rfl rfl ?_
                          refine tz_dup (pc := 155) dX5_next_155 rfl ?_
                          refine tz_fI (pc := 156) (kz := 7) (v := (J2 163 7)) dX5_next_156 fl_X5_21 i_163_7 rfl rfl (fun r_156 => ?_)
                          refine tz_iconst (pc := 159) dX5_next_159 ?_
                          refine tz_iadd (pc := 160) (v := (J2 163 7) + 1) dX5_next_160 rfl ?_
                          refine tz_pI (pc := 161) (kz := 7) dX5_next_161 fl_X5_21 i_163_7 rfl rfl (by omega) ?_
                          refine tz_goto (pc := 164) (tgt := 108) dX5_next_164 (by decide) ?_
                          exact ih108 _ (by show (J2 163 4 - (J2 163 7 + 1)).toNat < _; omega) ⟨zOf.up rfl f2.1, f2.2⟩ ⟨⟨h2.1.1, by show J2 163 6 ≤ J2 163 7 + 1; omega⟩, by show J2 163 7 + 1 ≤ J2 163 4; omega, h2.2.2⟩
              exact loop108 _ _ (Nat.lt_succ_self _) ⟨zOf.up rfl (zOf.up rfl f1.1), f1.2⟩ (by first | exact ⟨⟨h1.1, by show J1 163 6 ≤ zmn _ _; omega⟩, by show zmn _ _ ≤ J1 163 4; omega, Or.inr (by show J1 163 6 < J1 163 4; omega)⟩ | exact ⟨⟨h1.1, by show J1 163 6 ≤ zmn _ _; omega⟩, by show zmn _ _ ≤ J1 163 4; omega, Or.inl rfl⟩)
          · refine tz_aload_n (pc := 47) dX5_next_47 rfl rfl ?_
            refine tz_dup (pc := 48) dX5_next_48 rfl ?_
            refine tz_fI (pc := 49) (kz := 6) (v := (J1 163 6)) dX5_next_49 fl_X5_18 i_163_6 rfl rfl (fun r_49 => ?_)
            refine tz_iconst (pc := 52) dX5_next_52 ?_
            refine tz_iadd (pc := 53) (v := (J1 163 6) + 1) dX5_next_53 rfl ?_
            refine tz_pI (pc := 54) (kz := 6) dX5_next_54 fl_X5_18 i_163_6 rfl rfl (by omega) ?_
            refine tz_goto (pc := 57) (tgt := 8) dX5_next_57 (by decide) ?_
            exact ih8 _ (by show (J1 163 4 - (J1 163 6 + 1)).toNat < _; omega) ⟨zOf.up rfl f1.1, f1.2⟩ ⟨by show 0 ≤ J1 163 6 + 1; omega, by show J1 163 6 + 1 ≤ J1 163 4; omega⟩
  exact loop8 _ _ (Nat.lt_succ_self _) ⟨zOf.up rfl zOf.rf, rfl, rfl⟩ ⟨h0.1, h0.2⟩

set_option maxHeartbeats 4000000 in
set_option maxRecDepth 100000 in
theorem c_fail {l : Launch} {G : tb_G} (hl : l.stackTraces = false) (n : Nat) (J : zJ) (k : Int) (hr_k : -2147483648 ≤ k ∧ k < 2147483648)  (hk : ¬ k = 0) : tz_Ok l G M_X5_fail 0 0 0 [.ref 163, zi k] n J (zqi (fun z J' => RN J' J ∧ (RD2 J → RD2 J') ∧ z = -1 ∧ ¬ J' 163 8 = 0)) zN := by
  refine tz_Ok.of hl (by decide +kernel) rfl (tb_c1 rfl) (Nat.le_of_ble_eq_true rfl) ?_
  show tz_At l G M_X5_fail (tb_rm 0 0 0) none (tb_ZM G 0 0 (zQ n 0 (zqi (fun z J' => RN J' J ∧ (RD2 J → RD2 J') ∧ z = -1 ∧ ¬ J' 163 8 = 0))) (zX n 0 zN)) 0 0 n J 0 [some (.ref 163), some (zi k)] []
  refine tz_aload_n (pc := 0) dX5_fail_0 rfl rfl ?_
  refine tz_fI (pc := 1) (kz := 8) (v := (J 163 8)) dX5_fail_1 fl_X5_24 i_163_8 rfl rfl (fun r_1 => ?_)
  refine tz_if_ne (pc := 4) (tgt := 20) dX5_fail_4 (by decide) (by omega) (fun h_4 => ?_) (fun h_4 => ?_)
  · refine tz_iconst (pc := 20) dX5_fail_20 ?_
    exact tz_iret (pc := 21) (z := (-1)) dX5_fail_21 rfl (Nat.le_of_ble_eq_true rfl) (Nat.le_of_ble_eq_true rfl) ⟨Nat.le_refl _, Nat.le_add_right _ _⟩ ⟨_, rfl, (by decide), (by first | exact ⟨⟨zOf.up rfl (zOf.up rfl zOf.rf), rfl, fun _ => by omega⟩, id, rfl, hk⟩ | exact ⟨RN.rf, id, rfl, by omega⟩)⟩
  · refine tz_aload_n (pc := 7) dX5_fail_7 rfl rfl ?_
    refine tz_iload_n (pc := 8) dX5_fail_8 rfl rfl ?_
    refine tz_pI (pc := 9) (kz := 8) dX5_fail_9 fl_X5_24 i_163_8 rfl rfl (by omega) ?_
    refine tz_aload_n (pc := 12) dX5_fail_12 rfl rfl ?_
    refine tz_aload_n (pc := 13) dX5_fail_13 rfl rfl ?_
    refine tz_fI (pc := 14) (kz := 6) (v := (J 163 6)) dX5_fail_14 fl_X5_18 i_163_6 rfl rfl (fun r_14 => ?_)
    refine tz_pI (pc := 17) (kz := 9) dX5_fail_17 fl_X5_27 i_163_9 rfl rfl (by omega) ?_
    refine tz_iconst (pc := 20) dX5_fail_20 ?_
    exact tz_iret (pc := 21) (z := (-1)) dX5_fail_21 rfl (Nat.le_of_ble_eq_true rfl) (Nat.le_of_ble_eq_true rfl) ⟨Nat.le_refl _, Nat.le_add_right _ _⟩ ⟨_, rfl, (by decide), (by first | exact ⟨⟨zOf.up rfl (zOf.up rfl zOf.rf), rfl, fun _ => by omega⟩, id, rfl, hk⟩ | exact ⟨RN.rf, id, rfl, by omega⟩)⟩

set_option maxHeartbeats 4000000 in
set_option maxRecDepth 100000 in
theorem c_pass {l : Launch} {G : tb_G} (hl : l.stackTraces = false) (n : Nat) (J : zJ) (k : Int) (hr_k : -2147483648 ≤ k ∧ k < 2147483648)  (hD : RD2 J) : tz_Ok l G M_X5_pass 2 0 0 [.ref 163, zi k] n J (zqv (fun J' => RN J' J ∧ RD2 J')) zN := by
  refine tz_Ok.of hl (by decide +kernel) rfl (tb_c1 rfl) (Nat.le_of_ble_eq_true rfl) ?_
  show tz_At l G M_X5_pass (tb_rm 2 0 0) none (tb_ZM G 0 0 (zQ n 0 (zqv (fun J' => RN J' J ∧ RD2 J'))) (zX n 0 zN)) 0 0 n J 0 [some (.ref 163), some (zi k)] []
  refine tz_aload_n (pc := 0) dX5_pass_0 rfl rfl ?_
  refine tz_fI (pc := 1) (kz := 8) (v := (J 163 8)) dX5_pass_1 fl_X5_24 i_163_8 rfl rfl (fun r_1 => ?_)
  refine tz_if_eq (pc := 4) (tgt := 8) dX5_pass_4 (by decide) (by omega) (fun h_4 => ?_) (fun h_4 => ?_)
  · refine tz_aload_n (pc := 8) dX5_pass_8 rfl rfl ?_
    refine tz_fI (pc := 9) (kz := 5) (v := (J 163 5)) dX5_pass_9 fl_X5_15 i_163_5 rfl rfl (fun r_9 => ?_)
    refine tz_iload_n (pc := 12) dX5_pass_12 rfl rfl ?_
    refine tz_icmp_eq (pc := 13) (tgt := 23) dX5_pass_13 (by decide) (by omega) (by omega) (fun h_13 => ?_) (fun h_13 => ?_)
    · refine tz_aload_n (pc := 23) dX5_pass_23 rfl rfl ?_
      refine tz_cV (pc := 24) (c_next hl n _ (by have := hD.1; exact ⟨by have := this.1; omega, this.2.1⟩) hD.1.2.2) vl_X5_65 dX5_pass_24 o_163 rfl rfl (Nat.le_of_ble_eq_true rfl) ⟨(Nat.le_of_ble_eq_true rfl), (Nat.le_of_ble_eq_true rfl)⟩ rfl rfl (Nat.le_of_ble_eq_true rfl) (Nat.le_of_ble_eq_true rfl) (fun r9 J_24 hq9 => ?_)
      obtain ⟨rfl, g9, d9, v9⟩ := hq9
      exact tz_vret (pc := 27) dX5_pass_27 rfl (Nat.le_of_ble_eq_true rfl) (Nat.le_of_ble_eq_true rfl) ⟨Nat.le_refl _, Nat.le_add_right _ _⟩ ⟨rfl, (by first | exact ⟨g9, d9 hD⟩ | exact ⟨g9, d9⟩ | exact ⟨RN.rf, hD⟩)⟩
    · refine tz_aload_n (pc := 16) dX5_pass_16 rfl rfl ?_
      refine tz_iconst (pc := 17) dX5_pass_17 ?_
      refine tz_cV (pc := 18) (c_fail hl n _ _ (by decide) (by decide)) vl_X5_97 dX5_pass_18 o_163 rfl rfl (Nat.le_of_ble_eq_true rfl) ⟨(Nat.le_of_ble_eq_true rfl), (Nat.le_of_ble_eq_true rfl)⟩ rfl rfl (Nat.le_of_ble_eq_true rfl) (Nat.le_of_ble_eq_true rfl) (fun r9 J_18 hq9 => ?_)
      obtain ⟨z_18, rfl, hz_18, g9, d9, e9, v9⟩ := hq9
      refine tz_pop (pc := 21) dX5_pass_21 rfl ?_
      exact tz_vret (pc := 22) dX5_pass_22 rfl (Nat.le_of_ble_eq_true rfl) (Nat.le_of_ble_eq_true rfl) ⟨Nat.le_refl _, Nat.le_add_right _ _⟩ ⟨rfl, (by first | exact ⟨g9, d9 hD⟩ | exact ⟨g9, d9⟩ | exact ⟨RN.rf, hD⟩)⟩
  · exact tz_vret (pc := 7) dX5_pass_7 rfl (Nat.le_of_ble_eq_true rfl) (Nat.le_of_ble_eq_true rfl) ⟨Nat.le_refl _, Nat.le_add_right _ _⟩ ⟨rfl, (by first | exact ⟨g9, d9 hD⟩ | exact ⟨g9, d9⟩ | exact ⟨RN.rf, hD⟩)⟩

set_option maxHeartbeats 4000000 in
set_option maxRecDepth 100000 in
theorem c_readNum {l : Launch} {G : tb_G} (hl : l.stackTraces = false) (n : Nat) (J : zJ) (a : Int) (b : Int) (hr_a : -2147483648 ≤ a ∧ a < 2147483648) (hr_b : -2147483648 ≤ b ∧ b < 2147483648)  (hD : RD2 J) (ha : a = 0 ∨ a = 1) (hb : 0 ≤ b ∧ b ≤ 9) : tz_Ok l G M_X5_readNumber 2 0 0 [.ref 163, zi a, zi b] n J (zqi (fun z J' => RN J' J ∧ RD2 J' ∧ (J' 163 8 = 0 → a ≤ z ∧ z ≤ b))) zN := by
  refine tz_Ok.of hl (by decide +kernel) rfl (tb_c1 rfl) (Nat.le_of_ble_eq_true rfl) ?_
  show tz_At l G M_X5_readNumber (tb_rm 2 0 0) none (tb_ZM G 0 0 (zQ n 0 (zqi (fun z J' => RN J' J ∧ RD2 J' ∧ (J' 163 8 = 0 → a ≤ z ∧ z ≤ b)))) (zX n 0 zN)) 0 0 n J 0 [some (.ref 163), some (zi a), some (zi b), none] []
  obtain ⟨⟨⟨hD1, hD2⟩, hD3, hD4⟩, hD5⟩ := id hD
  refine tz_aload_n (pc := 0) dX5_readNumber_0 rfl rfl ?_
  refine tz_fI (pc := 1) (kz := 8) (v := (J 163 8)) dX5_readNumber_1 fl_X5_24 i_163_8 rfl rfl (fun r_1 => ?_)
  refine tz_if_eq (pc := 4) (tgt := 9) dX5_readNumber_4 (by decide) (by omega) (fun h_4 => ?_) (fun h_4 => ?_)
  · refine tz_aload_n (pc := 9) dX5_readNumber_9 rfl rfl ?_
    refine tz_fI (pc := 10) (kz := 5) (v := (J 163 5)) dX5_readNumber_10 fl_X5_15 i_163_5 rfl rfl (fun r_10 => ?_)
    refine tz_iconst (pc := 13) dX5_readNumber_13 ?_
    refine tz_icmp_eq (pc := 14) (tgt := 23) dX5_readNumber_14 (by decide) (by omega) (by decide) (fun h_14 => ?_) (fun h_14 => ?_)
    · refine tz_aload_n (pc := 23) dX5_readNumber_23 rfl rfl ?_
      refine tz_fR (pc := 24) dX5_readNumber_24 fl_X5_34 r_163_0 ?_
      refine tz_aload_n (pc := 27) dX5_readNumber_27 rfl rfl ?_
      refine tz_fI (pc := 28) (kz := 6) (v := (J 163 6)) dX5_readNumber_28 fl_X5_18 i_163_6 rfl rfl (fun r_28 => ?_)
      refine tz_aL (pc := 31) (z := (J 163 6)) (v := (J 162 (J 163 6))) dX5_readNumber_31 a_162 rfl (by omega) rfl (fun r_31 => ?_)
      refine tz_bipush (pc := 32) dX5_readNumber_32 (by decide) ?_
      refine tz_isub (pc := 34) (v := (J 162 (J 163 6)) - 48) dX5_readNumber_34 rfl ?_
      refine tz_tw ?_
      have rw_35 := zw_rg ((J 162 (J 163 6)) - 48)
      refine tz_istore_n (pc := 35) (L2 := [_, _, _, _]) dX5_readNumber_35 rfl (by decide) rfl ?_
      refine tz_aload_n (pc := 36) dX5_readNumber_36 rfl rfl ?_
      refine tz_fI (pc := 37) (kz := 7) (v := (J 163 7)) dX5_readNumber_37 fl_X5_21 i_163_7 rfl rfl (fun r_37 => ?_)
      refine tz_aload_n (pc := 40) dX5_readNumber_40 rfl rfl ?_
      refine tz_fI (pc := 41) (kz := 6) (v := (J 163 6)) dX5_readNumber_41 fl_X5_18 i_163_6 rfl rfl (fun r_41 => ?_)
      refine tz_isub (pc := 44) (v := (J 163 7) - (J 163 6)) dX5_readNumber_44 rfl ?_
      refine tz_iconst (pc := 45) dX5_readNumber_45 ?_
      refine tz_icmp_gt (pc := 46) (tgt := 59) dX5_readNumber_46 (by decide) (by omega) (by decide) (fun h_46 => ?_) (fun h_46 => ?_)
      · refine tz_aload_n (pc := 59) dX5_readNumber_59 rfl rfl ?_
        refine tz_iconst (pc := 60) dX5_readNumber_60 ?_
        refine tz_cV (pc := 61) (c_fail hl n _ _ (by decide) (by decide)) vl_X5_97 dX5_readNumber_61 o_163 rfl rfl (Nat.le_of_ble_eq_true rfl) ⟨(Nat.le_of_ble_eq_true rfl), (Nat.le_of_ble_eq_true rfl)⟩ rfl rfl (Nat.le_of_ble_eq_true rfl) (Nat.le_of_ble_eq_true rfl) (fun r9 J_61 hq9 => ?_)
        obtain ⟨z_61, rfl, hz_61, g9, d9, e9, v9⟩ := hq9
        exact tz_iret (pc := 64) (z := z_61) dX5_readNumber_64 rfl (Nat.le_of_ble_eq_true rfl) (Nat.le_of_ble_eq_true rfl) ⟨Nat.le_refl _, Nat.le_add_right _ _⟩ ⟨_, rfl, (by omega), (by first | exact ⟨g9, d9 hD, fun q => absurd q v9⟩ | exact ⟨g9, d9, fun q => by omega⟩ | exact ⟨RN.rf, hD, fun q => by omega⟩)⟩
      · refine tz_iload_n (pc := 49) dX5_readNumber_49 rfl rfl ?_
        refine tz_iload_n (pc := 50) dX5_readNumber_50 rfl rfl ?_
        refine tz_icmp_lt (pc := 51) (tgt := 59) dX5_readNumber_51 (by decide) (zw_rg _) (by omega) (fun h_51 => ?_) (fun h_51 => ?_)
        · refine tz_aload_n (pc := 59) dX5_readNumber_59 rfl rfl ?_
          refine tz_iconst (pc := 60) dX5_readNumber_60 ?_
          refine tz_cV (pc := 61) (c_fail hl n _ _ (by decide) (by decide)) vl_X5_97 dX5_readNumber_61 o_163 rfl rfl (Nat.le_of_ble_eq_true rfl) ⟨(Nat.le_of_ble_eq_true rfl), (Nat.le_of_ble_eq_true rfl)⟩ rfl rfl (Nat.le_of_ble_eq_true rfl) (Nat.le_of_ble_eq_true rfl) (fun r9 J_61 hq9 => ?_)
          obtain ⟨z_61, rfl, hz_61, g9, d9, e9, v9⟩ := hq9
          exact tz_iret (pc := 64) (z := z_61) dX5_readNumber_64 rfl (Nat.le_of_ble_eq_true rfl) (Nat.le_of_ble_eq_true rfl) ⟨Nat.le_refl _, Nat.le_add_right _ _⟩ ⟨_, rfl, (by omega), (by first | exact ⟨g9, d9 hD, fun q => absurd q v9⟩ | exact ⟨g9, d9, fun q => by omega⟩ | exact ⟨RN.rf, hD, fun q => by omega⟩)⟩
        · refine tz_iload_n (pc := 54) dX5_readNumber_54 rfl rfl ?_
          refine tz_iload_n (pc := 55) dX5_readNumber_55 rfl rfl ?_
          refine tz_icmp_le (pc := 56) (tgt := 65) dX5_readNumber_56 (by decide) (zw_rg _) (by omega) (fun h_56 => ?_) (fun h_56 => ?_)
          · refine tz_aload_n (pc := 65) dX5_readNumber_65 rfl rfl ?_
            refine tz_cV (pc := 66) (c_next hl n _ (by have := hD.1; exact ⟨by have := this.1; omega, this.2.1⟩) hD.1.2.2) vl_X5_65 dX5_readNumber_66 o_163 rfl rfl (Nat.le_of_ble_eq_true rfl) ⟨(Nat.le_of_ble_eq_true rfl), (Nat.le_of_ble_eq_true rfl)⟩ rfl rfl (Nat.le_of_ble_eq_true rfl) (Nat.le_of_ble_eq_true rfl) (fun r9 J_66 hq9 => ?_)
            obtain ⟨rfl, g9, d9, v9⟩ := hq9
            refine tz_iload_n (pc := 69) dX5_readNumber_69 rfl rfl ?_
            exact tz_iret (pc := 70) (z := (zw ((J 162 (J 163 6)) - 48))) dX5_readNumber_70 rfl (Nat.le_of_ble_eq_true rfl) (Nat.le_of_ble_eq_true rfl) ⟨Nat.le_refl _, Nat.le_add_right _ _⟩ ⟨_, rfl, (zw_rg _), (by first | exact ⟨g9, d9 hD, fun q => absurd q v9⟩ | exact ⟨g9, d9, fun q => by omega⟩ | exact ⟨RN.rf, hD, fun q => by omega⟩)⟩
          · refine tz_aload_n (pc := 59) dX5_readNumber_59 rfl rfl ?_
            refine tz_iconst (pc := 60) dX5_readNumber_60 ?_
            refine tz_cV (pc := 61) (c_fail hl n _ _ (by decide) (by decide)) vl_X5_97 dX5_readNumber_61 o_163 rfl rfl (Nat.le_of_ble_eq_true rfl) ⟨(Nat.le_of_ble_eq_true rfl), (Nat.le_of_ble_eq_true rfl)⟩ rfl rfl (Nat.le_of_ble_eq_true rfl) (Nat.le_of_ble_eq_true rfl) (fun r9 J_61 hq9 => ?_)
            obtain ⟨z_61, rfl, hz_61, g9, d9, e9, v9⟩ := hq9
            exact tz_iret (pc := 64) (z := z_61) dX5_readNumber_64 rfl (Nat.le_of_ble_eq_true rfl) (Nat.le_of_ble_eq_true rfl) ⟨Nat.le_refl _, Nat.le_add_right _ _⟩ ⟨_, rfl, (by omega), (by first | exact ⟨g9, d9 hD, fun q => absurd q v9⟩ | exact ⟨g9, d9, fun q => by omega⟩ | exact ⟨RN.rf, hD, fun q => by omega⟩)⟩
    · refine tz_aload_n (pc := 17) dX5_readNumber_17 rfl rfl ?_
      refine tz_iconst (pc := 18) dX5_readNumber_18 ?_
      refine tz_cV (pc := 19) (c_fail hl n _ _ (by decide) (by decide)) vl_X5_97 dX5_readNumber_19 o_163 rfl rfl (Nat.le_of_ble_eq_true rfl) ⟨(Nat.le_of_ble_eq_true rfl), (Nat.le_of_ble_eq_true rfl)⟩ rfl rfl (Nat.le_of_ble_eq_true rfl) (Nat.le_of_ble_eq_true rfl) (fun r9 J_19 hq9 => ?_)
      obtain ⟨z_19, rfl, hz_19, g9, d9, e9, v9⟩ := hq9
      exact tz_iret (pc := 22) (z := z_19) dX5_readNumber_22 rfl (Nat.le_of_ble_eq_true rfl) (Nat.le_of_ble_eq_true rfl) ⟨Nat.le_refl _, Nat.le_add_right _ _⟩ ⟨_, rfl, (by omega), (by first | exact ⟨g9, d9 hD, fun q => absurd q v9⟩ | exact ⟨g9, d9, fun q => by omega⟩ | exact ⟨RN.rf, hD, fun q => by omega⟩)⟩
  · refine tz_iconst (pc := 7) dX5_readNumber_7 ?_
    exact tz_iret (pc := 8) (z := (-1)) dX5_readNumber_8 rfl (Nat.le_of_ble_eq_true rfl) (Nat.le_of_ble_eq_true rfl) ⟨Nat.le_refl _, Nat.le_add_right _ _⟩ ⟨_, rfl, (by decide), (by first | exact ⟨g9, d9 hD, fun q => absurd q v9⟩ | exact ⟨g9, d9, fun q => by omega⟩ | exact ⟨RN.rf, hD, fun q => by omega⟩)⟩
end
section
def RT (J' J : zJ) (m m' : Int) : Prop := GX [163] J' J m m' ∧ RD2 J' ∧ (J' 163 8 = 0 → J 163 8 = 0)
theorem RT.rf {J : zJ} {m : Int} (C : CT J m) (hm : J 6 12 = m) (hD : RD2 J) : RT J J m m := ⟨GX.rf C hm, hD, id⟩
theorem RT.tr {J3 J2 J1 : zJ} {m1 m2 m3 : Int} (g : RT J2 J1 m1 m2) (h : RT J3 J2 m2 m3) : RT J3 J1 m1 m3 := ⟨g.1.tr h.1, h.2.1, fun q => g.2.2 (h.2.2 q)⟩
theorem RT.rn {J2 J1 J : zJ} {m m1 : Int} (g : RT J1 J m m1) (h : RN J2 J1) (hD : RD2 J2) : RT J2 J m m1 := ⟨g.1.off rfl h.1, hD, fun q => g.2.2 (h.2.2 q)⟩
theorem RD2.of {J' J : zJ} (h : RD2 J) (e : J' 163 = J 163) : RD2 J' := by
  unfold RD2 RD
  rw [e]
  exact h
theorem RT.made {J2 J1 J : zJ} {m m1 m2 : Int} (g : RT J1 J m m1) (h : GR J2 J1 m1 m2) : RT J2 J m m2 := ⟨g.1.tr h.x, g.2.1.of (h.2.2.2.2 163 rfl), fun q => g.2.2 (by rw [← h.2.2.2.2 163 rfl]; exact q)⟩
set_option maxHeartbeats 4000000 in
set_option maxRecDepth 100000 in
theorem c_held {l : Launch} {G : tb_G} (hl : l.stackTraces = false) (n : Nat) (J : zJ) (x : Int) (hr_x : -2147483648 ≤ x ∧ x < 2147483648)   : tz_Ok l G M_X5_held 1 0 0 [.ref 163, zi x] n J (zqi (fun z J' => RN J' J ∧ (RD2 J → RD2 J') ∧ (J' 163 8 = 0 → z = x ∧ 0 ≤ x))) zN := by
  refine tz_Ok.of hl (by decide +kernel) rfl (tb_c1 rfl) (Nat.le_of_ble_eq_true rfl) ?_
  show tz_At l G M_X5_held (tb_rm 1 0 0) none (tb_ZM G 0 0 (zQ n 0 (zqi (fun z J' => RN J' J ∧ (RD2 J → RD2 J') ∧ (J' 163 8 = 0 → z = x ∧ 0 ≤ x)))) (zX n 0 zN)) 0 0 n J 0 [some (.ref 163), some (zi x)] []
  refine tz_iload_n (pc := 0) dX5_held_0 rfl rfl ?_
  refine tz_if_ge (pc := 1) (tgt := 12) dX5_held_1 (by decide) (by omega) (fun h_1 => ?_) (fun h_1 => ?_)
  · refine tz_iload_n (pc := 12) dX5_held_12 rfl rfl ?_
    exact tz_iret (pc := 13) (z := x) dX5_held_13 rfl (Nat.le_of_ble_eq_true rfl) (Nat.le_of_ble_eq_true rfl) ⟨Nat.le_refl _, Nat.le_add_right _ _⟩ ⟨_, rfl, (by omega), (by first | exact ⟨g9, d9, fun q => absurd q v9⟩ | exact ⟨RN.rf, id, fun q => ⟨rfl, by omega⟩⟩)⟩
  · refine tz_aload_n (pc := 4) dX5_held_4 rfl rfl ?_
    refine tz_iconst (pc := 5) dX5_held_5 ?_
    refine tz_cV (pc := 6) (c_fail hl n _ _ (by decide) (by decide)) vl_X5_97 dX5_held_6 o_163 rfl rfl (Nat.le_of_ble_eq_true rfl) ⟨(Nat.le_of_ble_eq_true rfl), (Nat.le_of_ble_eq_true rfl)⟩ rfl rfl (Nat.le_of_ble_eq_true rfl) (Nat.le_of_ble_eq_true rfl) (fun r9 J_6 hq9 => ?_)
    obtain ⟨z_6, rfl, hz_6, g9, d9, e9, v9⟩ := hq9
    refine tz_goto (pc := 9) (tgt := 13) dX5_held_9 (by decide) ?_
    exact tz_iret (pc := 13) (z := z_6) dX5_held_13 rfl (Nat.le_of_ble_eq_true rfl) (Nat.le_of_ble_eq_true rfl) ⟨Nat.le_refl _, Nat.le_add_right _ _⟩ ⟨_, rfl, (by omega), (by first | exact ⟨g9, d9, fun q => absurd q v9⟩ | exact ⟨RN.rf, id, fun q => ⟨rfl, by omega⟩⟩)⟩

set_option maxHeartbeats 4000000 in
set_option maxRecDepth 100000 in
theorem c_readVar {l : Launch} {G : tb_G} (hl : l.stackTraces = false) (n : Nat) (J : zJ)   (m : Int) (C : CT J m) (hm : J 6 12 = m) (hD : RD2 J) : tz_Ok l G M_X5_readVariable 4 0 0 [.ref 163] n J (zqi (fun z J' => ∃ m', RT J' J m m' ∧ (J' 163 8 = 0 → 0 ≤ z ∧ z < m'))) zN := by
  refine tz_Ok.of hl (by decide +kernel) rfl (tb_c1 rfl) (Nat.le_of_ble_eq_true rfl) ?_
  show tz_At l G M_X5_readVariable (tb_rm 4 0 0) none (tb_ZM G 0 0 (zQ n 0 (zqi (fun z J' => ∃ m', RT J' J m m' ∧ (J' 163 8 = 0 → 0 ≤ z ∧ z < m')))) (zX n 0 zN)) 0 0 n J 0 [some (.ref 163), none] []
  have g0 : RT J J m m := RT.rf C hm hD
  have hb := C.told
  refine tz_aload_n (pc := 0) dX5_readVariable_0 rfl rfl ?_
  have b_1 := (g0).2.1
  obtain ⟨⟨⟨b1_1, b2_1⟩, b3_1, b4_1⟩, b5_1⟩ := id b_1
  refine tz_cV (pc := 1) (c_next hl n _ (by omega) (by omega)) vl_X5_65 dX5_readVariable_1 o_163 rfl rfl (Nat.le_of_ble_eq_true rfl) ⟨(Nat.le_of_ble_eq_true rfl), (Nat.le_of_ble_eq_true rfl)⟩ rfl rfl (Nat.le_of_ble_eq_true rfl) (Nat.le_of_ble_eq_true rfl) (fun r9 J_1 hq9 => ?_)
  obtain ⟨rfl, g_1, d_1, v_1⟩ := hq9
  have q_1 := RT.rn g0 g_1 d_1
  have f_1 := g_1.2.2
  refine tz_aload_n (pc := 4) dX5_readVariable_4 rfl rfl ?_
  refine tz_iconst (pc := 5) dX5_readVariable_5 ?_
  refine tz_bipush (pc := 6) dX5_readVariable_6 (by decide) ?_
  have b_8 := (q_1).2.1
  obtain ⟨⟨⟨b1_8, b2_8⟩, b3_8, b4_8⟩, b5_8⟩ := id b_8
  refine tz_cV (pc := 8) (c_readNum hl n _ _ _ (by decide) (by decide) b_8 (Or.inl rfl) (by decide)) vl_X5_128 dX5_readVariable_8 o_163 rfl rfl (Nat.le_of_ble_eq_true rfl) ⟨(Nat.le_of_ble_eq_true rfl), (Nat.le_of_ble_eq_true rfl)⟩ rfl rfl (Nat.le_of_ble_eq_true rfl) (Nat.le_of_ble_eq_true rfl) (fun r9 J_8 hq9 => ?_)
  obtain ⟨z_8, rfl, hz_8, g_8, d_8, u_8⟩ := hq9
  have q_8 := RT.rn q_1 g_8 d_8
  have f_8 := g_8.2.2
  refine tz_istore_n (pc := 11) (L2 := [_, _]) dX5_readVariable_11 rfl (by decide) rfl ?_
  refine tz_aload_n (pc := 12) dX5_readVariable_12 rfl rfl ?_
  refine tz_fI (pc := 13) (kz := 8) (v := (J_8 163 8)) dX5_readVariable_13 fl_X5_24 i_163_8 rfl rfl (fun r_13 => ?_)
  refine tz_if_ne (pc := 16) (tgt := 37) dX5_readVariable_16 (by decide) (by omega) (fun h_16 => ?_) (fun h_16 => ?_)
  · refine tz_iconst (pc := 37) dX5_readVariable_37 ?_
    exact tz_iret (pc := 38) (z := (-1)) dX5_readVariable_38 rfl (Nat.le_of_ble_eq_true rfl) (Nat.le_of_ble_eq_true rfl) ⟨Nat.le_refl _, Nat.le_add_right _ _⟩ ⟨_, rfl, (by decide), ⟨m, q_8, fun q => by first | exact absurd q v_8 | omega⟩⟩
  · refine tz_aload_n (pc := 19) dX5_readVariable_19 rfl rfl ?_
    refine tz_aload_n (pc := 20) dX5_readVariable_20 rfl rfl ?_
    refine tz_fR (pc := 21) dX5_readVariable_21 fl_X5_38 r_163_1 ?_
    refine tz_fR (pc := 24) dX5_readVariable_24 fl_X5_42 r_5_0 ?_
    refine tz_iload_n (pc := 27) dX5_readVariable_27 rfl rfl ?_
    have t_28 := (q_8).1.2.1.told
    refine tz_cV (pc := 28) (c_varTerm hl n _ _ (by omega) m (q_8).1.2.1 (q_8).1.2.2.1 (by omega)) vl_X5_177 dX5_readVariable_28 o_6 rfl rfl (Nat.le_of_ble_eq_true rfl) ⟨(Nat.le_of_ble_eq_true rfl), (Nat.le_of_ble_eq_true rfl)⟩ rfl rfl (Nat.le_of_ble_eq_true rfl) (Nat.le_of_ble_eq_true rfl) (fun r9 J_28 hq9 => ?_)
    obtain ⟨z_28, rfl, hz_28, p_28⟩ := hq9
    obtain ⟨m_28, y_28, h_28⟩ := GR.made p_28 (by omega)
    have q_28 := RT.made q_8 y_28
    refine tz_cV (pc := 31) (c_held hl n _ _ (by omega)) vl_X5_180 dX5_readVariable_31 o_163 rfl rfl (Nat.le_of_ble_eq_true rfl) ⟨(Nat.le_of_ble_eq_true rfl), (Nat.le_of_ble_eq_true rfl)⟩ rfl rfl (Nat.le_of_ble_eq_true rfl) (Nat.le_of_ble_eq_true rfl) (fun r9 J_31 hq9 => ?_)
    obtain ⟨z_31, rfl, hz_31, g_31, d_31, u_31⟩ := hq9
    have q_31 := RT.rn q_28 g_31 (d_31 (q_28).2.1)
    refine tz_goto (pc := 34) (tgt := 38) dX5_readVariable_34 (by decide) ?_
    exact tz_iret (pc := 38) (z := z_31) dX5_readVariable_38 rfl (Nat.le_of_ble_eq_true rfl) (Nat.le_of_ble_eq_true rfl) ⟨Nat.le_refl _, Nat.le_add_right _ _⟩ ⟨_, rfl, (by omega), ⟨m_28, q_31, fun q => by first | exact absurd q v_31 | omega⟩⟩

set_option maxHeartbeats 4000000 in
set_option maxRecDepth 100000 in
theorem c_readArg {l : Launch} {G : tb_G} (hl : l.stackTraces = false) (n : Nat) (J : zJ) (k : Int) (dp : Int) (hr_k : -2147483648 ≤ k ∧ k < 2147483648) (hr_dp : -2147483648 ≤ dp ∧ dp < 2147483648) (d9 : Nat) (hd9 : 9 ≤ d9) (H : ∀ (J : zJ) (m : Int) (C : CT J m) (hm : J 6 12 = m) (hD : RD2 J), tz_Ok l G M_X5_readTerm d9 0 0 [.ref 163, zi (dp + 1)] n J (zqi (fun z J' => ∃ m', RT J' J m m' ∧ (J' 163 8 = 0 → 0 ≤ z ∧ z < m'))) zN) (m : Int) (C : CT J m) (hm : J 6 12 = m) (hD : RD2 J) : tz_Ok l G M_X5_readArgument (d9 + 1) 0 0 [.ref 163, zi k, zi dp] n J (zqi (fun z J' => ∃ m', RT J' J m m' ∧ (J' 163 8 = 0 → 0 ≤ z ∧ z < m'))) zN := by
  refine tz_Ok.of hl (by decide +kernel) rfl (tb_c1 rfl) (Nat.le_of_ble_eq_true rfl) ?_
  show tz_At l G M_X5_readArgument (tb_rm (d9 + 1) 0 0) none (tb_ZM G 0 0 (zQ n 0 (zqi (fun z J' => ∃ m', RT J' J m m' ∧ (J' 163 8 = 0 → 0 ≤ z ∧ z < m')))) (zX n 0 zN)) 0 0 n J 0 [some (.ref 163), some (zi k), some (zi dp)] []
  have g0 : RT J J m m := RT.rf C hm hD
  refine tz_aload_n (pc := 0) dX5_readArgument_0 rfl rfl ?_
  refine tz_iload_n (pc := 1) dX5_readArgument_1 rfl rfl ?_
  have b_2 := (g0).2.1
  obtain ⟨⟨⟨b1_2, b2_2⟩, b3_2, b4_2⟩, b5_2⟩ := id b_2
  refine tz_cV (pc := 2) (c_pass hl n _ _ (by omega) b_2) vl_X5_116 dX5_readArgument_2 o_163 rfl rfl (Nat.le_of_ble_eq_true rfl) ⟨(show 2 + 1 ≤ d9 + 1 by omega), (show 8 + (2 + 11) + 40 * (2) ≤ 40 * (d9 + 1) by omega)⟩ rfl rfl (Nat.le_of_ble_eq_true rfl) (Nat.le_of_ble_eq_true rfl) (fun r9 J_2 hq9 => ?_)
  obtain ⟨rfl, g_2, d_2⟩ := hq9
  have q_2 := RT.rn g0 g_2 d_2
  have f_2 := g_2.2.2
  refine tz_aload_n (pc := 5) dX5_readArgument_5 rfl rfl ?_
  refine tz_iload_n (pc := 6) dX5_readArgument_6 rfl rfl ?_
  refine tz_iconst (pc := 7) dX5_readArgument_7 ?_
  refine tz_iadd (pc := 8) (v := dp + 1) dX5_readArgument_8 rfl ?_
  refine tz_cV (pc := 9) (H _ m (q_2).1.2.1 (q_2).1.2.2.1 (q_2).2.1) vl_X5_113 dX5_readArgument_9 o_163 rfl rfl (Nat.le_of_ble_eq_true rfl) ⟨(show d9 + 1 ≤ d9 + 1 by omega), (show 8 + (2 + 11) + 40 * (d9) ≤ 40 * (d9 + 1) by omega)⟩ rfl rfl (Nat.le_of_ble_eq_true rfl) (Nat.le_of_ble_eq_true rfl) (fun r9 J_9 hq9 => ?_)
  obtain ⟨z_9, rfl, hz_9, m_9, g_9, u_9⟩ := hq9
  have q_9 := RT.tr q_2 g_9
  have f_9 := g_9.2.2
  exact tz_iret (pc := 12) (z := z_9) dX5_readArgument_12 rfl (Nat.le_of_ble_eq_true rfl) (Nat.le_of_ble_eq_true rfl) ⟨Nat.le_refl _, Nat.le_add_right _ _⟩ ⟨_, rfl, (by omega), ⟨m_9, q_9, u_9⟩⟩

set_option maxHeartbeats 4000000 in
set_option maxRecDepth 100000 in
theorem c_readComp {l : Launch} {G : tb_G} (hl : l.stackTraces = false) (n : Nat) (J : zJ) (dp : Int) (hr_dp : -2147483648 ≤ dp ∧ dp < 2147483648) (d9 : Nat) (hd9 : 9 ≤ d9) (H : ∀ (J : zJ) (m : Int) (C : CT J m) (hm : J 6 12 = m) (hD : RD2 J), tz_Ok l G M_X5_readTerm d9 0 0 [.ref 163, zi (dp + 1)] n J (zqi (fun z J' => ∃ m', RT J' J m m' ∧ (J' 163 8 = 0 → 0 ≤ z ∧ z < m'))) zN) (m : Int) (C : CT J m) (hm : J 6 12 = m) (hD : RD2 J) (hk : J 163 6 < J 163 4) : tz_Ok l G M_X5_readCompound (d9 + 2) 0 0 [.ref 163, zi dp] n J (zqi (fun z J' => ∃ m', RT J' J m m' ∧ (J' 163 8 = 0 → 0 ≤ z ∧ z < m'))) zN := by
  refine tz_Ok.of hl (by decide +kernel) rfl (tb_c1 rfl) (Nat.le_of_ble_eq_true rfl) ?_
  show tz_At l G M_X5_readCompound (tb_rm (d9 + 2) 0 0) none (tb_ZM G 0 0 (zQ n 0 (zqi (fun z J' => ∃ m', RT J' J m m' ∧ (J' 163 8 = 0 → 0 ≤ z ∧ z < m')))) (zX n 0 zN)) 0 0 n J 0 [some (.ref 163), some (zi dp), none, none, none, none, none] []
  have g0 : RT J J m m := RT.rf C hm hD
  have hb := C.told
  obtain ⟨⟨⟨hD1, hD2⟩, hD3, hD4⟩, hD5⟩ := id hD
  refine tz_aload_n (pc := 0) dX5_readCompound_0 rfl rfl ?_
  refine tz_fI (pc := 1) (kz := 7) (v := (J 163 7)) dX5_readCompound_1 fl_X5_21 i_163_7 rfl rfl (fun r_1 => ?_)
  refine tz_aload_n (pc := 4) dX5_readCompound_4 rfl rfl ?_
  refine tz_fI (pc := 5) (kz := 6) (v := (J 163 6)) dX5_readCompound_5 fl_X5_18 i_163_6 rfl rfl (fun r_5 => ?_)
  refine tz_isub (pc := 8) (v := (J 163 7) - (J 163 6)) dX5_readCompound_8 rfl ?_
  refine tz_iconst (pc := 9) dX5_readCompound_9 ?_
  refine tz_icmp_le (pc := 10) (tgt := 19) dX5_readCompound_10 (by decide) (by omega) (by decide) (fun h_10 => ?_) (fun h_10 => ?_)
  · refine tz_aload_n (pc := 19) dX5_readCompound_19 rfl rfl ?_
    refine tz_fR (pc := 20) dX5_readCompound_20 fl_X5_54 r_163_2 ?_
    refine tz_aload_n (pc := 23) dX5_readCompound_23 rfl rfl ?_
    refine tz_fR (pc := 24) dX5_readCompound_24 fl_X5_34 r_163_0 ?_
    refine tz_aload_n (pc := 27) dX5_readCompound_27 rfl rfl ?_
    refine tz_fI (pc := 28) (kz := 6) (v := (J 163 6)) dX5_readCompound_28 fl_X5_18 i_163_6 rfl rfl (fun r_28 => ?_)
    refine tz_aL (pc := 31) (z := (J 163 6)) (v := (J 162 (J 163 6))) dX5_readCompound_31 a_162 rfl (by omega) rfl (fun r_31 => ?_)
    refine tz_cV (pc := 32) (c_named hl n _ _ (by omega) hb.1) vl_X5_135 dX5_readCompound_32 o_1 rfl rfl (Nat.le_of_ble_eq_true rfl) ⟨(show 0 + 1 ≤ d9 + 2 by omega), (show 8 + (3 + 11) + 40 * (0) ≤ 40 * (d9 + 2) by omega)⟩ rfl rfl (Nat.le_of_ble_eq_true rfl) (Nat.le_of_ble_eq_true rfl) (fun r9 J_32 hq9 => ?_)
    obtain ⟨z_32, rfl, hz_32, rfl, hnm⟩ := hq9
    refine tz_istore_n (pc := 35) (L2 := [_, _, _, _, _, _, _]) dX5_readCompound_35 rfl (by decide) rfl ?_
    have ns : -1 ≤ z_32 ∧ z_32 < J 1 3 := by omega
    refine tz_iload_n (pc := 36) dX5_readCompound_36 rfl rfl ?_
    refine tz_iconst (pc := 37) dX5_readCompound_37 ?_
    refine tz_icmp_ne (pc := 38) (tgt := 47) dX5_readCompound_38 (by decide) (by omega) (by decide) (fun h_38 => ?_) (fun h_38 => ?_)
    · refine tz_aload_n (pc := 47) dX5_readCompound_47 rfl rfl ?_
      have b_48 := (g0).2.1
      obtain ⟨⟨⟨b1_48, b2_48⟩, b3_48, b4_48⟩, b5_48⟩ := id b_48
      refine tz_cV (pc := 48) (c_next hl n _ (by omega) (by omega)) vl_X5_65 dX5_readCompound_48 o_163 rfl rfl (Nat.le_of_ble_eq_true rfl) ⟨(show 1 + 1 ≤ d9 + 2 by omega), (show 8 + (1 + 11) + 40 * (1) ≤ 40 * (d9 + 2) by omega)⟩ rfl rfl (Nat.le_of_ble_eq_true rfl) (Nat.le_of_ble_eq_true rfl) (fun r9 J_48 hq9 => ?_)
      obtain ⟨rfl, g_48, d_48, v_48⟩ := hq9
      have q_48 := RT.rn g0 g_48 d_48
      have f_48 := g_48.2.2
      refine tz_aload_n (pc := 51) dX5_readCompound_51 rfl rfl ?_
      refine tz_fR (pc := 52) dX5_readCompound_52 fl_X5_54 r_163_2 ?_
      refine tz_fR (pc := 55) dX5_readCompound_55 fl_X5_183 r_1_1 ?_
      refine tz_iload_n (pc := 58) dX5_readCompound_58 rfl rfl ?_
      have hA := C.1.1.1.2 z_32 (by omega) (by omega)
      refine tz_aL (pc := 59) (z := z_32) (v := (J 3 z_32)) dX5_readCompound_59 a_3 rfl (by omega) (Eq.trans (congrFun (g_48.1 3 rfl) z_32) rfl) (fun r_59 => ?_)
      refine tz_istore_n (pc := 60) (L2 := [_, _, _, _, _, _, _]) dX5_readCompound_60 rfl (by decide) rfl ?_
      refine tz_iload_n (pc := 61) dX5_readCompound_61 rfl rfl ?_
      refine tz_iconst (pc := 62) dX5_readCompound_62 ?_
      refine tz_icmp_ge (pc := 63) (tgt := 70) dX5_readCompound_63 (by decide) (by omega) (by decide) (fun h_63 => ?_) (fun h_63 => ?_)
      · refine tz_aload_n (pc := 70) dX5_readCompound_70 rfl rfl ?_
        refine tz_bipush (pc := 71) dX5_readCompound_71 (by decide) ?_
        refine tz_iload_n (pc := 73) dX5_readCompound_73 rfl rfl ?_
        refine tz_cV (pc := 74) (c_readArg hl n _ _ _ (by decide) (by omega) d9 hd9 H m (q_48).1.2.1 (q_48).1.2.2.1 (q_48).2.1) vl_X5_186 dX5_readCompound_74 o_163 rfl rfl (Nat.le_of_ble_eq_true rfl) ⟨(show (d9 + 1) + 1 ≤ d9 + 2 by omega), (show 8 + (3 + 11) + 40 * ((d9 + 1)) ≤ 40 * (d9 + 2) by omega)⟩ rfl rfl (Nat.le_of_ble_eq_true rfl) (Nat.le_of_ble_eq_true rfl) (fun r9 J_74 hq9 => ?_)
        obtain ⟨z_74, rfl, hz_74, m_74, g_74, u_74⟩ := hq9
        have q_74 := RT.tr q_48 g_74
        have f_74 := g_74.2.2
        have l_74 := g_74.1.1
        refine tz_istore (pc := 77) (L2 := [_, _, _, _, _, _, _]) dX5_readCompound_77 (by decide) rfl ?_
        refine tz_iload_n (pc := 79) dX5_readCompound_79 rfl rfl ?_
        refine tz_iconst (pc := 80) dX5_readCompound_80 ?_
        refine tz_icmp_ge (pc := 81) (tgt := 88) dX5_readCompound_81 (by decide) (by omega) (by decide) (fun h_81 => ?_) (fun h_81 => ?_)
        · refine tz_aload_n (pc := 88) dX5_readCompound_88 rfl rfl ?_
          refine tz_bipush (pc := 89) dX5_readCompound_89 (by decide) ?_
          refine tz_iload_n (pc := 91) dX5_readCompound_91 rfl rfl ?_
          refine tz_cV (pc := 92) (c_readArg hl n _ _ _ (by decide) (by omega) d9 hd9 H m_74 (q_74).1.2.1 (q_74).1.2.2.1 (q_74).2.1) vl_X5_186 dX5_readCompound_92 o_163 rfl rfl (Nat.le_of_ble_eq_true rfl) ⟨(show (d9 + 1) + 1 ≤ d9 + 2 by omega), (show 8 + (3 + 11) + 40 * ((d9 + 1)) ≤ 40 * (d9 + 2) by omega)⟩ rfl rfl (Nat.le_of_ble_eq_true rfl) (Nat.le_of_ble_eq_true rfl) (fun r9 J_92 hq9 => ?_)
          obtain ⟨z_92, rfl, hz_92, m_92, g_92, u_92⟩ := hq9
          have q_92 := RT.tr q_74 g_92
          have f_92 := g_92.2.2
          have l_92 := g_92.1.1
          refine tz_istore (pc := 95) (L2 := [_, _, _, _, _, _, _]) dX5_readCompound_95 (by decide) rfl ?_
          refine tz_iload_n (pc := 97) dX5_readCompound_97 rfl rfl ?_
          refine tz_iconst (pc := 98) dX5_readCompound_98 ?_
          refine tz_icmp_ge (pc := 99) (tgt := 106) dX5_readCompound_99 (by decide) (by omega) (by decide) (fun h_99 => ?_) (fun h_99 => ?_)
          · refine tz_aload_n (pc := 106) dX5_readCompound_106 rfl rfl ?_
            refine tz_bipush (pc := 107) dX5_readCompound_107 (by decide) ?_
            refine tz_iload_n (pc := 109) dX5_readCompound_109 rfl rfl ?_
            refine tz_cV (pc := 110) (c_readArg hl n _ _ _ (by decide) (by omega) d9 hd9 H m_92 (q_92).1.2.1 (q_92).1.2.2.1 (q_92).2.1) vl_X5_186 dX5_readCompound_110 o_163 rfl rfl (Nat.le_of_ble_eq_true rfl) ⟨(show (d9 + 1) + 1 ≤ d9 + 2 by omega), (show 8 + (3 + 11) + 40 * ((d9 + 1)) ≤ 40 * (d9 + 2) by omega)⟩ rfl rfl (Nat.le_of_ble_eq_true rfl) (Nat.le_of_ble_eq_true rfl) (fun r9 J_110 hq9 => ?_)
            obtain ⟨z_110, rfl, hz_110, m_110, g_110, u_110⟩ := hq9
            have q_110 := RT.tr q_92 g_110
            have f_110 := g_110.2.2
            have l_110 := g_110.1.1
            refine tz_istore (pc := 113) (L2 := [_, _, _, _, _, _, _]) dX5_readCompound_113 (by decide) rfl ?_
            refine tz_iload_n (pc := 115) dX5_readCompound_115 rfl rfl ?_
            refine tz_if_le (pc := 116) (tgt := 125) dX5_readCompound_116 (by decide) (by omega) (fun h_116 => ?_) (fun h_116 => ?_)
            · refine tz_aload_n (pc := 125) dX5_readCompound_125 rfl rfl ?_
              refine tz_fI (pc := 126) (kz := 8) (v := (J_110 163 8)) dX5_readCompound_126 fl_X5_24 i_163_8 rfl rfl (fun r_126 => ?_)
              refine tz_if_ne (pc := 129) (tgt := 156) dX5_readCompound_129 (by decide) (by omega) (fun h_129 => ?_) (fun h_129 => ?_)
              · refine tz_iconst (pc := 156) dX5_readCompound_156 ?_
                exact tz_iret (pc := 157) (z := (-1)) dX5_readCompound_157 rfl (Nat.le_of_ble_eq_true rfl) (Nat.le_of_ble_eq_true rfl) ⟨Nat.le_refl _, Nat.le_add_right _ _⟩ ⟨_, rfl, (by decide), ⟨m_110, q_110, fun q => by first | exact absurd q v_110 | omega⟩⟩
              · refine tz_aload_n (pc := 132) dX5_readCompound_132 rfl rfl ?_
                refine tz_aload_n (pc := 133) dX5_readCompound_133 rfl rfl ?_
                refine tz_fR (pc := 134) dX5_readCompound_134 fl_X5_38 r_163_1 ?_
                refine tz_fR (pc := 137) dX5_readCompound_137 fl_X5_42 r_5_0 ?_
                refine tz_iload_n (pc := 140) dX5_readCompound_140 rfl rfl ?_
                refine tz_iload (pc := 141) dX5_readCompound_141 rfl ?_
                refine tz_iload (pc := 143) dX5_readCompound_143 rfl ?_
                refine tz_iload (pc := 145) dX5_readCompound_145 rfl ?_
                have x1 := (q_110).1.2.2.2.2 1 rfl
                have t_147 := (q_110).1.2.1.told
                refine tz_cV (pc := 147) (c_made hl n _ _ _ _ _ (by omega) (by omega) (by omega) (by omega) m_110 (q_110).1.2.1 (q_110).1.2.2.1 (by rw [x1]; omega) (ltA_of (by omega) (by omega) (by omega))) vl_X5_189 dX5_readCompound_147 o_6 rfl rfl (Nat.le_of_ble_eq_true rfl) ⟨(show 2 + 1 ≤ d9 + 2 by omega), (show 8 + (11 + 11) + 40 * (2) ≤ 40 * (d9 + 2) by omega)⟩ rfl rfl (Nat.le_of_ble_eq_true rfl) (Nat.le_of_ble_eq_true rfl) (fun r9 J_147 hq9 => ?_)
                obtain ⟨z_147, rfl, hz_147, p_147⟩ := hq9
                obtain ⟨m_147, y_147, h_147⟩ := GR.made p_147 (by omega)
                have q_147 := RT.made q_110 y_147
                refine tz_cV (pc := 150) (c_held hl n _ _ (by omega)) vl_X5_180 dX5_readCompound_150 o_163 rfl rfl (Nat.le_of_ble_eq_true rfl) ⟨(show 1 + 1 ≤ d9 + 2 by omega), (show 8 + (2 + 11) + 40 * (1) ≤ 40 * (d9 + 2) by omega)⟩ rfl rfl (Nat.le_of_ble_eq_true rfl) (Nat.le_of_ble_eq_true rfl) (fun r9 J_150 hq9 => ?_)
                obtain ⟨z_150, rfl, hz_150, g_150, d_150, u_150⟩ := hq9
                have q_150 := RT.rn q_147 g_150 (d_150 (q_147).2.1)
                refine tz_goto (pc := 153) (tgt := 157) dX5_readCompound_153 (by decide) ?_
                exact tz_iret (pc := 157) (z := z_150) dX5_readCompound_157 rfl (Nat.le_of_ble_eq_true rfl) (Nat.le_of_ble_eq_true rfl) ⟨Nat.le_refl _, Nat.le_add_right _ _⟩ ⟨_, rfl, (by omega), ⟨m_147, q_150, fun q => by first | exact absurd q v_150 | omega⟩⟩
            · refine tz_aload_n (pc := 119) dX5_readCompound_119 rfl rfl ?_
              refine tz_bipush (pc := 120) dX5_readCompound_120 (by decide) ?_
              have b_122 := (q_110).2.1
              obtain ⟨⟨⟨b1_122, b2_122⟩, b3_122, b4_122⟩, b5_122⟩ := id b_122
              refine tz_cV (pc := 122) (c_pass hl n _ _ (by omega) b_122) vl_X5_116 dX5_readCompound_122 o_163 rfl rfl (Nat.le_of_ble_eq_true rfl) ⟨(show 2 + 1 ≤ d9 + 2 by omega), (show 8 + (2 + 11) + 40 * (2) ≤ 40 * (d9 + 2) by omega)⟩ rfl rfl (Nat.le_of_ble_eq_true rfl) (Nat.le_of_ble_eq_true rfl) (fun r9 J_122 hq9 => ?_)
              obtain ⟨rfl, g_122, d_122⟩ := hq9
              have q_122 := RT.rn q_110 g_122 d_122
              have f_122 := g_122.2.2
              refine tz_aload_n (pc := 125) dX5_readCompound_125 rfl rfl ?_
              refine tz_fI (pc := 126) (kz := 8) (v := (J_122 163 8)) dX5_readCompound_126 fl_X5_24 i_163_8 rfl rfl (fun r_126 => ?_)
              refine tz_if_ne (pc := 129) (tgt := 156) dX5_readCompound_129 (by decide) (by omega) (fun h_129 => ?_) (fun h_129 => ?_)
              · refine tz_iconst (pc := 156) dX5_readCompound_156 ?_
                exact tz_iret (pc := 157) (z := (-1)) dX5_readCompound_157 rfl (Nat.le_of_ble_eq_true rfl) (Nat.le_of_ble_eq_true rfl) ⟨Nat.le_refl _, Nat.le_add_right _ _⟩ ⟨_, rfl, (by decide), ⟨m_110, q_122, fun q => by first | exact absurd q v_122 | omega⟩⟩
              · refine tz_aload_n (pc := 132) dX5_readCompound_132 rfl rfl ?_
                refine tz_aload_n (pc := 133) dX5_readCompound_133 rfl rfl ?_
                refine tz_fR (pc := 134) dX5_readCompound_134 fl_X5_38 r_163_1 ?_
                refine tz_fR (pc := 137) dX5_readCompound_137 fl_X5_42 r_5_0 ?_
                refine tz_iload_n (pc := 140) dX5_readCompound_140 rfl rfl ?_
                refine tz_iload (pc := 141) dX5_readCompound_141 rfl ?_
                refine tz_iload (pc := 143) dX5_readCompound_143 rfl ?_
                refine tz_iload (pc := 145) dX5_readCompound_145 rfl ?_
                have x1 := (q_122).1.2.2.2.2 1 rfl
                have t_147 := (q_122).1.2.1.told
                refine tz_cV (pc := 147) (c_made hl n _ _ _ _ _ (by omega) (by omega) (by omega) (by omega) m_110 (q_122).1.2.1 (q_122).1.2.2.1 (by rw [x1]; omega) (ltA_of (by omega) (by omega) (by omega))) vl_X5_189 dX5_readCompound_147 o_6 rfl rfl (Nat.le_of_ble_eq_true rfl) ⟨(show 2 + 1 ≤ d9 + 2 by omega), (show 8 + (11 + 11) + 40 * (2) ≤ 40 * (d9 + 2) by omega)⟩ rfl rfl (Nat.le_of_ble_eq_true rfl) (Nat.le_of_ble_eq_true rfl) (fun r9 J_147 hq9 => ?_)
                obtain ⟨z_147, rfl, hz_147, p_147⟩ := hq9
                obtain ⟨m_147, y_147, h_147⟩ := GR.made p_147 (by omega)
                have q_147 := RT.made q_122 y_147
                refine tz_cV (pc := 150) (c_held hl n _ _ (by omega)) vl_X5_180 dX5_readCompound_150 o_163 rfl rfl (Nat.le_of_ble_eq_true rfl) ⟨(show 1 + 1 ≤ d9 + 2 by omega), (show 8 + (2 + 11) + 40 * (1) ≤ 40 * (d9 + 2) by omega)⟩ rfl rfl (Nat.le_of_ble_eq_true rfl) (Nat.le_of_ble_eq_true rfl) (fun r9 J_150 hq9 => ?_)
                obtain ⟨z_150, rfl, hz_150, g_150, d_150, u_150⟩ := hq9
                have q_150 := RT.rn q_147 g_150 (d_150 (q_147).2.1)
                refine tz_goto (pc := 153) (tgt := 157) dX5_readCompound_153 (by decide) ?_
                exact tz_iret (pc := 157) (z := z_150) dX5_readCompound_157 rfl (Nat.le_of_ble_eq_true rfl) (Nat.le_of_ble_eq_true rfl) ⟨Nat.le_refl _, Nat.le_add_right _ _⟩ ⟨_, rfl, (by omega), ⟨m_147, q_150, fun q => by first | exact absurd q v_150 | omega⟩⟩
          · refine tz_iconst (pc := 102) dX5_readCompound_102 ?_
            refine tz_goto (pc := 103) (tgt := 113) dX5_readCompound_103 (by decide) ?_
            refine tz_istore (pc := 113) (L2 := [_, _, _, _, _, _, _]) dX5_readCompound_113 (by decide) rfl ?_
            refine tz_iload_n (pc := 115) dX5_readCompound_115 rfl rfl ?_
            refine tz_if_le (pc := 116) (tgt := 125) dX5_readCompound_116 (by decide) (by omega) (fun h_116 => ?_) (fun h_116 => ?_)
            · refine tz_aload_n (pc := 125) dX5_readCompound_125 rfl rfl ?_
              refine tz_fI (pc := 126) (kz := 8) (v := (J_92 163 8)) dX5_readCompound_126 fl_X5_24 i_163_8 rfl rfl (fun r_126 => ?_)
              refine tz_if_ne (pc := 129) (tgt := 156) dX5_readCompound_129 (by decide) (by omega) (fun h_129 => ?_) (fun h_129 => ?_)
              · refine tz_iconst (pc := 156) dX5_readCompound_156 ?_
                exact tz_iret (pc := 157) (z := (-1)) dX5_readCompound_157 rfl (Nat.le_of_ble_eq_true rfl) (Nat.le_of_ble_eq_true rfl) ⟨Nat.le_refl _, Nat.le_add_right _ _⟩ ⟨_, rfl, (by decide), ⟨m_92, q_92, fun q => by first | exact absurd q v_92 | omega⟩⟩
              · refine tz_aload_n (pc := 132) dX5_readCompound_132 rfl rfl ?_
                refine tz_aload_n (pc := 133) dX5_readCompound_133 rfl rfl ?_
                refine tz_fR (pc := 134) dX5_readCompound_134 fl_X5_38 r_163_1 ?_
                refine tz_fR (pc := 137) dX5_readCompound_137 fl_X5_42 r_5_0 ?_
                refine tz_iload_n (pc := 140) dX5_readCompound_140 rfl rfl ?_
                refine tz_iload (pc := 141) dX5_readCompound_141 rfl ?_
                refine tz_iload (pc := 143) dX5_readCompound_143 rfl ?_
                refine tz_iload (pc := 145) dX5_readCompound_145 rfl ?_
                have x1 := (q_92).1.2.2.2.2 1 rfl
                have t_147 := (q_92).1.2.1.told
                refine tz_cV (pc := 147) (c_made hl n _ _ _ _ _ (by omega) (by omega) (by omega) (by omega) m_92 (q_92).1.2.1 (q_92).1.2.2.1 (by rw [x1]; omega) (ltA_of (by omega) (by omega) (by omega))) vl_X5_189 dX5_readCompound_147 o_6 rfl rfl (Nat.le_of_ble_eq_true rfl) ⟨(show 2 + 1 ≤ d9 + 2 by omega), (show 8 + (11 + 11) + 40 * (2) ≤ 40 * (d9 + 2) by omega)⟩ rfl rfl (Nat.le_of_ble_eq_true rfl) (Nat.le_of_ble_eq_true rfl) (fun r9 J_147 hq9 => ?_)
                obtain ⟨z_147, rfl, hz_147, p_147⟩ := hq9
                obtain ⟨m_147, y_147, h_147⟩ := GR.made p_147 (by omega)
                have q_147 := RT.made q_92 y_147
                refine tz_cV (pc := 150) (c_held hl n _ _ (by omega)) vl_X5_180 dX5_readCompound_150 o_163 rfl rfl (Nat.le_of_ble_eq_true rfl) ⟨(show 1 + 1 ≤ d9 + 2 by omega), (show 8 + (2 + 11) + 40 * (1) ≤ 40 * (d9 + 2) by omega)⟩ rfl rfl (Nat.le_of_ble_eq_true rfl) (Nat.le_of_ble_eq_true rfl) (fun r9 J_150 hq9 => ?_)
                obtain ⟨z_150, rfl, hz_150, g_150, d_150, u_150⟩ := hq9
                have q_150 := RT.rn q_147 g_150 (d_150 (q_147).2.1)
                refine tz_goto (pc := 153) (tgt := 157) dX5_readCompound_153 (by decide) ?_
                exact tz_iret (pc := 157) (z := z_150) dX5_readCompound_157 rfl (Nat.le_of_ble_eq_true rfl) (Nat.le_of_ble_eq_true rfl) ⟨Nat.le_refl _, Nat.le_add_right _ _⟩ ⟨_, rfl, (by omega), ⟨m_147, q_150, fun q => by first | exact absurd q v_150 | omega⟩⟩
            · refine tz_aload_n (pc := 119) dX5_readCompound_119 rfl rfl ?_
              refine tz_bipush (pc := 120) dX5_readCompound_120 (by decide) ?_
              have b_122 := (q_92).2.1
              obtain ⟨⟨⟨b1_122, b2_122⟩, b3_122, b4_122⟩, b5_122⟩ := id b_122
              refine tz_cV (pc := 122) (c_pass hl n _ _ (by omega) b_122) vl_X5_116 dX5_readCompound_122 o_163 rfl rfl (Nat.le_of_ble_eq_true rfl) ⟨(show 2 + 1 ≤ d9 + 2 by omega), (show 8 + (2 + 11) + 40 * (2) ≤ 40 * (d9 + 2) by omega)⟩ rfl rfl (Nat.le_of_ble_eq_true rfl) (Nat.le_of_ble_eq_true rfl) (fun r9 J_122 hq9 => ?_)
              obtain ⟨rfl, g_122, d_122⟩ := hq9
              have q_122 := RT.rn q_92 g_122 d_122
              have f_122 := g_122.2.2
              refine tz_aload_n (pc := 125) dX5_readCompound_125 rfl rfl ?_
              refine tz_fI (pc := 126) (kz := 8) (v := (J_122 163 8)) dX5_readCompound_126 fl_X5_24 i_163_8 rfl rfl (fun r_126 => ?_)
              refine tz_if_ne (pc := 129) (tgt := 156) dX5_readCompound_129 (by decide) (by omega) (fun h_129 => ?_) (fun h_129 => ?_)
              · refine tz_iconst (pc := 156) dX5_readCompound_156 ?_
                exact tz_iret (pc := 157) (z := (-1)) dX5_readCompound_157 rfl (Nat.le_of_ble_eq_true rfl) (Nat.le_of_ble_eq_true rfl) ⟨Nat.le_refl _, Nat.le_add_right _ _⟩ ⟨_, rfl, (by decide), ⟨m_92, q_122, fun q => by first | exact absurd q v_122 | omega⟩⟩
              · refine tz_aload_n (pc := 132) dX5_readCompound_132 rfl rfl ?_
                refine tz_aload_n (pc := 133) dX5_readCompound_133 rfl rfl ?_
                refine tz_fR (pc := 134) dX5_readCompound_134 fl_X5_38 r_163_1 ?_
                refine tz_fR (pc := 137) dX5_readCompound_137 fl_X5_42 r_5_0 ?_
                refine tz_iload_n (pc := 140) dX5_readCompound_140 rfl rfl ?_
                refine tz_iload (pc := 141) dX5_readCompound_141 rfl ?_
                refine tz_iload (pc := 143) dX5_readCompound_143 rfl ?_
                refine tz_iload (pc := 145) dX5_readCompound_145 rfl ?_
                have x1 := (q_122).1.2.2.2.2 1 rfl
                have t_147 := (q_122).1.2.1.told
                refine tz_cV (pc := 147) (c_made hl n _ _ _ _ _ (by omega) (by omega) (by omega) (by omega) m_92 (q_122).1.2.1 (q_122).1.2.2.1 (by rw [x1]; omega) (ltA_of (by omega) (by omega) (by omega))) vl_X5_189 dX5_readCompound_147 o_6 rfl rfl (Nat.le_of_ble_eq_true rfl) ⟨(show 2 + 1 ≤ d9 + 2 by omega), (show 8 + (11 + 11) + 40 * (2) ≤ 40 * (d9 + 2) by omega)⟩ rfl rfl (Nat.le_of_ble_eq_true rfl) (Nat.le_of_ble_eq_true rfl) (fun r9 J_147 hq9 => ?_)
                obtain ⟨z_147, rfl, hz_147, p_147⟩ := hq9
                obtain ⟨m_147, y_147, h_147⟩ := GR.made p_147 (by omega)
                have q_147 := RT.made q_122 y_147
                refine tz_cV (pc := 150) (c_held hl n _ _ (by omega)) vl_X5_180 dX5_readCompound_150 o_163 rfl rfl (Nat.le_of_ble_eq_true rfl) ⟨(show 1 + 1 ≤ d9 + 2 by omega), (show 8 + (2 + 11) + 40 * (1) ≤ 40 * (d9 + 2) by omega)⟩ rfl rfl (Nat.le_of_ble_eq_true rfl) (Nat.le_of_ble_eq_true rfl) (fun r9 J_150 hq9 => ?_)
                obtain ⟨z_150, rfl, hz_150, g_150, d_150, u_150⟩ := hq9
                have q_150 := RT.rn q_147 g_150 (d_150 (q_147).2.1)
                refine tz_goto (pc := 153) (tgt := 157) dX5_readCompound_153 (by decide) ?_
                exact tz_iret (pc := 157) (z := z_150) dX5_readCompound_157 rfl (Nat.le_of_ble_eq_true rfl) (Nat.le_of_ble_eq_true rfl) ⟨Nat.le_refl _, Nat.le_add_right _ _⟩ ⟨_, rfl, (by omega), ⟨m_147, q_150, fun q => by first | exact absurd q v_150 | omega⟩⟩
        · refine tz_iconst (pc := 84) dX5_readCompound_84 ?_
          refine tz_goto (pc := 85) (tgt := 95) dX5_readCompound_85 (by decide) ?_
          refine tz_istore (pc := 95) (L2 := [_, _, _, _, _, _, _]) dX5_readCompound_95 (by decide) rfl ?_
          refine tz_iload_n (pc := 97) dX5_readCompound_97 rfl rfl ?_
          refine tz_iconst (pc := 98) dX5_readCompound_98 ?_
          refine tz_icmp_ge (pc := 99) (tgt := 106) dX5_readCompound_99 (by decide) (by omega) (by decide) (fun h_99 => ?_) (fun h_99 => ?_)
          · refine tz_aload_n (pc := 106) dX5_readCompound_106 rfl rfl ?_
            refine tz_bipush (pc := 107) dX5_readCompound_107 (by decide) ?_
            refine tz_iload_n (pc := 109) dX5_readCompound_109 rfl rfl ?_
            refine tz_cV (pc := 110) (c_readArg hl n _ _ _ (by decide) (by omega) d9 hd9 H m_74 (q_74).1.2.1 (q_74).1.2.2.1 (q_74).2.1) vl_X5_186 dX5_readCompound_110 o_163 rfl rfl (Nat.le_of_ble_eq_true rfl) ⟨(show (d9 + 1) + 1 ≤ d9 + 2 by omega), (show 8 + (3 + 11) + 40 * ((d9 + 1)) ≤ 40 * (d9 + 2) by omega)⟩ rfl rfl (Nat.le_of_ble_eq_true rfl) (Nat.le_of_ble_eq_true rfl) (fun r9 J_110 hq9 => ?_)
            obtain ⟨z_110, rfl, hz_110, m_110, g_110, u_110⟩ := hq9
            have q_110 := RT.tr q_74 g_110
            have f_110 := g_110.2.2
            have l_110 := g_110.1.1
            refine tz_istore (pc := 113) (L2 := [_, _, _, _, _, _, _]) dX5_readCompound_113 (by decide) rfl ?_
            refine tz_iload_n (pc := 115) dX5_readCompound_115 rfl rfl ?_
            refine tz_if_le (pc := 116) (tgt := 125) dX5_readCompound_116 (by decide) (by omega) (fun h_116 => ?_) (fun h_116 => ?_)
            · refine tz_aload_n (pc := 125) dX5_readCompound_125 rfl rfl ?_
              refine tz_fI (pc := 126) (kz := 8) (v := (J_110 163 8)) dX5_readCompound_126 fl_X5_24 i_163_8 rfl rfl (fun r_126 => ?_)
              refine tz_if_ne (pc := 129) (tgt := 156) dX5_readCompound_129 (by decide) (by omega) (fun h_129 => ?_) (fun h_129 => ?_)
              · refine tz_iconst (pc := 156) dX5_readCompound_156 ?_
                exact tz_iret (pc := 157) (z := (-1)) dX5_readCompound_157 rfl (Nat.le_of_ble_eq_true rfl) (Nat.le_of_ble_eq_true rfl) ⟨Nat.le_refl _, Nat.le_add_right _ _⟩ ⟨_, rfl, (by decide), ⟨m_110, q_110, fun q => by first | exact absurd q v_110 | omega⟩⟩
              · refine tz_aload_n (pc := 132) dX5_readCompound_132 rfl rfl ?_
                refine tz_aload_n (pc := 133) dX5_readCompound_133 rfl rfl ?_
                refine tz_fR (pc := 134) dX5_readCompound_134 fl_X5_38 r_163_1 ?_
                refine tz_fR (pc := 137) dX5_readCompound_137 fl_X5_42 r_5_0 ?_
                refine tz_iload_n (pc := 140) dX5_readCompound_140 rfl rfl ?_
                refine tz_iload (pc := 141) dX5_readCompound_141 rfl ?_
                refine tz_iload (pc := 143) dX5_readCompound_143 rfl ?_
                refine tz_iload (pc := 145) dX5_readCompound_145 rfl ?_
                have x1 := (q_110).1.2.2.2.2 1 rfl
                have t_147 := (q_110).1.2.1.told
                refine tz_cV (pc := 147) (c_made hl n _ _ _ _ _ (by omega) (by omega) (by omega) (by omega) m_110 (q_110).1.2.1 (q_110).1.2.2.1 (by rw [x1]; omega) (ltA_of (by omega) (by omega) (by omega))) vl_X5_189 dX5_readCompound_147 o_6 rfl rfl (Nat.le_of_ble_eq_true rfl) ⟨(show 2 + 1 ≤ d9 + 2 by omega), (show 8 + (11 + 11) + 40 * (2) ≤ 40 * (d9 + 2) by omega)⟩ rfl rfl (Nat.le_of_ble_eq_true rfl) (Nat.le_of_ble_eq_true rfl) (fun r9 J_147 hq9 => ?_)
                obtain ⟨z_147, rfl, hz_147, p_147⟩ := hq9
                obtain ⟨m_147, y_147, h_147⟩ := GR.made p_147 (by omega)
                have q_147 := RT.made q_110 y_147
                refine tz_cV (pc := 150) (c_held hl n _ _ (by omega)) vl_X5_180 dX5_readCompound_150 o_163 rfl rfl (Nat.le_of_ble_eq_true rfl) ⟨(show 1 + 1 ≤ d9 + 2 by omega), (show 8 + (2 + 11) + 40 * (1) ≤ 40 * (d9 + 2) by omega)⟩ rfl rfl (Nat.le_of_ble_eq_true rfl) (Nat.le_of_ble_eq_true rfl) (fun r9 J_150 hq9 => ?_)
                obtain ⟨z_150, rfl, hz_150, g_150, d_150, u_150⟩ := hq9
                have q_150 := RT.rn q_147 g_150 (d_150 (q_147).2.1)
                refine tz_goto (pc := 153) (tgt := 157) dX5_readCompound_153 (by decide) ?_
                exact tz_iret (pc := 157) (z := z_150) dX5_readCompound_157 rfl (Nat.le_of_ble_eq_true rfl) (Nat.le_of_ble_eq_true rfl) ⟨Nat.le_refl _, Nat.le_add_right _ _⟩ ⟨_, rfl, (by omega), ⟨m_147, q_150, fun q => by first | exact absurd q v_150 | omega⟩⟩
            · refine tz_aload_n (pc := 119) dX5_readCompound_119 rfl rfl ?_
              refine tz_bipush (pc := 120) dX5_readCompound_120 (by decide) ?_
              have b_122 := (q_110).2.1
              obtain ⟨⟨⟨b1_122, b2_122⟩, b3_122, b4_122⟩, b5_122⟩ := id b_122
              refine tz_cV (pc := 122) (c_pass hl n _ _ (by omega) b_122) vl_X5_116 dX5_readCompound_122 o_163 rfl rfl (Nat.le_of_ble_eq_true rfl) ⟨(show 2 + 1 ≤ d9 + 2 by omega), (show 8 + (2 + 11) + 40 * (2) ≤ 40 * (d9 + 2) by omega)⟩ rfl rfl (Nat.le_of_ble_eq_true rfl) (Nat.le_of_ble_eq_true rfl) (fun r9 J_122 hq9 => ?_)
              obtain ⟨rfl, g_122, d_122⟩ := hq9
              have q_122 := RT.rn q_110 g_122 d_122
              have f_122 := g_122.2.2
              refine tz_aload_n (pc := 125) dX5_readCompound_125 rfl rfl ?_
              refine tz_fI (pc := 126) (kz := 8) (v := (J_122 163 8)) dX5_readCompound_126 fl_X5_24 i_163_8 rfl rfl (fun r_126 => ?_)
              refine tz_if_ne (pc := 129) (tgt := 156) dX5_readCompound_129 (by decide) (by omega) (fun h_129 => ?_) (fun h_129 => ?_)
              · refine tz_iconst (pc := 156) dX5_readCompound_156 ?_
                exact tz_iret (pc := 157) (z := (-1)) dX5_readCompound_157 rfl (Nat.le_of_ble_eq_true rfl) (Nat.le_of_ble_eq_true rfl) ⟨Nat.le_refl _, Nat.le_add_right _ _⟩ ⟨_, rfl, (by decide), ⟨m_110, q_122, fun q => by first | exact absurd q v_122 | omega⟩⟩
              · refine tz_aload_n (pc := 132) dX5_readCompound_132 rfl rfl ?_
                refine tz_aload_n (pc := 133) dX5_readCompound_133 rfl rfl ?_
                refine tz_fR (pc := 134) dX5_readCompound_134 fl_X5_38 r_163_1 ?_
                refine tz_fR (pc := 137) dX5_readCompound_137 fl_X5_42 r_5_0 ?_
                refine tz_iload_n (pc := 140) dX5_readCompound_140 rfl rfl ?_
                refine tz_iload (pc := 141) dX5_readCompound_141 rfl ?_
                refine tz_iload (pc := 143) dX5_readCompound_143 rfl ?_
                refine tz_iload (pc := 145) dX5_readCompound_145 rfl ?_
                have x1 := (q_122).1.2.2.2.2 1 rfl
                have t_147 := (q_122).1.2.1.told
                refine tz_cV (pc := 147) (c_made hl n _ _ _ _ _ (by omega) (by omega) (by omega) (by omega) m_110 (q_122).1.2.1 (q_122).1.2.2.1 (by rw [x1]; omega) (ltA_of (by omega) (by omega) (by omega))) vl_X5_189 dX5_readCompound_147 o_6 rfl rfl (Nat.le_of_ble_eq_true rfl) ⟨(show 2 + 1 ≤ d9 + 2 by omega), (show 8 + (11 + 11) + 40 * (2) ≤ 40 * (d9 + 2) by omega)⟩ rfl rfl (Nat.le_of_ble_eq_true rfl) (Nat.le_of_ble_eq_true rfl) (fun r9 J_147 hq9 => ?_)
                obtain ⟨z_147, rfl, hz_147, p_147⟩ := hq9
                obtain ⟨m_147, y_147, h_147⟩ := GR.made p_147 (by omega)
                have q_147 := RT.made q_122 y_147
                refine tz_cV (pc := 150) (c_held hl n _ _ (by omega)) vl_X5_180 dX5_readCompound_150 o_163 rfl rfl (Nat.le_of_ble_eq_true rfl) ⟨(show 1 + 1 ≤ d9 + 2 by omega), (show 8 + (2 + 11) + 40 * (1) ≤ 40 * (d9 + 2) by omega)⟩ rfl rfl (Nat.le_of_ble_eq_true rfl) (Nat.le_of_ble_eq_true rfl) (fun r9 J_150 hq9 => ?_)
                obtain ⟨z_150, rfl, hz_150, g_150, d_150, u_150⟩ := hq9
                have q_150 := RT.rn q_147 g_150 (d_150 (q_147).2.1)
                refine tz_goto (pc := 153) (tgt := 157) dX5_readCompound_153 (by decide) ?_
                exact tz_iret (pc := 157) (z := z_150) dX5_readCompound_157 rfl (Nat.le_of_ble_eq_true rfl) (Nat.le_of_ble_eq_true rfl) ⟨Nat.le_refl _, Nat.le_add_right _ _⟩ ⟨_, rfl, (by omega), ⟨m_147, q_150, fun q => by first | exact absurd q v_150 | omega⟩⟩
          · refine tz_iconst (pc := 102) dX5_readCompound_102 ?_
            refine tz_goto (pc := 103) (tgt := 113) dX5_readCompound_103 (by decide) ?_
            refine tz_istore (pc := 113) (L2 := [_, _, _, _, _, _, _]) dX5_readCompound_113 (by decide) rfl ?_
            refine tz_iload_n (pc := 115) dX5_readCompound_115 rfl rfl ?_
            refine tz_if_le (pc := 116) (tgt := 125) dX5_readCompound_116 (by decide) (by omega) (fun h_116 => ?_) (fun h_116 => ?_)
            · refine tz_aload_n (pc := 125) dX5_readCompound_125 rfl rfl ?_
              refine tz_fI (pc := 126) (kz := 8) (v := (J_74 163 8)) dX5_readCompound_126 fl_X5_24 i_163_8 rfl rfl (fun r_126 => ?_)
              refine tz_if_ne (pc := 129) (tgt := 156) dX5_readCompound_129 (by decide) (by omega) (fun h_129 => ?_) (fun h_129 => ?_)
              · refine tz_iconst (pc := 156) dX5_readCompound_156 ?_
                exact tz_iret (pc := 157) (z := (-1)) dX5_readCompound_157 rfl (Nat.le_of_ble_eq_true rfl) (Nat.le_of_ble_eq_true rfl) ⟨Nat.le_refl _, Nat.le_add_right _ _⟩ ⟨_, rfl, (by decide), ⟨m_74, q_74, fun q => by first | exact absurd q v_74 | omega⟩⟩
              · refine tz_aload_n (pc := 132) dX5_readCompound_132 rfl rfl ?_
                refine tz_aload_n (pc := 133) dX5_readCompound_133 rfl rfl ?_
                refine tz_fR (pc := 134) dX5_readCompound_134 fl_X5_38 r_163_1 ?_
                refine tz_fR (pc := 137) dX5_readCompound_137 fl_X5_42 r_5_0 ?_
                refine tz_iload_n (pc := 140) dX5_readCompound_140 rfl rfl ?_
                refine tz_iload (pc := 141) dX5_readCompound_141 rfl ?_
                refine tz_iload (pc := 143) dX5_readCompound_143 rfl ?_
                refine tz_iload (pc := 145) dX5_readCompound_145 rfl ?_
                have x1 := (q_74).1.2.2.2.2 1 rfl
                have t_147 := (q_74).1.2.1.told
                refine tz_cV (pc := 147) (c_made hl n _ _ _ _ _ (by omega) (by omega) (by omega) (by omega) m_74 (q_74).1.2.1 (q_74).1.2.2.1 (by rw [x1]; omega) (ltA_of (by omega) (by omega) (by omega))) vl_X5_189 dX5_readCompound_147 o_6 rfl rfl (Nat.le_of_ble_eq_true rfl) ⟨(show 2 + 1 ≤ d9 + 2 by omega), (show 8 + (11 + 11) + 40 * (2) ≤ 40 * (d9 + 2) by omega)⟩ rfl rfl (Nat.le_of_ble_eq_true rfl) (Nat.le_of_ble_eq_true rfl) (fun r9 J_147 hq9 => ?_)
                obtain ⟨z_147, rfl, hz_147, p_147⟩ := hq9
                obtain ⟨m_147, y_147, h_147⟩ := GR.made p_147 (by omega)
                have q_147 := RT.made q_74 y_147
                refine tz_cV (pc := 150) (c_held hl n _ _ (by omega)) vl_X5_180 dX5_readCompound_150 o_163 rfl rfl (Nat.le_of_ble_eq_true rfl) ⟨(show 1 + 1 ≤ d9 + 2 by omega), (show 8 + (2 + 11) + 40 * (1) ≤ 40 * (d9 + 2) by omega)⟩ rfl rfl (Nat.le_of_ble_eq_true rfl) (Nat.le_of_ble_eq_true rfl) (fun r9 J_150 hq9 => ?_)
                obtain ⟨z_150, rfl, hz_150, g_150, d_150, u_150⟩ := hq9
                have q_150 := RT.rn q_147 g_150 (d_150 (q_147).2.1)
                refine tz_goto (pc := 153) (tgt := 157) dX5_readCompound_153 (by decide) ?_
                exact tz_iret (pc := 157) (z := z_150) dX5_readCompound_157 rfl (Nat.le_of_ble_eq_true rfl) (Nat.le_of_ble_eq_true rfl) ⟨Nat.le_refl _, Nat.le_add_right _ _⟩ ⟨_, rfl, (by omega), ⟨m_147, q_150, fun q => by first | exact absurd q v_150 | omega⟩⟩
            · refine tz_aload_n (pc := 119) dX5_readCompound_119 rfl rfl ?_
              refine tz_bipush (pc := 120) dX5_readCompound_120 (by decide) ?_
              have b_122 := (q_74).2.1
              obtain ⟨⟨⟨b1_122, b2_122⟩, b3_122, b4_122⟩, b5_122⟩ := id b_122
              refine tz_cV (pc := 122) (c_pass hl n _ _ (by omega) b_122) vl_X5_116 dX5_readCompound_122 o_163 rfl rfl (Nat.le_of_ble_eq_true rfl) ⟨(show 2 + 1 ≤ d9 + 2 by omega), (show 8 + (2 + 11) + 40 * (2) ≤ 40 * (d9 + 2) by omega)⟩ rfl rfl (Nat.le_of_ble_eq_true rfl) (Nat.le_of_ble_eq_true rfl) (fun r9 J_122 hq9 => ?_)
              obtain ⟨rfl, g_122, d_122⟩ := hq9
              have q_122 := RT.rn q_74 g_122 d_122
              have f_122 := g_122.2.2
              refine tz_aload_n (pc := 125) dX5_readCompound_125 rfl rfl ?_
              refine tz_fI (pc := 126) (kz := 8) (v := (J_122 163 8)) dX5_readCompound_126 fl_X5_24 i_163_8 rfl rfl (fun r_126 => ?_)
              refine tz_if_ne (pc := 129) (tgt := 156) dX5_readCompound_129 (by decide) (by omega) (fun h_129 => ?_) (fun h_129 => ?_)
              · refine tz_iconst (pc := 156) dX5_readCompound_156 ?_
                exact tz_iret (pc := 157) (z := (-1)) dX5_readCompound_157 rfl (Nat.le_of_ble_eq_true rfl) (Nat.le_of_ble_eq_true rfl) ⟨Nat.le_refl _, Nat.le_add_right _ _⟩ ⟨_, rfl, (by decide), ⟨m_74, q_122, fun q => by first | exact absurd q v_122 | omega⟩⟩
              · refine tz_aload_n (pc := 132) dX5_readCompound_132 rfl rfl ?_
                refine tz_aload_n (pc := 133) dX5_readCompound_133 rfl rfl ?_
                refine tz_fR (pc := 134) dX5_readCompound_134 fl_X5_38 r_163_1 ?_
                refine tz_fR (pc := 137) dX5_readCompound_137 fl_X5_42 r_5_0 ?_
                refine tz_iload_n (pc := 140) dX5_readCompound_140 rfl rfl ?_
                refine tz_iload (pc := 141) dX5_readCompound_141 rfl ?_
                refine tz_iload (pc := 143) dX5_readCompound_143 rfl ?_
                refine tz_iload (pc := 145) dX5_readCompound_145 rfl ?_
                have x1 := (q_122).1.2.2.2.2 1 rfl
                have t_147 := (q_122).1.2.1.told
                refine tz_cV (pc := 147) (c_made hl n _ _ _ _ _ (by omega) (by omega) (by omega) (by omega) m_74 (q_122).1.2.1 (q_122).1.2.2.1 (by rw [x1]; omega) (ltA_of (by omega) (by omega) (by omega))) vl_X5_189 dX5_readCompound_147 o_6 rfl rfl (Nat.le_of_ble_eq_true rfl) ⟨(show 2 + 1 ≤ d9 + 2 by omega), (show 8 + (11 + 11) + 40 * (2) ≤ 40 * (d9 + 2) by omega)⟩ rfl rfl (Nat.le_of_ble_eq_true rfl) (Nat.le_of_ble_eq_true rfl) (fun r9 J_147 hq9 => ?_)
                obtain ⟨z_147, rfl, hz_147, p_147⟩ := hq9
                obtain ⟨m_147, y_147, h_147⟩ := GR.made p_147 (by omega)
                have q_147 := RT.made q_122 y_147
                refine tz_cV (pc := 150) (c_held hl n _ _ (by omega)) vl_X5_180 dX5_readCompound_150 o_163 rfl rfl (Nat.le_of_ble_eq_true rfl) ⟨(show 1 + 1 ≤ d9 + 2 by omega), (show 8 + (2 + 11) + 40 * (1) ≤ 40 * (d9 + 2) by omega)⟩ rfl rfl (Nat.le_of_ble_eq_true rfl) (Nat.le_of_ble_eq_true rfl) (fun r9 J_150 hq9 => ?_)
                obtain ⟨z_150, rfl, hz_150, g_150, d_150, u_150⟩ := hq9
                have q_150 := RT.rn q_147 g_150 (d_150 (q_147).2.1)
                refine tz_goto (pc := 153) (tgt := 157) dX5_readCompound_153 (by decide) ?_
                exact tz_iret (pc := 157) (z := z_150) dX5_readCompound_157 rfl (Nat.le_of_ble_eq_true rfl) (Nat.le_of_ble_eq_true rfl) ⟨Nat.le_refl _, Nat.le_add_right _ _⟩ ⟨_, rfl, (by omega), ⟨m_147, q_150, fun q => by first | exact absurd q v_150 | omega⟩⟩
      · refine tz_iconst (pc := 66) dX5_readCompound_66 ?_
        refine tz_goto (pc := 67) (tgt := 77) dX5_readCompound_67 (by decide) ?_
        refine tz_istore (pc := 77) (L2 := [_, _, _, _, _, _, _]) dX5_readCompound_77 (by decide) rfl ?_
        refine tz_iload_n (pc := 79) dX5_readCompound_79 rfl rfl ?_
        refine tz_iconst (pc := 80) dX5_readCompound_80 ?_
        refine tz_icmp_ge (pc := 81) (tgt := 88) dX5_readCompound_81 (by decide) (by omega) (by decide) (fun h_81 => ?_) (fun h_81 => ?_)
        · refine tz_aload_n (pc := 88) dX5_readCompound_88 rfl rfl ?_
          refine tz_bipush (pc := 89) dX5_readCompound_89 (by decide) ?_
          refine tz_iload_n (pc := 91) dX5_readCompound_91 rfl rfl ?_
          refine tz_cV (pc := 92) (c_readArg hl n _ _ _ (by decide) (by omega) d9 hd9 H m (q_48).1.2.1 (q_48).1.2.2.1 (q_48).2.1) vl_X5_186 dX5_readCompound_92 o_163 rfl rfl (Nat.le_of_ble_eq_true rfl) ⟨(show (d9 + 1) + 1 ≤ d9 + 2 by omega), (show 8 + (3 + 11) + 40 * ((d9 + 1)) ≤ 40 * (d9 + 2) by omega)⟩ rfl rfl (Nat.le_of_ble_eq_true rfl) (Nat.le_of_ble_eq_true rfl) (fun r9 J_92 hq9 => ?_)
          obtain ⟨z_92, rfl, hz_92, m_92, g_92, u_92⟩ := hq9
          have q_92 := RT.tr q_48 g_92
          have f_92 := g_92.2.2
          have l_92 := g_92.1.1
          refine tz_istore (pc := 95) (L2 := [_, _, _, _, _, _, _]) dX5_readCompound_95 (by decide) rfl ?_
          refine tz_iload_n (pc := 97) dX5_readCompound_97 rfl rfl ?_
          refine tz_iconst (pc := 98) dX5_readCompound_98 ?_
          refine tz_icmp_ge (pc := 99) (tgt := 106) dX5_readCompound_99 (by decide) (by omega) (by decide) (fun h_99 => ?_) (fun h_99 => ?_)
          · refine tz_aload_n (pc := 106) dX5_readCompound_106 rfl rfl ?_
            refine tz_bipush (pc := 107) dX5_readCompound_107 (by decide) ?_
            refine tz_iload_n (pc := 109) dX5_readCompound_109 rfl rfl ?_
            refine tz_cV (pc := 110) (c_readArg hl n _ _ _ (by decide) (by omega) d9 hd9 H m_92 (q_92).1.2.1 (q_92).1.2.2.1 (q_92).2.1) vl_X5_186 dX5_readCompound_110 o_163 rfl rfl (Nat.le_of_ble_eq_true rfl) ⟨(show (d9 + 1) + 1 ≤ d9 + 2 by omega), (show 8 + (3 + 11) + 40 * ((d9 + 1)) ≤ 40 * (d9 + 2) by omega)⟩ rfl rfl (Nat.le_of_ble_eq_true rfl) (Nat.le_of_ble_eq_true rfl) (fun r9 J_110 hq9 => ?_)
            obtain ⟨z_110, rfl, hz_110, m_110, g_110, u_110⟩ := hq9
            have q_110 := RT.tr q_92 g_110
            have f_110 := g_110.2.2
            have l_110 := g_110.1.1
            refine tz_istore (pc := 113) (L2 := [_, _, _, _, _, _, _]) dX5_readCompound_113 (by decide) rfl ?_
            refine tz_iload_n (pc := 115) dX5_readCompound_115 rfl rfl ?_
            refine tz_if_le (pc := 116) (tgt := 125) dX5_readCompound_116 (by decide) (by omega) (fun h_116 => ?_) (fun h_116 => ?_)
            · refine tz_aload_n (pc := 125) dX5_readCompound_125 rfl rfl ?_
              refine tz_fI (pc := 126) (kz := 8) (v := (J_110 163 8)) dX5_readCompound_126 fl_X5_24 i_163_8 rfl rfl (fun r_126 => ?_)
              refine tz_if_ne (pc := 129) (tgt := 156) dX5_readCompound_129 (by decide) (by omega) (fun h_129 => ?_) (fun h_129 => ?_)
              · refine tz_iconst (pc := 156) dX5_readCompound_156 ?_
                exact tz_iret (pc := 157) (z := (-1)) dX5_readCompound_157 rfl (Nat.le_of_ble_eq_true rfl) (Nat.le_of_ble_eq_true rfl) ⟨Nat.le_refl _, Nat.le_add_right _ _⟩ ⟨_, rfl, (by decide), ⟨m_110, q_110, fun q => by first | exact absurd q v_110 | omega⟩⟩
              · refine tz_aload_n (pc := 132) dX5_readCompound_132 rfl rfl ?_
                refine tz_aload_n (pc := 133) dX5_readCompound_133 rfl rfl ?_
                refine tz_fR (pc := 134) dX5_readCompound_134 fl_X5_38 r_163_1 ?_
                refine tz_fR (pc := 137) dX5_readCompound_137 fl_X5_42 r_5_0 ?_
                refine tz_iload_n (pc := 140) dX5_readCompound_140 rfl rfl ?_
                refine tz_iload (pc := 141) dX5_readCompound_141 rfl ?_
                refine tz_iload (pc := 143) dX5_readCompound_143 rfl ?_
                refine tz_iload (pc := 145) dX5_readCompound_145 rfl ?_
                have x1 := (q_110).1.2.2.2.2 1 rfl
                have t_147 := (q_110).1.2.1.told
                refine tz_cV (pc := 147) (c_made hl n _ _ _ _ _ (by omega) (by omega) (by omega) (by omega) m_110 (q_110).1.2.1 (q_110).1.2.2.1 (by rw [x1]; omega) (ltA_of (by omega) (by omega) (by omega))) vl_X5_189 dX5_readCompound_147 o_6 rfl rfl (Nat.le_of_ble_eq_true rfl) ⟨(show 2 + 1 ≤ d9 + 2 by omega), (show 8 + (11 + 11) + 40 * (2) ≤ 40 * (d9 + 2) by omega)⟩ rfl rfl (Nat.le_of_ble_eq_true rfl) (Nat.le_of_ble_eq_true rfl) (fun r9 J_147 hq9 => ?_)
                obtain ⟨z_147, rfl, hz_147, p_147⟩ := hq9
                obtain ⟨m_147, y_147, h_147⟩ := GR.made p_147 (by omega)
                have q_147 := RT.made q_110 y_147
                refine tz_cV (pc := 150) (c_held hl n _ _ (by omega)) vl_X5_180 dX5_readCompound_150 o_163 rfl rfl (Nat.le_of_ble_eq_true rfl) ⟨(show 1 + 1 ≤ d9 + 2 by omega), (show 8 + (2 + 11) + 40 * (1) ≤ 40 * (d9 + 2) by omega)⟩ rfl rfl (Nat.le_of_ble_eq_true rfl) (Nat.le_of_ble_eq_true rfl) (fun r9 J_150 hq9 => ?_)
                obtain ⟨z_150, rfl, hz_150, g_150, d_150, u_150⟩ := hq9
                have q_150 := RT.rn q_147 g_150 (d_150 (q_147).2.1)
                refine tz_goto (pc := 153) (tgt := 157) dX5_readCompound_153 (by decide) ?_
                exact tz_iret (pc := 157) (z := z_150) dX5_readCompound_157 rfl (Nat.le_of_ble_eq_true rfl) (Nat.le_of_ble_eq_true rfl) ⟨Nat.le_refl _, Nat.le_add_right _ _⟩ ⟨_, rfl, (by omega), ⟨m_147, q_150, fun q => by first | exact absurd q v_150 | omega⟩⟩
            · refine tz_aload_n (pc := 119) dX5_readCompound_119 rfl rfl ?_
              refine tz_bipush (pc := 120) dX5_readCompound_120 (by decide) ?_
              have b_122 := (q_110).2.1
              obtain ⟨⟨⟨b1_122, b2_122⟩, b3_122, b4_122⟩, b5_122⟩ := id b_122
              refine tz_cV (pc := 122) (c_pass hl n _ _ (by omega) b_122) vl_X5_116 dX5_readCompound_122 o_163 rfl rfl (Nat.le_of_ble_eq_true rfl) ⟨(show 2 + 1 ≤ d9 + 2 by omega), (show 8 + (2 + 11) + 40 * (2) ≤ 40 * (d9 + 2) by omega)⟩ rfl rfl (Nat.le_of_ble_eq_true rfl) (Nat.le_of_ble_eq_true rfl) (fun r9 J_122 hq9 => ?_)
              obtain ⟨rfl, g_122, d_122⟩ := hq9
              have q_122 := RT.rn q_110 g_122 d_122
              have f_122 := g_122.2.2
              refine tz_aload_n (pc := 125) dX5_readCompound_125 rfl rfl ?_
              refine tz_fI (pc := 126) (kz := 8) (v := (J_122 163 8)) dX5_readCompound_126 fl_X5_24 i_163_8 rfl rfl (fun r_126 => ?_)
              refine tz_if_ne (pc := 129) (tgt := 156) dX5_readCompound_129 (by decide) (by omega) (fun h_129 => ?_) (fun h_129 => ?_)
              · refine tz_iconst (pc := 156) dX5_readCompound_156 ?_
                exact tz_iret (pc := 157) (z := (-1)) dX5_readCompound_157 rfl (Nat.le_of_ble_eq_true rfl) (Nat.le_of_ble_eq_true rfl) ⟨Nat.le_refl _, Nat.le_add_right _ _⟩ ⟨_, rfl, (by decide), ⟨m_110, q_122, fun q => by first | exact absurd q v_122 | omega⟩⟩
              · refine tz_aload_n (pc := 132) dX5_readCompound_132 rfl rfl ?_
                refine tz_aload_n (pc := 133) dX5_readCompound_133 rfl rfl ?_
                refine tz_fR (pc := 134) dX5_readCompound_134 fl_X5_38 r_163_1 ?_
                refine tz_fR (pc := 137) dX5_readCompound_137 fl_X5_42 r_5_0 ?_
                refine tz_iload_n (pc := 140) dX5_readCompound_140 rfl rfl ?_
                refine tz_iload (pc := 141) dX5_readCompound_141 rfl ?_
                refine tz_iload (pc := 143) dX5_readCompound_143 rfl ?_
                refine tz_iload (pc := 145) dX5_readCompound_145 rfl ?_
                have x1 := (q_122).1.2.2.2.2 1 rfl
                have t_147 := (q_122).1.2.1.told
                refine tz_cV (pc := 147) (c_made hl n _ _ _ _ _ (by omega) (by omega) (by omega) (by omega) m_110 (q_122).1.2.1 (q_122).1.2.2.1 (by rw [x1]; omega) (ltA_of (by omega) (by omega) (by omega))) vl_X5_189 dX5_readCompound_147 o_6 rfl rfl (Nat.le_of_ble_eq_true rfl) ⟨(show 2 + 1 ≤ d9 + 2 by omega), (show 8 + (11 + 11) + 40 * (2) ≤ 40 * (d9 + 2) by omega)⟩ rfl rfl (Nat.le_of_ble_eq_true rfl) (Nat.le_of_ble_eq_true rfl) (fun r9 J_147 hq9 => ?_)
                obtain ⟨z_147, rfl, hz_147, p_147⟩ := hq9
                obtain ⟨m_147, y_147, h_147⟩ := GR.made p_147 (by omega)
                have q_147 := RT.made q_122 y_147
                refine tz_cV (pc := 150) (c_held hl n _ _ (by omega)) vl_X5_180 dX5_readCompound_150 o_163 rfl rfl (Nat.le_of_ble_eq_true rfl) ⟨(show 1 + 1 ≤ d9 + 2 by omega), (show 8 + (2 + 11) + 40 * (1) ≤ 40 * (d9 + 2) by omega)⟩ rfl rfl (Nat.le_of_ble_eq_true rfl) (Nat.le_of_ble_eq_true rfl) (fun r9 J_150 hq9 => ?_)
                obtain ⟨z_150, rfl, hz_150, g_150, d_150, u_150⟩ := hq9
                have q_150 := RT.rn q_147 g_150 (d_150 (q_147).2.1)
                refine tz_goto (pc := 153) (tgt := 157) dX5_readCompound_153 (by decide) ?_
                exact tz_iret (pc := 157) (z := z_150) dX5_readCompound_157 rfl (Nat.le_of_ble_eq_true rfl) (Nat.le_of_ble_eq_true rfl) ⟨Nat.le_refl _, Nat.le_add_right _ _⟩ ⟨_, rfl, (by omega), ⟨m_147, q_150, fun q => by first | exact absurd q v_150 | omega⟩⟩
          · refine tz_iconst (pc := 102) dX5_readCompound_102 ?_
            refine tz_goto (pc := 103) (tgt := 113) dX5_readCompound_103 (by decide) ?_
            refine tz_istore (pc := 113) (L2 := [_, _, _, _, _, _, _]) dX5_readCompound_113 (by decide) rfl ?_
            refine tz_iload_n (pc := 115) dX5_readCompound_115 rfl rfl ?_
            refine tz_if_le (pc := 116) (tgt := 125) dX5_readCompound_116 (by decide) (by omega) (fun h_116 => ?_) (fun h_116 => ?_)
            · refine tz_aload_n (pc := 125) dX5_readCompound_125 rfl rfl ?_
              refine tz_fI (pc := 126) (kz := 8) (v := (J_92 163 8)) dX5_readCompound_126 fl_X5_24 i_163_8 rfl rfl (fun r_126 => ?_)
              refine tz_if_ne (pc := 129) (tgt := 156) dX5_readCompound_129 (by decide) (by omega) (fun h_129 => ?_) (fun h_129 => ?_)
              · refine tz_iconst (pc := 156) dX5_readCompound_156 ?_
                exact tz_iret (pc := 157) (z := (-1)) dX5_readCompound_157 rfl (Nat.le_of_ble_eq_true rfl) (Nat.le_of_ble_eq_true rfl) ⟨Nat.le_refl _, Nat.le_add_right _ _⟩ ⟨_, rfl, (by decide), ⟨m_92, q_92, fun q => by first | exact absurd q v_92 | omega⟩⟩
              · refine tz_aload_n (pc := 132) dX5_readCompound_132 rfl rfl ?_
                refine tz_aload_n (pc := 133) dX5_readCompound_133 rfl rfl ?_
                refine tz_fR (pc := 134) dX5_readCompound_134 fl_X5_38 r_163_1 ?_
                refine tz_fR (pc := 137) dX5_readCompound_137 fl_X5_42 r_5_0 ?_
                refine tz_iload_n (pc := 140) dX5_readCompound_140 rfl rfl ?_
                refine tz_iload (pc := 141) dX5_readCompound_141 rfl ?_
                refine tz_iload (pc := 143) dX5_readCompound_143 rfl ?_
                refine tz_iload (pc := 145) dX5_readCompound_145 rfl ?_
                have x1 := (q_92).1.2.2.2.2 1 rfl
                have t_147 := (q_92).1.2.1.told
                refine tz_cV (pc := 147) (c_made hl n _ _ _ _ _ (by omega) (by omega) (by omega) (by omega) m_92 (q_92).1.2.1 (q_92).1.2.2.1 (by rw [x1]; omega) (ltA_of (by omega) (by omega) (by omega))) vl_X5_189 dX5_readCompound_147 o_6 rfl rfl (Nat.le_of_ble_eq_true rfl) ⟨(show 2 + 1 ≤ d9 + 2 by omega), (show 8 + (11 + 11) + 40 * (2) ≤ 40 * (d9 + 2) by omega)⟩ rfl rfl (Nat.le_of_ble_eq_true rfl) (Nat.le_of_ble_eq_true rfl) (fun r9 J_147 hq9 => ?_)
                obtain ⟨z_147, rfl, hz_147, p_147⟩ := hq9
                obtain ⟨m_147, y_147, h_147⟩ := GR.made p_147 (by omega)
                have q_147 := RT.made q_92 y_147
                refine tz_cV (pc := 150) (c_held hl n _ _ (by omega)) vl_X5_180 dX5_readCompound_150 o_163 rfl rfl (Nat.le_of_ble_eq_true rfl) ⟨(show 1 + 1 ≤ d9 + 2 by omega), (show 8 + (2 + 11) + 40 * (1) ≤ 40 * (d9 + 2) by omega)⟩ rfl rfl (Nat.le_of_ble_eq_true rfl) (Nat.le_of_ble_eq_true rfl) (fun r9 J_150 hq9 => ?_)
                obtain ⟨z_150, rfl, hz_150, g_150, d_150, u_150⟩ := hq9
                have q_150 := RT.rn q_147 g_150 (d_150 (q_147).2.1)
                refine tz_goto (pc := 153) (tgt := 157) dX5_readCompound_153 (by decide) ?_
                exact tz_iret (pc := 157) (z := z_150) dX5_readCompound_157 rfl (Nat.le_of_ble_eq_true rfl) (Nat.le_of_ble_eq_true rfl) ⟨Nat.le_refl _, Nat.le_add_right _ _⟩ ⟨_, rfl, (by omega), ⟨m_147, q_150, fun q => by first | exact absurd q v_150 | omega⟩⟩
            · refine tz_aload_n (pc := 119) dX5_readCompound_119 rfl rfl ?_
              refine tz_bipush (pc := 120) dX5_readCompound_120 (by decide) ?_
              have b_122 := (q_92).2.1
              obtain ⟨⟨⟨b1_122, b2_122⟩, b3_122, b4_122⟩, b5_122⟩ := id b_122
              refine tz_cV (pc := 122) (c_pass hl n _ _ (by omega) b_122) vl_X5_116 dX5_readCompound_122 o_163 rfl rfl (Nat.le_of_ble_eq_true rfl) ⟨(show 2 + 1 ≤ d9 + 2 by omega), (show 8 + (2 + 11) + 40 * (2) ≤ 40 * (d9 + 2) by omega)⟩ rfl rfl (Nat.le_of_ble_eq_true rfl) (Nat.le_of_ble_eq_true rfl) (fun r9 J_122 hq9 => ?_)
              obtain ⟨rfl, g_122, d_122⟩ := hq9
              have q_122 := RT.rn q_92 g_122 d_122
              have f_122 := g_122.2.2
              refine tz_aload_n (pc := 125) dX5_readCompound_125 rfl rfl ?_
              refine tz_fI (pc := 126) (kz := 8) (v := (J_122 163 8)) dX5_readCompound_126 fl_X5_24 i_163_8 rfl rfl (fun r_126 => ?_)
              refine tz_if_ne (pc := 129) (tgt := 156) dX5_readCompound_129 (by decide) (by omega) (fun h_129 => ?_) (fun h_129 => ?_)
              · refine tz_iconst (pc := 156) dX5_readCompound_156 ?_
                exact tz_iret (pc := 157) (z := (-1)) dX5_readCompound_157 rfl (Nat.le_of_ble_eq_true rfl) (Nat.le_of_ble_eq_true rfl) ⟨Nat.le_refl _, Nat.le_add_right _ _⟩ ⟨_, rfl, (by decide), ⟨m_92, q_122, fun q => by first | exact absurd q v_122 | omega⟩⟩
              · refine tz_aload_n (pc := 132) dX5_readCompound_132 rfl rfl ?_
                refine tz_aload_n (pc := 133) dX5_readCompound_133 rfl rfl ?_
                refine tz_fR (pc := 134) dX5_readCompound_134 fl_X5_38 r_163_1 ?_
                refine tz_fR (pc := 137) dX5_readCompound_137 fl_X5_42 r_5_0 ?_
                refine tz_iload_n (pc := 140) dX5_readCompound_140 rfl rfl ?_
                refine tz_iload (pc := 141) dX5_readCompound_141 rfl ?_
                refine tz_iload (pc := 143) dX5_readCompound_143 rfl ?_
                refine tz_iload (pc := 145) dX5_readCompound_145 rfl ?_
                have x1 := (q_122).1.2.2.2.2 1 rfl
                have t_147 := (q_122).1.2.1.told
                refine tz_cV (pc := 147) (c_made hl n _ _ _ _ _ (by omega) (by omega) (by omega) (by omega) m_92 (q_122).1.2.1 (q_122).1.2.2.1 (by rw [x1]; omega) (ltA_of (by omega) (by omega) (by omega))) vl_X5_189 dX5_readCompound_147 o_6 rfl rfl (Nat.le_of_ble_eq_true rfl) ⟨(show 2 + 1 ≤ d9 + 2 by omega), (show 8 + (11 + 11) + 40 * (2) ≤ 40 * (d9 + 2) by omega)⟩ rfl rfl (Nat.le_of_ble_eq_true rfl) (Nat.le_of_ble_eq_true rfl) (fun r9 J_147 hq9 => ?_)
                obtain ⟨z_147, rfl, hz_147, p_147⟩ := hq9
                obtain ⟨m_147, y_147, h_147⟩ := GR.made p_147 (by omega)
                have q_147 := RT.made q_122 y_147
                refine tz_cV (pc := 150) (c_held hl n _ _ (by omega)) vl_X5_180 dX5_readCompound_150 o_163 rfl rfl (Nat.le_of_ble_eq_true rfl) ⟨(show 1 + 1 ≤ d9 + 2 by omega), (show 8 + (2 + 11) + 40 * (1) ≤ 40 * (d9 + 2) by omega)⟩ rfl rfl (Nat.le_of_ble_eq_true rfl) (Nat.le_of_ble_eq_true rfl) (fun r9 J_150 hq9 => ?_)
                obtain ⟨z_150, rfl, hz_150, g_150, d_150, u_150⟩ := hq9
                have q_150 := RT.rn q_147 g_150 (d_150 (q_147).2.1)
                refine tz_goto (pc := 153) (tgt := 157) dX5_readCompound_153 (by decide) ?_
                exact tz_iret (pc := 157) (z := z_150) dX5_readCompound_157 rfl (Nat.le_of_ble_eq_true rfl) (Nat.le_of_ble_eq_true rfl) ⟨Nat.le_refl _, Nat.le_add_right _ _⟩ ⟨_, rfl, (by omega), ⟨m_147, q_150, fun q => by first | exact absurd q v_150 | omega⟩⟩
        · refine tz_iconst (pc := 84) dX5_readCompound_84 ?_
          refine tz_goto (pc := 85) (tgt := 95) dX5_readCompound_85 (by decide) ?_
          refine tz_istore (pc := 95) (L2 := [_, _, _, _, _, _, _]) dX5_readCompound_95 (by decide) rfl ?_
          refine tz_iload_n (pc := 97) dX5_readCompound_97 rfl rfl ?_
          refine tz_iconst (pc := 98) dX5_readCompound_98 ?_
          refine tz_icmp_ge (pc := 99) (tgt := 106) dX5_readCompound_99 (by decide) (by omega) (by decide) (fun h_99 => ?_) (fun h_99 => ?_)
          · refine tz_aload_n (pc := 106) dX5_readCompound_106 rfl rfl ?_
            refine tz_bipush (pc := 107) dX5_readCompound_107 (by decide) ?_
            refine tz_iload_n (pc := 109) dX5_readCompound_109 rfl rfl ?_
            refine tz_cV (pc := 110) (c_readArg hl n _ _ _ (by decide) (by omega) d9 hd9 H m (q_48).1.2.1 (q_48).1.2.2.1 (q_48).2.1) vl_X5_186 dX5_readCompound_110 o_163 rfl rfl (Nat.le_of_ble_eq_true rfl) ⟨(show (d9 + 1) + 1 ≤ d9 + 2 by omega), (show 8 + (3 + 11) + 40 * ((d9 + 1)) ≤ 40 * (d9 + 2) by omega)⟩ rfl rfl (Nat.le_of_ble_eq_true rfl) (Nat.le_of_ble_eq_true rfl) (fun r9 J_110 hq9 => ?_)
            obtain ⟨z_110, rfl, hz_110, m_110, g_110, u_110⟩ := hq9
            have q_110 := RT.tr q_48 g_110
            have f_110 := g_110.2.2
            have l_110 := g_110.1.1
            refine tz_istore (pc := 113) (L2 := [_, _, _, _, _, _, _]) dX5_readCompound_113 (by decide) rfl ?_
            refine tz_iload_n (pc := 115) dX5_readCompound_115 rfl rfl ?_
            refine tz_if_le (pc := 116) (tgt := 125) dX5_readCompound_116 (by decide) (by omega) (fun h_116 => ?_) (fun h_116 => ?_)
            · refine tz_aload_n (pc := 125) dX5_readCompound_125 rfl rfl ?_
              refine tz_fI (pc := 126) (kz := 8) (v := (J_110 163 8)) dX5_readCompound_126 fl_X5_24 i_163_8 rfl rfl (fun r_126 => ?_)
              refine tz_if_ne (pc := 129) (tgt := 156) dX5_readCompound_129 (by decide) (by omega) (fun h_129 => ?_) (fun h_129 => ?_)
              · refine tz_iconst (pc := 156) dX5_readCompound_156 ?_
                exact tz_iret (pc := 157) (z := (-1)) dX5_readCompound_157 rfl (Nat.le_of_ble_eq_true rfl) (Nat.le_of_ble_eq_true rfl) ⟨Nat.le_refl _, Nat.le_add_right _ _⟩ ⟨_, rfl, (by decide), ⟨m_110, q_110, fun q => by first | exact absurd q v_110 | omega⟩⟩
              · refine tz_aload_n (pc := 132) dX5_readCompound_132 rfl rfl ?_
                refine tz_aload_n (pc := 133) dX5_readCompound_133 rfl rfl ?_
                refine tz_fR (pc := 134) dX5_readCompound_134 fl_X5_38 r_163_1 ?_
                refine tz_fR (pc := 137) dX5_readCompound_137 fl_X5_42 r_5_0 ?_
                refine tz_iload_n (pc := 140) dX5_readCompound_140 rfl rfl ?_
                refine tz_iload (pc := 141) dX5_readCompound_141 rfl ?_
                refine tz_iload (pc := 143) dX5_readCompound_143 rfl ?_
                refine tz_iload (pc := 145) dX5_readCompound_145 rfl ?_
                have x1 := (q_110).1.2.2.2.2 1 rfl
                have t_147 := (q_110).1.2.1.told
                refine tz_cV (pc := 147) (c_made hl n _ _ _ _ _ (by omega) (by omega) (by omega) (by omega) m_110 (q_110).1.2.1 (q_110).1.2.2.1 (by rw [x1]; omega) (ltA_of (by omega) (by omega) (by omega))) vl_X5_189 dX5_readCompound_147 o_6 rfl rfl (Nat.le_of_ble_eq_true rfl) ⟨(show 2 + 1 ≤ d9 + 2 by omega), (show 8 + (11 + 11) + 40 * (2) ≤ 40 * (d9 + 2) by omega)⟩ rfl rfl (Nat.le_of_ble_eq_true rfl) (Nat.le_of_ble_eq_true rfl) (fun r9 J_147 hq9 => ?_)
                obtain ⟨z_147, rfl, hz_147, p_147⟩ := hq9
                obtain ⟨m_147, y_147, h_147⟩ := GR.made p_147 (by omega)
                have q_147 := RT.made q_110 y_147
                refine tz_cV (pc := 150) (c_held hl n _ _ (by omega)) vl_X5_180 dX5_readCompound_150 o_163 rfl rfl (Nat.le_of_ble_eq_true rfl) ⟨(show 1 + 1 ≤ d9 + 2 by omega), (show 8 + (2 + 11) + 40 * (1) ≤ 40 * (d9 + 2) by omega)⟩ rfl rfl (Nat.le_of_ble_eq_true rfl) (Nat.le_of_ble_eq_true rfl) (fun r9 J_150 hq9 => ?_)
                obtain ⟨z_150, rfl, hz_150, g_150, d_150, u_150⟩ := hq9
                have q_150 := RT.rn q_147 g_150 (d_150 (q_147).2.1)
                refine tz_goto (pc := 153) (tgt := 157) dX5_readCompound_153 (by decide) ?_
                exact tz_iret (pc := 157) (z := z_150) dX5_readCompound_157 rfl (Nat.le_of_ble_eq_true rfl) (Nat.le_of_ble_eq_true rfl) ⟨Nat.le_refl _, Nat.le_add_right _ _⟩ ⟨_, rfl, (by omega), ⟨m_147, q_150, fun q => by first | exact absurd q v_150 | omega⟩⟩
            · refine tz_aload_n (pc := 119) dX5_readCompound_119 rfl rfl ?_
              refine tz_bipush (pc := 120) dX5_readCompound_120 (by decide) ?_
              have b_122 := (q_110).2.1
              obtain ⟨⟨⟨b1_122, b2_122⟩, b3_122, b4_122⟩, b5_122⟩ := id b_122
              refine tz_cV (pc := 122) (c_pass hl n _ _ (by omega) b_122) vl_X5_116 dX5_readCompound_122 o_163 rfl rfl (Nat.le_of_ble_eq_true rfl) ⟨(show 2 + 1 ≤ d9 + 2 by omega), (show 8 + (2 + 11) + 40 * (2) ≤ 40 * (d9 + 2) by omega)⟩ rfl rfl (Nat.le_of_ble_eq_true rfl) (Nat.le_of_ble_eq_true rfl) (fun r9 J_122 hq9 => ?_)
              obtain ⟨rfl, g_122, d_122⟩ := hq9
              have q_122 := RT.rn q_110 g_122 d_122
              have f_122 := g_122.2.2
              refine tz_aload_n (pc := 125) dX5_readCompound_125 rfl rfl ?_
              refine tz_fI (pc := 126) (kz := 8) (v := (J_122 163 8)) dX5_readCompound_126 fl_X5_24 i_163_8 rfl rfl (fun r_126 => ?_)
              refine tz_if_ne (pc := 129) (tgt := 156) dX5_readCompound_129 (by decide) (by omega) (fun h_129 => ?_) (fun h_129 => ?_)
              · refine tz_iconst (pc := 156) dX5_readCompound_156 ?_
                exact tz_iret (pc := 157) (z := (-1)) dX5_readCompound_157 rfl (Nat.le_of_ble_eq_true rfl) (Nat.le_of_ble_eq_true rfl) ⟨Nat.le_refl _, Nat.le_add_right _ _⟩ ⟨_, rfl, (by decide), ⟨m_110, q_122, fun q => by first | exact absurd q v_122 | omega⟩⟩
              · refine tz_aload_n (pc := 132) dX5_readCompound_132 rfl rfl ?_
                refine tz_aload_n (pc := 133) dX5_readCompound_133 rfl rfl ?_
                refine tz_fR (pc := 134) dX5_readCompound_134 fl_X5_38 r_163_1 ?_
                refine tz_fR (pc := 137) dX5_readCompound_137 fl_X5_42 r_5_0 ?_
                refine tz_iload_n (pc := 140) dX5_readCompound_140 rfl rfl ?_
                refine tz_iload (pc := 141) dX5_readCompound_141 rfl ?_
                refine tz_iload (pc := 143) dX5_readCompound_143 rfl ?_
                refine tz_iload (pc := 145) dX5_readCompound_145 rfl ?_
                have x1 := (q_122).1.2.2.2.2 1 rfl
                have t_147 := (q_122).1.2.1.told
                refine tz_cV (pc := 147) (c_made hl n _ _ _ _ _ (by omega) (by omega) (by omega) (by omega) m_110 (q_122).1.2.1 (q_122).1.2.2.1 (by rw [x1]; omega) (ltA_of (by omega) (by omega) (by omega))) vl_X5_189 dX5_readCompound_147 o_6 rfl rfl (Nat.le_of_ble_eq_true rfl) ⟨(show 2 + 1 ≤ d9 + 2 by omega), (show 8 + (11 + 11) + 40 * (2) ≤ 40 * (d9 + 2) by omega)⟩ rfl rfl (Nat.le_of_ble_eq_true rfl) (Nat.le_of_ble_eq_true rfl) (fun r9 J_147 hq9 => ?_)
                obtain ⟨z_147, rfl, hz_147, p_147⟩ := hq9
                obtain ⟨m_147, y_147, h_147⟩ := GR.made p_147 (by omega)
                have q_147 := RT.made q_122 y_147
                refine tz_cV (pc := 150) (c_held hl n _ _ (by omega)) vl_X5_180 dX5_readCompound_150 o_163 rfl rfl (Nat.le_of_ble_eq_true rfl) ⟨(show 1 + 1 ≤ d9 + 2 by omega), (show 8 + (2 + 11) + 40 * (1) ≤ 40 * (d9 + 2) by omega)⟩ rfl rfl (Nat.le_of_ble_eq_true rfl) (Nat.le_of_ble_eq_true rfl) (fun r9 J_150 hq9 => ?_)
                obtain ⟨z_150, rfl, hz_150, g_150, d_150, u_150⟩ := hq9
                have q_150 := RT.rn q_147 g_150 (d_150 (q_147).2.1)
                refine tz_goto (pc := 153) (tgt := 157) dX5_readCompound_153 (by decide) ?_
                exact tz_iret (pc := 157) (z := z_150) dX5_readCompound_157 rfl (Nat.le_of_ble_eq_true rfl) (Nat.le_of_ble_eq_true rfl) ⟨Nat.le_refl _, Nat.le_add_right _ _⟩ ⟨_, rfl, (by omega), ⟨m_147, q_150, fun q => by first | exact absurd q v_150 | omega⟩⟩
          · refine tz_iconst (pc := 102) dX5_readCompound_102 ?_
            refine tz_goto (pc := 103) (tgt := 113) dX5_readCompound_103 (by decide) ?_
            refine tz_istore (pc := 113) (L2 := [_, _, _, _, _, _, _]) dX5_readCompound_113 (by decide) rfl ?_
            refine tz_iload_n (pc := 115) dX5_readCompound_115 rfl rfl ?_
            refine tz_if_le (pc := 116) (tgt := 125) dX5_readCompound_116 (by decide) (by omega) (fun h_116 => ?_) (fun h_116 => ?_)
            · refine tz_aload_n (pc := 125) dX5_readCompound_125 rfl rfl ?_
              refine tz_fI (pc := 126) (kz := 8) (v := (J_48 163 8)) dX5_readCompound_126 fl_X5_24 i_163_8 rfl rfl (fun r_126 => ?_)
              refine tz_if_ne (pc := 129) (tgt := 156) dX5_readCompound_129 (by decide) (by omega) (fun h_129 => ?_) (fun h_129 => ?_)
              · refine tz_iconst (pc := 156) dX5_readCompound_156 ?_
                exact tz_iret (pc := 157) (z := (-1)) dX5_readCompound_157 rfl (Nat.le_of_ble_eq_true rfl) (Nat.le_of_ble_eq_true rfl) ⟨Nat.le_refl _, Nat.le_add_right _ _⟩ ⟨_, rfl, (by decide), ⟨m, q_48, fun q => by first | exact absurd q v_48 | omega⟩⟩
              · refine tz_aload_n (pc := 132) dX5_readCompound_132 rfl rfl ?_
                refine tz_aload_n (pc := 133) dX5_readCompound_133 rfl rfl ?_
                refine tz_fR (pc := 134) dX5_readCompound_134 fl_X5_38 r_163_1 ?_
                refine tz_fR (pc := 137) dX5_readCompound_137 fl_X5_42 r_5_0 ?_
                refine tz_iload_n (pc := 140) dX5_readCompound_140 rfl rfl ?_
                refine tz_iload (pc := 141) dX5_readCompound_141 rfl ?_
                refine tz_iload (pc := 143) dX5_readCompound_143 rfl ?_
                refine tz_iload (pc := 145) dX5_readCompound_145 rfl ?_
                have x1 := (q_48).1.2.2.2.2 1 rfl
                have t_147 := (q_48).1.2.1.told
                refine tz_cV (pc := 147) (c_made hl n _ _ _ _ _ (by omega) (by omega) (by omega) (by omega) m (q_48).1.2.1 (q_48).1.2.2.1 (by rw [x1]; omega) (ltA_of (by omega) (by omega) (by omega))) vl_X5_189 dX5_readCompound_147 o_6 rfl rfl (Nat.le_of_ble_eq_true rfl) ⟨(show 2 + 1 ≤ d9 + 2 by omega), (show 8 + (11 + 11) + 40 * (2) ≤ 40 * (d9 + 2) by omega)⟩ rfl rfl (Nat.le_of_ble_eq_true rfl) (Nat.le_of_ble_eq_true rfl) (fun r9 J_147 hq9 => ?_)
                obtain ⟨z_147, rfl, hz_147, p_147⟩ := hq9
                obtain ⟨m_147, y_147, h_147⟩ := GR.made p_147 (by omega)
                have q_147 := RT.made q_48 y_147
                refine tz_cV (pc := 150) (c_held hl n _ _ (by omega)) vl_X5_180 dX5_readCompound_150 o_163 rfl rfl (Nat.le_of_ble_eq_true rfl) ⟨(show 1 + 1 ≤ d9 + 2 by omega), (show 8 + (2 + 11) + 40 * (1) ≤ 40 * (d9 + 2) by omega)⟩ rfl rfl (Nat.le_of_ble_eq_true rfl) (Nat.le_of_ble_eq_true rfl) (fun r9 J_150 hq9 => ?_)
                obtain ⟨z_150, rfl, hz_150, g_150, d_150, u_150⟩ := hq9
                have q_150 := RT.rn q_147 g_150 (d_150 (q_147).2.1)
                refine tz_goto (pc := 153) (tgt := 157) dX5_readCompound_153 (by decide) ?_
                exact tz_iret (pc := 157) (z := z_150) dX5_readCompound_157 rfl (Nat.le_of_ble_eq_true rfl) (Nat.le_of_ble_eq_true rfl) ⟨Nat.le_refl _, Nat.le_add_right _ _⟩ ⟨_, rfl, (by omega), ⟨m_147, q_150, fun q => by first | exact absurd q v_150 | omega⟩⟩
            · refine tz_aload_n (pc := 119) dX5_readCompound_119 rfl rfl ?_
              refine tz_bipush (pc := 120) dX5_readCompound_120 (by decide) ?_
              have b_122 := (q_48).2.1
              obtain ⟨⟨⟨b1_122, b2_122⟩, b3_122, b4_122⟩, b5_122⟩ := id b_122
              refine tz_cV (pc := 122) (c_pass hl n _ _ (by omega) b_122) vl_X5_116 dX5_readCompound_122 o_163 rfl rfl (Nat.le_of_ble_eq_true rfl) ⟨(show 2 + 1 ≤ d9 + 2 by omega), (show 8 + (2 + 11) + 40 * (2) ≤ 40 * (d9 + 2) by omega)⟩ rfl rfl (Nat.le_of_ble_eq_true rfl) (Nat.le_of_ble_eq_true rfl) (fun r9 J_122 hq9 => ?_)
              obtain ⟨rfl, g_122, d_122⟩ := hq9
              have q_122 := RT.rn q_48 g_122 d_122
              have f_122 := g_122.2.2
              refine tz_aload_n (pc := 125) dX5_readCompound_125 rfl rfl ?_
              refine tz_fI (pc := 126) (kz := 8) (v := (J_122 163 8)) dX5_readCompound_126 fl_X5_24 i_163_8 rfl rfl (fun r_126 => ?_)
              refine tz_if_ne (pc := 129) (tgt := 156) dX5_readCompound_129 (by decide) (by omega) (fun h_129 => ?_) (fun h_129 => ?_)
              · refine tz_iconst (pc := 156) dX5_readCompound_156 ?_
                exact tz_iret (pc := 157) (z := (-1)) dX5_readCompound_157 rfl (Nat.le_of_ble_eq_true rfl) (Nat.le_of_ble_eq_true rfl) ⟨Nat.le_refl _, Nat.le_add_right _ _⟩ ⟨_, rfl, (by decide), ⟨m, q_122, fun q => by first | exact absurd q v_122 | omega⟩⟩
              · refine tz_aload_n (pc := 132) dX5_readCompound_132 rfl rfl ?_
                refine tz_aload_n (pc := 133) dX5_readCompound_133 rfl rfl ?_
                refine tz_fR (pc := 134) dX5_readCompound_134 fl_X5_38 r_163_1 ?_
                refine tz_fR (pc := 137) dX5_readCompound_137 fl_X5_42 r_5_0 ?_
                refine tz_iload_n (pc := 140) dX5_readCompound_140 rfl rfl ?_
                refine tz_iload (pc := 141) dX5_readCompound_141 rfl ?_
                refine tz_iload (pc := 143) dX5_readCompound_143 rfl ?_
                refine tz_iload (pc := 145) dX5_readCompound_145 rfl ?_
                have x1 := (q_122).1.2.2.2.2 1 rfl
                have t_147 := (q_122).1.2.1.told
                refine tz_cV (pc := 147) (c_made hl n _ _ _ _ _ (by omega) (by omega) (by omega) (by omega) m (q_122).1.2.1 (q_122).1.2.2.1 (by rw [x1]; omega) (ltA_of (by omega) (by omega) (by omega))) vl_X5_189 dX5_readCompound_147 o_6 rfl rfl (Nat.le_of_ble_eq_true rfl) ⟨(show 2 + 1 ≤ d9 + 2 by omega), (show 8 + (11 + 11) + 40 * (2) ≤ 40 * (d9 + 2) by omega)⟩ rfl rfl (Nat.le_of_ble_eq_true rfl) (Nat.le_of_ble_eq_true rfl) (fun r9 J_147 hq9 => ?_)
                obtain ⟨z_147, rfl, hz_147, p_147⟩ := hq9
                obtain ⟨m_147, y_147, h_147⟩ := GR.made p_147 (by omega)
                have q_147 := RT.made q_122 y_147
                refine tz_cV (pc := 150) (c_held hl n _ _ (by omega)) vl_X5_180 dX5_readCompound_150 o_163 rfl rfl (Nat.le_of_ble_eq_true rfl) ⟨(show 1 + 1 ≤ d9 + 2 by omega), (show 8 + (2 + 11) + 40 * (1) ≤ 40 * (d9 + 2) by omega)⟩ rfl rfl (Nat.le_of_ble_eq_true rfl) (Nat.le_of_ble_eq_true rfl) (fun r9 J_150 hq9 => ?_)
                obtain ⟨z_150, rfl, hz_150, g_150, d_150, u_150⟩ := hq9
                have q_150 := RT.rn q_147 g_150 (d_150 (q_147).2.1)
                refine tz_goto (pc := 153) (tgt := 157) dX5_readCompound_153 (by decide) ?_
                exact tz_iret (pc := 157) (z := z_150) dX5_readCompound_157 rfl (Nat.le_of_ble_eq_true rfl) (Nat.le_of_ble_eq_true rfl) ⟨Nat.le_refl _, Nat.le_add_right _ _⟩ ⟨_, rfl, (by omega), ⟨m_147, q_150, fun q => by first | exact absurd q v_150 | omega⟩⟩
    · refine tz_aload_n (pc := 41) dX5_readCompound_41 rfl rfl ?_
      refine tz_iconst (pc := 42) dX5_readCompound_42 ?_
      refine tz_cV (pc := 43) (c_fail hl n _ _ (by decide) (by decide)) vl_X5_97 dX5_readCompound_43 o_163 rfl rfl (Nat.le_of_ble_eq_true rfl) ⟨(show 0 + 1 ≤ d9 + 2 by omega), (show 8 + (2 + 11) + 40 * (0) ≤ 40 * (d9 + 2) by omega)⟩ rfl rfl (Nat.le_of_ble_eq_true rfl) (Nat.le_of_ble_eq_true rfl) (fun r9 J_43 hq9 => ?_)
      obtain ⟨z_43, rfl, hz_43, g_43, d_43, e_43, v_43⟩ := hq9
      have q_43 := RT.rn g0 g_43 (d_43 (g0).2.1)
      exact tz_iret (pc := 46) (z := z_43) dX5_readCompound_46 rfl (Nat.le_of_ble_eq_true rfl) (Nat.le_of_ble_eq_true rfl) ⟨Nat.le_refl _, Nat.le_add_right _ _⟩ ⟨_, rfl, (by omega), ⟨m, q_43, fun q => by first | exact absurd q v_43 | omega⟩⟩
  · refine tz_aload_n (pc := 13) dX5_readCompound_13 rfl rfl ?_
    refine tz_iconst (pc := 14) dX5_readCompound_14 ?_
    refine tz_cV (pc := 15) (c_fail hl n _ _ (by decide) (by decide)) vl_X5_97 dX5_readCompound_15 o_163 rfl rfl (Nat.le_of_ble_eq_true rfl) ⟨(show 0 + 1 ≤ d9 + 2 by omega), (show 8 + (2 + 11) + 40 * (0) ≤ 40 * (d9 + 2) by omega)⟩ rfl rfl (Nat.le_of_ble_eq_true rfl) (Nat.le_of_ble_eq_true rfl) (fun r9 J_15 hq9 => ?_)
    obtain ⟨z_15, rfl, hz_15, g_15, d_15, e_15, v_15⟩ := hq9
    have q_15 := RT.rn g0 g_15 (d_15 (g0).2.1)
    exact tz_iret (pc := 18) (z := z_15) dX5_readCompound_18 rfl (Nat.le_of_ble_eq_true rfl) (Nat.le_of_ble_eq_true rfl) ⟨Nat.le_refl _, Nat.le_add_right _ _⟩ ⟨_, rfl, (by omega), ⟨m, q_15, fun q => by first | exact absurd q v_15 | omega⟩⟩

set_option maxHeartbeats 4000000 in
set_option maxRecDepth 100000 in
theorem c_readTermR {l : Launch} {G : tb_G} (hl : l.stackTraces = false) (n : Nat) : ∀ (r9 : Nat) (J : zJ) (dp : Int) (hr_dp : -2147483648 ≤ dp ∧ dp < 2147483648) (m : Int) (C : CT J m) (hm : J 6 12 = m) (hD : RD2 J), ((7 - dp).toNat) < r9 → tz_Ok l G M_X5_readTerm (10 + 3 * r9) 0 0 [.ref 163, zi dp] n J (zqi (fun z J' => ∃ m', RT J' J m m' ∧ (J' 163 8 = 0 → 0 ≤ z ∧ z < m'))) zN := by
  intro r9
  induction r9 with
  | zero => intro J dp hr_dp m C hm hD hm9; exact absurd hm9 (Nat.not_lt_zero _)
  | succ r9 ih =>
    intro J dp hr_dp m C hm hD hm9
    refine tz_Ok.of hl (by decide +kernel) rfl (tb_c1 rfl) (Nat.le_of_ble_eq_true rfl) ?_
    show tz_At l G M_X5_readTerm (tb_rm (10 + 3 * (r9 + 1)) 0 0) none (tb_ZM G 0 0 (zQ n 0 (zqi (fun z J' => ∃ m', RT J' J m m' ∧ (J' 163 8 = 0 → 0 ≤ z ∧ z < m')))) (zX n 0 zN)) 0 0 n J 0 [some (.ref 163), some (zi dp)] []
    have g0 : RT J J m m := RT.rf C hm hD
    obtain ⟨⟨⟨hD1, hD2⟩, hD3, hD4⟩, hD5⟩ := id hD
    refine tz_aload_n (pc := 0) dX5_readTerm_0 rfl rfl ?_
    refine tz_fI (pc := 1) (kz := 8) (v := (J 163 8)) dX5_readTerm_1 fl_X5_24 i_163_8 rfl rfl (fun r_1 => ?_)
    refine tz_if_eq (pc := 4) (tgt := 9) dX5_readTerm_4 (by decide) (by omega) (fun h_4 => ?_) (fun h_4 => ?_)
    · refine tz_aload_n (pc := 9) dX5_readTerm_9 rfl rfl ?_
      refine tz_fI (pc := 10) (kz := 5) (v := (J 163 5)) dX5_readTerm_10 fl_X5_15 i_163_5 rfl rfl (fun r_10 => ?_)
      refine tz_bipush (pc := 13) dX5_readTerm_13 (by decide) ?_
      refine tz_icmp_eq (pc := 15) (tgt := 32) dX5_readTerm_15 (by decide) (by omega) (by decide) (fun h_15 => ?_) (fun h_15 => ?_)
      · refine tz_iload_n (pc := 32) dX5_readTerm_32 rfl rfl ?_
        refine tz_bipush (pc := 33) dX5_readTerm_33 (by decide) ?_
        refine tz_icmp_le (pc := 35) (tgt := 44) dX5_readTerm_35 (by decide) (by omega) (by decide) (fun h_35 => ?_) (fun h_35 => ?_)
        · refine tz_aload_n (pc := 44) dX5_readTerm_44 rfl rfl ?_
          refine tz_fI (pc := 45) (kz := 5) (v := (J 163 5)) dX5_readTerm_45 fl_X5_15 i_163_5 rfl rfl (fun r_45 => ?_)
          refine tz_bipush (pc := 48) dX5_readTerm_48 (by decide) ?_
          refine tz_icmp_ne (pc := 50) (tgt := 60) dX5_readTerm_50 (by decide) (by omega) (by decide) (fun h_50 => ?_) (fun h_50 => ?_)
          · refine tz_aload_n (pc := 60) dX5_readTerm_60 rfl rfl ?_
            refine tz_iload_n (pc := 61) dX5_readTerm_61 rfl rfl ?_
            refine tz_cV (pc := 62) (c_readComp hl n _ _ (by omega) (10 + 3 * r9) (by omega) (fun J m a b c => ih J _ (by omega) m a b c (by omega)) m C hm hD (by omega)) vl_X5_174 dX5_readTerm_62 o_163 rfl rfl (Nat.le_of_ble_eq_true rfl) ⟨(show (10 + 3 * r9 + 2) + 1 ≤ 10 + 3 * (r9 + 1) by omega), (show 8 + (7 + 11) + 40 * ((10 + 3 * r9 + 2)) ≤ 40 * (10 + 3 * (r9 + 1)) by omega)⟩ rfl rfl (Nat.le_of_ble_eq_true rfl) (Nat.le_of_ble_eq_true rfl) (fun r9 J_62 hq9 => ?_)
            obtain ⟨z_62, rfl, hz_62, m_62, q_62, u_62⟩ := hq9
            exact tz_iret (pc := 65) (z := z_62) dX5_readTerm_65 rfl (Nat.le_of_ble_eq_true rfl) (Nat.le_of_ble_eq_true rfl) ⟨Nat.le_refl _, Nat.le_add_right _ _⟩ ⟨_, rfl, (by omega), ⟨m_62, q_62, u_62⟩⟩
          · refine tz_aload_n (pc := 53) dX5_readTerm_53 rfl rfl ?_
            refine tz_cV (pc := 54) (c_readVar hl n _ m C hm hD) vl_X5_171 dX5_readTerm_54 o_163 rfl rfl (Nat.le_of_ble_eq_true rfl) ⟨(show 4 + 1 ≤ 10 + 3 * (r9 + 1) by omega), (show 8 + (2 + 11) + 40 * (4) ≤ 40 * (10 + 3 * (r9 + 1)) by omega)⟩ rfl rfl (Nat.le_of_ble_eq_true rfl) (Nat.le_of_ble_eq_true rfl) (fun r9 J_54 hq9 => ?_)
            obtain ⟨z_54, rfl, hz_54, m_54, q_54, u_54⟩ := hq9
            refine tz_goto (pc := 57) (tgt := 65) dX5_readTerm_57 (by decide) ?_
            exact tz_iret (pc := 65) (z := z_54) dX5_readTerm_65 rfl (Nat.le_of_ble_eq_true rfl) (Nat.le_of_ble_eq_true rfl) ⟨Nat.le_refl _, Nat.le_add_right _ _⟩ ⟨_, rfl, (by omega), ⟨m_54, q_54, u_54⟩⟩
        · refine tz_aload_n (pc := 38) dX5_readTerm_38 rfl rfl ?_
          refine tz_iconst (pc := 39) dX5_readTerm_39 ?_
          refine tz_cV (pc := 40) (c_fail hl n _ _ (by decide) (by decide)) vl_X5_97 dX5_readTerm_40 o_163 rfl rfl (Nat.le_of_ble_eq_true rfl) ⟨(show 0 + 1 ≤ 10 + 3 * (r9 + 1) by omega), (show 8 + (2 + 11) + 40 * (0) ≤ 40 * (10 + 3 * (r9 + 1)) by omega)⟩ rfl rfl (Nat.le_of_ble_eq_true rfl) (Nat.le_of_ble_eq_true rfl) (fun r9 J_40 hq9 => ?_)
          obtain ⟨z_40, rfl, hz_40, g_40, d_40, e_40, v_40⟩ := hq9
          have q_40 := RT.rn g0 g_40 (d_40 (g0).2.1)
          exact tz_iret (pc := 43) (z := z_40) dX5_readTerm_43 rfl (Nat.le_of_ble_eq_true rfl) (Nat.le_of_ble_eq_true rfl) ⟨Nat.le_refl _, Nat.le_add_right _ _⟩ ⟨_, rfl, (by omega), ⟨m, q_40, fun q => by first | exact absurd q v_40 | omega⟩⟩
      · refine tz_aload_n (pc := 18) dX5_readTerm_18 rfl rfl ?_
        refine tz_fI (pc := 19) (kz := 5) (v := (J 163 5)) dX5_readTerm_19 fl_X5_15 i_163_5 rfl rfl (fun r_19 => ?_)
        refine tz_iconst (pc := 22) dX5_readTerm_22 ?_
        refine tz_icmp_eq (pc := 23) (tgt := 32) dX5_readTerm_23 (by decide) (by omega) (by decide) (fun h_23 => ?_) (fun h_23 => ?_)
        · refine tz_iload_n (pc := 32) dX5_readTerm_32 rfl rfl ?_
          refine tz_bipush (pc := 33) dX5_readTerm_33 (by decide) ?_
          refine tz_icmp_le (pc := 35) (tgt := 44) dX5_readTerm_35 (by decide) (by omega) (by decide) (fun h_35 => ?_) (fun h_35 => ?_)
          · refine tz_aload_n (pc := 44) dX5_readTerm_44 rfl rfl ?_
            refine tz_fI (pc := 45) (kz := 5) (v := (J 163 5)) dX5_readTerm_45 fl_X5_15 i_163_5 rfl rfl (fun r_45 => ?_)
            refine tz_bipush (pc := 48) dX5_readTerm_48 (by decide) ?_
            refine tz_icmp_ne (pc := 50) (tgt := 60) dX5_readTerm_50 (by decide) (by omega) (by decide) (fun h_50 => ?_) (fun h_50 => ?_)
            · refine tz_aload_n (pc := 60) dX5_readTerm_60 rfl rfl ?_
              refine tz_iload_n (pc := 61) dX5_readTerm_61 rfl rfl ?_
              refine tz_cV (pc := 62) (c_readComp hl n _ _ (by omega) (10 + 3 * r9) (by omega) (fun J m a b c => ih J _ (by omega) m a b c (by omega)) m C hm hD (by omega)) vl_X5_174 dX5_readTerm_62 o_163 rfl rfl (Nat.le_of_ble_eq_true rfl) ⟨(show (10 + 3 * r9 + 2) + 1 ≤ 10 + 3 * (r9 + 1) by omega), (show 8 + (7 + 11) + 40 * ((10 + 3 * r9 + 2)) ≤ 40 * (10 + 3 * (r9 + 1)) by omega)⟩ rfl rfl (Nat.le_of_ble_eq_true rfl) (Nat.le_of_ble_eq_true rfl) (fun r9 J_62 hq9 => ?_)
              obtain ⟨z_62, rfl, hz_62, m_62, q_62, u_62⟩ := hq9
              exact tz_iret (pc := 65) (z := z_62) dX5_readTerm_65 rfl (Nat.le_of_ble_eq_true rfl) (Nat.le_of_ble_eq_true rfl) ⟨Nat.le_refl _, Nat.le_add_right _ _⟩ ⟨_, rfl, (by omega), ⟨m_62, q_62, u_62⟩⟩
            · refine tz_aload_n (pc := 53) dX5_readTerm_53 rfl rfl ?_
              refine tz_cV (pc := 54) (c_readVar hl n _ m C hm hD) vl_X5_171 dX5_readTerm_54 o_163 rfl rfl (Nat.le_of_ble_eq_true rfl) ⟨(show 4 + 1 ≤ 10 + 3 * (r9 + 1) by omega), (show 8 + (2 + 11) + 40 * (4) ≤ 40 * (10 + 3 * (r9 + 1)) by omega)⟩ rfl rfl (Nat.le_of_ble_eq_true rfl) (Nat.le_of_ble_eq_true rfl) (fun r9 J_54 hq9 => ?_)
              obtain ⟨z_54, rfl, hz_54, m_54, q_54, u_54⟩ := hq9
              refine tz_goto (pc := 57) (tgt := 65) dX5_readTerm_57 (by decide) ?_
              exact tz_iret (pc := 65) (z := z_54) dX5_readTerm_65 rfl (Nat.le_of_ble_eq_true rfl) (Nat.le_of_ble_eq_true rfl) ⟨Nat.le_refl _, Nat.le_add_right _ _⟩ ⟨_, rfl, (by omega), ⟨m_54, q_54, u_54⟩⟩
          · refine tz_aload_n (pc := 38) dX5_readTerm_38 rfl rfl ?_
            refine tz_iconst (pc := 39) dX5_readTerm_39 ?_
            refine tz_cV (pc := 40) (c_fail hl n _ _ (by decide) (by decide)) vl_X5_97 dX5_readTerm_40 o_163 rfl rfl (Nat.le_of_ble_eq_true rfl) ⟨(show 0 + 1 ≤ 10 + 3 * (r9 + 1) by omega), (show 8 + (2 + 11) + 40 * (0) ≤ 40 * (10 + 3 * (r9 + 1)) by omega)⟩ rfl rfl (Nat.le_of_ble_eq_true rfl) (Nat.le_of_ble_eq_true rfl) (fun r9 J_40 hq9 => ?_)
            obtain ⟨z_40, rfl, hz_40, g_40, d_40, e_40, v_40⟩ := hq9
            have q_40 := RT.rn g0 g_40 (d_40 (g0).2.1)
            exact tz_iret (pc := 43) (z := z_40) dX5_readTerm_43 rfl (Nat.le_of_ble_eq_true rfl) (Nat.le_of_ble_eq_true rfl) ⟨Nat.le_refl _, Nat.le_add_right _ _⟩ ⟨_, rfl, (by omega), ⟨m, q_40, fun q => by first | exact absurd q v_40 | omega⟩⟩
        · refine tz_aload_n (pc := 26) dX5_readTerm_26 rfl rfl ?_
          refine tz_iconst (pc := 27) dX5_readTerm_27 ?_
          refine tz_cV (pc := 28) (c_fail hl n _ _ (by decide) (by decide)) vl_X5_97 dX5_readTerm_28 o_163 rfl rfl (Nat.le_of_ble_eq_true rfl) ⟨(show 0 + 1 ≤ 10 + 3 * (r9 + 1) by omega), (show 8 + (2 + 11) + 40 * (0) ≤ 40 * (10 + 3 * (r9 + 1)) by omega)⟩ rfl rfl (Nat.le_of_ble_eq_true rfl) (Nat.le_of_ble_eq_true rfl) (fun r9 J_28 hq9 => ?_)
          obtain ⟨z_28, rfl, hz_28, g_28, d_28, e_28, v_28⟩ := hq9
          have q_28 := RT.rn g0 g_28 (d_28 (g0).2.1)
          exact tz_iret (pc := 31) (z := z_28) dX5_readTerm_31 rfl (Nat.le_of_ble_eq_true rfl) (Nat.le_of_ble_eq_true rfl) ⟨Nat.le_refl _, Nat.le_add_right _ _⟩ ⟨_, rfl, (by omega), ⟨m, q_28, fun q => by first | exact absurd q v_28 | omega⟩⟩
    · refine tz_iconst (pc := 7) dX5_readTerm_7 ?_
      exact tz_iret (pc := 8) (z := (-1)) dX5_readTerm_8 rfl (Nat.le_of_ble_eq_true rfl) (Nat.le_of_ble_eq_true rfl) ⟨Nat.le_refl _, Nat.le_add_right _ _⟩ ⟨_, rfl, (by decide), ⟨m, g0, fun q => by omega⟩⟩
end
section
/-- what a clause leaves -/
def RQ (J' J : zJ) (m m' : Int) : Prop := (CT J' m' ∧ J' 6 12 = m' ∧ LI (J' 19) m' ∧ RD2 J') ∧ zOf (zbut [1, 2, 3, 4, 6, 7, 8, 9, 10, 11, 12, 13, 14, 15, 16, 17, 19, 156, 157, 163]) J' J
theorem RQ.rf {J : zJ} {m : Int} (C : CT J m) (hm : J 6 12 = m) (hL : LI (J 19) m) (hD : RD2 J) : RQ J J m m := ⟨⟨C, hm, hL, hD⟩, zOf.rf⟩
theorem RQ.rt {J2 J1 J : zJ} {m m1 m2 : Int} (g : RQ J1 J m m1) (h : RT J2 J1 m1 m2) : RQ J2 J m m2 := ⟨⟨h.1.2.1, h.1.2.2.1, by rw [h.1.2.2.2.2 19 rfl]; exact g.1.2.2.1.mono h.1.1, h.2.1⟩, (h.1.2.2.2.2.mono (zbut_sub (fun c hc => by simp at hc ⊢; omega))).tr g.2⟩
theorem RQ.rn {J2 J1 J : zJ} {m m1 : Int} (g : RQ J1 J m m1) (h : RN J2 J1) (hD : RD2 J2) : RQ J2 J m m1 := g.rt ((RT.rf g.1.1 g.1.2.1 g.1.2.2.2).rn h hD)
theorem RQ.or {J2 J1 J : zJ} {m m1 : Int} (g : RQ J1 J m m1) (h : zOf (zbut [156, 157]) J2 J1) : RQ J2 J m m1 := ⟨⟨g.1.1.of (fun c hc => h c (by simp [zbut]; omega)), by rw [h 6 rfl]; exact g.1.2.1, by rw [h 19 rfl]; exact g.1.2.2.1, g.1.2.2.2.of (h 163 rfl)⟩, (h.mono (zbut_sub (fun c hc => by simp at hc ⊢; omega))).tr g.2⟩
theorem RQ.led {J2 J1 J : zJ} {m m1 : Int} (g : RQ J1 J m m1) (h : zOf (zbut [19]) J2 J1) (hL : LI (J2 19) m1) : RQ J2 J m m1 := ⟨⟨g.1.1.of (fun c hc => h c (by simp [zbut]; omega)), by rw [h 6 rfl]; exact g.1.2.1, hL, g.1.2.2.2.of (h 163 rfl)⟩, (h.mono (zbut_sub (fun c hc => by simp at hc ⊢; omega))).tr g.2⟩
theorem RQ.tr {J3 J2 J1 : zJ} {m1 m2 m3 : Int} (g : RQ J2 J1 m1 m2) (h : RQ J3 J2 m2 m3) : RQ J3 J1 m1 m3 := ⟨h.1, h.2.tr g.2⟩
theorem zof_aR {J : zJ} {x y : Int} : zOf (zbut [19]) (zaR J x y) J := by
  unfold zaR
  split
  · exact zOf.up rfl (zOf.up rfl (zOf.up rfl (zOf.up rfl zOf.rf)))
  · exact zOf.rf
theorem zof_aE {J : zJ} {x : Int} : zOf (zbut [19]) (zaE J x) J := by
  unfold zaE
  split
  · exact zOf.up rfl (zOf.up rfl zOf.rf)
  · exact zOf.rf
theorem zof_dE {J : zJ} {w : Int} : zOf (zbut [19]) (zdE J w) J := zOf.up rfl (fun c hc => by
  have : ¬ c = 19 := fun e => by rw [e] at hc; cases hc
  simp [zsh, this])
end
section
/-! ===== what holds between two calls ===== -/
def zV (i : Int) : Nat := 79 + i.toNat
/-- the kept table, in the place of the class's -/
def kv (J : zJ) : zJ := fun c => if 7 ≤ c ∧ c ≤ 16 then J (c + 58) else J c
/-- a ring of rows is sound, with m terms -/
def RG (o : Nat) (u : Int → Nat) (J : zJ) (m : Int) : Prop := ((0 ≤ J o 5 ∧ J o 5 < 40) ∧ (0 ≤ J o 6 ∧ J o 6 ≤ 40)) ∧ ∀ k, 0 ≤ k → k < J o 6 → (LI (J (u ((J o 5 + k) % 40))) (J (u ((J o 5 + k) % 40)) 0) ∧ (0 ≤ J (u ((J o 5 + k) % 40)) 0 ∧ J (u ((J o 5 + k) % 40)) 0 ≤ m)) ∧ ∀ q, k ≤ q → q < J o 6 → J (u ((J o 5 + k) % 40)) 0 ≤ J (u ((J o 5 + q) % 40)) 0
def KI (J : zJ) (m : Int) : Prop := (CT (kv J) m ∧ J 64 12 = m) ∧ LI (J 77) m ∧ RG 63 zV J m
def KP (J : zJ) : Prop := ((0 ≤ J 0 13 ∧ J 0 13 ≤ 700) ∧ J 156 3 = -1) ∧ (J 0 15 = 0 ∨ (J 0 15 = 1 ∧ ∃ mk, KI J mk))
def SA (J : zJ) (m : Int) : Prop := (CT J m ∧ J 6 12 = m ∧ LI (J 19) m) ∧ RU J ∧ KP J
def CI (J : zJ) (m : Int) : Prop := SA J m ∧ RG 5 zU J m
/-- an act under way, begun with m0 terms -/
def AC (J : zJ) (m0 m : Int) : Prop := SA J m ∧ RG 5 zU J m0 ∧ (LI (J 61) m0 ∧ J 61 0 = m0) ∧ (0 ≤ m0 ∧ m0 ≤ m)
def fop (c : Nat) : Bool := decide (c < 6 ∨ c = 18 ∨ (20 ≤ c ∧ c < 140) ∨ c = 156 ∨ c = 162 ∨ 164 ≤ c)
def fou (c : Nat) : Bool := decide ((63 ≤ c ∧ c ≤ 120) ∨ c = 162 ∨ 164 ≤ c)
def foi (c : Nat) : Bool := decide (c = 162 ∨ 164 ≤ c)
theorem RG.of {o : Nat} {u : Int → Nat} {J' J : zJ} {m m' : Int} (h : RG o u J m) (hm : m ≤ m') (e5 : J' o 5 = J o 5) (e6 : J' o 6 = J o 6) (e : ∀ i, 0 ≤ i → i < 40 → J' (u i) = J (u i)) : RG o u J' m' := by
  unfold RG
  rw [e5, e6]
  refine ⟨h.1, fun k a b => ?_⟩
  have h0 := h.1
  obtain ⟨⟨g1, g2⟩, g3⟩ := h.2 k a b
  rw [e ((J o 5 + k) % 40) (by omega) (by omega)]
  refine ⟨⟨g1, by omega⟩, fun q x y => ?_⟩
  rw [e ((J o 5 + q) % 40) (by omega) (by omega)]
  exact g3 q x y
theorem KI.of {J' J : zJ} {m : Int} (h : KI J m) (e : ∀ c, c = 1 ∨ c = 3 ∨ c = 4 ∨ (63 ≤ c ∧ c ≤ 120) → J' c = J c) : KI J' m := by
  refine ⟨⟨h.1.1.of (fun c hc => ?_), by rw [e 64 (by omega)]; exact h.1.2⟩, by rw [e 77 (by omega)]; exact h.2.1, h.2.2.of (Int.le_refl _) (congrFun (e 63 (by omega)) 5) (congrFun (e 63 (by omega)) 6) (fun i a b => e _ (by unfold zV; omega))⟩
  unfold kv
  by_cases h7 : 7 ≤ c ∧ c ≤ 16
  · rw [if_pos h7, if_pos h7]
    exact e _ (by omega)
  · rw [if_neg h7, if_neg h7]
    exact e _ (by omega)
theorem KP.of6 {J' J : zJ} (h : KP J) (e : ∀ c, c = 0 ∨ c = 1 ∨ c = 3 ∨ c = 4 ∨ (63 ≤ c ∧ c ≤ 120) → J' c = J c) (e6 : J' 156 3 = -1) : KP J' := by
  unfold KP
  rw [e 0 (by omega)]
  refine ⟨⟨h.1.1, e6⟩, h.2.imp id (fun q => ⟨q.1, ?_⟩)⟩
  obtain ⟨mk, hk⟩ := q.2
  exact ⟨mk, hk.of (fun c hc => e c (by omega))⟩
theorem KP.of {J' J : zJ} (h : KP J) (e : ∀ c, c = 0 ∨ c = 1 ∨ c = 3 ∨ c = 4 ∨ (63 ≤ c ∧ c ≤ 120) ∨ c = 156 → J' c = J c) : KP J' := h.of6 (fun c hc => e c (by omega)) (by rw [e 156 (by omega)]; exact h.1.2)
theorem fop_t {J' J : zJ} (f : zOf fop J' J) {c : Nat} (hc : c < 6 ∨ c = 18 ∨ (20 ≤ c ∧ c < 140) ∨ c = 156 ∨ c = 162 ∨ 164 ≤ c) : J' c = J c := f c (decide_eq_true hc)
theorem SA.op {J' J : zJ} {m m' : Int} (h : SA J m) (f : zOf fop J' J) (hC : CT J' m') (hm : J' 6 12 = m') (hL : LI (J' 19) m') (hR : RU J') : SA J' m' := ⟨⟨hC, hm, hL⟩, hR, h.2.2.of (fun c hc => fop_t f (by omega))⟩
theorem AC.op {J' J : zJ} {m0 m m' : Int} (h : AC J m0 m) (f : zOf fop J' J) (hC : CT J' m') (hm : J' 6 12 = m') (hL : LI (J' 19) m') (hR : RU J') (hle : m ≤ m') : AC J' m0 m' := by
  refine ⟨h.1.op f hC hm hL hR, h.2.1.of (Int.le_refl _) (congrFun (fop_t f (by omega)) 5) (congrFun (fop_t f (by omega)) 6) (fun i a b => fop_t f (by unfold zU; omega)), ?_, by have := h.2.2.2; omega⟩
  rw [fop_t f (c := 61) (by omega)]
  exact h.2.2.1
theorem fop_of {X : List Nat} {J' J : zJ} (f : zOf (zbut X) J' J) (hX : (X.all fun c => decide ((6 ≤ c ∧ c ≤ 17) ∨ c = 19 ∨ (140 ≤ c ∧ c ≤ 163 ∧ ¬ c = 162 ∧ ¬ c = 156))) = true) : zOf fop J' J := fun c hc => f c (by
  have h1 := of_decide_eq_true hc
  simp only [zbut, Bool.not_eq_true', List.contains_eq_mem, decide_eq_false_iff_not]
  intro q
  have := of_decide_eq_true (List.all_eq_true.mp hX c q)
  omega)
theorem AC.gx {X : List Nat} {J' J : zJ} {m0 m m' : Int} (h : AC J m0 m) (g : GX X J' J m m') (hX : ((6 :: 7 :: 8 :: 9 :: 10 :: 11 :: 12 :: 13 :: 14 :: 15 :: 16 :: 17 :: X).all fun c => decide ((6 ≤ c ∧ c ≤ 17) ∨ c = 19 ∨ (140 ≤ c ∧ c ≤ 163 ∧ ¬ c = 162 ∧ ¬ c = 156))) = true) (hL : LI (J' 19) m') (hR : RU J') : AC J' m0 m' := h.op (fop_of g.2.2.2.2 hX) g.2.1 g.2.2.1 hL hR g.1
/-- where neither the ledger nor the unifier was written -/
theorem AC.gx0 {X : List Nat} {J' J : zJ} {m0 m m' : Int} (h : AC J m0 m) (g : GX X J' J m m') (hX : (X.all fun c => decide (140 ≤ c ∧ c ≤ 163 ∧ ¬ c = 162 ∧ ¬ c = 145 ∧ ¬ c = 146 ∧ ¬ c = 156)) = true) : AC J' m0 m' := by
  have hn : ∀ c, c ∉ X → (17 < c ∨ c < 6) → J' c = J c := fun c h1 h2 => g.2.2.2.2 c (by
    simp only [zbut, Bool.not_eq_true', List.contains_eq_mem, decide_eq_false_iff_not, List.mem_cons]
    intro q
    rcases q with q | q | q | q | q | q | q | q | q | q | q | q | q <;> first | omega | exact h1 q)
  have hx : ∀ c, c ∈ X → 140 ≤ c ∧ c ≤ 163 ∧ ¬ c = 162 ∧ ¬ c = 145 ∧ ¬ c = 146 ∧ ¬ c = 156 := fun c hc => of_decide_eq_true (List.all_eq_true.mp hX c hc)
  have e19 := hn 19 (fun q => by have := hx _ q; omega) (by omega)
  refine h.gx g ?_ (by rw [e19]; exact h.1.1.2.2.mono g.1) (h.1.2.1.of (hn 145 (fun q => by have := hx _ q; omega) (by omega)) (hn 146 (fun q => by have := hx _ q; omega) (by omega)))
  rw [List.all_eq_true]
  intro c hc
  simp only [List.mem_cons] at hc
  refine decide_eq_true ?_
  rcases hc with h1 | h1 | h1 | h1 | h1 | h1 | h1 | h1 | h1 | h1 | h1 | h1 | h1 <;> first | omega | (have := hx c h1; omega)
theorem CI.begin {J : zJ} {m : Int} (h : CI J m) : AC (zcp (zup J 19 0 (J 6 12)) 19 61 0 0 61) m m := by
  have e61 : ∀ k, 0 ≤ k → k < 61 → zcp (zup J 19 0 (J 6 12)) 19 61 0 0 61 61 k = zup J 19 0 (J 6 12) 19 k := fun k a b => by
    rw [zcp_in (by omega)]
    congr 1
    omega
  have hl : LI (zup J 19 0 (J 6 12) 19) m := h.1.1.2.2.terms
  have hf : ∀ c, ¬ c = 19 → ¬ c = 61 → zcp (zup J 19 0 (J 6 12)) 19 61 0 0 61 c = J c := fun c h1 h2 => by rw [zcp_nc h2, zup_nc h1]
  refine ⟨⟨⟨h.1.1.1.of (fun c hc => hf c (by omega) (by omega)), h.1.1.2.1, hl⟩, h.1.2.1.of rfl rfl, h.1.2.2.of (fun c hc => hf c (by omega) (by omega))⟩, h.2.of (Int.le_refl _) rfl rfl (fun i a b => hf _ (by unfold zU; omega) (by unfold zU; omega)), ⟨hl.c61 e61, ?_⟩, h.1.1.1.told.2.1, Int.le_refl _⟩
  rw [e61 0 (by omega) (by omega), zup_at]
  exact h.1.1.2.1
/-- the row that was laid by begin is kept -/
theorem AC.keepN {J : zJ} {m0 m : Int} (h : AC J m0 m) (h6 : J 5 6 < 40) : CI (zup (zcp J 61 (zU ((J 5 5 + J 5 6) % 40)) 0 0 61) 5 6 (J 5 6 + 1)) m := by
  have hr := h.2.1.1
  have hi : 0 ≤ (J 5 5 + J 5 6) % 40 ∧ (J 5 5 + J 5 6) % 40 < 40 := by omega
  have e5 : zup (zcp J 61 (zU ((J 5 5 + J 5 6) % 40)) 0 0 61) 5 6 (J 5 6 + 1) 5 5 = J 5 5 := by
    rw [zup_ne (by omega), zcp_nc (by unfold zU; omega)]
  have e6 : zup (zcp J 61 (zU ((J 5 5 + J 5 6) % 40)) 0 0 61) 5 6 (J 5 6 + 1) 5 6 = J 5 6 + 1 := zup_at
  have er : ∀ k, 0 ≤ k → k < 61 → zup (zcp J 61 (zU ((J 5 5 + J 5 6) % 40)) 0 0 61) 5 6 (J 5 6 + 1) (zU ((J 5 5 + J 5 6) % 40)) k = J 61 k := fun k a b => by
    rw [zup_nc (by unfold zU; omega), zcp_in (by omega)]
    congr 1
    omega
  have eo : ∀ c, ¬ c = zU ((J 5 5 + J 5 6) % 40) → ¬ c = 5 → zup (zcp J 61 (zU ((J 5 5 + J 5 6) % 40)) 0 0 61) 5 6 (J 5 6 + 1) c = J c := fun c a b => by rw [zup_nc b, zcp_nc a]
  generalize zup (zcp J 61 (zU ((J 5 5 + J 5 6) % 40)) 0 0 61) 5 6 (J 5 6 + 1) = J9 at *
  have ef : ∀ c, (c < 5 ∨ (5 < c ∧ c < 21) ∨ 60 < c) → J9 c = J c := fun c hc => eo c (by unfold zU; omega) (by omega)
  refine ⟨⟨⟨h.1.1.1.of (fun c hc => ef c (by omega)), by rw [ef 6 (by omega)]; exact h.1.1.2.1, by rw [ef 19 (by omega)]; exact h.1.1.2.2⟩, h.1.2.1.of (ef _ (by omega)) (ef _ (by omega)), h.1.2.2.of (fun c hc => ef c (by omega))⟩, ?_⟩
  unfold RG
  rw [e5, e6]
  refine ⟨by omega, fun k a b => ?_⟩
  have hm := h.2.2.2
  by_cases hk : k = J 5 6
  · subst hk
    rw [er 0 (by omega) (by omega), h.2.2.1.2]
    refine ⟨⟨h.2.2.1.1.c61 er, by omega⟩, fun q x y => ?_⟩
    have : q = J 5 6 := by omega
    subst this
    rw [er 0 (by omega) (by omega), h.2.2.1.2]
    exact Int.le_refl _
  · obtain ⟨⟨g1, g2⟩, g3⟩ := h.2.1.2 k a (by omega)
    have ek : J9 (zU ((J 5 5 + k) % 40)) = J (zU ((J 5 5 + k) % 40)) := eo _ (by unfold zU; omega) (by unfold zU; omega)
    rw [ek]
    refine ⟨⟨g1, by omega⟩, fun q x y => ?_⟩
    by_cases hq : q = J 5 6
    · subst hq
      rw [er 0 (by omega) (by omega), h.2.2.1.2]
      exact g2.2
    · rw [eo (zU ((J 5 5 + q) % 40)) (by unfold zU; omega) (by unfold zU; omega)]
      exact g3 q x (by omega)
theorem AC.drop {J : zJ} {m0 m : Int} (h : AC J m0 m) (h6 : J 5 6 = 40) : AC (zup (zup J 5 5 ((J 5 5 + 1) % 40)) 5 6 39) m0 m := by
  have hr := h.2.1.1
  have e5 : zup (zup J 5 5 ((J 5 5 + 1) % 40)) 5 6 39 5 5 = (J 5 5 + 1) % 40 := by rw [zup_ne (by omega), zup_at]
  have e6 : zup (zup J 5 5 ((J 5 5 + 1) % 40)) 5 6 39 5 6 = 39 := zup_at
  have eo : ∀ c, ¬ c = 5 → zup (zup J 5 5 ((J 5 5 + 1) % 40)) 5 6 39 c = J c := fun c a => by rw [zup_nc a, zup_nc a]
  generalize zup (zup J 5 5 ((J 5 5 + 1) % 40)) 5 6 39 = J9 at *
  refine ⟨⟨⟨h.1.1.1.of (fun c hc => eo c (by omega)), by rw [eo 6 (by omega)]; exact h.1.1.2.1, by rw [eo 19 (by omega)]; exact h.1.1.2.2⟩, h.1.2.1.of (eo _ (by omega)) (eo _ (by omega)), h.1.2.2.of (fun c hc => eo c (by omega))⟩, ?_, by rw [eo 61 (by omega)]; exact h.2.2.1, h.2.2.2⟩
  unfold RG
  rw [e5, e6]
  refine ⟨by omega, fun k a b => ?_⟩
  have ei : ∀ q, ((J 5 5 + 1) % 40 + q) % 40 = (J 5 5 + (q + 1)) % 40 := fun q => by omega
  obtain ⟨⟨g1, g2⟩, g3⟩ := h.2.1.2 (k + 1) (by omega) (by omega)
  rw [ei, eo (zU ((J 5 5 + (k + 1)) % 40)) (by unfold zU; omega)]
  refine ⟨⟨g1, g2⟩, fun q x y => ?_⟩
  rw [ei, eo (zU ((J 5 5 + (q + 1)) % 40)) (by unfold zU; omega)]
  exact g3 (q + 1) (by omega) (by omega)
theorem LI.row {J' J : zJ} {r : Nat} {m : Int} (h : LI (J r) m) (e : J' 19 = zcp J r 19 0 0 61 19) : LI (J' 19) m := by
  rw [e]
  refine h.c61 (fun k a b => ?_)
  rw [zcp_in (by omega)]
  congr 1
  omega
theorem AC.back {J' J : zJ} {m0 m : Int} (h : AC J m0 m) (f : zOf (zbut [6, 16, 19]) J' J) (e19 : J' 19 = zcp J 61 19 0 0 61 19) (e6 : J' 6 12 = J 61 0) (hC : CT J' (J 61 0)) : CI J' m0 := by
  rw [h.2.2.1.2] at e6 hC
  exact ⟨⟨⟨hC, e6, h.2.2.1.1.row e19⟩, h.1.2.1.of (f 145 rfl) (f 146 rfl), h.1.2.2.of (fun c hc => f c (by simp [zbut]; omega))⟩, h.2.1.of (Int.le_refl _) (congrFun (f 5 rfl) 5) (congrFun (f 5 rfl) 6) (fun i a b => f _ (by simp [zbut, zU]; omega))⟩
theorem CI.undo {J' J : zJ} {m : Int} (h : CI J m) (h6 : 0 < J 5 6) (f : zOf (zbut [6, 16, 19]) J' (zup J 5 6 (J 5 6 - 1))) (e19 : J' 19 = zcp (zup J 5 6 (J 5 6 - 1)) (zU ((J 5 5 + (J 5 6 - 1)) % 40)) 19 0 0 61 19) (e6 : J' 6 12 = (zup J 5 6 (J 5 6 - 1)) (zU ((J 5 5 + (J 5 6 - 1)) % 40)) 0) (hC : CT J' ((zup J 5 6 (J 5 6 - 1)) (zU ((J 5 5 + (J 5 6 - 1)) % 40)) 0)) : CI J' (J (zU ((J 5 5 + (J 5 6 - 1)) % 40)) 0) := by
  have hr := h.2.1
  have eu : ∀ i, 0 ≤ i → i < 40 → zup J 5 6 (J 5 6 - 1) (zU i) = J (zU i) := fun i a b => zup_nc (by unfold zU; omega)
  have ew := eu ((J 5 5 + (J 5 6 - 1)) % 40) (by omega) (by omega)
  rw [ew] at e6 hC
  obtain ⟨⟨g1, g2⟩, g3⟩ := h.2.2 (J 5 6 - 1) (by omega) (by omega)
  have eo : ∀ c, ¬ c = 5 → ¬ c = 6 → ¬ c = 16 → ¬ c = 19 → J' c = J c := fun c a1 a2 a3 a4 => (f c (by simp [zbut]; omega)).trans (zup_nc a1)
  have e55 : J' 5 5 = J 5 5 := (congrFun (f 5 rfl) 5).trans (zup_ne (by omega))
  have e56 : J' 5 6 = J 5 6 - 1 := (congrFun (f 5 rfl) 6).trans zup_at
  refine ⟨⟨⟨hC, e6, LI.row (J := zup J 5 6 (J 5 6 - 1)) (r := zU ((J 5 5 + (J 5 6 - 1)) % 40)) (by rw [ew]; exact g1) e19⟩, h.1.2.1.of (eo _ (by omega) (by omega) (by omega) (by omega)) (eo _ (by omega) (by omega) (by omega) (by omega)), h.1.2.2.of (fun c hc => eo c (by omega) (by omega) (by omega) (by omega))⟩, ?_⟩
  unfold RG
  rw [e55, e56]
  refine ⟨by omega, fun k a b => ?_⟩
  obtain ⟨⟨p1, p2⟩, p3⟩ := h.2.2 k a (by omega)
  rw [eo (zU ((J 5 5 + k) % 40)) (by unfold zU; omega) (by unfold zU; omega) (by unfold zU; omega) (by unfold zU; omega)]
  refine ⟨⟨p1, p2.1, p3 (J 5 6 - 1) (by omega) (by omega)⟩, fun q x y => ?_⟩
  rw [eo (zU ((J 5 5 + q) % 40)) (by unfold zU; omega) (by unfold zU; omega) (by unfold zU; omega) (by unfold zU; omega)]
  exact p3 q x (by omega)
/-- behind an act's end -/
def SQ (J' J : zJ) : Prop := (∃ m', CI J' m') ∧ J' 145 = J 145 ∧ J' 0 = J 0 ∧ zOf fou J' J
/-- behind a call -/
def CQ (J' J : zJ) : Prop := (∃ m', CI J' m') ∧ (J' 145 10 ≤ J 145 10 + 24000) ∧ J' 0 = J 0 ∧ zOf fou J' J
theorem CI.st {J' J : zJ} {m : Int} (h : CI J m) (f : zOf (zbut [62]) J' J) : CI J' m := ⟨⟨⟨h.1.1.1.of (fun c hc => f c (by simp [zbut]; omega)), by rw [f 6 rfl]; exact h.1.1.2.1, by rw [f 19 rfl]; exact h.1.1.2.2⟩, h.1.2.1.of (f 145 rfl) (f 146 rfl), h.1.2.2.of (fun c hc => f c (by simp [zbut]; omega))⟩, h.2.of (Int.le_refl _) (congrFun (f 5 rfl) 5) (congrFun (f 5 rfl) 6) (fun i a b => f _ (by simp [zbut, zU]; omega))⟩
/-- cells that no promise reads -/
theorem CI.work {X : List Nat} {J' J : zJ} {m : Int} (h : CI J m) (f : zOf (zbut X) J' J) (hX : (X.all fun c => decide (c = 17 ∨ c = 62 ∨ (140 ≤ c ∧ c ≤ 163 ∧ ¬ c = 162 ∧ ¬ c = 145 ∧ ¬ c = 146 ∧ ¬ c = 156))) = true) : CI J' m ∧ J' 145 = J 145 ∧ J' 0 = J 0 ∧ zOf fou J' J := by
  have hn : ∀ c, (¬ (c = 17 ∨ c = 62 ∨ (140 ≤ c ∧ c ≤ 163 ∧ ¬ c = 162 ∧ ¬ c = 145 ∧ ¬ c = 146 ∧ ¬ c = 156))) → J' c = J c := fun c hc => f c (by
    simp only [zbut, Bool.not_eq_true', List.contains_eq_mem, decide_eq_false_iff_not]
    exact fun q => hc (of_decide_eq_true (List.all_eq_true.mp hX c q)))
  exact ⟨⟨⟨⟨h.1.1.1.of (fun c hc => hn c (by omega)), by rw [hn 6 (by omega)]; exact h.1.1.2.1, by rw [hn 19 (by omega)]; exact h.1.1.2.2⟩, h.1.2.1.of (hn _ (by omega)) (hn _ (by omega)), h.1.2.2.of (fun c hc => hn c (by omega))⟩, h.2.of (Int.le_refl _) (congrFun (hn 5 (by omega)) 5) (congrFun (hn 5 (by omega)) 6) (fun i a b => hn _ (by unfold zU; omega))⟩, hn 145 (by omega), hn 0 (by omega), fun c hc => hn c (by have := of_decide_eq_true hc; omega)⟩
theorem CI.work6 {X : List Nat} {J' J : zJ} {m : Int} (h : CI J m) (f : zOf (zbut X) J' J) (hX : (X.all fun c => decide (c = 17 ∨ c = 62 ∨ (140 ≤ c ∧ c ≤ 163 ∧ ¬ c = 162 ∧ ¬ c = 145 ∧ ¬ c = 146))) = true) (e6 : J' 156 3 = -1) : CI J' m ∧ J' 145 = J 145 ∧ J' 0 = J 0 ∧ zOf fou J' J := by
  have hn : ∀ c, (¬ (c = 17 ∨ c = 62 ∨ (140 ≤ c ∧ c ≤ 163 ∧ ¬ c = 162 ∧ ¬ c = 145 ∧ ¬ c = 146))) → J' c = J c := fun c hc => f c (by
    simp only [zbut, Bool.not_eq_true', List.contains_eq_mem, decide_eq_false_iff_not]
    exact fun q => hc (of_decide_eq_true (List.all_eq_true.mp hX c q)))
  exact ⟨⟨⟨⟨h.1.1.1.of (fun c hc => hn c (by omega)), by rw [hn 6 (by omega)]; exact h.1.1.2.1, by rw [hn 19 (by omega)]; exact h.1.1.2.2⟩, h.1.2.1.of (hn _ (by omega)) (hn _ (by omega)), h.1.2.2.of6 (fun c hc => hn c (by omega)) e6⟩, h.2.of (Int.le_refl _) (congrFun (hn 5 (by omega)) 5) (congrFun (hn 5 (by omega)) 6) (fun i a b => hn _ (by unfold zU; omega))⟩, hn 145 (by omega), hn 0 (by omega), fun c hc => hn c (by have := of_decide_eq_true hc; omega)⟩
/-- the unifier was at work -/
theorem CI.uni {X : List Nat} {J' J : zJ} {m : Int} (h : CI J m) (f : zOf (zbut X) J' J) (hX : (X.all fun c => decide (140 ≤ c ∧ c ≤ 163 ∧ ¬ c = 162 ∧ ¬ c = 156)) = true) (hR : RU J') : CI J' m ∧ J' 0 = J 0 ∧ zOf fou J' J := by
  have hn : ∀ c, (¬ (140 ≤ c ∧ c ≤ 163 ∧ ¬ c = 162 ∧ ¬ c = 156)) → J' c = J c := fun c hc => f c (by
    simp only [zbut, Bool.not_eq_true', List.contains_eq_mem, decide_eq_false_iff_not]
    exact fun q => hc (of_decide_eq_true (List.all_eq_true.mp hX c q)))
  exact ⟨⟨⟨⟨h.1.1.1.of (fun c hc => hn c (by omega)), by rw [hn 6 (by omega)]; exact h.1.1.2.1, by rw [hn 19 (by omega)]; exact h.1.1.2.2⟩, hR, h.1.2.2.of (fun c hc => hn c (by omega))⟩, h.2.of (Int.le_refl _) (congrFun (hn 5 (by omega)) 5) (congrFun (hn 5 (by omega)) 6) (fun i a b => hn _ (by unfold zU; omega))⟩, hn 0 (by omega), fun c hc => hn c (by have := of_decide_eq_true hc; omega)⟩
theorem SQ.cq {J2 J1 J : zJ} (h : SQ J2 J1) (e1 : J1 145 10 ≤ J 145 10 + 24000) (e0 : J1 0 = J 0) (f : zOf fou J1 J) : CQ J2 J := ⟨h.1, by rw [h.2.1]; exact e1, h.2.2.1.trans e0, h.2.2.2.tr f⟩
theorem CQ.rf {J : zJ} {m : Int} (h : CI J m) : CQ J J := ⟨⟨m, h⟩, by omega, rfl, zOf.rf⟩
end
section
def fkp (c : Nat) : Bool := decide (c < 5 ∨ (5 < c ∧ c < 21) ∨ 60 < c)
set_option maxHeartbeats 4000000 in
set_option maxRecDepth 100000 in
theorem c_refused {l : Launch} {G : tb_G} (hl : l.stackTraces = false) (n : Nat) (J : zJ) (k : Int) (a : Int) (hr_k : -2147483648 ≤ k ∧ k < 2147483648) (hr_a : -2147483648 ≤ a ∧ a < 2147483648)  (hk : 0 ≤ k ∧ k < 4) : tz_Ok l G M_X11_refused 0 0 0 [.ref 0, zi k, zi a] n J (zqi (fun z J' => zOf (zbut [62]) J' J ∧ a = z)) zN := by
  refine tz_Ok.of hl (by decide +kernel) rfl (tb_c1 rfl) (Nat.le_of_ble_eq_true rfl) ?_
  show tz_At l G M_X11_refused (tb_rm 0 0 0) none (tb_ZM G 0 0 (zQ n 0 (zqi (fun z J' => zOf (zbut [62]) J' J ∧ a = z))) (zX n 0 zN)) 0 0 n J 0 [some (.ref 0), some (zi k), some (zi a)] []
  refine tz_aload_n (pc := 0) dX11_refused_0 rfl rfl ?_
  refine tz_fR (pc := 1) dX11_refused_1 fl_X11_29 r_0_1 ?_
  refine tz_fR (pc := 4) dX11_refused_4 fl_X11_142 r_5_4 ?_
  refine tz_iload_n (pc := 7) dX11_refused_7 rfl rfl ?_
  refine tz_dup2 (pc := 8) dX11_refused_8 rfl rfl ?_
  refine tz_aL (pc := 9) (z := k) (v := (J 62 k)) dX11_refused_9 a_62 rfl (by omega) rfl (fun r_9 => ?_)
  refine tz_iconst (pc := 10) dX11_refused_10 ?_
  refine tz_iadd (pc := 11) (v := (J 62 k) + 1) dX11_refused_11 rfl ?_
  refine tz_tw ?_
  have rw_12 := zw_rg ((J 62 k) + 1)
  refine tz_aS (pc := 12) (z := k) dX11_refused_12 a_62 rfl (by omega) (zw_rg _) ?_
  refine tz_iload_n (pc := 13) dX11_refused_13 rfl rfl ?_
  exact tz_iret (pc := 14) (z := a) dX11_refused_14 rfl (Nat.le_of_ble_eq_true rfl) (Nat.le_of_ble_eq_true rfl) ⟨Nat.le_refl _, Nat.le_add_right _ _⟩ ⟨_, rfl, (by omega), ⟨zOf.up rfl zOf.rf, rfl⟩⟩

set_option maxHeartbeats 4000000 in
set_option maxRecDepth 100000 in
theorem c_isVarN {l : Launch} {G : tb_G} (hl : l.stackTraces = false) (n : Nat) (J : zJ) (x : Int) (hr_x : -2147483648 ≤ x ∧ x < 2147483648)   : tz_Ok l G M_X11_isVariableNumber 0 0 0 [zi x] n J (zqi (fun z J' => J = J' ∧ (if 0 ≤ x ∧ x < 8 then 1 else 0) = z)) zN := by
  refine tz_Ok.of hl (by decide +kernel) rfl (tb_c1 rfl) (Nat.le_of_ble_eq_true rfl) ?_
  show tz_At l G M_X11_isVariableNumber (tb_rm 0 0 0) none (tb_ZM G 0 0 (zQ n 0 (zqi (fun z J' => J = J' ∧ (if 0 ≤ x ∧ x < 8 then 1 else 0) = z))) (zX n 0 zN)) 0 0 n J 0 [some (zi x)] []
  refine tz_iload_n (pc := 0) dX11_isVariableNumber_0 rfl rfl ?_
  refine tz_if_lt (pc := 1) (tgt := 14) dX11_isVariableNumber_1 (by decide) (by omega) (fun h_1 => ?_) (fun h_1 => ?_)
  · refine tz_iconst (pc := 14) dX11_isVariableNumber_14 ?_
    exact tz_zret (pc := 15) (z := 0) dX11_isVariableNumber_15 rfl (Or.inl rfl) (Nat.le_of_ble_eq_true rfl) (Nat.le_of_ble_eq_true rfl) ⟨Nat.le_refl _, Nat.le_add_right _ _⟩ ⟨_, rfl, (by decide), ⟨rfl, by split <;> omega⟩⟩
  · refine tz_iload_n (pc := 4) dX11_isVariableNumber_4 rfl rfl ?_
    refine tz_bipush (pc := 5) dX11_isVariableNumber_5 (by decide) ?_
    refine tz_icmp_ge (pc := 7) (tgt := 14) dX11_isVariableNumber_7 (by decide) (by omega) (by decide) (fun h_7 => ?_) (fun h_7 => ?_)
    · refine tz_iconst (pc := 14) dX11_isVariableNumber_14 ?_
      exact tz_zret (pc := 15) (z := 0) dX11_isVariableNumber_15 rfl (Or.inl rfl) (Nat.le_of_ble_eq_true rfl) (Nat.le_of_ble_eq_true rfl) ⟨Nat.le_refl _, Nat.le_add_right _ _⟩ ⟨_, rfl, (by decide), ⟨rfl, by split <;> omega⟩⟩
    · refine tz_iconst (pc := 10) dX11_isVariableNumber_10 ?_
      refine tz_goto (pc := 11) (tgt := 15) dX11_isVariableNumber_11 (by decide) ?_
      exact tz_zret (pc := 15) (z := 1) dX11_isVariableNumber_15 rfl (Or.inr rfl) (Nat.le_of_ble_eq_true rfl) (Nat.le_of_ble_eq_true rfl) ⟨Nat.le_refl _, Nat.le_add_right _ _⟩ ⟨_, rfl, (by decide), ⟨rfl, by split <;> omega⟩⟩

set_option maxHeartbeats 4000000 in
set_option maxRecDepth 100000 in
theorem c_allow {l : Launch} {G : tb_G} (hl : l.stackTraces = false) (n : Nat) (J : zJ)     : tz_Ok l G M_X6_allowSteps 0 0 0 [.ref 158] n J (zqv (fun J' => zup J 158 8 100 = J')) zN := by
  refine tz_Ok.of hl (by decide +kernel) rfl (tb_c1 rfl) (Nat.le_of_ble_eq_true rfl) ?_
  show tz_At l G M_X6_allowSteps (tb_rm 0 0 0) none (tb_ZM G 0 0 (zQ n 0 (zqv (fun J' => zup J 158 8 100 = J'))) (zX n 0 zN)) 0 0 n J 0 [some (.ref 158)] []
  refine tz_aload_n (pc := 0) dX6_allowSteps_0 rfl rfl ?_
  refine tz_bipush (pc := 1) dX6_allowSteps_1 (by decide) ?_
  refine tz_pI (pc := 3) (kz := 8) dX6_allowSteps_3 fl_X6_25 i_158_8 rfl rfl (by decide) ?_
  exact tz_vret (pc := 6) dX6_allowSteps_6 rfl (Nat.le_of_ble_eq_true rfl) (Nat.le_of_ble_eq_true rfl) ⟨Nat.le_refl _, Nat.le_add_right _ _⟩ ⟨rfl, rfl⟩
end
section
theorem CQ.k {J' J1 J : zJ} {m : Int} (k : CI J' m ∧ zOf fkp J' J1) (e1 : J1 145 10 ≤ J 145 10 + 24000) (e0 : J1 0 = J 0) (f : zOf fou J1 J) : CQ J' J := ⟨⟨m, k.1⟩, by rw [k.2 145 rfl]; exact e1, (k.2 0 rfl).trans e0, (k.2.mono (fun c hc => by have := of_decide_eq_true hc; exact decide_eq_true (by omega))).tr f⟩
theorem AC.led {J' J : zJ} {m0 m : Int} (h : AC J m0 m) (f : zOf (zbut [19]) J' J) (hL : LI (J' 19) m) : AC J' m0 m := h.gx (X := [19]) ((GX.rf h.1.1.1 h.1.1.2.1).off rfl f) rfl hL (h.1.2.1.of (f 145 rfl) (f 146 rfl))
theorem LI.got {J : zJ} {m : Int} (h : LI (J 19) m) (hg : gOK (J 140) m) : LI (zcp J 140 19 0 7 8 19) m := by
  obtain ⟨h1, h2, h3, h4, h5⟩ := h
  have e : ∀ k, (k < 7 ∨ 15 ≤ k) → zcp J 140 19 0 7 8 19 k = J 19 k := fun k hk => zcp_out (by omega)
  unfold LI
  rw [e 1 (by omega), e 4 (by omega), e 5 (by omega), e 6 (by omega)]
  refine ⟨h1, fun v a b => ?_, fun i a b => ?_, fun i a b => ?_, fun i a b => ?_⟩
  · rw [zcp_in (by omega), show (0 : Int) + (7 + v - 7) = v by omega]
    exact hg v a b
  · rw [e (15 + i) (by omega), e (23 + i) (by omega)]
    exact h3 i a b
  · rw [e (31 + i) (by omega)]
    exact h4 i a b
  · rw [e (43 + i) (by omega), e (52 + i) (by omega)]
    exact h5 i a b
set_option maxHeartbeats 4000000 in
set_option maxRecDepth 100000 in
theorem c_undo4 {l : Launch} {G : tb_G} (hl : l.stackTraces = false) (n : Nat) (J : zJ)    (h6 : J 5 6 = 0) : tz_Ok l G M_X0_undoLast 4 0 0 [.ref 5] n J (zqi (fun z J' => -1 = z ∧ J = J')) zN := by
  refine tz_Ok.of hl (by decide +kernel) rfl (tb_c1 rfl) (Nat.le_of_ble_eq_true rfl) ?_
  show tz_At l G M_X0_undoLast (tb_rm 4 0 0) none (tb_ZM G 0 0 (zQ n 0 (zqi (fun z J' => -1 = z ∧ J = J'))) (zX n 0 zN)) 0 0 n J 0 [some (.ref 5)] []
  refine tz_aload_n (pc := 0) dX0_undoLast_0 rfl rfl ?_
  refine tz_fI (pc := 1) (kz := 6) (v := 0) dX0_undoLast_1 fl_X0_29 i_5_6 rfl h6 (fun _ => ?_)
  refine tz_if_neF (pc := 4) (tgt := 9) (by decide) dX0_undoLast_4 (by decide) (by decide) ?_
  refine tz_iconst (pc := 7) dX0_undoLast_7 ?_
  exact tz_iret (pc := 8) (z := (-1)) dX0_undoLast_8 rfl (Nat.le_of_ble_eq_true rfl) (Nat.le_of_ble_eq_true rfl) ⟨Nat.le_refl _, Nat.le_add_right _ _⟩ ⟨_, rfl, (by decide), ⟨rfl, rfl⟩⟩
end
section
set_option maxHeartbeats 4000000 in
set_option maxRecDepth 100000 in
theorem c_need1 {l : Launch} {G : tb_G} (hl : l.stackTraces = false) (n : Nat) (J : zJ) (t : Int) (hr_t : -2147483648 ≤ t ∧ t < 2147483648)  (ht : 0 ≤ t ∧ t < J 6 12) : tz_Ok l G M_X11_needTerm 1 0 0 [.ref 0, zi t] n J (zqv (fun J' => J = J')) zN := by
  refine tz_Ok.of hl (by decide +kernel) rfl (tb_c1 rfl) (Nat.le_of_ble_eq_true rfl) ?_
  show tz_At l G M_X11_needTerm (tb_rm 1 0 0) none (tb_ZM G 0 0 (zQ n 0 (zqv (fun J' => J = J'))) (zX n 0 zN)) 0 0 n J 0 [some (.ref 0), some (zi t)] []
  refine tz_aload_n (pc := 0) dX11_needTerm_0 rfl rfl ?_
  refine tz_fR (pc := 1) dX11_needTerm_1 fl_X11_29 r_0_1 ?_
  refine tz_fR (pc := 4) dX11_needTerm_4 fl_X11_49 r_5_0 ?_
  refine tz_iload_n (pc := 7) dX11_needTerm_7 rfl rfl ?_
  refine tz_cV (pc := 8) (c_has hl n _ _ (by omega)) vl_X11_304 dX11_needTerm_8 o_6 rfl rfl (Nat.le_of_ble_eq_true rfl) ⟨(Nat.le_of_ble_eq_true rfl), (Nat.le_of_ble_eq_true rfl)⟩ rfl rfl (Nat.le_of_ble_eq_true rfl) (Nat.le_of_ble_eq_true rfl) (fun r9 J_8 hq9 => ?_)
  obtain ⟨z_8, rfl, hz_8, rfl, rfl⟩ := hq9
  rw [show (if 0 ≤ t ∧ t < J 6 12 then 1 else 0 : Int) = 1 from if_pos ht]
  refine tz_if_neT (pc := 11) (tgt := 25) (by decide) dX11_needTerm_11 (by decide) (by decide) ?_
  exact tz_vret (pc := 25) dX11_needTerm_25 rfl (Nat.le_of_ble_eq_true rfl) (Nat.le_of_ble_eq_true rfl) ⟨Nat.le_refl _, Nat.le_add_right _ _⟩ ⟨rfl, rfl⟩

set_option maxHeartbeats 4000000 in
set_option maxRecDepth 100000 in
theorem c_need0 {l : Launch} {G : tb_G} (hl : l.stackTraces = false) (n : Nat) (J : zJ) (t : Int) (hr_t : -2147483648 ≤ t ∧ t < 2147483648)  (ht : ¬ (0 ≤ t ∧ t < J 6 12)) : tz_Ok l G M_X11_needTerm 6 1 6 [.ref 0, zi t] n J ((fun _ _ => False)) (fun E J' => E = "java/util/NoSuchElementException" ∧ J = J') := by
  refine tz_Ok.of hl (by decide +kernel) rfl (tb_c1 rfl) (Nat.le_of_ble_eq_true rfl) ?_
  show tz_At l G M_X11_needTerm (tb_rm 6 1 6) none (tb_ZM G 1 6 (zQ n 1 ((fun _ _ => False))) (zX n 1 (fun E J' => E = "java/util/NoSuchElementException" ∧ J = J'))) 0 0 n J 0 [some (.ref 0), some (zi t)] []
  refine tz_aload_n (pc := 0) dX11_needTerm_0 rfl rfl ?_
  refine tz_fR (pc := 1) dX11_needTerm_1 fl_X11_29 r_0_1 ?_
  refine tz_fR (pc := 4) dX11_needTerm_4 fl_X11_49 r_5_0 ?_
  refine tz_iload_n (pc := 7) dX11_needTerm_7 rfl rfl ?_
  refine tz_cV (pc := 8) (c_has hl n _ _ (by omega)) vl_X11_304 dX11_needTerm_8 o_6 rfl rfl (Nat.le_of_ble_eq_true rfl) ⟨(Nat.le_of_ble_eq_true rfl), (Nat.le_of_ble_eq_true rfl)⟩ rfl rfl (Nat.le_of_ble_eq_true rfl) (Nat.le_of_ble_eq_true rfl) (fun r9 J_8 hq9 => ?_)
  obtain ⟨z_8, rfl, hz_8, rfl, rfl⟩ := hq9
  rw [show (if 0 ≤ t ∧ t < J 6 12 then 1 else 0 : Int) = 0 from if_neg ht]
  refine tz_if_neF (pc := 11) (tgt := 25) (by decide) dX11_needTerm_11 (by decide) (by decide) ?_
  exact tz_throwNW (pc := 14) (text := "no such term") th_X11_188_192 (by decide +kernel) rfl dX11_needTerm_14 dX11_needTerm_17 dX11_needTerm_18 dX11_needTerm_21 dX11_needTerm_24 (Nat.le_of_ble_eq_true rfl) (Nat.le_of_ble_eq_true rfl) (Nat.le_of_ble_eq_true rfl) (Nat.le_of_ble_eq_true rfl) (Nat.le_of_ble_eq_true rfl) (Nat.le_of_ble_eq_true rfl) ⟨Nat.le_refl _, Nat.le_add_right _ _⟩ ⟨rfl, rfl⟩
end
section
/-- the table d is a copy of the table s -/
def TQ (d s : Nat) (J1 J : zJ) : Prop := J1 d 12 = J s 12 ∧ (∀ t, 0 ≤ t → t < J s 12 → J1 (d + 1) t = J (s + 1) t ∧ J1 (d + 2) t = J (s + 2) t ∧ J1 (d + 4) t = J (s + 4) t ∧ J1 (d + 5) t = J (s + 5) t ∧ J1 (d + 6) t = J (s + 6) t ∧ J1 (d + 7) t = J (s + 7) t ∧ J1 (d + 8) t = J (s + 8) t ∧ J1 (d + 9) t = J (s + 9) t) ∧ (∀ k, 0 ≤ k → k < J s 12 * 3 → J1 (d + 3) k = J (s + 3) k) ∧ (∀ b, 0 ≤ b → b < 256 → J1 (d + 10) b = J (s + 10) b) ∧ zOf (fun c => decide (c < d ∨ d + 10 < c)) J1 J
theorem z0t {f : Int → Int} {g : Int} {t n : Int} (h : 0 ≤ t ∧ t < n) : (if 0 ≤ t ∧ t < 0 + n then f (0 + (t - 0)) else g) = f t := by
  rw [if_pos (by omega)]
  congr 1
  omega
theorem te_64_6 {J : zJ} : TQ 64 6 (zcp (zcp (zcp (zcp (zcp (zcp (zcp (zcp (zcp (zcp (zup J 64 12 (J 6 12)) 7 65 0 0 (J 6 12)) 8 66 0 0 (J 6 12)) 9 67 0 0 (J 6 12 * 3)) 10 68 0 0 (J 6 12)) 11 69 0 0 (J 6 12)) 12 70 0 0 (J 6 12)) 13 71 0 0 (J 6 12)) 14 72 0 0 (J 6 12)) 15 73 0 0 (J 6 12)) 16 74 0 0 256) J := by
  refine ⟨rfl, fun t a b => ⟨z0t ⟨a, b⟩, z0t ⟨a, b⟩, z0t ⟨a, b⟩, z0t ⟨a, b⟩, z0t ⟨a, b⟩, z0t ⟨a, b⟩, z0t ⟨a, b⟩, z0t ⟨a, b⟩⟩, fun k a b => z0t ⟨a, b⟩, fun x a b => z0t ⟨a, b⟩, ?_⟩
  exact zOf.cp rfl (zOf.cp rfl (zOf.cp rfl (zOf.cp rfl (zOf.cp rfl (zOf.cp rfl (zOf.cp rfl (zOf.cp rfl (zOf.cp rfl (zOf.cp rfl (zOf.up rfl zOf.rf))))))))))
theorem te_6_64 {J : zJ} : TQ 6 64 (zcp (zcp (zcp (zcp (zcp (zcp (zcp (zcp (zcp (zcp (zup J 6 12 (J 64 12)) 65 7 0 0 (J 64 12)) 66 8 0 0 (J 64 12)) 67 9 0 0 (J 64 12 * 3)) 68 10 0 0 (J 64 12)) 69 11 0 0 (J 64 12)) 70 12 0 0 (J 64 12)) 71 13 0 0 (J 64 12)) 72 14 0 0 (J 64 12)) 73 15 0 0 (J 64 12)) 74 16 0 0 256) J := by
  refine ⟨rfl, fun t a b => ⟨z0t ⟨a, b⟩, z0t ⟨a, b⟩, z0t ⟨a, b⟩, z0t ⟨a, b⟩, z0t ⟨a, b⟩, z0t ⟨a, b⟩, z0t ⟨a, b⟩, z0t ⟨a, b⟩⟩, fun k a b => z0t ⟨a, b⟩, fun x a b => z0t ⟨a, b⟩, ?_⟩
  exact zOf.cp rfl (zOf.cp rfl (zOf.cp rfl (zOf.cp rfl (zOf.cp rfl (zOf.cp rfl (zOf.cp rfl (zOf.cp rfl (zOf.cp rfl (zOf.cp rfl (zOf.up rfl zOf.rf))))))))))
theorem te_125_6 {J : zJ} : TQ 125 6 (zcp (zcp (zcp (zcp (zcp (zcp (zcp (zcp (zcp (zcp (zup J 125 12 (J 6 12)) 7 126 0 0 (J 6 12)) 8 127 0 0 (J 6 12)) 9 128 0 0 (J 6 12 * 3)) 10 129 0 0 (J 6 12)) 11 130 0 0 (J 6 12)) 12 131 0 0 (J 6 12)) 13 132 0 0 (J 6 12)) 14 133 0 0 (J 6 12)) 15 134 0 0 (J 6 12)) 16 135 0 0 256) J := by
  refine ⟨rfl, fun t a b => ⟨z0t ⟨a, b⟩, z0t ⟨a, b⟩, z0t ⟨a, b⟩, z0t ⟨a, b⟩, z0t ⟨a, b⟩, z0t ⟨a, b⟩, z0t ⟨a, b⟩, z0t ⟨a, b⟩⟩, fun k a b => z0t ⟨a, b⟩, fun x a b => z0t ⟨a, b⟩, ?_⟩
  exact zOf.cp rfl (zOf.cp rfl (zOf.cp rfl (zOf.cp rfl (zOf.cp rfl (zOf.cp rfl (zOf.cp rfl (zOf.cp rfl (zOf.cp rfl (zOf.cp rfl (zOf.up rfl zOf.rf))))))))))
theorem te_6_125 {J : zJ} : TQ 6 125 (zcp (zcp (zcp (zcp (zcp (zcp (zcp (zcp (zcp (zcp (zup J 6 12 (J 125 12)) 126 7 0 0 (J 125 12)) 127 8 0 0 (J 125 12)) 128 9 0 0 (J 125 12 * 3)) 129 10 0 0 (J 125 12)) 130 11 0 0 (J 125 12)) 131 12 0 0 (J 125 12)) 132 13 0 0 (J 125 12)) 133 14 0 0 (J 125 12)) 134 15 0 0 (J 125 12)) 135 16 0 0 256) J := by
  refine ⟨rfl, fun t a b => ⟨z0t ⟨a, b⟩, z0t ⟨a, b⟩, z0t ⟨a, b⟩, z0t ⟨a, b⟩, z0t ⟨a, b⟩, z0t ⟨a, b⟩, z0t ⟨a, b⟩, z0t ⟨a, b⟩⟩, fun k a b => z0t ⟨a, b⟩, fun x a b => z0t ⟨a, b⟩, ?_⟩
  exact zOf.cp rfl (zOf.cp rfl (zOf.cp rfl (zOf.cp rfl (zOf.cp rfl (zOf.cp rfl (zOf.cp rfl (zOf.cp rfl (zOf.cp rfl (zOf.cp rfl (zOf.up rfl zOf.rf))))))))))
theorem TQ.kt {J1 J : zJ} {m : Int} (t : TQ 64 6 J1 J) (h : CT J m) (hm : J 6 12 = m) : CT (kv J1) m := by
  obtain ⟨t1, t2, t3, t4, t5⟩ := t
  rw [hm] at t2 t3
  exact h.su3 (congrFun (t5 1 rfl) 3) (fun k _ _ => ⟨congrFun (t5 3 rfl) k, congrFun (t5 4 rfl) k⟩) t4 ⟨t2, t3⟩
theorem TQ.ck {J1 J : zJ} {m : Int} (t : TQ 6 64 J1 J) (h : CT (kv J) m) (hm : J 64 12 = m) : CT J1 m := by
  obtain ⟨t1, t2, t3, t4, t5⟩ := t
  rw [hm] at t2 t3
  exact h.su3 (congrFun (t5 1 rfl) 3) (fun k _ _ => ⟨congrFun (t5 3 rfl) k, congrFun (t5 4 rfl) k⟩) t4 ⟨t2, t3⟩
theorem zV_bn : ∀ i : Nat, i < 40 → tb_cB tb_shT 78 40 i (79 + i) = true := by decide +kernel
theorem zV_an : ∀ i : Nat, i < 40 → tb_cA tb_shT (79 + i) 61 = true := by decide +kernel
theorem zV_b {i : Int} (h : 0 ≤ i ∧ i < 40) : tb_cB tb_shT 78 40 i.toNat (zV i) = true := zV_bn i.toNat (by omega)
theorem zV_a {i : Int} (h : 0 ≤ i ∧ i < 40) : tb_cA tb_shT (zV i) 61 = true := zV_an i.toNat (by omega)
theorem RG.cp {o o' : Nat} {u u' : Int → Nat} {J' J : zJ} {m : Int} (h : RG o u J m) (e5 : J' o' 5 = J o 5) (e6 : J' o' 6 = J o 6) (e : ∀ q, 0 ≤ q → q < J o 6 → ∀ x, 0 ≤ x → x < 61 → J' (u' ((J o 5 + q) % 40)) x = J (u ((J o 5 + q) % 40)) x) : RG o' u' J' m := by
  unfold RG
  rw [e5, e6]
  refine ⟨h.1, fun k a b => ?_⟩
  obtain ⟨⟨g1, g2⟩, g3⟩ := h.2 k a b
  rw [e k a b 0 (by omega) (by omega)]
  refine ⟨⟨g1.c61 (e k a b), g2⟩, fun q x y => ?_⟩
  rw [e q (by omega) y 0 (by omega) (by omega)]
  exact g3 q x y
def frV (c : Nat) : Bool := decide (c < 79 ∨ 118 < c)
def frU (c : Nat) : Bool := decide (c < 21 ∨ 60 < c)
theorem rowcp_c_takeK {J3 J : zJ} {k : Int} (e5 : J3 63 5 = J 5 5) (hf : 0 ≤ J 5 5 ∧ J 5 5 < 40 ∧ J 5 6 ≤ 40 ∧ k < J 5 6) (hk : 0 ≤ k ∧ k ≤ J 5 6) (hr3 : ∀ i, 0 ≤ i → i < 40 → J3 (zU i) = J (zU i)) (h3 : ∀ q, 0 ≤ q → q < k → ∀ x, 0 ≤ x → x < 61 → J3 (zV ((J 5 5 + q) % 40)) x = J (zU ((J 5 5 + q) % 40)) x) : ∀ q, 0 ≤ q → q < k + 1 → ∀ x, 0 ≤ x → x < 61 → zcp J3 (zU ((J3 63 5 + k) % 40)) (zV ((J3 63 5 + k) % 40)) 0 0 61 (zV ((J 5 5 + q) % 40)) x = J (zU ((J 5 5 + q) % 40)) x := by
  intro q a b x y z
  rw [e5]
  by_cases e : q = k
  · subst e
    rw [zcp_in (by omega), hr3 _ (by omega) (by omega)]
    congr 1
    omega
  · rw [zcp_nc (by unfold zV; omega)]
    exact h3 q a (by omega) x y z
theorem rowcp_c_takeC {J3 J : zJ} {k : Int} (e5 : J3 5 5 = J 63 5) (hf : 0 ≤ J 63 5 ∧ J 63 5 < 40 ∧ J 63 6 ≤ 40 ∧ k < J 63 6) (hk : 0 ≤ k ∧ k ≤ J 63 6) (hr3 : ∀ i, 0 ≤ i → i < 40 → J3 (zV i) = J (zV i)) (h3 : ∀ q, 0 ≤ q → q < k → ∀ x, 0 ≤ x → x < 61 → J3 (zU ((J 63 5 + q) % 40)) x = J (zV ((J 63 5 + q) % 40)) x) : ∀ q, 0 ≤ q → q < k + 1 → ∀ x, 0 ≤ x → x < 61 → zcp J3 (zV ((J3 5 5 + k) % 40)) (zU ((J3 5 5 + k) % 40)) 0 0 61 (zU ((J 63 5 + q) % 40)) x = J (zV ((J 63 5 + q) % 40)) x := by
  intro q a b x y z
  rw [e5]
  by_cases e : q = k
  · subst e
    rw [zcp_in (by omega), hr3 _ (by omega) (by omega)]
    congr 1
    omega
  · rw [zcp_nc (by unfold zU; omega)]
    exact h3 q a (by omega) x y z
def fkk (c : Nat) : Bool := decide (c < 63 ∨ 120 < c)
theorem kv_of {J' J : zJ} {m : Int} (h : CT (kv J) m) (e : ∀ c, c = 1 ∨ c = 3 ∨ c = 4 ∨ (65 ≤ c ∧ c ≤ 74) → J' c = J c) : CT (kv J') m := h.of (fun c hc => by
  unfold kv
  by_cases h7 : 7 ≤ c ∧ c ≤ 16
  · rw [if_pos h7, if_pos h7]
    exact e _ (by omega)
  · rw [if_neg h7, if_neg h7]
    exact e _ (by omega))
end
section
/-- the bank set aside -/
def SV (J1 J : zJ) : Prop := (J1 121 3 = J 1 3 ∧ (∀ k, 0 ≤ k → k < 10 → J1 123 k = J 3 k ∧ J1 124 k = J 4 k ∧ J1 122 k = J 2 k)) ∧ (J1 125 12 = J 6 12 ∧ (∀ t, 0 ≤ t → t < J 6 12 → J1 126 t = J 7 t ∧ J1 127 t = J 8 t ∧ J1 129 t = J 10 t ∧ J1 130 t = J 11 t ∧ J1 131 t = J 12 t ∧ J1 132 t = J 13 t ∧ J1 133 t = J 14 t ∧ J1 134 t = J 15 t) ∧ (∀ k, 0 ≤ k → k < J 6 12 * 3 → J1 128 k = J 9 k) ∧ (∀ b, 0 ≤ b → b < 256 → J1 135 b = J 16 b)) ∧ ∀ k, 0 ≤ k → k < 61 → J1 138 k = J 19 k
theorem SV.of {J2 J1 J : zJ} (h : SV J1 J) (e : ∀ c, 121 ≤ c ∧ c ≤ 138 → J2 c = J1 c) : SV J2 J := by
  unfold SV
  rw [e 121 (by omega), e 122 (by omega), e 123 (by omega), e 124 (by omega), e 125 (by omega), e 126 (by omega), e 127 (by omega), e 128 (by omega), e 129 (by omega), e 130 (by omega), e 131 (by omega), e 132 (by omega), e 133 (by omega), e 134 (by omega), e 135 (by omega), e 138 (by omega)]
  exact h
def fsp (c : Nat) : Bool := decide (c < 121 ∨ 138 < c)
theorem z10 {f : Int → Int} {g : Int} {k n : Int} (h : 0 ≤ k ∧ k < n) : (if 0 ≤ k ∧ k < 0 + n then f (0 + (k - 0)) else g) = f k := z0t h
set_option maxHeartbeats 4000000 in
set_option maxRecDepth 100000 in
theorem c_setAside {l : Launch} {G : tb_G} (hl : l.stackTraces = false) (n : Nat) (J : zJ)    (h0 : 0 ≤ J 6 12 ∧ J 6 12 ≤ 400) : tz_Ok l G M_X11_setAside 2 0 0 [.ref 0] n J (zqv (fun J' => SV J' J ∧ zOf fsp J' J)) zN := by
  refine tz_Ok.of hl (by decide +kernel) rfl (tb_c1 rfl) (Nat.le_of_ble_eq_true rfl) ?_
  show tz_At l G M_X11_setAside (tb_rm 2 0 0) none (tb_ZM G 0 0 (zQ n 0 (zqv (fun J' => SV J' J ∧ zOf fsp J' J))) (zX n 0 zN)) 0 0 n J 0 [some (.ref 0)] []
  refine tz_aload_n (pc := 0) dX11_setAside_0 rfl rfl ?_
  refine tz_fR (pc := 1) dX11_setAside_1 fl_X11_36 r_0_3 ?_
  refine tz_aload_n (pc := 4) dX11_setAside_4 rfl rfl ?_
  refine tz_fR (pc := 5) dX11_setAside_5 fl_X11_10 r_0_0 ?_
  refine tz_cV (pc := 8) (c_syTake121 hl n _) vl_X11_151 dX11_setAside_8 o_121 rfl rfl (Nat.le_of_ble_eq_true rfl) ⟨(Nat.le_of_ble_eq_true rfl), (Nat.le_of_ble_eq_true rfl)⟩ rfl rfl (Nat.le_of_ble_eq_true rfl) (Nat.le_of_ble_eq_true rfl) (fun r9 J1 hq9 => ?_)
  obtain ⟨rfl, hj1⟩ := hq9
  have f1 : zOf (zbut [121, 122, 123, 124]) J1 J := by rw [← hj1]; exact zOf.up rfl (zOf.cp rfl (zOf.cp rfl (zOf.cp rfl zOf.rf)))
  have s1 : J1 121 3 = J 1 3 ∧ ∀ k, 0 ≤ k → k < 10 → J1 123 k = J 3 k ∧ J1 124 k = J 4 k ∧ J1 122 k = J 2 k := by rw [← hj1]; exact ⟨rfl, fun k a b => ⟨z10 ⟨a, b⟩, z10 ⟨a, b⟩, z10 ⟨a, b⟩⟩⟩
  refine tz_aload_n (pc := 11) dX11_setAside_11 rfl rfl ?_
  refine tz_fR (pc := 12) dX11_setAside_12 fl_X11_39 r_0_4 ?_
  refine tz_aload_n (pc := 15) dX11_setAside_15 rfl rfl ?_
  refine tz_fR (pc := 16) dX11_setAside_16 fl_X11_29 r_0_1 ?_
  refine tz_fR (pc := 19) dX11_setAside_19 fl_X11_49 r_5_0 ?_
  refine tz_cV (pc := 22) (c_teTake125_6 hl n _ (by rw [f1 6 rfl]; exact h0)) vl_X11_154 dX11_setAside_22 o_125 rfl rfl (Nat.le_of_ble_eq_true rfl) ⟨(Nat.le_of_ble_eq_true rfl), (Nat.le_of_ble_eq_true rfl)⟩ rfl rfl (Nat.le_of_ble_eq_true rfl) (Nat.le_of_ble_eq_true rfl) (fun r9 J2 hq9 => ?_)
  obtain ⟨rfl, hj2⟩ := hq9
  have t2 : TQ 125 6 J2 J1 := by rw [← hj2]; exact te_125_6
  refine tz_aload_n (pc := 25) dX11_setAside_25 rfl rfl ?_
  refine tz_fR (pc := 26) dX11_setAside_26 fl_X11_43 r_0_5 ?_
  refine tz_aload_n (pc := 29) dX11_setAside_29 rfl rfl ?_
  refine tz_fR (pc := 30) dX11_setAside_30 fl_X11_29 r_0_1 ?_
  refine tz_fR (pc := 33) dX11_setAside_33 fl_X11_156 r_5_1 ?_
  refine tz_cV (pc := 36) (c_leTake137_18 hl n _) vl_X11_159 dX11_setAside_36 o_137 rfl rfl (Nat.le_of_ble_eq_true rfl) ⟨(Nat.le_of_ble_eq_true rfl), (Nat.le_of_ble_eq_true rfl)⟩ rfl rfl (Nat.le_of_ble_eq_true rfl) (Nat.le_of_ble_eq_true rfl) (fun r9 J3 hq9 => ?_)
  obtain ⟨rfl, hj3⟩ := hq9
  have f3 : zOf (zbut [138]) J3 J2 := by rw [← hj3]; exact zOf.cp rfl zOf.rf
  have e3 : ∀ k, 0 ≤ k → k < 61 → J3 138 k = J2 19 k := by rw [← hj3]; exact fun k a b => z10 ⟨a, b⟩
  obtain ⟨t21, t22, t23, t24, t25⟩ := t2
  simp only [f1 6 rfl] at t21 t22 t23
  exact tz_vret (pc := 39) dX11_setAside_39 rfl (Nat.le_of_ble_eq_true rfl) (Nat.le_of_ble_eq_true rfl) ⟨Nat.le_refl _, Nat.le_add_right _ _⟩ ⟨rfl, ⟨⟨⟨by rw [f3 121 rfl, t25 121 rfl]; exact s1.1, fun k a b => by rw [f3 122 rfl, t25 122 rfl, f3 123 rfl, t25 123 rfl, f3 124 rfl, t25 124 rfl]; exact s1.2 k a b⟩, ⟨by rw [f3 125 rfl]; exact t21, fun t a b => by have q := t22 t a b; rw [f1 (6 + 1) rfl, f1 (6 + 2) rfl, f1 (6 + 4) rfl, f1 (6 + 5) rfl, f1 (6 + 6) rfl, f1 (6 + 7) rfl, f1 (6 + 8) rfl, f1 (6 + 9) rfl] at q; rw [f3 126 rfl, f3 127 rfl, f3 129 rfl, f3 130 rfl, f3 131 rfl, f3 132 rfl, f3 133 rfl, f3 134 rfl]; exact q, fun k a b => by have q := t23 k a b; rw [f1 (6 + 3) rfl] at q; rw [f3 128 rfl]; exact q, fun x a b => by have q := t24 x a b; rw [f1 (6 + 10) rfl] at q; rw [f3 135 rfl]; exact q⟩, fun k a b => by rw [e3 k a b, t25 19 rfl, f1 19 rfl]⟩, fun c hc => by have hc9 := of_decide_eq_true hc; rw [f3 c (by simp [zbut]; omega), t25 c (decide_eq_true (by omega)), f1 c (by simp [zbut]; omega)]⟩⟩

/-- what was set aside is back -/
def BK (J1 J : zJ) : Prop := (J1 1 3 = J 1 3 ∧ (∀ k, 0 ≤ k → k < 10 → J1 3 k = J 3 k ∧ J1 4 k = J 4 k ∧ J1 2 k = J 2 k)) ∧ (J1 6 12 = J 6 12 ∧ zSU J1 J (J 6 12) ∧ (∀ b, 0 ≤ b → b < 256 → J1 16 b = J 16 b)) ∧ ∀ k, 0 ≤ k → k < 61 → J1 19 k = J 19 k
set_option maxHeartbeats 4000000 in
set_option maxRecDepth 100000 in
theorem c_takeBack0 {l : Launch} {G : tb_G} (hl : l.stackTraces = false) (n : Nat) (J : zJ)   (J0 : zJ) (hs : SV J J0) (h0 : 0 ≤ J0 6 12 ∧ J0 6 12 ≤ 400) : tz_Ok l G M_X11_takeBack 2 0 0 [.ref 0] n J (zqv (fun J' => BK J' J0 ∧ zOf (zbut [1, 2, 3, 4, 6, 7, 8, 9, 10, 11, 12, 13, 14, 15, 16, 19]) J' J)) zN := by
  refine tz_Ok.of hl (by decide +kernel) rfl (tb_c1 rfl) (Nat.le_of_ble_eq_true rfl) ?_
  show tz_At l G M_X11_takeBack (tb_rm 2 0 0) none (tb_ZM G 0 0 (zQ n 0 (zqv (fun J' => BK J' J0 ∧ zOf (zbut [1, 2, 3, 4, 6, 7, 8, 9, 10, 11, 12, 13, 14, 15, 16, 19]) J' J))) (zX n 0 zN)) 0 0 n J 0 [some (.ref 0)] []
  obtain ⟨⟨s1, s2⟩, ⟨s3, s4, s5, s6⟩, s7⟩ := hs
  refine tz_aload_n (pc := 0) dX11_takeBack_0 rfl rfl ?_
  refine tz_fR (pc := 1) dX11_takeBack_1 fl_X11_10 r_0_0 ?_
  refine tz_aload_n (pc := 4) dX11_takeBack_4 rfl rfl ?_
  refine tz_fR (pc := 5) dX11_takeBack_5 fl_X11_36 r_0_3 ?_
  refine tz_cV (pc := 8) (c_syTake1 hl n _) vl_X11_151 dX11_takeBack_8 o_1 rfl rfl (Nat.le_of_ble_eq_true rfl) ⟨(Nat.le_of_ble_eq_true rfl), (Nat.le_of_ble_eq_true rfl)⟩ rfl rfl (Nat.le_of_ble_eq_true rfl) (Nat.le_of_ble_eq_true rfl) (fun r9 J1 hq9 => ?_)
  obtain ⟨rfl, hj1⟩ := hq9
  have f1 : zOf (zbut [1, 2, 3, 4]) J1 J := by rw [← hj1]; exact zOf.up rfl (zOf.cp rfl (zOf.cp rfl (zOf.cp rfl zOf.rf)))
  have u1 : J1 1 3 = J 121 3 ∧ ∀ k, 0 ≤ k → k < 10 → J1 3 k = J 123 k ∧ J1 4 k = J 124 k ∧ J1 2 k = J 122 k := by rw [← hj1]; exact ⟨rfl, fun k a b => ⟨z10 ⟨a, b⟩, z10 ⟨a, b⟩, z10 ⟨a, b⟩⟩⟩
  refine tz_aload_n (pc := 11) dX11_takeBack_11 rfl rfl ?_
  refine tz_fR (pc := 12) dX11_takeBack_12 fl_X11_29 r_0_1 ?_
  refine tz_fR (pc := 15) dX11_takeBack_15 fl_X11_49 r_5_0 ?_
  refine tz_aload_n (pc := 18) dX11_takeBack_18 rfl rfl ?_
  refine tz_fR (pc := 19) dX11_takeBack_19 fl_X11_39 r_0_4 ?_
  refine tz_cV (pc := 22) (c_teTake6_125 hl n _ (by rw [f1 125 rfl, s3]; exact h0)) vl_X11_154 dX11_takeBack_22 o_6 rfl rfl (Nat.le_of_ble_eq_true rfl) ⟨(Nat.le_of_ble_eq_true rfl), (Nat.le_of_ble_eq_true rfl)⟩ rfl rfl (Nat.le_of_ble_eq_true rfl) (Nat.le_of_ble_eq_true rfl) (fun r9 J2 hq9 => ?_)
  obtain ⟨rfl, hj2⟩ := hq9
  have t2 : TQ 6 125 J2 J1 := by rw [← hj2]; exact te_6_125
  refine tz_aload_n (pc := 25) dX11_takeBack_25 rfl rfl ?_
  refine tz_fR (pc := 26) dX11_takeBack_26 fl_X11_29 r_0_1 ?_
  refine tz_fR (pc := 29) dX11_takeBack_29 fl_X11_156 r_5_1 ?_
  refine tz_aload_n (pc := 32) dX11_takeBack_32 rfl rfl ?_
  refine tz_fR (pc := 33) dX11_takeBack_33 fl_X11_43 r_0_5 ?_
  refine tz_cV (pc := 36) (c_leTake18_137 hl n _) vl_X11_159 dX11_takeBack_36 o_18 rfl rfl (Nat.le_of_ble_eq_true rfl) ⟨(Nat.le_of_ble_eq_true rfl), (Nat.le_of_ble_eq_true rfl)⟩ rfl rfl (Nat.le_of_ble_eq_true rfl) (Nat.le_of_ble_eq_true rfl) (fun r9 J3 hq9 => ?_)
  obtain ⟨rfl, hj3⟩ := hq9
  have f3 : zOf (zbut [19]) J3 J2 := by rw [← hj3]; exact zOf.cp rfl zOf.rf
  have e3 : ∀ k, 0 ≤ k → k < 61 → J3 19 k = J2 138 k := by rw [← hj3]; exact fun k a b => z10 ⟨a, b⟩
  obtain ⟨t21, t22, t23, t24, t25⟩ := t2
  simp only [f1 125 rfl, s3] at t21 t22 t23
  exact tz_vret (pc := 39) dX11_takeBack_39 rfl (Nat.le_of_ble_eq_true rfl) (Nat.le_of_ble_eq_true rfl) ⟨Nat.le_refl _, Nat.le_add_right _ _⟩ ⟨rfl, ⟨⟨⟨by rw [f3 1 rfl, t25 1 rfl, u1.1]; exact s1, fun k a b => by rw [f3 2 rfl, t25 2 rfl, f3 3 rfl, t25 3 rfl, f3 4 rfl, t25 4 rfl, (u1.2 k a b).1, (u1.2 k a b).2.1, (u1.2 k a b).2.2]; exact s2 k a b⟩, ⟨by rw [f3 6 rfl]; exact t21, ⟨fun t a b => by have q := t22 t a b; rw [f1 (125 + 1) rfl, f1 (125 + 2) rfl, f1 (125 + 4) rfl, f1 (125 + 5) rfl, f1 (125 + 6) rfl, f1 (125 + 7) rfl, f1 (125 + 8) rfl, f1 (125 + 9) rfl] at q; have p := s4 t a b; rw [f3 7 rfl, f3 8 rfl, f3 10 rfl, f3 11 rfl, f3 12 rfl, f3 13 rfl, f3 14 rfl, f3 15 rfl]; exact ⟨q.1.trans p.1, q.2.1.trans p.2.1, q.2.2.1.trans p.2.2.1, q.2.2.2.1.trans p.2.2.2.1, q.2.2.2.2.1.trans p.2.2.2.2.1, q.2.2.2.2.2.1.trans p.2.2.2.2.2.1, q.2.2.2.2.2.2.1.trans p.2.2.2.2.2.2.1, q.2.2.2.2.2.2.2.trans p.2.2.2.2.2.2.2⟩, fun k a b => by have q := t23 k a b; rw [f1 (125 + 3) rfl] at q; rw [f3 9 rfl]; exact q.trans (s5 k a b)⟩, fun x a b => by have q := t24 x a b; rw [f1 (125 + 10) rfl] at q; rw [f3 16 rfl]; exact q.trans (s6 x a b)⟩, fun k a b => by rw [e3 k a b, t25 138 rfl, f1 138 rfl]; exact s7 k a b⟩, fun c hc => by simp [zbut] at hc; rw [f3 c (by simp [zbut]; omega), t25 c (decide_eq_true (by omega)), f1 c (by simp [zbut]; omega)]⟩⟩

/-- after a text that is none -/
theorem CI.bk {J' J : zJ} {m : Int} (h : CI J m) (b : BK J' J) (ht : 0 ≤ J' 0 13 ∧ J' 0 13 ≤ 700) (h3 : J' 156 3 = -1) (h15 : J' 0 15 = J 0 15) (f : ∀ c, c = 5 ∨ (20 ≤ c ∧ c ≤ 120 ∧ ¬ c = 62) ∨ c = 145 ∨ c = 146 → J' c = J c) : CI J' m := by
  obtain ⟨⟨b1, b2⟩, ⟨b3, b4, b5⟩, b6⟩ := b
  have hm := h.1.1.2.1
  have hb := h.1.1.1.told
  rw [hm] at b4
  refine ⟨⟨⟨h.1.1.1.su3 b1 (fun k a c => ⟨(b2 k a (by omega)).1, (b2 k a (by omega)).2.1⟩) b5 b4, b3.trans hm, h.1.1.2.2.c61 b6⟩, h.1.2.1.of (f 145 (by omega)) (f 146 (by omega)), ⟨⟨ht, h3⟩, ?_⟩⟩, h.2.of (Int.le_refl _) (congrFun (f 5 (by omega)) 5) (congrFun (f 5 (by omega)) 6) (fun i a c => f _ (by unfold zU; omega))⟩
  rw [h15]
  refine h.1.2.2.2.imp id (fun q => ⟨q.1, ?_⟩)
  obtain ⟨mk, hk⟩ := q.2
  refine ⟨mk, ⟨⟨hk.1.1.su3 b1 (fun k a c => ⟨(b2 k a (Int.lt_of_lt_of_le c hb.1.2)).1, (b2 k a (Int.lt_of_lt_of_le c hb.1.2)).2.1⟩) (fun x _ _ => congrFun (f 74 (by omega)) x) ⟨fun t _ _ => ⟨congrFun (f 65 (by omega)) t, congrFun (f 66 (by omega)) t, congrFun (f 68 (by omega)) t, congrFun (f 69 (by omega)) t, congrFun (f 70 (by omega)) t, congrFun (f 71 (by omega)) t, congrFun (f 72 (by omega)) t, congrFun (f 73 (by omega)) t⟩, fun k _ _ => congrFun (f 67 (by omega)) k⟩, by rw [f 64 (by omega)]; exact hk.1.2⟩, by rw [f 77 (by omega)]; exact hk.2.1, hk.2.2.of (Int.le_refl _) (congrFun (f 63 (by omega)) 5) (congrFun (f 63 (by omega)) 6) (fun i a c => f _ (by unfold zV; omega))⟩⟩
theorem CI.new {J' J2 J : zJ} {m m' : Int} (h : CI J m) (hC : CT J' m') (hm : J' 6 12 = m') (hL : LI (J' 19) m') (hR : RU J') (h3 : J' 156 3 = -1) (h13 : J' 0 13 = 0) (h15 : J' 0 15 = 0) (h5 : J' 5 5 = 0) (h6 : J' 5 6 = 0) : CI J' m' := ⟨⟨⟨hC, hm, hL⟩, hR, ⟨⟨by omega, h3⟩, Or.inl h15⟩⟩, ⟨by omega, fun k a b => by omega⟩⟩
theorem CI.tape {J' J : zJ} {m : Int} (h : CI J m) (f : zOf (zbut [0, 162]) J' J) (h13 : 0 ≤ J' 0 13 ∧ J' 0 13 ≤ 700) (h15 : J' 0 15 = J 0 15) : CI J' m := by
  have g : ∀ c, ¬ c = 0 → ¬ c = 162 → J' c = J c := fun c a b => f c (by simp [zbut]; omega)
  refine ⟨⟨⟨h.1.1.1.of (fun c hc => g c (by omega) (by omega)), by rw [g 6 (by omega) (by omega)]; exact h.1.1.2.1, by rw [g 19 (by omega) (by omega)]; exact h.1.1.2.2⟩, h.1.2.1.of (g _ (by omega) (by omega)) (g _ (by omega) (by omega)), ⟨⟨h13, by rw [g 156 (by omega) (by omega)]; exact h.1.2.2.1.2⟩, ?_⟩⟩, h.2.of (Int.le_refl _) (congrFun (g 5 (by omega) (by omega)) 5) (congrFun (g 5 (by omega) (by omega)) 6) (fun i a b => g _ (by unfold zU; omega) (by unfold zU; omega))⟩
  rw [h15]
  refine h.1.2.2.2.imp id (fun q => ⟨q.1, ?_⟩)
  obtain ⟨mk, hk⟩ := q.2
  exact ⟨mk, hk.of (fun c hc => g c (by omega) (by omega))⟩
end
section
/-! ===== the reference: its tables of terms, at hand or of a text ===== -/
def mode (b r d : Int) : Prop := (b = 0 ∧ r = 0 ∧ d = 0) ∨ (b = 800 ∧ r = 126 ∧ d = 10)
def MTT (J : zJ) (b d s m : Int) : Prop := TT s (fun k => J 170 (d + k)) m (fun t => J 166 (b + t)) (fun t i => J 167 (3 * (b + t) + i)) (fun t => J 168 (b + t))
def MS (J : zJ) (b r d s m : Int) : Prop := mode b r d ∧ J 164 15 = b ∧ J 164 16 = r ∧ J 164 17 = d ∧ J 165 r = m ∧ MTT J b d s m
def mar (J : zJ) (b d t : Int) : Int := arh (fun k => J 170 (d + k)) (J 166 (b + t))
theorem MS.told {J : zJ} {b r d s m : Int} (h : MS J b r d s m) : (0 ≤ s ∧ s ≤ 10) ∧ (0 ≤ m ∧ m ≤ 400) ∧ (0 ≤ b ∧ b ≤ 800) ∧ (0 ≤ r ∧ r ≤ 126) ∧ (0 ≤ d ∧ d ≤ 10) := by
  have h1 := h.1
  unfold mode at h1
  exact ⟨h.2.2.2.2.2.1.1, h.2.2.2.2.2.2.1, by omega, by omega, by omega⟩
theorem MS.ar {J : zJ} {b r d s m t : Int} (h : MS J b r d s m) (ht : 0 ≤ t ∧ t < m) : (0 ≤ mar J b d t ∧ mar J b d t ≤ 3) ∧ (-8 ≤ J 166 (b + t) ∧ J 166 (b + t) < s) ∧ (1 ≤ J 168 (b + t) ∧ J 168 (b + t) ≤ 6) ∧ (J 166 (b + t) < 0 → mar J b d t = 0) ∧ (0 ≤ J 166 (b + t) → mar J b d t = J 170 (d + J 166 (b + t))) := by
  have h1 := h.2.2.2.2.2.2.2.1 t ht.1 ht.2
  refine ⟨arh_rg h.2.2.2.2.2.1 h1.1.2, h1.1, h1.2.1, fun q => ?_, fun q => ?_⟩
  · unfold mar arh
    rw [if_pos q]
  · unfold mar arh
    rw [if_neg (by omega)]
theorem MS.arg {J : zJ} {b r d s m t i : Int} (h : MS J b r d s m) (ht : 0 ≤ t ∧ t < m) (hi : 0 ≤ i ∧ i < mar J b d t) : (0 ≤ J 167 (3 * (b + t) + i) ∧ J 167 (3 * (b + t) + i) < t) ∧ J 168 (b + J 167 (3 * (b + t) + i)) < J 168 (b + t) := (h.2.2.2.2.2.2.2.1 t ht.1 ht.2).2.2.1 i hi.1 hi.2
theorem MS.hd8 {J : zJ} {b d t u : Int} (e : J 166 (b + t) = J 166 (b + u)) : mar J b d t = mar J b d u := by
  unfold mar
  rw [e]
/-- unlike terms of one head have an argument that is unlike -/
theorem MS.unl {J : zJ} {b r d s m t u : Int} (h : MS J b r d s m) (ht : 0 ≤ t ∧ t < m) (hu : 0 ≤ u ∧ u < m) (e : J 166 (b + t) = J 166 (b + u)) (hn : ¬ t = u) : ∃ i, (0 ≤ i ∧ i < mar J b d t) ∧ ¬ J 167 (3 * (b + t) + i) = J 167 (3 * (b + u) + i) := by
  refine Classical.byContradiction (fun q => hn (h.2.2.2.2.2.2.2.2 t u ht.1 ht.2 hu.1 hu.2 ⟨e, fun i a c => ?_⟩))
  refine Classical.byContradiction (fun w => q ⟨i, ⟨a, ?_⟩, w⟩)
  rw [MS.hd8 e]
  exact c
/-- the frame of what makes terms: the rows of the table at hand, the row's place r, isFull, and X, F, rp more -/
def MF (X : List Nat) (F : List Int) (rp : Int → Bool) (b r : Int) (J' J : zJ) : Prop := ((∀ k, (k < b ∨ b + 400 ≤ k) → J' 166 k = J 166 k ∧ J' 168 k = J 168 k) ∧ ∀ k, (k < 3 * b ∨ 3 * b + 1200 ≤ k) → J' 167 k = J 167 k) ∧ (∀ k, ¬ k = r → rp k = false → J' 165 k = J 165 k) ∧ (∀ k, (21 :: F).contains k = false → J' 164 k = J 164 k) ∧ zOf (zbut (164 :: 165 :: 166 :: 167 :: 168 :: X)) J' J
def MU (b m : Int) (J' J : zJ) : Prop := ∀ t, 0 ≤ t → t < m → (J' 166 (b + t) = J 166 (b + t) ∧ J' 168 (b + t) = J 168 (b + t)) ∧ ∀ i, 0 ≤ i → i < 3 → J' 167 (3 * (b + t) + i) = J 167 (3 * (b + t) + i)
/-- the table has grown -/
def MG (X : List Nat) (F : List Int) (rp : Int → Bool) (J' J : zJ) (b r d s m m' : Int) : Prop := (MS J' b r d s m' ∧ m ≤ m') ∧ MU b m J' J ∧ MF X F rp b r J' J ∧ (J' 164 21 = 0 → J 164 21 = 0)
theorem MF.rf {X : List Nat} {F : List Int} {rp : Int → Bool} {b r : Int} {J : zJ} : MF X F rp b r J J := ⟨⟨fun _ _ => ⟨rfl, rfl⟩, fun _ _ => rfl⟩, fun _ _ _ => rfl, fun _ _ => rfl, zOf.rf⟩
theorem MF.tr {X : List Nat} {F : List Int} {rp : Int → Bool} {b r : Int} {J3 J2 J1 : zJ} (h : MF X F rp b r J3 J2) (g : MF X F rp b r J2 J1) : MF X F rp b r J3 J1 := ⟨⟨fun k q => ⟨(h.1.1 k q).1.trans (g.1.1 k q).1, (h.1.1 k q).2.trans (g.1.1 k q).2⟩, fun k q => (h.1.2 k q).trans (g.1.2 k q)⟩, fun k a c => (h.2.1 k a c).trans (g.2.1 k a c), fun k a => (h.2.2.1 k a).trans (g.2.2.1 k a), h.2.2.2.tr g.2.2.2⟩
theorem MF.mono {X Y : List Nat} {F E : List Int} {rp rq : Int → Bool} {b r : Int} {J' J : zJ} (h : MF X F rp b r J' J) (hX : ∀ c, c ∈ X → c ∈ Y) (hF : ∀ k, k ∈ F → k ∈ E) (hr : ∀ k, rq k = false → rp k = false) : MF Y E rq b r J' J := by
  refine ⟨h.1, fun k a c => h.2.1 k a (hr k c), fun k a => h.2.2.1 k ?_, h.2.2.2.mono (zbut_sub (fun c hc => ?_))⟩
  · simp only [List.contains_eq_mem, decide_eq_false_iff_not, List.mem_cons] at a ⊢
    exact fun q => a (q.imp id (hF k))
  · simp only [List.mem_cons] at hc ⊢
    rcases hc with h1 | h1 | h1 | h1 | h1 | h1 <;> first | (subst h1; simp; done) | simp [hX c h1]
theorem MU.rf {b m : Int} {J : zJ} : MU b m J J := fun _ _ _ => ⟨⟨rfl, rfl⟩, fun _ _ _ => rfl⟩
theorem MU.tr {b m m1 : Int} {J3 J2 J1 : zJ} (h : MU b m1 J3 J2) (g : MU b m J2 J1) (hm : m ≤ m1) : MU b m J3 J1 := fun t a c => by
  obtain ⟨⟨p1, p2⟩, p3⟩ := h t a (by omega)
  obtain ⟨⟨q1, q2⟩, q3⟩ := g t a c
  exact ⟨⟨p1.trans q1, p2.trans q2⟩, fun i x y => (p3 i x y).trans (q3 i x y)⟩
theorem MG.rf {X : List Nat} {F : List Int} {rp : Int → Bool} {b r d s m : Int} {J : zJ} (h : MS J b r d s m) : MG X F rp J J b r d s m m := ⟨⟨h, Int.le_refl _⟩, MU.rf, MF.rf, id⟩
theorem MG.tr {X : List Nat} {F : List Int} {rp : Int → Bool} {b r d s m1 m2 m3 : Int} {J3 J2 J1 : zJ} (g : MG X F rp J2 J1 b r d s m1 m2) (h : MG X F rp J3 J2 b r d s m2 m3) : MG X F rp J3 J1 b r d s m1 m3 := ⟨⟨h.1.1, by have := g.1.2; have := h.1.2; omega⟩, h.2.1.tr g.2.1 g.1.2, h.2.2.1.tr g.2.2.1, fun q => g.2.2.2 (h.2.2.2 q)⟩
theorem MG.mono {X Y : List Nat} {F E : List Int} {rp rq : Int → Bool} {b r d s m m' : Int} {J' J : zJ} (g : MG X F rp J' J b r d s m m') (hX : ∀ c, c ∈ X → c ∈ Y) (hF : ∀ k, k ∈ F → k ∈ E) (hr : ∀ k, rq k = false → rp k = false) : MG Y E rq J' J b r d s m m' := ⟨g.1, g.2.1, g.2.2.1.mono hX hF hr, g.2.2.2⟩
theorem MS.of {J' J : zJ} {b r d s m : Int} (h : MS J b r d s m) (e4 : J' 164 15 = J 164 15 ∧ J' 164 16 = J 164 16 ∧ J' 164 17 = J 164 17) (e5 : J' 165 r = J 165 r) (e6 : J' 166 = J 166) (e7 : J' 167 = J 167) (e8 : J' 168 = J 168) (e0 : J' 170 = J 170) : MS J' b r d s m := by
  unfold MS MTT
  rw [e4.1, e4.2.1, e4.2.2, e5, e6, e7, e8, e0]
  exact h
/-- writes of X, F, rp alone -/
theorem MG.off {X : List Nat} {F : List Int} {rp : Int → Bool} {b r d s m m' : Int} {J3 J2 J1 : zJ} (g : MG X F rp J2 J1 b r d s m m') (h4 : ∀ k, F.contains k = false → J3 164 k = J2 164 k) (h5 : ∀ k, rp k = false → J3 165 k = J2 165 k) (f : zOf (zbut (164 :: 165 :: X)) J3 J2) (hF : F.contains 15 = false ∧ F.contains 16 = false ∧ F.contains 17 = false ∧ F.contains 21 = false) (hr : rp r = false) (hX : X.contains 166 = false ∧ X.contains 167 = false ∧ X.contains 168 = false ∧ X.contains 170 = false) : MG X F rp J3 J1 b r d s m m' := by
  have fx : ∀ c, ¬ c = 164 → ¬ c = 165 → X.contains c = false → J3 c = J2 c := fun c a1 a2 a3 => f c (by
    simp only [zbut, Bool.not_eq_true', List.contains_eq_mem, decide_eq_false_iff_not, List.mem_cons] at a3 ⊢
    intro q
    rcases q with q | q | q <;> first | omega | exact a3 q)
  have e6 := fx 166 (by decide) (by decide) hX.1
  have e7 := fx 167 (by decide) (by decide) hX.2.1
  have e8 := fx 168 (by decide) (by decide) hX.2.2.1
  refine ⟨⟨g.1.1.of ⟨h4 _ hF.1, h4 _ hF.2.1, h4 _ hF.2.2.1⟩ (h5 _ hr) e6 e7 e8 (fx 170 (by decide) (by decide) hX.2.2.2), g.1.2⟩, fun t a c => by rw [e6, e7, e8]; exact g.2.1 t a c, MF.tr ⟨⟨fun k _ => by rw [e6, e8]; exact ⟨rfl, rfl⟩, fun k _ => by rw [e7]⟩, fun k _ c => h5 k c, fun k a => h4 k ?_, f.mono (zbut_sub (fun c hc => ?_))⟩ g.2.2.1, fun q => g.2.2.2 (by rw [← h4 _ hF.2.2.2]; exact q)⟩
  · simp only [List.contains_eq_mem, decide_eq_false_iff_not, List.mem_cons] at a ⊢
    exact fun q => a (Or.inr q)
  · simp only [List.mem_cons] at hc ⊢
    rcases hc with h1 | h1 | h1 <;> simp [h1]
theorem MG.full {X : List Nat} {F : List Int} {rp : Int → Bool} {b r d s m m' z : Int} {J2 J1 : zJ} (g : MG X F rp J2 J1 b r d s m m') (hz : z = 0 → J2 164 21 = 0) : MG X F rp (zup J2 164 21 z) J1 b r d s m m' := by
  refine ⟨⟨g.1.1.of ⟨zup_ne (by decide), zup_ne (by decide), zup_ne (by decide)⟩ rfl rfl rfl rfl rfl, g.1.2⟩, g.2.1, MF.tr (J2 := J2) ⟨⟨fun _ _ => ⟨rfl, rfl⟩, fun _ _ => rfl⟩, fun _ _ _ => rfl, fun k a => zup_ne (fun e => ?_), zOf.up (by simp [zbut]) zOf.rf⟩ g.2.2.1, fun q => g.2.2.2 (hz (by rw [zup_at] at q; exact q))⟩
  subst e
  simp at a
theorem MG.arg {X : List Nat} {F : List Int} {rp : Int → Bool} {b r d s m m' t i : Int} {J' J : zJ} (g : MG X F rp J' J b r d s m m') (h : MS J b r d s m) (ht : 0 ≤ t ∧ t < m) (hi : 0 ≤ i ∧ i < mar J b d t) : (0 ≤ J' 167 (3 * (b + t) + i) ∧ J' 167 (3 * (b + t) + i) < t) ∧ J' 167 (3 * (b + t) + i) = J 167 (3 * (b + t) + i) := by
  have h1 := h.arg ht hi
  have h2 := (h.ar ht).1
  rw [(g.2.1 t ht.1 ht.2).2 i hi.1 (by omega)]
  exact ⟨h1.1, rfl⟩
theorem MG.ar {X : List Nat} {F : List Int} {rp : Int → Bool} {b r d s m m' t : Int} {J' J : zJ} (g : MG X F rp J' J b r d s m m') (ht : 0 ≤ t ∧ t < m) (e0 : J' 170 = J 170) : mar J' b d t = mar J b d t := by
  unfold mar
  rw [(g.2.1 t ht.1 ht.2).1.1, e0]
end
section
set_option maxHeartbeats 4000000 in
set_option maxRecDepth 100000 in
theorem m_head {l : Launch} {G : tb_G} (hl : l.stackTraces = false) (n : Nat) (J : zJ) (t : Int) (hr_t : -2147483648 ≤ t ∧ t < 2147483648) (b r d s m : Int) (hM : MS J b r d s m) (ht : 0 ≤ t ∧ t < m) : tz_Ok l G M_X12_head 0 0 0 [.ref 164, zi t] n J (zqi (fun z J' => J = J' ∧ J 166 (b + t) = z)) zN := by
  refine tz_Ok.of hl (by decide +kernel) rfl (tb_c1 rfl) (Nat.le_of_ble_eq_true rfl) ?_
  show tz_At l G M_X12_head (tb_rm 0 0 0) none (tb_ZM G 0 0 (zQ n 0 (zqi (fun z J' => J = J' ∧ J 166 (b + t) = z))) (zX n 0 zN)) 0 0 n J 0 [some (.ref 164), some (zi t)] []
  obtain ⟨hM1, hM2, hM3, hM4, hM5, hM6⟩ := id hM
  have hT := hM.told
  refine tz_aload_n (pc := 0) dX12_head_0 rfl rfl ?_
  refine tz_fR (pc := 1) dX12_head_1 fl_X12_13 r_164_1 ?_
  refine tz_aload_n (pc := 4) dX12_head_4 rfl rfl ?_
  refine tz_fI (pc := 5) (kz := 15) (v := b) dX12_head_5 fl_X12_71 i_164_15 rfl hM2 (fun r_5 => ?_)
  refine tz_iload_n (pc := 8) dX12_head_8 rfl rfl ?_
  refine tz_iadd (pc := 9) (v := b + t) dX12_head_9 rfl ?_
  refine tz_aL (pc := 10) (z := (b + t)) (v := (J 166 (b + t))) dX12_head_10 a_166 rfl (by omega) rfl (fun r_10 => ?_)
  exact tz_iret (pc := 11) (z := (J 166 (b + t))) dX12_head_11 rfl (Nat.le_of_ble_eq_true rfl) (Nat.le_of_ble_eq_true rfl) ⟨Nat.le_refl _, Nat.le_add_right _ _⟩ ⟨_, rfl, (by omega), ⟨rfl, rfl⟩⟩

set_option maxHeartbeats 4000000 in
set_option maxRecDepth 100000 in
theorem m_arg {l : Launch} {G : tb_G} (hl : l.stackTraces = false) (n : Nat) (J : zJ) (t : Int) (i : Int) (hr_t : -2147483648 ≤ t ∧ t < 2147483648) (hr_i : -2147483648 ≤ i ∧ i < 2147483648) (b r d s m : Int) (hM : MS J b r d s m) (ht : 0 ≤ t ∧ t < m) (hi : 0 ≤ i ∧ i < 3) : tz_Ok l G M_X12_argument1 0 0 0 [.ref 164, zi t, zi i] n J (zqi (fun z J' => J = J' ∧ J 167 (3 * (b + t) + i) = z)) zN := by
  refine tz_Ok.of hl (by decide +kernel) rfl (tb_c1 rfl) (Nat.le_of_ble_eq_true rfl) ?_
  show tz_At l G M_X12_argument1 (tb_rm 0 0 0) none (tb_ZM G 0 0 (zQ n 0 (zqi (fun z J' => J = J' ∧ J 167 (3 * (b + t) + i) = z))) (zX n 0 zN)) 0 0 n J 0 [some (.ref 164), some (zi t), some (zi i)] []
  obtain ⟨hM1, hM2, hM3, hM4, hM5, hM6⟩ := id hM
  have hT := hM.told
  refine tz_aload_n (pc := 0) dX12_argument1_0 rfl rfl ?_
  refine tz_fR (pc := 1) dX12_argument1_1 fl_X12_16 r_164_2 ?_
  refine tz_iconst (pc := 4) dX12_argument1_4 ?_
  refine tz_aload_n (pc := 5) dX12_argument1_5 rfl rfl ?_
  refine tz_fI (pc := 6) (kz := 15) (v := b) dX12_argument1_6 fl_X12_71 i_164_15 rfl hM2 (fun r_6 => ?_)
  refine tz_iload_n (pc := 9) dX12_argument1_9 rfl rfl ?_
  refine tz_iadd (pc := 10) (v := b + t) dX12_argument1_10 rfl ?_
  refine tz_imul (pc := 11) (v := 3 * (b + t)) dX12_argument1_11 rfl ?_
  refine tz_iload_n (pc := 12) dX12_argument1_12 rfl rfl ?_
  refine tz_iadd (pc := 13) (v := (3 * (b + t)) + i) dX12_argument1_13 rfl ?_
  refine tz_aL (pc := 14) (z := ((3 * (b + t)) + i)) (v := (J 167 ((3 * (b + t)) + i))) dX12_argument1_14 a_167 rfl (by omega) rfl (fun r_14 => ?_)
  exact tz_iret (pc := 15) (z := (J 167 ((3 * (b + t)) + i))) dX12_argument1_15 rfl (Nat.le_of_ble_eq_true rfl) (Nat.le_of_ble_eq_true rfl) ⟨Nat.le_refl _, Nat.le_add_right _ _⟩ ⟨_, rfl, (by omega), ⟨rfl, rfl⟩⟩

set_option maxHeartbeats 4000000 in
set_option maxRecDepth 100000 in
theorem m_isVar {l : Launch} {G : tb_G} (hl : l.stackTraces = false) (n : Nat) (J : zJ) (t : Int) (hr_t : -2147483648 ≤ t ∧ t < 2147483648) (b r d s m : Int) (hM : MS J b r d s m) (ht : 0 ≤ t ∧ t < m) : tz_Ok l G M_X12_isVariable 1 0 0 [.ref 164, zi t] n J (zqi (fun z J' => J = J' ∧ (if J 166 (b + t) < 0 then 1 else 0) = z)) zN := by
  refine tz_Ok.of hl (by decide +kernel) rfl (tb_c1 rfl) (Nat.le_of_ble_eq_true rfl) ?_
  show tz_At l G M_X12_isVariable (tb_rm 1 0 0) none (tb_ZM G 0 0 (zQ n 0 (zqi (fun z J' => J = J' ∧ (if J 166 (b + t) < 0 then 1 else 0) = z))) (zX n 0 zN)) 0 0 n J 0 [some (.ref 164), some (zi t)] []
  obtain ⟨hM1, hM2, hM3, hM4, hM5, hM6⟩ := id hM
  have hT := hM.told
  refine tz_aload_n (pc := 0) dX12_isVariable_0 rfl rfl ?_
  refine tz_iload_n (pc := 1) dX12_isVariable_1 rfl rfl ?_
  refine tz_cV (pc := 2) (m_head hl n _ _ (by omega) b r d s m hM (by omega)) vl_X12_74 dX12_isVariable_2 o_164 rfl rfl (Nat.le_of_ble_eq_true rfl) ⟨(Nat.le_of_ble_eq_true rfl), (Nat.le_of_ble_eq_true rfl)⟩ rfl rfl (Nat.le_of_ble_eq_true rfl) (Nat.le_of_ble_eq_true rfl) (fun r9 J_2 hq9 => ?_)
  obtain ⟨z_2, rfl, hz_2, rfl, rfl⟩ := hq9
  refine tz_if_ge (pc := 5) (tgt := 12) dX12_isVariable_5 (by decide) (by omega) (fun h_5 => ?_) (fun h_5 => ?_)
  · refine tz_iconst (pc := 12) dX12_isVariable_12 ?_
    exact tz_zret (pc := 13) (z := 0) dX12_isVariable_13 rfl (Or.inl rfl) (Nat.le_of_ble_eq_true rfl) (Nat.le_of_ble_eq_true rfl) ⟨Nat.le_refl _, Nat.le_add_right _ _⟩ ⟨_, rfl, (by decide), ⟨rfl, by split <;> omega⟩⟩
  · refine tz_iconst (pc := 8) dX12_isVariable_8 ?_
    refine tz_goto (pc := 9) (tgt := 13) dX12_isVariable_9 (by decide) ?_
    exact tz_zret (pc := 13) (z := 1) dX12_isVariable_13 rfl (Or.inr rfl) (Nat.le_of_ble_eq_true rfl) (Nat.le_of_ble_eq_true rfl) ⟨Nat.le_refl _, Nat.le_add_right _ _⟩ ⟨_, rfl, (by decide), ⟨rfl, by split <;> omega⟩⟩

set_option maxHeartbeats 4000000 in
set_option maxRecDepth 100000 in
theorem m_varOf {l : Launch} {G : tb_G} (hl : l.stackTraces = false) (n : Nat) (J : zJ) (t : Int) (hr_t : -2147483648 ≤ t ∧ t < 2147483648) (b r d s m : Int) (hM : MS J b r d s m) (ht : 0 ≤ t ∧ t < m) : tz_Ok l G M_X12_variableOf 1 0 0 [.ref 164, zi t] n J (zqi (fun z J' => J = J' ∧ -1 - J 166 (b + t) = z)) zN := by
  refine tz_Ok.of hl (by decide +kernel) rfl (tb_c1 rfl) (Nat.le_of_ble_eq_true rfl) ?_
  show tz_At l G M_X12_variableOf (tb_rm 1 0 0) none (tb_ZM G 0 0 (zQ n 0 (zqi (fun z J' => J = J' ∧ -1 - J 166 (b + t) = z))) (zX n 0 zN)) 0 0 n J 0 [some (.ref 164), some (zi t)] []
  obtain ⟨hM1, hM2, hM3, hM4, hM5, hM6⟩ := id hM
  have hT := hM.told
  have ha := hM.ar ht
  refine tz_iconst (pc := 0) dX12_variableOf_0 ?_
  refine tz_aload_n (pc := 1) dX12_variableOf_1 rfl rfl ?_
  refine tz_iload_n (pc := 2) dX12_variableOf_2 rfl rfl ?_
  refine tz_cV (pc := 3) (m_head hl n _ _ (by omega) b r d s m hM (by omega)) vl_X12_74 dX12_variableOf_3 o_164 rfl rfl (Nat.le_of_ble_eq_true rfl) ⟨(Nat.le_of_ble_eq_true rfl), (Nat.le_of_ble_eq_true rfl)⟩ rfl rfl (Nat.le_of_ble_eq_true rfl) (Nat.le_of_ble_eq_true rfl) (fun r9 J_3 hq9 => ?_)
  obtain ⟨z_3, rfl, hz_3, rfl, rfl⟩ := hq9
  refine tz_isub (pc := 6) (v := (-1) - (J 166 (b + t))) dX12_variableOf_6 rfl ?_
  exact tz_iret (pc := 7) (z := ((-1) - (J 166 (b + t)))) dX12_variableOf_7 rfl (Nat.le_of_ble_eq_true rfl) (Nat.le_of_ble_eq_true rfl) ⟨Nat.le_refl _, Nat.le_add_right _ _⟩ ⟨_, rfl, (by omega), ⟨rfl, rfl⟩⟩

set_option maxHeartbeats 4000000 in
set_option maxRecDepth 100000 in
theorem m_arity {l : Launch} {G : tb_G} (hl : l.stackTraces = false) (n : Nat) (J : zJ) (t : Int) (hr_t : -2147483648 ≤ t ∧ t < 2147483648) (b r d s m : Int) (hM : MS J b r d s m) (ht : 0 ≤ t ∧ t < m) : tz_Ok l G M_X12_arityOf 2 0 0 [.ref 164, zi t] n J (zqi (fun z J' => J = J' ∧ mar J b d t = z)) zN := by
  refine tz_Ok.of hl (by decide +kernel) rfl (tb_c1 rfl) (Nat.le_of_ble_eq_true rfl) ?_
  show tz_At l G M_X12_arityOf (tb_rm 2 0 0) none (tb_ZM G 0 0 (zQ n 0 (zqi (fun z J' => J = J' ∧ mar J b d t = z))) (zX n 0 zN)) 0 0 n J 0 [some (.ref 164), some (zi t)] []
  obtain ⟨hM1, hM2, hM3, hM4, hM5, hM6⟩ := id hM
  have hT := hM.told
  have ha := hM.ar ht
  refine tz_aload_n (pc := 0) dX12_arityOf_0 rfl rfl ?_
  refine tz_iload_n (pc := 1) dX12_arityOf_1 rfl rfl ?_
  refine tz_cV (pc := 2) (m_isVar hl n _ _ (by omega) b r d s m hM (by omega)) vl_X12_78 dX12_arityOf_2 o_164 rfl rfl (Nat.le_of_ble_eq_true rfl) ⟨(Nat.le_of_ble_eq_true rfl), (Nat.le_of_ble_eq_true rfl)⟩ rfl rfl (Nat.le_of_ble_eq_true rfl) (Nat.le_of_ble_eq_true rfl) (fun r9 J_2 hq9 => ?_)
  obtain ⟨z_2, rfl, hz_2, rfl, rfl⟩ := hq9
  by_cases hw_5 : J 166 (b + t) < 0
  · rw [show (if J 166 (b + t) < 0 then 1 else 0 : Int) = 1 from if_pos hw_5]
    refine tz_if_eqF (pc := 5) (tgt := 12) (by decide) dX12_arityOf_5 (by decide) (by decide) ?_
    refine tz_iconst (pc := 8) dX12_arityOf_8 ?_
    refine tz_goto (pc := 9) (tgt := 27) dX12_arityOf_9 (by decide) ?_
    exact tz_iret (pc := 27) (z := 0) dX12_arityOf_27 rfl (Nat.le_of_ble_eq_true rfl) (Nat.le_of_ble_eq_true rfl) ⟨Nat.le_refl _, Nat.le_add_right _ _⟩ ⟨_, rfl, (by decide), ⟨rfl, by omega⟩⟩
  · rw [show (if J 166 (b + t) < 0 then 1 else 0 : Int) = 0 from if_neg hw_5]
    refine tz_if_eqT (pc := 5) (tgt := 12) (by decide) dX12_arityOf_5 (by decide) (by decide) ?_
    refine tz_aload_n (pc := 12) dX12_arityOf_12 rfl rfl ?_
    refine tz_fR (pc := 13) dX12_arityOf_13 fl_X12_25 r_164_5 ?_
    refine tz_aload_n (pc := 16) dX12_arityOf_16 rfl rfl ?_
    refine tz_fI (pc := 17) (kz := 17) (v := d) dX12_arityOf_17 fl_X12_82 i_164_17 rfl hM4 (fun r_17 => ?_)
    refine tz_aload_n (pc := 20) dX12_arityOf_20 rfl rfl ?_
    refine tz_iload_n (pc := 21) dX12_arityOf_21 rfl rfl ?_
    refine tz_cV (pc := 22) (m_head hl n _ _ (by omega) b r d s m hM (by omega)) vl_X12_74 dX12_arityOf_22 o_164 rfl rfl (Nat.le_of_ble_eq_true rfl) ⟨(Nat.le_of_ble_eq_true rfl), (Nat.le_of_ble_eq_true rfl)⟩ rfl rfl (Nat.le_of_ble_eq_true rfl) (Nat.le_of_ble_eq_true rfl) (fun r9 J_22 hq9 => ?_)
    obtain ⟨z_22, rfl, hz_22, rfl, rfl⟩ := hq9
    refine tz_iadd (pc := 25) (v := d + (J 166 (b + t))) dX12_arityOf_25 rfl ?_
    refine tz_aL (pc := 26) (z := (d + (J 166 (b + t)))) (v := (J 170 (d + (J 166 (b + t))))) dX12_arityOf_26 a_170 rfl (by omega) rfl (fun r_26 => ?_)
    exact tz_iret (pc := 27) (z := (J 170 (d + (J 166 (b + t))))) dX12_arityOf_27 rfl (Nat.le_of_ble_eq_true rfl) (Nat.le_of_ble_eq_true rfl) ⟨Nat.le_refl _, Nat.le_add_right _ _⟩ ⟨_, rfl, (by omega), ⟨rfl, by omega⟩⟩

set_option maxHeartbeats 4000000 in
set_option maxRecDepth 100000 in
theorem m_wHead {l : Launch} {G : tb_G} (hl : l.stackTraces = false) (n : Nat) (J : zJ) (t : Int) (hr_t : -2147483648 ≤ t ∧ t < 2147483648) (b r d s m : Int) (hM : MS J b r d s m) (ht : 0 ≤ t ∧ t < m) : tz_Ok l G M_X12_weightOfHead 2 0 0 [.ref 164, zi t] n J (zqi (fun z J' => J = J')) zN := by
  refine tz_Ok.of hl (by decide +kernel) rfl (tb_c1 rfl) (Nat.le_of_ble_eq_true rfl) ?_
  show tz_At l G M_X12_weightOfHead (tb_rm 2 0 0) none (tb_ZM G 0 0 (zQ n 0 (zqi (fun z J' => J = J'))) (zX n 0 zN)) 0 0 n J 0 [some (.ref 164), some (zi t)] []
  obtain ⟨hM1, hM2, hM3, hM4, hM5, hM6⟩ := id hM
  have hT := hM.told
  have ha := hM.ar ht
  refine tz_aload_n (pc := 0) dX12_weightOfHead_0 rfl rfl ?_
  refine tz_iload_n (pc := 1) dX12_weightOfHead_1 rfl rfl ?_
  refine tz_cV (pc := 2) (m_isVar hl n _ _ (by omega) b r d s m hM (by omega)) vl_X12_78 dX12_weightOfHead_2 o_164 rfl rfl (Nat.le_of_ble_eq_true rfl) ⟨(Nat.le_of_ble_eq_true rfl), (Nat.le_of_ble_eq_true rfl)⟩ rfl rfl (Nat.le_of_ble_eq_true rfl) (Nat.le_of_ble_eq_true rfl) (fun r9 J_2 hq9 => ?_)
  obtain ⟨z_2, rfl, hz_2, rfl, rfl⟩ := hq9
  by_cases hw_5 : J 166 (b + t) < 0
  · rw [show (if J 166 (b + t) < 0 then 1 else 0 : Int) = 1 from if_pos hw_5]
    refine tz_if_eqF (pc := 5) (tgt := 12) (by decide) dX12_weightOfHead_5 (by decide) (by decide) ?_
    refine tz_iconst (pc := 8) dX12_weightOfHead_8 ?_
    refine tz_goto (pc := 9) (tgt := 27) dX12_weightOfHead_9 (by decide) ?_
    exact tz_iret (pc := 27) (z := 1) dX12_weightOfHead_27 rfl (Nat.le_of_ble_eq_true rfl) (Nat.le_of_ble_eq_true rfl) ⟨Nat.le_refl _, Nat.le_add_right _ _⟩ ⟨_, rfl, (by decide), rfl⟩
  · rw [show (if J 166 (b + t) < 0 then 1 else 0 : Int) = 0 from if_neg hw_5]
    refine tz_if_eqT (pc := 5) (tgt := 12) (by decide) dX12_weightOfHead_5 (by decide) (by decide) ?_
    refine tz_aload_n (pc := 12) dX12_weightOfHead_12 rfl rfl ?_
    refine tz_fR (pc := 13) dX12_weightOfHead_13 fl_X12_28 r_164_6 ?_
    refine tz_aload_n (pc := 16) dX12_weightOfHead_16 rfl rfl ?_
    refine tz_fI (pc := 17) (kz := 17) (v := d) dX12_weightOfHead_17 fl_X12_82 i_164_17 rfl hM4 (fun r_17 => ?_)
    refine tz_aload_n (pc := 20) dX12_weightOfHead_20 rfl rfl ?_
    refine tz_iload_n (pc := 21) dX12_weightOfHead_21 rfl rfl ?_
    refine tz_cV (pc := 22) (m_head hl n _ _ (by omega) b r d s m hM (by omega)) vl_X12_74 dX12_weightOfHead_22 o_164 rfl rfl (Nat.le_of_ble_eq_true rfl) ⟨(Nat.le_of_ble_eq_true rfl), (Nat.le_of_ble_eq_true rfl)⟩ rfl rfl (Nat.le_of_ble_eq_true rfl) (Nat.le_of_ble_eq_true rfl) (fun r9 J_22 hq9 => ?_)
    obtain ⟨z_22, rfl, hz_22, rfl, rfl⟩ := hq9
    refine tz_iadd (pc := 25) (v := d + (J 166 (b + t))) dX12_weightOfHead_25 rfl ?_
    refine tz_aL (pc := 26) (z := (d + (J 166 (b + t)))) (v := (J 171 (d + (J 166 (b + t))))) dX12_weightOfHead_26 a_171 rfl (by omega) rfl (fun r_26 => ?_)
    exact tz_iret (pc := 27) (z := (J 171 (d + (J 166 (b + t))))) dX12_weightOfHead_27 rfl (Nat.le_of_ble_eq_true rfl) (Nat.le_of_ble_eq_true rfl) ⟨Nat.le_refl _, Nat.le_add_right _ _⟩ ⟨_, rfl, (by omega), rfl⟩

set_option maxHeartbeats 4000000 in
set_option maxRecDepth 100000 in
theorem m_many {l : Launch} {G : tb_G} (hl : l.stackTraces = false) (n : Nat) (J : zJ)   (b r d s m : Int) (hM : MS J b r d s m)  : tz_Ok l G M_X12_many 0 0 0 [.ref 164] n J (zqi (fun z J' => J = J' ∧ m = z)) zN := by
  refine tz_Ok.of hl (by decide +kernel) rfl (tb_c1 rfl) (Nat.le_of_ble_eq_true rfl) ?_
  show tz_At l G M_X12_many (tb_rm 0 0 0) none (tb_ZM G 0 0 (zQ n 0 (zqi (fun z J' => J = J' ∧ m = z))) (zX n 0 zN)) 0 0 n J 0 [some (.ref 164)] []
  obtain ⟨hM1, hM2, hM3, hM4, hM5, hM6⟩ := id hM
  have hT := hM.told
  refine tz_aload_n (pc := 0) dX12_many_0 rfl rfl ?_
  refine tz_fR (pc := 1) dX12_many_1 fl_X12_9 r_164_0 ?_
  refine tz_aload_n (pc := 4) dX12_many_4 rfl rfl ?_
  refine tz_fI (pc := 5) (kz := 16) (v := r) dX12_many_5 fl_X12_85 i_164_16 rfl hM3 (fun r_5 => ?_)
  refine tz_iconst (pc := 8) dX12_many_8 ?_
  refine tz_iadd (pc := 9) (v := r) dX12_many_9 (Int.add_zero _) ?_
  refine tz_aL (pc := 10) (z := r) (v := (J 165 r)) dX12_many_10 a_165 rfl (by omega) rfl (fun r_10 => ?_)
  exact tz_iret (pc := 11) (z := (J 165 r)) dX12_many_11 rfl (Nat.le_of_ble_eq_true rfl) (Nat.le_of_ble_eq_true rfl) ⟨Nat.le_refl _, Nat.le_add_right _ _⟩ ⟨_, rfl, (by omega), ⟨rfl, by omega⟩⟩

set_option maxHeartbeats 4000000 in
set_option maxRecDepth 100000 in
theorem m_isThat {l : Launch} {G : tb_G} (hl : l.stackTraces = false) (n : Nat) (J : zJ) (t : Int) (h : Int) (k : Int) (x : Int) (y : Int) (w : Int) (hr_t : -2147483648 ≤ t ∧ t < 2147483648) (hr_h : -2147483648 ≤ h ∧ h < 2147483648) (hr_k : -2147483648 ≤ k ∧ k < 2147483648) (hr_x : -2147483648 ≤ x ∧ x < 2147483648) (hr_y : -2147483648 ≤ y ∧ y < 2147483648) (hr_w : -2147483648 ≤ w ∧ w < 2147483648) (b r d s m : Int) (hM : MS J b r d s m) (ht : 0 ≤ t ∧ t < m) : tz_Ok l G M_X12_isThat 1 0 0 [.ref 164, zi t, zi h, zi k, zi x, zi y, zi w] n J (zqi (fun z J' => J = J' ∧ (z = 0 ∨ z = 1) ∧ (z = 1 ↔ (J 166 (b + t) = h ∧ (0 < k → J 167 (3 * (b + t) + 0) = x) ∧ (1 < k → J 167 (3 * (b + t) + 1) = y) ∧ (2 < k → J 167 (3 * (b + t) + 2) = w))))) zN := by
  refine tz_Ok.of hl (by decide +kernel) rfl (tb_c1 rfl) (Nat.le_of_ble_eq_true rfl) ?_
  show tz_At l G M_X12_isThat (tb_rm 1 0 0) none (tb_ZM G 0 0 (zQ n 0 (zqi (fun z J' => J = J' ∧ (z = 0 ∨ z = 1) ∧ (z = 1 ↔ (J 166 (b + t) = h ∧ (0 < k → J 167 (3 * (b + t) + 0) = x) ∧ (1 < k → J 167 (3 * (b + t) + 1) = y) ∧ (2 < k → J 167 (3 * (b + t) + 2) = w)))))) (zX n 0 zN)) 0 0 n J 0 [some (.ref 164), some (zi t), some (zi h), some (zi k), some (zi x), some (zi y), some (zi w)] []
  obtain ⟨hM1, hM2, hM3, hM4, hM5, hM6⟩ := id hM
  have hT := hM.told
  refine tz_aload_n (pc := 0) dX12_isThat_0 rfl rfl ?_
  refine tz_iload_n (pc := 1) dX12_isThat_1 rfl rfl ?_
  refine tz_cV (pc := 2) (m_head hl n _ _ (by omega) b r d s m hM (by omega)) vl_X12_74 dX12_isThat_2 o_164 rfl rfl (Nat.le_of_ble_eq_true rfl) ⟨(Nat.le_of_ble_eq_true rfl), (Nat.le_of_ble_eq_true rfl)⟩ rfl rfl (Nat.le_of_ble_eq_true rfl) (Nat.le_of_ble_eq_true rfl) (fun r9 J_2 hq9 => ?_)
  obtain ⟨z_2, rfl, hz_2, rfl, rfl⟩ := hq9
  refine tz_iload_n (pc := 5) dX12_isThat_5 rfl rfl ?_
  refine tz_icmp_eq (pc := 6) (tgt := 11) dX12_isThat_6 (by decide) (by omega) (by omega) (fun h_6 => ?_) (fun h_6 => ?_)
  · refine tz_iload_n (pc := 11) dX12_isThat_11 rfl rfl ?_
    refine tz_iconst (pc := 12) dX12_isThat_12 ?_
    refine tz_icmp_lt (pc := 13) (tgt := 27) dX12_isThat_13 (by decide) (by omega) (by decide) (fun h_13 => ?_) (fun h_13 => ?_)
    · refine tz_iload_n (pc := 27) dX12_isThat_27 rfl rfl ?_
      refine tz_iconst (pc := 28) dX12_isThat_28 ?_
      refine tz_icmp_lt (pc := 29) (tgt := 43) dX12_isThat_29 (by decide) (by omega) (by decide) (fun h_29 => ?_) (fun h_29 => ?_)
      · refine tz_iload_n (pc := 43) dX12_isThat_43 rfl rfl ?_
        refine tz_iconst (pc := 44) dX12_isThat_44 ?_
        refine tz_icmp_lt (pc := 45) (tgt := 59) dX12_isThat_45 (by decide) (by omega) (by decide) (fun h_45 => ?_) (fun h_45 => ?_)
        · refine tz_iconst (pc := 59) dX12_isThat_59 ?_
          refine tz_goto (pc := 60) (tgt := 64) dX12_isThat_60 (by decide) ?_
          exact tz_zret (pc := 64) (z := 1) dX12_isThat_64 rfl (Or.inr rfl) (Nat.le_of_ble_eq_true rfl) (Nat.le_of_ble_eq_true rfl) ⟨Nat.le_refl _, Nat.le_add_right _ _⟩ ⟨_, rfl, (by decide), ⟨rfl, by omega, by omega⟩⟩
        · refine tz_aload_n (pc := 48) dX12_isThat_48 rfl rfl ?_
          refine tz_iload_n (pc := 49) dX12_isThat_49 rfl rfl ?_
          refine tz_iconst (pc := 50) dX12_isThat_50 ?_
          refine tz_cV (pc := 51) (m_arg hl n _ _ _ (by omega) (by decide) b r d s m hM (by omega) (by omega)) vl_X12_88 dX12_isThat_51 o_164 rfl rfl (Nat.le_of_ble_eq_true rfl) ⟨(Nat.le_of_ble_eq_true rfl), (Nat.le_of_ble_eq_true rfl)⟩ rfl rfl (Nat.le_of_ble_eq_true rfl) (Nat.le_of_ble_eq_true rfl) (fun r9 J_51 hq9 => ?_)
          obtain ⟨z_51, rfl, hz_51, rfl, rfl⟩ := hq9
          refine tz_iload (pc := 54) dX12_isThat_54 rfl ?_
          refine tz_icmp_ne (pc := 56) (tgt := 63) dX12_isThat_56 (by decide) (by omega) (by omega) (fun h_56 => ?_) (fun h_56 => ?_)
          · refine tz_iconst (pc := 63) dX12_isThat_63 ?_
            exact tz_zret (pc := 64) (z := 0) dX12_isThat_64 rfl (Or.inl rfl) (Nat.le_of_ble_eq_true rfl) (Nat.le_of_ble_eq_true rfl) ⟨Nat.le_refl _, Nat.le_add_right _ _⟩ ⟨_, rfl, (by decide), ⟨rfl, by omega, by omega⟩⟩
          · refine tz_iconst (pc := 59) dX12_isThat_59 ?_
            refine tz_goto (pc := 60) (tgt := 64) dX12_isThat_60 (by decide) ?_
            exact tz_zret (pc := 64) (z := 1) dX12_isThat_64 rfl (Or.inr rfl) (Nat.le_of_ble_eq_true rfl) (Nat.le_of_ble_eq_true rfl) ⟨Nat.le_refl _, Nat.le_add_right _ _⟩ ⟨_, rfl, (by decide), ⟨rfl, by omega, by omega⟩⟩
      · refine tz_aload_n (pc := 32) dX12_isThat_32 rfl rfl ?_
        refine tz_iload_n (pc := 33) dX12_isThat_33 rfl rfl ?_
        refine tz_iconst (pc := 34) dX12_isThat_34 ?_
        refine tz_cV (pc := 35) (m_arg hl n _ _ _ (by omega) (by decide) b r d s m hM (by omega) (by omega)) vl_X12_88 dX12_isThat_35 o_164 rfl rfl (Nat.le_of_ble_eq_true rfl) ⟨(Nat.le_of_ble_eq_true rfl), (Nat.le_of_ble_eq_true rfl)⟩ rfl rfl (Nat.le_of_ble_eq_true rfl) (Nat.le_of_ble_eq_true rfl) (fun r9 J_35 hq9 => ?_)
        obtain ⟨z_35, rfl, hz_35, rfl, rfl⟩ := hq9
        refine tz_iload (pc := 38) dX12_isThat_38 rfl ?_
        refine tz_icmp_ne (pc := 40) (tgt := 63) dX12_isThat_40 (by decide) (by omega) (by omega) (fun h_40 => ?_) (fun h_40 => ?_)
        · refine tz_iconst (pc := 63) dX12_isThat_63 ?_
          exact tz_zret (pc := 64) (z := 0) dX12_isThat_64 rfl (Or.inl rfl) (Nat.le_of_ble_eq_true rfl) (Nat.le_of_ble_eq_true rfl) ⟨Nat.le_refl _, Nat.le_add_right _ _⟩ ⟨_, rfl, (by decide), ⟨rfl, by omega, by omega⟩⟩
        · refine tz_iload_n (pc := 43) dX12_isThat_43 rfl rfl ?_
          refine tz_iconst (pc := 44) dX12_isThat_44 ?_
          refine tz_icmp_lt (pc := 45) (tgt := 59) dX12_isThat_45 (by decide) (by omega) (by decide) (fun h_45 => ?_) (fun h_45 => ?_)
          · refine tz_iconst (pc := 59) dX12_isThat_59 ?_
            refine tz_goto (pc := 60) (tgt := 64) dX12_isThat_60 (by decide) ?_
            exact tz_zret (pc := 64) (z := 1) dX12_isThat_64 rfl (Or.inr rfl) (Nat.le_of_ble_eq_true rfl) (Nat.le_of_ble_eq_true rfl) ⟨Nat.le_refl _, Nat.le_add_right _ _⟩ ⟨_, rfl, (by decide), ⟨rfl, by omega, by omega⟩⟩
          · refine tz_aload_n (pc := 48) dX12_isThat_48 rfl rfl ?_
            refine tz_iload_n (pc := 49) dX12_isThat_49 rfl rfl ?_
            refine tz_iconst (pc := 50) dX12_isThat_50 ?_
            refine tz_cV (pc := 51) (m_arg hl n _ _ _ (by omega) (by decide) b r d s m hM (by omega) (by omega)) vl_X12_88 dX12_isThat_51 o_164 rfl rfl (Nat.le_of_ble_eq_true rfl) ⟨(Nat.le_of_ble_eq_true rfl), (Nat.le_of_ble_eq_true rfl)⟩ rfl rfl (Nat.le_of_ble_eq_true rfl) (Nat.le_of_ble_eq_true rfl) (fun r9 J_51 hq9 => ?_)
            obtain ⟨z_51, rfl, hz_51, rfl, rfl⟩ := hq9
            refine tz_iload (pc := 54) dX12_isThat_54 rfl ?_
            refine tz_icmp_ne (pc := 56) (tgt := 63) dX12_isThat_56 (by decide) (by omega) (by omega) (fun h_56 => ?_) (fun h_56 => ?_)
            · refine tz_iconst (pc := 63) dX12_isThat_63 ?_
              exact tz_zret (pc := 64) (z := 0) dX12_isThat_64 rfl (Or.inl rfl) (Nat.le_of_ble_eq_true rfl) (Nat.le_of_ble_eq_true rfl) ⟨Nat.le_refl _, Nat.le_add_right _ _⟩ ⟨_, rfl, (by decide), ⟨rfl, by omega, by omega⟩⟩
            · refine tz_iconst (pc := 59) dX12_isThat_59 ?_
              refine tz_goto (pc := 60) (tgt := 64) dX12_isThat_60 (by decide) ?_
              exact tz_zret (pc := 64) (z := 1) dX12_isThat_64 rfl (Or.inr rfl) (Nat.le_of_ble_eq_true rfl) (Nat.le_of_ble_eq_true rfl) ⟨Nat.le_refl _, Nat.le_add_right _ _⟩ ⟨_, rfl, (by decide), ⟨rfl, by omega, by omega⟩⟩
    · refine tz_aload_n (pc := 16) dX12_isThat_16 rfl rfl ?_
      refine tz_iload_n (pc := 17) dX12_isThat_17 rfl rfl ?_
      refine tz_iconst (pc := 18) dX12_isThat_18 ?_
      refine tz_cV (pc := 19) (m_arg hl n _ _ _ (by omega) (by decide) b r d s m hM (by omega) (by omega)) vl_X12_88 dX12_isThat_19 o_164 rfl rfl (Nat.le_of_ble_eq_true rfl) ⟨(Nat.le_of_ble_eq_true rfl), (Nat.le_of_ble_eq_true rfl)⟩ rfl rfl (Nat.le_of_ble_eq_true rfl) (Nat.le_of_ble_eq_true rfl) (fun r9 J_19 hq9 => ?_)
      obtain ⟨z_19, rfl, hz_19, rfl, rfl⟩ := hq9
      refine tz_iload (pc := 22) dX12_isThat_22 rfl ?_
      refine tz_icmp_ne (pc := 24) (tgt := 63) dX12_isThat_24 (by decide) (by omega) (by omega) (fun h_24 => ?_) (fun h_24 => ?_)
      · refine tz_iconst (pc := 63) dX12_isThat_63 ?_
        exact tz_zret (pc := 64) (z := 0) dX12_isThat_64 rfl (Or.inl rfl) (Nat.le_of_ble_eq_true rfl) (Nat.le_of_ble_eq_true rfl) ⟨Nat.le_refl _, Nat.le_add_right _ _⟩ ⟨_, rfl, (by decide), ⟨rfl, by omega, by omega⟩⟩
      · refine tz_iload_n (pc := 27) dX12_isThat_27 rfl rfl ?_
        refine tz_iconst (pc := 28) dX12_isThat_28 ?_
        refine tz_icmp_lt (pc := 29) (tgt := 43) dX12_isThat_29 (by decide) (by omega) (by decide) (fun h_29 => ?_) (fun h_29 => ?_)
        · refine tz_iload_n (pc := 43) dX12_isThat_43 rfl rfl ?_
          refine tz_iconst (pc := 44) dX12_isThat_44 ?_
          refine tz_icmp_lt (pc := 45) (tgt := 59) dX12_isThat_45 (by decide) (by omega) (by decide) (fun h_45 => ?_) (fun h_45 => ?_)
          · refine tz_iconst (pc := 59) dX12_isThat_59 ?_
            refine tz_goto (pc := 60) (tgt := 64) dX12_isThat_60 (by decide) ?_
            exact tz_zret (pc := 64) (z := 1) dX12_isThat_64 rfl (Or.inr rfl) (Nat.le_of_ble_eq_true rfl) (Nat.le_of_ble_eq_true rfl) ⟨Nat.le_refl _, Nat.le_add_right _ _⟩ ⟨_, rfl, (by decide), ⟨rfl, by omega, by omega⟩⟩
          · refine tz_aload_n (pc := 48) dX12_isThat_48 rfl rfl ?_
            refine tz_iload_n (pc := 49) dX12_isThat_49 rfl rfl ?_
            refine tz_iconst (pc := 50) dX12_isThat_50 ?_
            refine tz_cV (pc := 51) (m_arg hl n _ _ _ (by omega) (by decide) b r d s m hM (by omega) (by omega)) vl_X12_88 dX12_isThat_51 o_164 rfl rfl (Nat.le_of_ble_eq_true rfl) ⟨(Nat.le_of_ble_eq_true rfl), (Nat.le_of_ble_eq_true rfl)⟩ rfl rfl (Nat.le_of_ble_eq_true rfl) (Nat.le_of_ble_eq_true rfl) (fun r9 J_51 hq9 => ?_)
            obtain ⟨z_51, rfl, hz_51, rfl, rfl⟩ := hq9
            refine tz_iload (pc := 54) dX12_isThat_54 rfl ?_
            refine tz_icmp_ne (pc := 56) (tgt := 63) dX12_isThat_56 (by decide) (by omega) (by omega) (fun h_56 => ?_) (fun h_56 => ?_)
            · refine tz_iconst (pc := 63) dX12_isThat_63 ?_
              exact tz_zret (pc := 64) (z := 0) dX12_isThat_64 rfl (Or.inl rfl) (Nat.le_of_ble_eq_true rfl) (Nat.le_of_ble_eq_true rfl) ⟨Nat.le_refl _, Nat.le_add_right _ _⟩ ⟨_, rfl, (by decide), ⟨rfl, by omega, by omega⟩⟩
            · refine tz_iconst (pc := 59) dX12_isThat_59 ?_
              refine tz_goto (pc := 60) (tgt := 64) dX12_isThat_60 (by decide) ?_
              exact tz_zret (pc := 64) (z := 1) dX12_isThat_64 rfl (Or.inr rfl) (Nat.le_of_ble_eq_true rfl) (Nat.le_of_ble_eq_true rfl) ⟨Nat.le_refl _, Nat.le_add_right _ _⟩ ⟨_, rfl, (by decide), ⟨rfl, by omega, by omega⟩⟩
        · refine tz_aload_n (pc := 32) dX12_isThat_32 rfl rfl ?_
          refine tz_iload_n (pc := 33) dX12_isThat_33 rfl rfl ?_
          refine tz_iconst (pc := 34) dX12_isThat_34 ?_
          refine tz_cV (pc := 35) (m_arg hl n _ _ _ (by omega) (by decide) b r d s m hM (by omega) (by omega)) vl_X12_88 dX12_isThat_35 o_164 rfl rfl (Nat.le_of_ble_eq_true rfl) ⟨(Nat.le_of_ble_eq_true rfl), (Nat.le_of_ble_eq_true rfl)⟩ rfl rfl (Nat.le_of_ble_eq_true rfl) (Nat.le_of_ble_eq_true rfl) (fun r9 J_35 hq9 => ?_)
          obtain ⟨z_35, rfl, hz_35, rfl, rfl⟩ := hq9
          refine tz_iload (pc := 38) dX12_isThat_38 rfl ?_
          refine tz_icmp_ne (pc := 40) (tgt := 63) dX12_isThat_40 (by decide) (by omega) (by omega) (fun h_40 => ?_) (fun h_40 => ?_)
          · refine tz_iconst (pc := 63) dX12_isThat_63 ?_
            exact tz_zret (pc := 64) (z := 0) dX12_isThat_64 rfl (Or.inl rfl) (Nat.le_of_ble_eq_true rfl) (Nat.le_of_ble_eq_true rfl) ⟨Nat.le_refl _, Nat.le_add_right _ _⟩ ⟨_, rfl, (by decide), ⟨rfl, by omega, by omega⟩⟩
          · refine tz_iload_n (pc := 43) dX12_isThat_43 rfl rfl ?_
            refine tz_iconst (pc := 44) dX12_isThat_44 ?_
            refine tz_icmp_lt (pc := 45) (tgt := 59) dX12_isThat_45 (by decide) (by omega) (by decide) (fun h_45 => ?_) (fun h_45 => ?_)
            · refine tz_iconst (pc := 59) dX12_isThat_59 ?_
              refine tz_goto (pc := 60) (tgt := 64) dX12_isThat_60 (by decide) ?_
              exact tz_zret (pc := 64) (z := 1) dX12_isThat_64 rfl (Or.inr rfl) (Nat.le_of_ble_eq_true rfl) (Nat.le_of_ble_eq_true rfl) ⟨Nat.le_refl _, Nat.le_add_right _ _⟩ ⟨_, rfl, (by decide), ⟨rfl, by omega, by omega⟩⟩
            · refine tz_aload_n (pc := 48) dX12_isThat_48 rfl rfl ?_
              refine tz_iload_n (pc := 49) dX12_isThat_49 rfl rfl ?_
              refine tz_iconst (pc := 50) dX12_isThat_50 ?_
              refine tz_cV (pc := 51) (m_arg hl n _ _ _ (by omega) (by decide) b r d s m hM (by omega) (by omega)) vl_X12_88 dX12_isThat_51 o_164 rfl rfl (Nat.le_of_ble_eq_true rfl) ⟨(Nat.le_of_ble_eq_true rfl), (Nat.le_of_ble_eq_true rfl)⟩ rfl rfl (Nat.le_of_ble_eq_true rfl) (Nat.le_of_ble_eq_true rfl) (fun r9 J_51 hq9 => ?_)
              obtain ⟨z_51, rfl, hz_51, rfl, rfl⟩ := hq9
              refine tz_iload (pc := 54) dX12_isThat_54 rfl ?_
              refine tz_icmp_ne (pc := 56) (tgt := 63) dX12_isThat_56 (by decide) (by omega) (by omega) (fun h_56 => ?_) (fun h_56 => ?_)
              · refine tz_iconst (pc := 63) dX12_isThat_63 ?_
                exact tz_zret (pc := 64) (z := 0) dX12_isThat_64 rfl (Or.inl rfl) (Nat.le_of_ble_eq_true rfl) (Nat.le_of_ble_eq_true rfl) ⟨Nat.le_refl _, Nat.le_add_right _ _⟩ ⟨_, rfl, (by decide), ⟨rfl, by omega, by omega⟩⟩
              · refine tz_iconst (pc := 59) dX12_isThat_59 ?_
                refine tz_goto (pc := 60) (tgt := 64) dX12_isThat_60 (by decide) ?_
                exact tz_zret (pc := 64) (z := 1) dX12_isThat_64 rfl (Or.inr rfl) (Nat.le_of_ble_eq_true rfl) (Nat.le_of_ble_eq_true rfl) ⟨Nat.le_refl _, Nat.le_add_right _ _⟩ ⟨_, rfl, (by decide), ⟨rfl, by omega, by omega⟩⟩
  · refine tz_iconst (pc := 9) dX12_isThat_9 ?_
    exact tz_zret (pc := 10) (z := 0) dX12_isThat_10 rfl (Or.inl rfl) (Nat.le_of_ble_eq_true rfl) (Nat.le_of_ble_eq_true rfl) ⟨Nat.le_refl _, Nat.le_add_right _ _⟩ ⟨_, rfl, (by decide), ⟨rfl, by omega, by omega⟩⟩

end
section
theorem MS.push {J : zJ} {b r d s m h A x y w a0 a1 a2 dp : Int} (hM : MS J b r d s m) (hm : m < 400) (hh : -8 ≤ h ∧ h < s) (hA : arh (fun k => J 170 (d + k)) h = A) (hA3 : 0 ≤ A ∧ A ≤ 3) (h0 : 0 < A → a0 = x ∧ (0 ≤ x ∧ x < m) ∧ J 168 (b + x) < dp) (h1 : 1 < A → a1 = y ∧ (0 ≤ y ∧ y < m) ∧ J 168 (b + y) < dp) (h2 : 2 < A → a2 = w ∧ (0 ≤ w ∧ w < m) ∧ J 168 (b + w) < dp) (hn : ∀ q, 0 ≤ q → q < m → ¬ (J 166 (b + q) = h ∧ (0 < A → J 167 (3 * (b + q) + 0) = x) ∧ (1 < A → J 167 (3 * (b + q) + 1) = y) ∧ (2 < A → J 167 (3 * (b + q) + 2) = w))) (hdp : 1 ≤ dp ∧ dp ≤ 6) (hd : dp = 1 ∨ (0 < A ∧ dp = J 168 (b + x) + 1) ∨ (1 < A ∧ dp = J 168 (b + y) + 1) ∨ (2 < A ∧ dp = J 168 (b + w) + 1)) (h21 : J 164 21 = 0) : MG [] [] (fun _ => false) (zup (zup (zup (zup (zup (zup (zup J 164 21 0) 166 (b + m) h) 167 (3 * (b + m)) a0) 167 (3 * (b + m) + 1) a1) 167 (3 * (b + m) + 2) a2) 168 (b + m) dp) 165 r (m + 1)) J b r d s m (m + 1) := by
  have hT := hM.told
  obtain ⟨hM1, hM2, hM3, hM4, hM5, hM6⟩ := id hM
  have e6 : ∀ k, (zup (zup (zup (zup (zup (zup (zup J 164 21 0) 166 (b + m) h) 167 (3 * (b + m)) a0) 167 (3 * (b + m) + 1) a1) 167 (3 * (b + m) + 2) a2) 168 (b + m) dp) 165 r (m + 1)) 166 k = if k = b + m then h else J 166 k := fun k => rfl
  have e8 : ∀ k, (zup (zup (zup (zup (zup (zup (zup J 164 21 0) 166 (b + m) h) 167 (3 * (b + m)) a0) 167 (3 * (b + m) + 1) a1) 167 (3 * (b + m) + 2) a2) 168 (b + m) dp) 165 r (m + 1)) 168 k = if k = b + m then dp else J 168 k := fun k => rfl
  have e7 : ∀ k, (zup (zup (zup (zup (zup (zup (zup J 164 21 0) 166 (b + m) h) 167 (3 * (b + m)) a0) 167 (3 * (b + m) + 1) a1) 167 (3 * (b + m) + 2) a2) 168 (b + m) dp) 165 r (m + 1)) 167 k = if k = 3 * (b + m) + 2 then a2 else if k = 3 * (b + m) + 1 then a1 else if k = 3 * (b + m) then a0 else J 167 k := fun k => rfl
  have e5 : ∀ k, (zup (zup (zup (zup (zup (zup (zup J 164 21 0) 166 (b + m) h) 167 (3 * (b + m)) a0) 167 (3 * (b + m) + 1) a1) 167 (3 * (b + m) + 2) a2) 168 (b + m) dp) 165 r (m + 1)) 165 k = if k = r then m + 1 else J 165 k := fun k => rfl
  have e4 : ∀ k, (zup (zup (zup (zup (zup (zup (zup J 164 21 0) 166 (b + m) h) 167 (3 * (b + m)) a0) 167 (3 * (b + m) + 1) a1) 167 (3 * (b + m) + 2) a2) 168 (b + m) dp) 165 r (m + 1)) 164 k = if k = 21 then 0 else J 164 k := fun k => rfl
  have e0 : (zup (zup (zup (zup (zup (zup (zup J 164 21 0) 166 (b + m) h) 167 (3 * (b + m)) a0) 167 (3 * (b + m) + 1) a1) 167 (3 * (b + m) + 2) a2) 168 (b + m) dp) 165 r (m + 1)) 170 = J 170 := rfl
  have ez : zOf (zbut [164, 165, 166, 167, 168]) (zup (zup (zup (zup (zup (zup (zup J 164 21 0) 166 (b + m) h) 167 (3 * (b + m)) a0) 167 (3 * (b + m) + 1) a1) 167 (3 * (b + m) + 2) a2) 168 (b + m) dp) 165 r (m + 1)) J := zOf.up rfl (zOf.up rfl (zOf.up rfl (zOf.up rfl (zOf.up rfl (zOf.up rfl (zOf.up rfl zOf.rf))))))
  generalize (zup (zup (zup (zup (zup (zup (zup J 164 21 0) 166 (b + m) h) 167 (3 * (b + m)) a0) 167 (3 * (b + m) + 1) a1) 167 (3 * (b + m) + 2) a2) 168 (b + m) dp) 165 r (m + 1)) = J9 at *
  have p6 : ∀ t, 0 ≤ t → t < m → J9 166 (b + t) = J 166 (b + t) := fun t a c => by rw [e6, if_neg (by omega)]
  have p8 : ∀ t, 0 ≤ t → t < m → J9 168 (b + t) = J 168 (b + t) := fun t a c => by rw [e8, if_neg (by omega)]
  have p7 : ∀ t, 0 ≤ t → t < m → ∀ i, 0 ≤ i → i < 3 → J9 167 (3 * (b + t) + i) = J 167 (3 * (b + t) + i) := fun t a c i x y => by rw [e7, if_neg (by omega), if_neg (by omega), if_neg (by omega)]
  have q6 : J9 166 (b + m) = h := by rw [e6, if_pos rfl]
  have q8 : J9 168 (b + m) = dp := by rw [e8, if_pos rfl]
  have q70 : J9 167 (3 * (b + m) + 0) = a0 := by rw [e7, if_neg (by omega), if_neg (by omega), if_pos (by omega)]
  have q71 : J9 167 (3 * (b + m) + 1) = a1 := by rw [e7, if_neg (by omega), if_pos rfl]
  have q72 : J9 167 (3 * (b + m) + 2) = a2 := by rw [e7, if_pos rfl]
  have har : ∀ t, 0 ≤ t → t < m → arh (fun k => J 170 (d + k)) (J 166 (b + t)) ≤ 3 := fun t a c => (hM.ar ⟨a, c⟩).1.2
  have hx : ∀ i, 0 ≤ i → i < A → (0 ≤ J9 167 (3 * (b + m) + i) ∧ J9 167 (3 * (b + m) + i) < m) ∧ J9 168 (b + J9 167 (3 * (b + m) + i)) < dp := fun i a c => by
    have hi : i = 0 ∨ i = 1 ∨ i = 2 := by omega
    rcases hi with rfl | rfl | rfl
    · obtain ⟨g1, g2, g3⟩ := h0 c
      rw [q70, g1, p8 x g2.1 g2.2]
      exact ⟨g2, g3⟩
    · obtain ⟨g1, g2, g3⟩ := h1 c
      rw [q71, g1, p8 y g2.1 g2.2]
      exact ⟨g2, g3⟩
    · obtain ⟨g1, g2, g3⟩ := h2 c
      rw [q72, g1, p8 w g2.1 g2.2]
      exact ⟨g2, g3⟩
  refine ⟨⟨⟨hM1, by rw [e4, if_neg (by decide)]; exact hM2, by rw [e4, if_neg (by decide)]; exact hM3, by rw [e4, if_neg (by decide)]; exact hM4, by rw [e5, if_pos rfl], ?_⟩, by omega⟩, fun t a c => ⟨⟨p6 t a c, p8 t a c⟩, p7 t a c⟩, ⟨⟨fun k q => ⟨by rw [e6, if_neg (by omega)], by rw [e8, if_neg (by omega)]⟩, fun k q => by rw [e7, if_neg (by omega), if_neg (by omega), if_neg (by omega)]⟩, fun k q _ => by rw [e5, if_neg q], fun k q => by rw [e4, if_neg (by intro e; subst e; simp at q)], ez⟩, fun _ => h21⟩
  unfold MTT
  rw [e0]
  refine hM6.push hm p6 (fun t a c i u v => p7 t a c i u (by have := har t a c; omega)) p8 ⟨by show -8 ≤ J9 166 (b + m) ∧ J9 166 (b + m) < s; rw [q6]; exact hh, by show 1 ≤ J9 168 (b + m) ∧ J9 168 (b + m) ≤ 6; rw [q8]; exact hdp, fun i u v => ?_, ?_⟩ (fun q a c e => ?_)
  · have v9 : i < arh (fun k => J 170 (d + k)) (J9 166 (b + m)) := v
    rw [q6, hA] at v9
    have := hx i u v9
    show (0 ≤ J9 167 (3 * (b + m) + i) ∧ J9 167 (3 * (b + m) + i) < m) ∧ J9 168 (b + J9 167 (3 * (b + m) + i)) < J9 168 (b + m)
    rw [q8]
    exact this
  · show J9 168 (b + m) = 1 ∨ ∃ i, (0 ≤ i ∧ i < arh (fun k => J 170 (d + k)) (J9 166 (b + m))) ∧ J9 168 (b + m) = J9 168 (b + J9 167 (3 * (b + m) + i)) + 1
    rw [q8, q6, hA]
    rcases hd with hd | ⟨g, hd⟩ | ⟨g, hd⟩ | ⟨g, hd⟩
    · exact Or.inl hd
    · refine Or.inr ⟨0, by omega, ?_⟩
      rw [q70, (h0 g).1, p8 x (h0 g).2.1.1 (h0 g).2.1.2]
      exact hd
    · refine Or.inr ⟨1, by omega, ?_⟩
      rw [q71, (h1 g).1, p8 y (h1 g).2.1.1 (h1 g).2.1.2]
      exact hd
    · refine Or.inr ⟨2, by omega, ?_⟩
      rw [q72, (h2 g).1, p8 w (h2 g).2.1.1 (h2 g).2.1.2]
      exact hd
  · have u1 : J9 166 (b + q) = J9 166 (b + m) := e.1
    have u2 : ∀ i, 0 ≤ i → i < arh (fun k => J 170 (d + k)) (J9 166 (b + m)) → J9 167 (3 * (b + q) + i) = J9 167 (3 * (b + m) + i) := e.2
    rw [p6 q a c, q6] at u1
    refine hn q a c ⟨u1, fun g => ?_, fun g => ?_, fun g => ?_⟩
    · have := u2 0 (by omega) (by rw [q6, hA]; exact g)
      rw [p7 q a c 0 (by omega) (by omega), q70, (h0 g).1] at this
      exact this
    · have := u2 1 (by omega) (by rw [q6, hA]; exact g)
      rw [p7 q a c 1 (by omega) (by omega), q71, (h1 g).1] at this
      exact this
    · have := u2 2 (by omega) (by rw [q6, hA]; exact g)
      rw [p7 q a c 2 (by omega) (by omega), q72, (h2 g).1] at this
      exact this
end
