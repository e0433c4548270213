/-! ===== the same over whole numbers ===== -/
def tz_OkP (P : (Nat → Prop) → State → Nat → Prop) (l : Launch) (G : tb_G) (y : tb_Mt) (d : Nat) (as : List Value) (n : Nat) (J : zJ) (Q : Option Value → zJ → Prop) : Prop := zok n J → tb_OkP P l G y d 0 0 as n tb_shT (zI J) (zQ n 0 Q) (zX n 0 zN)
theorem tz_OkP.of {P : (Nat → Prop) → State → Nat → Prop} {l : Launch} {G : tb_G} {y : tb_Mt} {d : Nat} {as : List Value} {n : Nat} {J : zJ} {Q : Option Value → zJ → Prop} (hl : l.stackTraces = false) (hy : plainName y.1.cls = true) (hh : y.2.2.2.2 = []) (hc : ∀ v ∈ as, v.category = 1) (hn : as.length ≤ y.2.2.1)
    (h : tz_At l G y (tb_rm d 0 0) none (ZP P (tb_ZM G 0 0 (zQ n 0 Q) (zX n 0 zN))) 0 0 n J 0 (tb_L0 as y.2.2.1) []) : tz_OkP P l G y d as n J Q := fun ok => tb_OkP.of hl hy hh hc hn (h ok)
theorem zq_F {n : Nat} {P : Int → zJ → Prop} (hn : n ≤ tb_sc) : ∀ r n' sh' I', zQ n 0 (zqi P) r n' sh' I' → n' ≤ tb_sc ∧ ∀ q, ¬ r = some (.ref q) := by
  rintro r n' sh' I' ⟨J', -, -, -, -, h2, z, rfl, -⟩
  exact ⟨by omega, fun q h => by cases h⟩
theorem zx_F {n : Nat} : ∀ E n' sh' I', ¬ zX n 0 zN E n' sh' I' := by
  rintro E n' sh' I' ⟨J', -, -, -, -, -, h⟩
  exact h
section TZF
variable {l : Launch} {G : tb_G} {y : tb_Mt} {R : Room} {xt : Option (Nat × (Nat → Int32))} {Z : tb_CT → State → Prop} {k1 k2 n : Nat} {J : zJ} {pc : Nat} {L : List (Option Value)} {S : List Value}
theorem tz_zp {P : (Nat → Prop) → State → Nat → Prop} (h : tz_At l G y R xt Z k1 k2 n J pc L S) : tz_At l G y R xt (ZP P Z) k1 k2 n J pc L S := by
  intro ok ok0 p e s m args below meth c A adr0 n0 bx C H locs adr ls ha hP hD hS hl
  have h9 := h ok ok0 p e s m args below meth c A adr0 n0 bx C H locs adr ls ha hP hD hS hl
  intro T hT X
  obtain ⟨t, a1, b1⟩ := h9 T hT X
  exact ⟨t, a1, fun _ => b1⟩
theorem zi_map (z : Int) (adr : Nat → Nat) : (zi z :: S).map (tb_rn adr) = .int (Int32.ofInt z) :: S.map (tb_rn adr) := rfl
theorem tz_gCS (hd : decode y.2.1 pc = .ok (.getstatic 38, 3)) (hw : Cond.fieldLink y.1.cls 38 "java/lang/String" "COMPACT_STRINGS" "Z" ∈ tb_W) (k : tz_At l G y R xt Z k1 k2 n J (pc + 3) L (zi 1 :: S)) : tz_At l G y R xt Z k1 k2 n J pc L S := by
  intro ok ok0 p e s m args below meth c A adr0 n0 bx C H locs adr ls ha hP hD hS hl
  have h9 := k ok ⟨ok0.1, ok0.2.1, .cons trivial ok0.2.2⟩ p e s m args below meth c A adr0 n0 bx C H locs adr ls ha hP hD hS hl
  rw [zi_map, show Int32.ofInt 1 = (1 : Int32) by decide] at h9
  exact va_gets C.1 C.2.1 C.2.2.2.2.2.2.2.2.2.2.2.1.2.2.2.2.2.2.2.2.2.1 hS C.2.2.2.2.2.1 (C.2.2.2.2.2.2.2.2.1 _ hw) (fun _ h => h) hd h9
theorem tz_gCo {bs : List Int32} (hd : decode y.2.1 pc = .ok (.getfield 15, 3)) (hw : Cond.fieldLink y.1.cls 15 "java/lang/String" "coder" "B" ∈ tb_W) (k : tz_At l G y R xt (ZP (PS bs) Z) k1 k2 n J (pc + 3) L (zi 0 :: S)) : tz_At l G y R xt (ZP (PS bs) Z) k1 k2 n J pc L (.ref tb_sc :: S) := by
  intro ok ok0 p e s m args below meth c A adr0 n0 bx C H locs adr ls ha hP hD hS hl
  by_cases hp : PS bs A s (adr0 tb_sc)
  · obtain ⟨v, h1, h2, h3, h4⟩ := hp.T
    have h9 := k ok ⟨ok0.1, ok0.2.1, .cons trivial ok0.2.2.tail⟩ p e s m args below meth c A adr0 n0 bx C H locs adr ls ha hP hD hS hl
    rw [zi_map, show Int32.ofInt 0 = (0 : Int32) by decide] at h9
    show W p l e R s m args below meth c H locs k1 k2 _ (F0 m pc ls (.ref (adr tb_sc) :: S.map (tb_rn adr)))
    rw [ha.2.1]
    exact vk_getf C.1 C.2.1 h2 hS C.2.2.2.2.2.1 (C.2.2.2.2.2.2.2.2.1 _ hw) (fun _ h => h) hd h9
  · intro T hT X
    exact ⟨_, Steps.refl _, fun h => absurd h hp⟩
theorem tz_gVL {bs : List Int32} {z : Int} (hz : (bs.length : Int) = z) (hd : decode y.2.1 pc = .ok (.getfield 9, 3)) (hd2 : decode y.2.1 (pc + 3) = .ok (.arraylength, 1)) (hw : Cond.fieldLink y.1.cls 9 "java/lang/String" "value" "[B" ∈ tb_W) (k : tz_At l G y R xt (ZP (PS bs) Z) k1 k2 n J (pc + 4) L (zi z :: S)) : tz_At l G y R xt (ZP (PS bs) Z) k1 k2 n J pc L (.ref tb_sc :: S) := by
  intro ok ok0 p e s m args below meth c A adr0 n0 bx C H locs adr ls ha hP hD hS hl
  by_cases hp : PS bs A s (adr0 tb_sc)
  · obtain ⟨v, h1, h2, h3, h4⟩ := hp.T
    have h9 := k ok ⟨ok0.1, ok0.2.1, .cons trivial ok0.2.2.tail⟩ p e s m args below meth c A adr0 n0 bx C H locs adr ls ha hP hD hS hl
    rw [zi_map, ← hz, Int32.ofInt_eq_ofNat] at h9
    show W p l e R s m args below meth c H locs k1 k2 _ (F0 m pc ls (.ref (adr tb_sc) :: S.map (tb_rn adr)))
    rw [ha.2.1]
    exact vk_getf C.1 C.2.1 h3 hS C.2.2.2.2.2.1 (C.2.2.2.2.2.2.2.2.1 _ hw) (fun _ h => h) hd (va_tlen (pc := pc + 3) C.1 C.2.1 h4 hS rfl hd2 h9)
  · intro T hT X
    exact ⟨_, Steps.refl _, fun h => absurd h hp⟩
theorem tz_bLen {bs : List Int32} {z : Int} (hz : (bs.length : Int) = z) (hd : decode y.2.1 pc = .ok (.arraylength, 1)) (k : tz_At l G y R xt (ZP (PB bs) Z) k1 k2 n J (pc + 1) L (zi z :: S)) : tz_At l G y R xt (ZP (PB bs) Z) k1 k2 n J pc L (.ref tb_sc :: S) := by
  intro ok ok0 p e s m args below meth c A adr0 n0 bx C H locs adr ls ha hP hD hS hl
  by_cases hp : PB bs A s (adr0 tb_sc)
  · have h9 := k ok ⟨ok0.1, ok0.2.1, .cons trivial ok0.2.2.tail⟩ p e s m args below meth c A adr0 n0 bx C H locs adr ls ha hP hD hS hl
    rw [zi_map, ← hz, Int32.ofInt_eq_ofNat] at h9
    show W p l e R s m args below meth c H locs k1 k2 _ (F0 m pc ls (.ref (adr tb_sc) :: S.map (tb_rn adr)))
    rw [ha.2.1]
    exact va_tlen C.1 C.2.1 hp hS rfl hd h9
  · intro T hT X
    exact ⟨_, Steps.refl _, fun h => absurd h hp⟩
theorem tz_bLd {bs : List Int32} {k9 v : Int} (hk : 0 ≤ k9 ∧ k9 < bs.length) (hb : bs.length < 1000) (hv : (bs.getD k9.toNat 0).toInt = v) (hd : decode y.2.1 pc = .ok (.baload, 1)) (k : tz_At l G y R xt (ZP (PB bs) Z) k1 k2 n J (pc + 1) L (zi v :: S)) : tz_At l G y R xt (ZP (PB bs) Z) k1 k2 n J pc L (zi k9 :: .ref tb_sc :: S) := by
  intro ok ok0 p e s m args below meth c A adr0 n0 bx C H locs adr ls ha hP hD hS hl
  by_cases hp : PB bs A s (adr0 tb_sc)
  · have h9 := k ok ⟨ok0.1, ok0.2.1, .cons trivial ok0.2.2.tail.tail⟩ p e s m args below meth c A adr0 n0 bx C H locs adr ls ha hP hD hS hl
    rw [zi_map, ← hv, Int32.ofInt_toInt] at h9
    show W p l e R s m args below meth c H locs k1 k2 _ (F0 m pc ls (.int (Int32.ofInt k9) :: .ref (adr tb_sc) :: S.map (tb_rn adr)))
    rw [ha.2.1, zn hk.1]
    exact va_tb C.1 C.2.1 hp hS (vp_in_nI (by omega) (by omega)) (by rw [nI_clamp (by omega)]) hd h9
  · intro T hT X
    exact ⟨_, Steps.refl _, fun h => absurd h hp⟩
theorem tz_i2c {x v : Int} (hd : decode y.2.1 pc = .ok (.i2c, 1)) (hv : ((Int32.ofInt x).toUInt32 % 65536).toInt32 = Int32.ofInt v) (k : tz_At l G y R xt Z k1 k2 n J (pc + 1) L (zi v :: S)) : tz_At l G y R xt Z k1 k2 n J pc L (zi x :: S) := by
  intro ok ok0 p e s m args below meth c A adr0 n0 bx C H locs adr ls ha hP hD hS hl
  have h9 := k ok ⟨ok0.1, ok0.2.1, .cons trivial ok0.2.2.tail⟩ p e s m args below meth c A adr0 n0 bx C H locs adr ls ha hP hD hS hl
  exact lv_i2c C.1 C.2.1 hd hv h9
/-- a call of a text's own method -/
theorem tz_cVP {bs : List Int32} {idx nA d : Nat} {y' : tb_Mt} {as St : List Value} {Q' : Int → zJ → Prop} (hM : tz_OkP (PS bs) l G y' d (.ref tb_sc :: as) n J (zqi Q')) (hc : y'.1.cls = "java/lang/String") (hv : tb_VR y.1.cls idx y' nA) (hd : decode y.2.1 pc = .ok (.invokevirtual idx, 3)) (hna : as.length = nA) (hst : St = as.reverse ++ .ref tb_sc :: S)
    (hcat : (S.map fun v => v.category).sum ≤ 8) (hR : d + 1 ≤ R.frames ∧ 8 + (y'.2.2.1 + 11) + 40 * d ≤ R.locals) (hce : k1 ≤ R.cells) (hsl : k2 ≤ R.slots)
    (kk : ∀ (z : Int) (J' : zJ), (-2147483648 ≤ z ∧ z < 2147483648) → Q' z J' → tz_At l G y R xt (ZP (PS bs) Z) k1 k2 n J' (pc + 3) L (zi z :: S)) : tz_At l G y R xt (ZP (PS bs) Z) k1 k2 n J pc L St := by
  subst hst
  intro ok ok0 p e s m args below meth c A adr0 n0 bx C H locs adr ls ha hP hD hS hl
  by_cases hp : PS bs A s (adr0 tb_sc)
  · obtain ⟨so1, so2⟩ := tb_so_take (S := .ref tb_sc :: S) ok0.2.2
    obtain ⟨hl1, hl2, hl3, hCD⟩ := hv
    have hts := C.2.2.2.2.2.2.2.2.1
    have hp' : PS bs A s (adr tb_sc) := by rw [ha.2.1]; exact hp
    have hstk : (as.reverse ++ .ref tb_sc :: S).map (tb_rn adr) = (as.map (tb_rn adr)).reverse ++ .ref (adr tb_sc) :: S.map (tb_rn adr) := by
      rw [List.map_append, List.map_reverse]
      rfl
    have hrecv : ∃ cell : Cell, H[adr tb_sc]? = some cell ∧ cell.vm.isStatics = false ∧ s.vm.findClass y'.1.cls = some cell.cls := by
      obtain ⟨v, h1, -⟩ := hp'.T
      obtain ⟨cell, g1, g2, g3, -⟩ := h1.kept hS.2.1
      exact ⟨cell, g1, g2, by rw [hc]; exact g3⟩
    have hpre : ∀ U : State, U.heap = H → s.WarmedH U.vm → va_Pc ((Value.ref tb_sc :: as).map (tb_rn adr)) (fun U => tb_Pr G adr H.size n tb_shT (zI J) U ∧ PS bs (va_A (tb_ws G adr n tb_shT (zI J)) H.size) U (adr tb_sc)) ((Value.ref tb_sc :: as).map (tb_rn adr)).toArray U := by
      intro U hU hW
      obtain ⟨-, a⟩ := tb_pre C hP hD hS (.ref tb_sc :: as) U hU hW
      exact ⟨rfl, a, PS.go bs A _ s U _ hp' hW (fun a h1 h2 => by rw [hU]; exact hS.2.1 a h1 h2) (tb_Asub hD hS C.2.2.2.2.2.2.2.2.2.1)⟩
    rw [hstk]
    exact tb_back C ha hD hS hl ok0.2.1 so2.tail
      (vx_runV (As := as.map (tb_rn adr)) (rest := S.map (tb_rn adr)) (Ts := tb_W) (own := y.1.cls) (cc := y.2.1) (nL := y.2.2.1) ⟨C.1, C.2.1, C.2.2.1, C.2.2.2.2.2.1, hts⟩ (hM ok (.cons so2.head so1) ok0.1 adr H.size) ⟨tb_callB hts hl1 hCD hR, hts _ hl2, hts _ hl3⟩
        ⟨tb_blindP (PS.go bs), hrecv, hpre⟩ rfl (by rw [List.length_map]; exact hna) hl.1 rfl (lv_room (by rw [tb_cats]; exact hcat)) hd ⟨hce, hsl⟩)
      (by
        rintro r n' sh' I' ⟨J', rfl, rfl, ok', hn1, hn2, z, rfl, hz, hq⟩
        have : n' = n := by omega
        subst this
        exact kk z J' hz hq ok') (fun E n' sh' I' h => absurd h (zx_F _ _ _ _))
  · intro T hT X
    exact ⟨_, Steps.refl _, fun h => absurd h hp⟩
/-- getfield value; iload_1; invokestatic, of a text: a call over its bytes -/
theorem tz_chA {bs : List Int32} {idx d : Nat} {k9 : Int} {y' : tb_Mt} {Q' : Int → zJ → Prop} (hM : tz_OkP (PB bs) l G y' d [.ref tb_sc, zi k9] n J (zqi Q')) (hnb : n ≤ tb_sc) (hv : tb_SL y.1.cls idx y' 2) (hL : L[1]? = some (some (zi k9))) (d0 : decode y.2.1 pc = .ok (.getfield 9, 3)) (d3 : decode y.2.1 (pc + 3) = .ok (.iload_n 1, 1)) (d4 : decode y.2.1 (pc + 4) = .ok (.invokestatic idx, 3)) (hw : Cond.fieldLink y.1.cls 9 "java/lang/String" "value" "[B" ∈ tb_W)
    (hcat : (S.map fun v => v.category).sum ≤ 8) (hR : d + 1 ≤ R.frames ∧ 8 + (y'.2.2.1 + 11) + 40 * d ≤ R.locals) (hce : k1 ≤ R.cells) (hsl : k2 ≤ R.slots)
    (kk : ∀ (z : Int) (J' : zJ), (-2147483648 ≤ z ∧ z < 2147483648) → Q' z J' → tz_At l G y R xt (ZP (PS bs) Z) k1 k2 n J' (pc + 7) L (zi z :: S)) : tz_At l G y R xt (ZP (PS bs) Z) k1 k2 n J pc L (.ref tb_sc :: S) := by
  intro ok ok0 p e s m args below meth c A adr0 n0 bx C H locs adr ls ha hP hD hS hl
  by_cases hp : PS bs A s (adr0 tb_sc)
  · obtain ⟨v, h1, h2, h3, h4⟩ := hp.T
    have h9 := tb_callSF (S := S) (v := v) (k1 := k1) (k2 := k2) (Z := ZP (PS bs) Z) (below := below) (PB.go bs) (hM ok) hv d4 rfl hcat hR hce hsl hnb (zq_F hnb) zx_F C ha hP hD hS hl ok0.1 ok0.2.1 ok0.2.2.tail (.cons (Or.inr rfl) (.cons trivial (fun _ h => nomatch h))) h4 (by
      rintro r n' sh' I' ⟨J', rfl, rfl, ok', hn1, hn2, z, rfl, hz, hq⟩
      have : n' = n := by omega
      subst this
      exact kk z J' hz hq ok')
    rw [show (([Value.ref tb_sc, zi k9] : List Value).map (tb_rn (tb_ad adr tb_sc v))).reverse = [.int (Int32.ofInt k9), .ref (tb_ad adr tb_sc v tb_sc)] from rfl, tb_ad_sc] at h9
    show W p l e R s m args below meth c H locs k1 k2 _ (F0 m pc ls (.ref (adr tb_sc) :: S.map (tb_rn adr)))
    rw [ha.2.1]
    exact vk_getf C.1 C.2.1 h3 hS C.2.2.2.2.2.1 (C.2.2.2.2.2.2.2.2.1 _ hw) (fun _ h => h) d0 (lv_iload_n (pc := pc + 3) C.1 C.2.1 d3 rfl (hl.2.2.2 1 _ hL) h9)
  · intro T hT X
    exact ⟨_, Steps.refl _, fun h => absurd h hp⟩
/-- getstatic of the formatter; invokestatic -/
theorem tz_chk {idx d : Nat} {i9 n9 : Int} {y' : tb_Mt} {Q' : Int → zJ → Prop} (hM : ∀ w : Value, w = .null ∨ w = .ref tb_sc → tz_OkP PA l G y' d [zi i9, zi n9, w] n J (zqi Q')) (hnb : n ≤ tb_sc) (hv : tb_SL y.1.cls idx y' 3) (d0 : decode y.2.1 pc = .ok (.getstatic 1053, 3)) (d3 : decode y.2.1 (pc + 3) = .ok (.invokestatic idx, 3)) (hw : Cond.fieldLink y.1.cls 1053 "jdk/internal/util/Preconditions" "SIOOBE_FORMATTER" "Ljava/util/function/BiFunction;" ∈ tb_W)
    (hcat : (S.map fun v => v.category).sum ≤ 8) (hR : d + 1 ≤ R.frames ∧ 8 + (y'.2.2.1 + 11) + 40 * d ≤ R.locals) (hce : k1 ≤ R.cells) (hsl : k2 ≤ R.slots)
    (kk : ∀ (z : Int) (J' : zJ), (-2147483648 ≤ z ∧ z < 2147483648) → Q' z J' → tz_At l G y R xt Z k1 k2 n J' (pc + 6) L (zi z :: S)) : tz_At l G y R xt Z k1 k2 n J pc L (zi n9 :: zi i9 :: S) := by
  intro ok ok0 p e s m args below meth c A adr0 n0 bx C H locs adr ls ha hP hD hS hl
  have h9 : ∀ (w : Value) (v : Nat), w = .null ∨ w = .ref tb_sc → W p l e R s m args below meth c H locs k1 k2 (Z (s, args, below, A, adr0, n0)) (F0 m (pc + 3) ls ((([zi i9, zi n9, w] : List Value).map (tb_rn (tb_ad adr tb_sc v))).reverse ++ S.map (tb_rn adr))) := fun w v hw9 =>
    tb_callSF (S := S) (v := v) (k1 := k1) (k2 := k2) (Z := Z) (below := below) PA.go (hM w hw9 ok) hv d3 rfl hcat hR hce hsl hnb (zq_F hnb) zx_F C ha hP hD hS hl ok0.1 ok0.2.1 ok0.2.2.tail.tail (.cons trivial (.cons trivial (.cons (by rcases hw9 with rfl | rfl <;> first | exact trivial | exact Or.inr rfl) (fun _ h => nomatch h)))) trivial (by
      rintro r n' sh' I' ⟨J', rfl, rfl, ok', hn1, hn2, z, rfl, hz, hq⟩
      have : n' = n := by omega
      subst this
      exact kk z J' hz hq ok')
  obtain ⟨-, -, ka, -, -, hz⟩ := C.2.2.2.2.2.2.2.2.2.2.2.1.2.2.2.2.2.2.2.2
  rcases hz with hz | ⟨t, hz⟩
  · exact va_gets C.1 C.2.1 hz hS C.2.2.2.2.2.1 (C.2.2.2.2.2.2.2.2.1 _ hw) (fun _ h => h) d0 (h9 .null 0 (Or.inl rfl))
  · have h8 := h9 (.ref tb_sc) t (Or.inr rfl)
    rw [show (([zi i9, zi n9, Value.ref tb_sc] : List Value).map (tb_rn (tb_ad adr tb_sc t))).reverse = [.ref (tb_ad adr tb_sc t tb_sc), .int (Int32.ofInt n9), .int (Int32.ofInt i9)] from rfl, tb_ad_sc] at h8
    exact va_gets C.1 C.2.1 hz hS C.2.2.2.2.2.1 (C.2.2.2.2.2.2.2.2.1 _ hw) (fun _ h => h) d0 h8
/-- ldc of a text; a call with it of the reader's -/
theorem tz_word {idx ik d N : Nat} {tx : String} {bs : List Int32} {rs : List (Option Nat)} {y' : tb_Mt} {Q' : Int → zJ → Prop} (hq : (ik, tx, bs) ∈ tb_rs) (hy : y.1.cls = "TermBank$Reader") (hM : tz_OkP (PS bs) l G y' d [.ref 163, .ref tb_sc] n J (zqi Q')) (hnb : n ≤ tb_sc) (hv : tb_VL y.1.cls idx y' 1 5) (hs : tb_shT 163 = (5, N, rs)) (d0 : decode y.2.1 pc = .ok (.ldc ik, 2)) (d2 : decode y.2.1 (pc + 2) = .ok (.invokevirtual idx, 3))
    (hcat : (S.map fun v => v.category).sum ≤ 8) (hR : d + 1 ≤ R.frames ∧ 8 + (y'.2.2.1 + 11) + 40 * d ≤ R.locals) (hce : k1 ≤ R.cells) (hsl : k2 ≤ R.slots)
    (kk : ∀ (z : Int) (J' : zJ), (-2147483648 ≤ z ∧ z < 2147483648) → Q' z J' → tz_At l G y R xt Z k1 k2 n J' (pc + 5) L (zi z :: S)) : tz_At l G y R xt Z k1 k2 n J pc L (.ref 163 :: S) := by
  intro ok ok0 p e s m args below meth c A adr0 n0 bx C H locs adr ls ha hP hD hS hl
  obtain ⟨hstr, -⟩ := C.2.2.2.2.2.2.2.2.2.2.2.1.2.2.2.2.2.2.2.2
  obtain ⟨a, v, g1, g2⟩ := hstr _ hq
  have hcn : 163 < n := ok0.2.2.head.resolve_right (by decide)
  have h9 := tb_callVF (S := S) (v := a) (k1 := k1) (k2 := k2) (Z := Z) (below := below) (c9 := 163) (as := [.ref tb_sc]) (PS.go bs) (hM ok) hv d2 hs hcn rfl hcat hR hce hsl hnb (zq_F hnb) zx_F C ha hP hD hS hl ok0.1 ok0.2.1 ok0.2.2.tail (.cons (Or.inr rfl) (fun _ h => nomatch h)) ⟨v, g2⟩ (by
    rintro r n' sh' I' ⟨J', rfl, rfl, ok', hn1, hn2, z, rfl, hz, hq⟩
    have : n' = n := by omega
    subst this
    exact kk z J' hz hq ok')
  rw [show (([Value.ref tb_sc] : List Value).map (tb_rn (tb_ad adr tb_sc a))).reverse = [.ref (tb_ad adr tb_sc a tb_sc)] from rfl, tb_ad_sc] at h9
  exact va_ldcS C.1 C.2.1 (own := "TermBank$Reader") (by rw [← hy]; exact C.2.2.2.2.2.1) g1 d0 h9
/-- the reference's known words: how many bytes; one of them -/
theorem tz_knL (hd : decode y.2.1 pc = .ok (.getstatic 236, 3)) (hd2 : decode y.2.1 (pc + 3) = .ok (.arraylength, 1)) (hw : Cond.fieldLink y.1.cls 236 "TermBankModel" "KNOWN" "[B" ∈ tb_W) (k : tz_At l G y R xt Z k1 k2 n J (pc + 4) L (zi 31 :: S)) : tz_At l G y R xt Z k1 k2 n J pc L S := by
  intro ok ok0 p e s m args below meth c A adr0 n0 bx C H locs adr ls ha hP hD hS hl
  obtain ⟨-, -, ka, h1, h2, -⟩ := C.2.2.2.2.2.2.2.2.2.2.2.1.2.2.2.2.2.2.2.2
  have h9 := k ok ⟨ok0.1, ok0.2.1, .cons trivial ok0.2.2⟩ p e s m args below meth c A adr0 n0 bx C H locs adr ls ha hP hD hS hl
  exact va_gets C.1 C.2.1 h1 hS C.2.2.2.2.2.1 (C.2.2.2.2.2.2.2.2.1 _ hw) (fun _ h => h) hd (va_tlen (pc := pc + 3) (v := Int32.ofInt 31) C.1 C.2.1 h2 hS (by decide) hd2 h9)
theorem tz_knD {i : Nat} {k9 v : Int} (hk : 0 ≤ k9 ∧ k9 < 31) (hv : (tb_kn.getD k9.toNat 0).toInt = v) (hL : L[i]? = some (some (zi k9))) (hd : decode y.2.1 pc = .ok (.getstatic 236, 3)) (hd2 : decode y.2.1 (pc + 3) = .ok (.iload i, 2)) (hd3 : decode y.2.1 (pc + 5) = .ok (.baload, 1)) (hw : Cond.fieldLink y.1.cls 236 "TermBankModel" "KNOWN" "[B" ∈ tb_W) (k : tz_At l G y R xt Z k1 k2 n J (pc + 6) L (zi v :: S)) : tz_At l G y R xt Z k1 k2 n J pc L S := by
  intro ok ok0 p e s m args below meth c A adr0 n0 bx C H locs adr ls ha hP hD hS hl
  obtain ⟨-, -, ka, h1, h2, -⟩ := C.2.2.2.2.2.2.2.2.2.2.2.1.2.2.2.2.2.2.2.2
  have h9 := k ok ⟨ok0.1, ok0.2.1, .cons trivial ok0.2.2⟩ p e s m args below meth c A adr0 n0 bx C H locs adr ls ha hP hD hS hl
  rw [zi_map, ← hv, Int32.ofInt_toInt] at h9
  have hx : ls[i]? = some (.val (.int (nI k9.toNat))) := by
    rw [← zn hk.1]
    exact hl.2.2.2 i _ hL
  exact va_gets C.1 C.2.1 h1 hS C.2.2.2.2.2.1 (C.2.2.2.2.2.2.2.2.1 _ hw) (fun _ h => h) hd (lv_iload (pc := pc + 3) C.1 C.2.1 hd2 hx (va_tb (pc := pc + 5) C.1 C.2.1 h2 hS (vp_in_nI (by omega) (by omega)) (by rw [nI_clamp (by omega)]) hd3 h9))
theorem tz_nret {z : Int} {ty : FieldType} {Q : Option Value → zJ → Prop} {X : String → zJ → Prop} {mc ms n0 : Nat} (hd : decode y.2.1 pc = .ok (.ireturn, 1)) (hr : y.2.2.2.1 = some ty) (hz : narrow ty (zi z) = zi z) (hc : k1 ≤ mc) (hs : k2 ≤ ms) (hn : n0 ≤ n ∧ n ≤ n0 + mc) (hq : Q (some (zi z)) J) :
    tz_At l G y R xt (tb_ZM G mc ms (zQ n0 mc Q) (zX n0 mc X)) k1 k2 n J pc L [zi z] := fun ok => tb_iret (ty := ty) hd hr hz hc hs ⟨J, rfl, rfl, ok, hn.1, hn.2, hq⟩
end TZF
theorem zshr0 {a : Int} (h : -2147483648 ≤ a ∧ a < 2147483648) : zshr a 0 = a := by
  have e : Int32.ofInt a >>> (Int32.ofInt 0 &&& 31) = Int32.ofInt a := by
    rw [← Int32.toInt_inj, pk_shr (Int32.ofInt a) _ 0 (by decide)]
    simp
  unfold zshr
  rw [e, zt h]
/-- a byte of a text, as a char -/
def zch (bs : List Int32) (k : Int) : Int := zand ((bs.getD k.toNat 0).toInt) 255
theorem zch_rg (bs : List Int32) (k : Int) : 0 ≤ zch bs k ∧ zch bs k < 256 := z_and _ (m := 255) 8 (by decide) (by decide)
theorem zch_of (bs : List Int32) (k : Int) : Int32.ofInt (zch bs k) = bs.getD k.toNat 0 &&& 255 := by
  unfold zch zand
  rw [Int32.ofInt_toInt, Int32.ofInt_toInt, show Int32.ofInt 255 = (255 : Int32) by decide]
theorem zch_c2 (bs : List Int32) (k : Int) : ((Int32.ofInt (zch bs k)).toUInt32 % 65536).toInt32 = Int32.ofInt (zch bs k) := by
  rw [zch_of]
  exact sc_c2 _
theorem zch_nar (bs : List Int32) (k : Int) : narrow .char (zi (zch bs k)) = zi (zch bs k) := by
  unfold zi
  rw [zch_of]
  exact sc_nar _
