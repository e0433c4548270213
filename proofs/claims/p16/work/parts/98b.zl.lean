/-! ===== longs, the script, handlers, over whole numbers ===== -/
def zl (z : Int) : Value := .long (Int32.ofInt z).toInt64
def tb_cL (sh : Nat → tb_Sh) (c len : Nat) : Bool := (c != tb_sc) && ((sh c).1 == 102) && ((sh c).2.1 == len) && decide (len ≤ 100000)
theorem l_183 : tb_cL tb_shT 183 1 = true := by decide +kernel
def tz_Okw (l : Launch) (G : tb_G) (y : tb_Mt) (d mc ms : Nat) (as : List Value) (n : Nat) (J : zJ) (Q : Option Value → zJ → Prop) (X : String → zJ → Prop) : Prop := zok n J → tb_Okw l G y (tb_wh y) d mc ms as n tb_shT (zI J) (zQ n mc Q) (zX n mc X)
theorem tz_Okw.of {l : Launch} {G : tb_G} {y : tb_Mt} {d mc ms : Nat} {as : List Value} {n : Nat} {J : zJ} {Q : Option Value → zJ → Prop} {X : String → zJ → Prop} (hl : l.stackTraces = false) (hy : plainName y.1.cls = true) (hc : ∀ v ∈ as, v.category = 1) (hn : as.length ≤ y.2.2.1)
    (h : tz_At l G y (tb_rm d mc ms) none (tb_ZM G mc ms (zQ n mc Q) (zX n mc X)) 0 0 n J 0 (tb_L0 as y.2.2.1) []) : tz_Okw l G y d mc ms as n J Q X := fun ok => tb_Okw.of hl hy hc hn (h ok)
section TZL
variable {l : Launch} {G : tb_G} {y : tb_Mt} {R : Room} {xt : Option (Nat × (Nat → Int32))} {Z : tb_CT → State → Prop} {k1 k2 n : Nat} {J : zJ} {pc : Nat} {L : List (Option Value)} {S : List Value}
theorem tz_i2l {a : Int} (hd : decode y.2.1 pc = .ok (.i2l, 1)) (k : tz_At l G y R xt Z k1 k2 n J (pc + 1) L (zl a :: S)) : tz_At l G y R xt Z k1 k2 n J pc L (zi a :: S) := fun ok => tb_i2l hd (k ok)
theorem tz_last {len c9 : Nat} {lz z v : Int} (hd : decode y.2.1 pc = .ok (.lastore, 1)) (h : tb_cL tb_shT c9 len = true) (hl : ((len : Nat) : Int) = lz) (hz : 0 ≤ z ∧ z < lz) (hr : (-2147483648 ≤ v ∧ v < 2147483648)) (kk : tz_At l G y R xt Z k1 k2 n (zup J c9 z v) (pc + 1) L S) : tz_At l G y R xt Z k1 k2 n J pc L (zl v :: zi z :: .ref c9 :: S) := fun ok => by
  simp only [tb_cL, Bool.and_eq_true, bne_iff_ne, ne_eq, beq_iff_eq, decide_eq_true_eq] at h
  refine tb_last (j := z.toNat) hd (tb_sh3 h.1.1.2 h.1.2) h.1.1.1 (zn hz.1) (by omega) (Nat.le_trans h.2 (by decide)) ?_
  rw [zI_up hz.1]
  exact kk (ok.up hr)
theorem tz_sld {Lx : Nat} {xs : Nat → Int32} {z : Int} (hx : xt = some (Lx, xs)) (hd : decode y.2.1 pc = .ok (.iaload, 1)) (hz : 0 ≤ z ∧ z < Lx) (hb : Lx ≤ 2147483647) (kk : (-2147483648 ≤ (xs z.toNat).toInt ∧ (xs z.toNat).toInt < 2147483648) → tz_At l G y R xt Z k1 k2 n J (pc + 1) L (zi (xs z.toNat).toInt :: S)) : tz_At l G y R xt Z k1 k2 n J pc L (zi z :: .ref tb_sc :: S) := fun ok => tb_sld (j := z.toNat) hx hd (zn hz.1) (by omega) hb (by rw [← zi_toInt]; exact kk (z_rg _) ok)
theorem tz_slen {Lx : Nat} {xs : Nat → Int32} (hx : xt = some (Lx, xs)) (hd : decode y.2.1 pc = .ok (.arraylength, 1)) (kk : tz_At l G y R xt Z k1 k2 n J (pc + 1) L (zi (Lx : Int) :: S)) : tz_At l G y R xt Z k1 k2 n J pc L (.ref tb_sc :: S) := fun ok => tb_slen hx hd (by rw [z_len rfl]; exact kk ok)
theorem tz_cH {idx nA d mc ms m1 m2 : Nat} {y' : tb_Mt} {as St : List Value} {Q' : Option Value → zJ → Prop} (hM : tz_Okw l G y' d mc ms as n J Q' zN) (hl1 : Cond.methodLink y.1.cls idx y'.1 ∈ tb_W) (hl2 : Cond.static y'.1 ∈ tb_W) (hl3 : Cond.codeWith y'.1 y'.2.1 y'.2.2.1 y'.2.2.2.1 y'.2.2.2.2 ∈ tb_W) (hl4 : Cond.initialized y'.1.cls ∈ tb_W) (hl5 : y'.1.cls ≠ "java/lang/invoke/MethodHandle" ∧ y'.1.cls ≠ "java/lang/invoke/VarHandle" ∧ (parseMethodDescriptor y'.1.desc).map (fun d => d.parameters.length) = some nA) (hd : decode y.2.1 pc = .ok (.invokestatic idx, 3)) (hna : as.length = nA) (hst : St = as.reverse ++ S)
    (hcat : (S.map fun v => v.category).sum ≤ 8) (hR : d + 1 ≤ R.frames ∧ 8 + (y'.2.2.1 + 11) + 40 * d ≤ R.locals) (h1 : k1 + mc = m1) (h2 : k2 + ms = m2) (hce : m1 ≤ R.cells) (hsl : m2 ≤ R.slots)
    (kk : ∀ (r : Option Value) (n' : Nat) (J' : zJ), n ≤ n' → n' ≤ n + mc → Q' r J' → tz_At l G y R xt Z m1 m2 n' J' (pc + 3) L (r.toList ++ S)) : tz_At l G y R xt Z k1 k2 n J pc L St := fun ok => by
  refine tb_callH (hM ok) hl1 hl2 hl3 hl4 hl5 hd hna hst hcat hR h1 h2 hce hsl ?_ ?_
  · rintro r n' sh' I' ⟨J', rfl, rfl, ok', hn1, hn2, hq⟩
    exact kk r n' J' hn1 hn2 hq ok'
  · rintro E n' sh' I' ⟨J', -, -, -, -, -, hx⟩
    exact hx.elim
theorem tb_catchA {sh : Nat → tb_Sh} {I : tb_I} {E name : String} {i : Nat} (pre : List ExceptionTableEntry) (x : ExceptionTableEntry) (suf : List ExceptionTableEntry) (hsplit : tableOf y.2.2.2.2 = pre ++ x :: suf) (hpass : ∀ z ∈ pre, covers z pc = false ∨ (z.catchType ≠ 0 ∧ ∃ nm : String, Cond.classLink y.1.cls z.catchType nm ∈ tb_W ∧ (E, nm) ∈ tb_nocs)) (hx : covers x pc = true) (h0 : x.catchType ≠ 0)
    (hlink : Cond.classLink y.1.cls x.catchType name ∈ tb_W) (hcast : (E, name) ∈ tb_casts) (hd : decode y.2.1 x.handlerPc = .ok (.astore i, 2)) (hi : i < y.2.2.1)
    (kk : tb_At l G y R xt Z k1 k2 n sh I (x.handlerPc + 2) (L.set i none) []) : tb_Ax l G y R xt Z k1 k2 n sh I pc L S E := by
  intro ok p e s m args below meth c A adr0 n0 bx C H locs adr ls ha hP hD hS hl
  intro ce q9 hce hcv hcl
  have hts := C.2.2.2.2.2.2.2.2.1
  have hE := C.2.2.2.2.2.2.2.2.2.2.2.1
  refine vx_catch C.2.2.2.2.2.1 pre x suf (by rw [C.2.2.2.2.2.2.2.1]; exact hsplit) (fun z hz => ?_) hx h0 (hts _ hlink) (va_Nw.use rfl (hE.2.2.2.1 _ hcast)) hce hcv hcl ?_
  · rcases hpass z hz with h | ⟨h1, nm, h2, h3⟩
    · exact Or.inl h
    · exact Or.inr ⟨h1, nm, hts _ h2, hE.2.2.2.2.1 _ h3⟩
  · refine lv_astore C.1 C.2.1 hd hl.has hi rfl (fun ls' h' => ?_)
    refine kk ⟨ok.1, fun v hv => ?_, fun v hv => nomatch hv⟩ p e s m args below meth c A adr0 n0 bx C H locs adr ls' ha hP hD hS ?_
    · rcases List.mem_or_eq_of_mem_set hv with h | h
      · exact ok.2.1 v h
      · cases h
    · refine ⟨h'.1, h'.2.1, by rw [List.length_set]; exact hl.2.2.1, fun j w hj => ?_⟩
      by_cases hij : j = i
      · subst hij
        rw [List.getElem?_set_self (by rw [hl.2.2.1]; exact hi)] at hj
        cases hj
      · rw [List.getElem?_set_ne (Ne.symm hij)] at hj
        refine h'.2.2 (j, tb_rn adr w) (List.mem_cons_of_mem _ (List.mem_filter.mpr ⟨?_, ?_⟩))
        · exact List.mem_filterMap.mpr ⟨(some w, j), List.mem_zipIdx_iff_getElem?.mpr hj, rfl⟩
        · have : w.category = 1 := (ok.2.1 w (List.mem_of_getElem? hj)).2
          simp [hij, tb_cat, this]
theorem tz_catch {E name : String} {i : Nat} {q : Fin 4} (pre : List ExceptionTableEntry) (x : ExceptionTableEntry) (suf : List ExceptionTableEntry) (hsplit : tableOf y.2.2.2.2 = pre ++ x :: suf) (hpass : ∀ z ∈ pre, covers z pc = false ∨ (z.catchType ≠ 0 ∧ ∃ nm : String, Cond.classLink y.1.cls z.catchType nm ∈ tb_W ∧ (E, nm) ∈ tb_nocs)) (hx : covers x pc = true) (h0 : x.catchType ≠ 0)
    (hlink : Cond.classLink y.1.cls x.catchType name ∈ tb_W) (hcast : (E, name) ∈ tb_casts) (hd : decode y.2.1 x.handlerPc = .ok (.astore_n q, 1)) (hq : (q : Nat) = i) (hi : i < y.2.2.1)
    (kk : tz_At l G y R xt Z k1 k2 n J (x.handlerPc + 1) (L.set i none) []) : tz_Ax l G y R xt Z k1 k2 n J pc L S E := fun ok => tb_catch pre x suf hsplit hpass hx h0 hlink hcast hd hq hi (kk ok)
theorem tz_catchA {E name : String} {i : Nat} (pre : List ExceptionTableEntry) (x : ExceptionTableEntry) (suf : List ExceptionTableEntry) (hsplit : tableOf y.2.2.2.2 = pre ++ x :: suf) (hpass : ∀ z ∈ pre, covers z pc = false ∨ (z.catchType ≠ 0 ∧ ∃ nm : String, Cond.classLink y.1.cls z.catchType nm ∈ tb_W ∧ (E, nm) ∈ tb_nocs)) (hx : covers x pc = true) (h0 : x.catchType ≠ 0)
    (hlink : Cond.classLink y.1.cls x.catchType name ∈ tb_W) (hcast : (E, name) ∈ tb_casts) (hd : decode y.2.1 x.handlerPc = .ok (.astore i, 2)) (hi : i < y.2.2.1)
    (kk : tz_At l G y R xt Z k1 k2 n J (x.handlerPc + 2) (L.set i none) []) : tz_Ax l G y R xt Z k1 k2 n J pc L S E := fun ok => tb_catchA pre x suf hsplit hpass hx h0 hlink hcast hd hi (kk ok)
end TZL
theorem tz_lret {l : Launch} {G : tb_G} {xt : Option (Nat × (Nat → Int32))} {k1 k2 n : Nat} {J : zJ} {pc : Nat} {L : List (Option Value)} (hd : decode code pc = .ok (.ireturn, 1)) (h1 : k1 ≤ 601024) (h2 : k2 ≤ 7293034) : tz_At l G M_L_law room_1 xt tb_LZ k1 k2 n J pc L [zi 1] := fun _ => tb_lret hd h1 h2
