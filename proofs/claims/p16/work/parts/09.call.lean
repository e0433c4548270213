/-! ===== calls, ends, throws ===== -/
theorem tb_Met {l : Launch} {y : MethodName} {ws : List Cond} {rm : Room} {Pc : Array Value → State → Prop} {Qc : Array Value → State → Outcome → State → Prop} {XC : String → State → State → Prop} {mc ms : Nat} {free : Addr → Prop} (h : vx_Met l y ws rm Pc Qc XC mc ms free) (hx : ∀ E a b, ¬ XC E a b) : Met l y ws rm Pc Qc mc ms free := by
  intro p e ha hc hk s m args below hf happ hP hK
  obtain ⟨n, o, h1, h2, h3, hq⟩ := h p e ha hc hk s m args below hf happ hP hK
  rcases hq with hq | ⟨q, ho, E, ce, L, hx1, -⟩
  · exact ⟨n, o, h1, h2, h3, hq⟩
  · exact absurd hx1 (hx _ _ _)
/-- thrown here: a thing of class E over this frame -/
def tb_Ax (l : Launch) (G : tb_G) (y : tb_Mt) (R : Room) (xt : Option (Nat × (Nat → Int32))) (Z : tb_CT → State → Prop) (k1 k2 n : Nat) (sh : Nat → tb_Sh) (I : tb_I) (pc : Nat) (L : List (Option Value)) (S : List Value) (E : String) : Prop :=
  tb_ok n sh L S → ∀ (p : Program) (e : Env) (s : State) (m : MethodId) (args : Array Value) (below : List Frame) (meth : Method) (c : Code) (A : Nat → Prop) (adr0 : Nat → Nat) (n0 bx : Nat), tb_Cx l G y R xt p e s m args meth c A bx →
    ∀ (H : Heap) (locs : List Loc) (adr : Nat → Nat) (ls : Array Slot), ((∀ k, k < n0 → adr k = adr0 k) ∧ adr tb_sc = adr0 tb_sc ∧ n0 ≤ n ∧ adr0 tb_sc = bx) → va_P G.1 vwCl (tb_ws G adr n sh I) H → va_D A (tb_ws G adr n sh I) → va_S A s.heap H locs → tb_LL adr ls y.2.2.1 L →
      ∀ (ce : Cell) (q9 : Addr), H[q9]? = some ce → ce.vm = .none → s.vm.findClass E = some ce.cls → vx_W p l e R s m args below meth c H locs k1 k2 (Z (s, args, below, A, adr0, n0)) (F0 m pc ls (S.map (tb_rn adr))) q9
def tb_CD (y : tb_Mt) (nA : Nat) : Prop := Cond.code y.1 y.2.1 y.2.2.1 y.2.2.2.1 ∈ tb_W ∧ Cond.initialized y.1.cls ∈ tb_W ∧ (y.1.cls ≠ "java/lang/invoke/MethodHandle" ∧ y.1.cls ≠ "java/lang/invoke/VarHandle" ∧ (parseMethodDescriptor y.1.desc).map (fun d => d.parameters.length) = some nA)
def tb_VL (own : String) (idx : Nat) (y : tb_Mt) (nA ci : Nat) : Prop := Cond.methodLink own idx y.1 ∈ tb_W ∧ Cond.instanceMethod y.1 ∈ tb_W ∧ Cond.selects y.1.cls y.1 y.1 ∈ tb_W ∧ tb_CD y nA ∧ ci < 100 ∧ ∃ (T : u_T) (N : Nat), vwCl[ci]? = some (y.1.cls, T, N)
def tb_SL (own : String) (idx : Nat) (y : tb_Mt) (nA : Nat) : Prop := Cond.methodLink own idx y.1 ∈ tb_W ∧ Cond.static y.1 ∈ tb_W ∧ tb_CD y nA
def tb_IL (own : String) (idx : Nat) (y : tb_Mt) (nA : Nat) : Prop := Cond.methodLink own idx y.1 ∈ tb_W ∧ Cond.instanceMethod y.1 ∈ tb_W ∧ y.1.name = "<init>" ∧ y.2.2.2.1 = none ∧ tb_CD y nA
theorem tb_wyW {y : tb_Mt} {nA : Nat} (h : tb_CD y nA) : ∀ w ∈ tb_wy y, w ∈ tb_W := fun w hw => (List.mem_cons.mp hw).elim (fun e => by rw [e]; exact h.1) (fun h => h)
theorem tb_Asub {G : tb_G} {adr : Nat → Nat} {n : Nat} {sh : Nat → tb_Sh} {I : tb_I} {A : Nat → Prop} {H0 H : Heap} {locs : List Loc} (hD : va_D A (tb_ws G adr n sh I)) (hS : va_S A H0 H locs) (hA : ∀ q, H0.size ≤ q → A q) : ∀ q, va_A (tb_ws G adr n sh I) H.size q → A q := by
  intro q h
  rcases h with ⟨k, e, h⟩ | h
  · exact hD.2 k (q, e) h
  · exact hA q (Nat.le_trans hS.1 h)
theorem tb_blind {G : tb_G} {adr : Nat → Nat} {sz n : Nat} {sh : Nat → tb_Sh} {I : tb_I} {av : List Value} : FrameBlind (va_Pc av (tb_Pr G adr sz n sh I)) := by
  intro a U g mk h
  obtain ⟨h1, h2, h3, h4, h5, h6⟩ := h
  exact ⟨h1, h2, h3, va_K.moved (u := U) (U := U.calling g mk a) (Vm.Alike.refl U.vm) h4, h5, h6.go (U := U.calling g mk a) (State.WarmedH.refl U) (fun _ _ _ => rfl) (fun _ h => h)⟩
section TBC
variable {l : Launch} {G : tb_G} {y : tb_Mt} {R : Room} {xt : Option (Nat × (Nat → Int32))} {Z : tb_CT → State → Prop} {k1 k2 n : Nat} {sh : Nat → tb_Sh} {I : tb_I} {pc : Nat} {L : List (Option Value)} {S : List Value}
theorem tb_pre {p : Program} {e : Env} {s : State} {m : MethodId} {args : Array Value} {meth : Method} {c : Code} {A : Nat → Prop} {bx : Nat} (C : tb_Cx l G y R xt p e s m args meth c A bx) {H : Heap} {locs : List Loc} {adr : Nat → Nat} (hP : va_P G.1 vwCl (tb_ws G adr n sh I) H) (hD : va_D A (tb_ws G adr n sh I)) (hS : va_S A s.heap H locs) (as : List Value) :
    ∀ U : State, U.heap = H → s.WarmedH U.vm → va_Pc (as.map (tb_rn adr)) (tb_Pr G adr H.size n sh I) (as.map (tb_rn adr)).toArray U := by
  intro U hU hW
  refine ⟨rfl, by rw [hU], by rw [hU]; exact hP, va_K.moved hW.alike C.2.2.2.2.2.2.2.2.2.2.1, hD.weaken (fun _ _ _ _ => trivial), ?_⟩
  rw [hU]
  exact C.2.2.2.2.2.2.2.2.2.2.2.1.go hW hS.2.1 (tb_Asub hD hS C.2.2.2.2.2.2.2.2.2.1)
theorem tb_back {p : Program} {e : Env} {s : State} {m : MethodId} {args : Array Value} {below : List Frame} {meth : Method} {c : Code} {A : Nat → Prop} {adr0 : Nat → Nat} {n0 bx : Nat} (C : tb_Cx l G y R xt p e s m args meth c A bx) {H : Heap} {locs : List Loc} {adr : Nat → Nat} {ls : Array Slot}
    (ha : (∀ k, k < n0 → adr k = adr0 k) ∧ adr tb_sc = adr0 tb_sc ∧ n0 ≤ n ∧ adr0 tb_sc = bx) (hD : va_D A (tb_ws G adr n sh I)) (hS : va_S A s.heap H locs) (hl : tb_LL adr ls y.2.2.1 L) (hlo : tb_lo n L) (hso : tb_so n S) {Q' : tb_Q} {X' : tb_X} {mc ms : Nat} {st0 : List Value} {a : Array Value}
    (hr : vx_Run p l e R s m args below meth c H locs k1 k2 mc ms (F0 m pc ls st0) (S.map (tb_rn adr)) (tb_Qc G Q' (va_A (tb_ws G adr n sh I) H.size) adr n a) (tb_XC G X' (va_A (tb_ws G adr n sh I) H.size) adr n) (va_A (tb_ws G adr n sh I) H.size))
    (kk : ∀ (r : Option Value) (n' : Nat) (sh' : Nat → tb_Sh) (I' : tb_I), Q' r n' sh' I' → tb_At l G y R xt Z (k1 + mc) (k2 + ms) n' sh' I' (pc + 3) L (r.toList ++ S))
    (kx : ∀ (E : String) (n' : Nat) (sh' : Nat → tb_Sh) (I' : tb_I), X' E n' sh' I' → tb_Ax l G y R xt Z (k1 + mc) (k2 + ms) n' sh' I' pc L S E) :
    W p l e R s m args below meth c H locs k1 k2 (Z (s, args, below, A, adr0, n0)) (F0 m pc ls st0) := by
  have hsub := tb_Asub hD hS C.2.2.2.2.2.2.2.2.2.1
  intro T hT X
  rcases hr T hT X with ⟨v, st₀, t, T', L', h0, X', hL, e1, e2, ⟨r, n', sh', I', adr', ho, hQ, hvk, ⟨w1, w2, w3, w4, w5, w6, w7⟩, hF⟩, st⟩ | ⟨q, st₀, t, T', L', E, ce, h0, X', hL, e1, e2, ⟨n', sh', I', adr', hX, ⟨w1, w2, w3, w4, w5, w6, w7⟩, hF⟩, hce, hcv, hcl, st⟩
  · have hv : v = r.map (tb_rn adr') := by cases ho; rfl
    subst hv
    obtain ⟨g1, g2, g3⟩ := vx_keep h0 e1 hS (fun q _ h => hsub q h) hsub hL hF
    have hso' : tb_so n' (r.toList ++ S) := by
      intro v hv
      rcases List.mem_append.mp hv with h | h
      · cases r with
        | none => cases h
        | some w =>
          have : v = w := by simpa using h
          rw [this]
          exact hvk w rfl
      · exact (hso v h).mono w3
    have hstk : (r.toList ++ S).map (tb_rn adr') = (r.map (tb_rn adr')).toList ++ S.map (tb_rn adr) := by
      rw [List.map_append, tb_rn_map w1 w2 hso]
      cases r <;> rfl
    have h9 := kk r n' sh' I' hQ ⟨w7, hlo.mono w3, hso'⟩ p e s m args below meth c A adr0 n0 bx C T'.heap (locs ++ L') adr' ls ⟨fun k hk => (w1 k (by omega)).trans (ha.1 k hk), w2.trans ha.2.1, by omega, ha.2.2.2⟩ (by rw [e1]; exact w4) (w5.weaken (fun _ q _ h => hsub q.1 h)) g3 (hl.ad hlo w1 w2)
    rw [hstk] at h9
    obtain ⟨t2, a1, b1⟩ := h9 T' rfl X'
    exact ⟨t2, st t2 a1, b1⟩
  · obtain ⟨g1, g2, g3⟩ := vx_keep h0 e1 hS (fun q _ h => hsub q h) hsub hL hF
    have h9 := kx E n' sh' I' hX ⟨w7, hlo.mono w3, hso.mono w3⟩ p e s m args below meth c A adr0 n0 bx C T'.heap (locs ++ L') adr' ls ⟨fun k hk => (w1 k (by omega)).trans (ha.1 k hk), w2.trans ha.2.1, by omega, ha.2.2.2⟩ (by rw [e1]; exact w4) (w5.weaken (fun _ q _ h => hsub q.1 h)) g3 (hl.ad hlo w1 w2) ce q (by rw [e1]; exact hce) hcv hcl
    rw [tb_rn_map w1 w2 hso] at h9
    obtain ⟨t2, a1, b1⟩ := h9 T' rfl X'
    exact ⟨t2, st.trans a1, b1⟩
theorem tb_callB {s : State} {args : Array Value} {own : String} {idx d mc ms nA : Nat} {y' : tb_Mt} (hts : ∀ w ∈ tb_W, w.before args s = true) (hlk : Cond.methodLink own idx y'.1 ∈ tb_W) (hCD : tb_CD y' nA) (hR : d + 1 ≤ R.frames ∧ 8 + (y'.2.2.1 + 11) + 40 * d ≤ R.locals) :
    CallB R s args own idx y'.1 y'.2.1 y'.2.2.1 y'.2.2.2.1 (tb_wy y') (tb_rm d mc ms) mc ms nA :=
  callB_of nA hts (tb_gI (tb_wyW hCD)) rfl rfl rfl (hts _ hCD.2.1) (hts _ hlk) hCD.2.2 hR
theorem tb_so_take {as : List Value} (h : tb_so n (as.reverse ++ S)) : tb_so n as ∧ tb_so n S := ⟨fun v hv => h v (List.mem_append_left _ (List.mem_reverse.mpr hv)), fun v hv => h v (List.mem_append_right _ hv)⟩
theorem tb_callV {idx nA d mc ms m1 m2 c9 ci N : Nat} {rs : List (Option Nat)} {y' : tb_Mt} {as St : List Value} {Q' : tb_Q} {X' : tb_X} (hM : tb_Ok l G y' d mc ms (.ref c9 :: as) n sh I Q' X') (hv : tb_VL y.1.cls idx y' nA ci) (hd : decode y.2.1 pc = .ok (.invokevirtual idx, 3)) (hs : sh c9 = (ci, N, rs)) (hc : c9 ≠ tb_sc) (hna : as.length = nA) (hst : St = as.reverse ++ .ref c9 :: S)
    (hcat : (S.map fun v => v.category).sum ≤ 8) (hR : d + 1 ≤ R.frames ∧ 8 + (y'.2.2.1 + 11) + 40 * d ≤ R.locals) (h1 : k1 + mc = m1) (h2 : k2 + ms = m2) (hce : m1 ≤ R.cells) (hsl : m2 ≤ R.slots)
    (kk : ∀ (r : Option Value) (n' : Nat) (sh' : Nat → tb_Sh) (I' : tb_I), Q' r n' sh' I' → tb_At l G y R xt Z m1 m2 n' sh' I' (pc + 3) L (r.toList ++ S))
    (kx : ∀ (E : String) (n' : Nat) (sh' : Nat → tb_Sh) (I' : tb_I), X' E n' sh' I' → tb_Ax l G y R xt Z m1 m2 n' sh' I' pc L S E) : tb_At l G y R xt Z k1 k2 n sh I pc L St := by
  subst h1
  subst h2
  subst hst
  intro ok p e s m args below meth c A adr0 n0 bx C H locs adr ls ha hP hD hS hl
  obtain ⟨so1, so2⟩ := tb_so_take (S := .ref c9 :: S) ok.2.2
  have hcn : c9 < n := so2.head.resolve_right hc
  obtain ⟨hl1, hl2, hl3, hCD, hci, T9, N9, hcl⟩ := hv
  have hts := C.2.2.2.2.2.2.2.2.1
  have he : (tb_ws G adr n sh I)[c9]? = some (adr c9, .inr (ci, tb_fs adr ci N rs (I c9))) := by rw [tb_ws_at hcn, hs, tb_en_obj hci]
  have hstk : (as.reverse ++ .ref c9 :: S).map (tb_rn adr) = (as.map (tb_rn adr)).reverse ++ .ref (adr c9) :: S.map (tb_rn adr) := by
    rw [List.map_append, List.map_reverse]
    rfl
  have hso : tb_so n (.ref c9 :: as) := .cons so2.head so1
  rw [hstk]
  exact tb_back C ha hD hS hl ok.2.1 so2.tail
    (vx_runV (As := as.map (tb_rn adr)) (rest := S.map (tb_rn adr)) (Ts := tb_W) (own := y.1.cls) (cc := y.2.1) (nL := y.2.2.1) ⟨C.1, C.2.1, C.2.2.1, C.2.2.2.2.2.1, hts⟩ (hM hso ok.1 adr H.size) ⟨tb_callB hts hl1 hCD hR, hts _ hl2, hts _ hl3⟩
      ⟨tb_blind, va_recv C.2.2.2.2.2.2.2.2.2.2.1 hP hcl he, tb_pre C hP hD hS (.ref c9 :: as)⟩ rfl (by rw [List.length_map]; exact hna) hl.1 rfl (lv_room (by rw [tb_cats]; exact hcat)) hd ⟨hce, hsl⟩) kk kx
theorem tb_callS {idx nA d mc ms m1 m2 : Nat} {y' : tb_Mt} {as St : List Value} {Q' : tb_Q} {X' : tb_X} (hM : tb_Ok l G y' d mc ms as n sh I Q' X') (hv : tb_SL y.1.cls idx y' nA) (hd : decode y.2.1 pc = .ok (.invokestatic idx, 3)) (hna : as.length = nA) (hst : St = as.reverse ++ S)
    (hcat : (S.map fun v => v.category).sum ≤ 8) (hR : d + 1 ≤ R.frames ∧ 8 + (y'.2.2.1 + 11) + 40 * d ≤ R.locals) (h1 : k1 + mc = m1) (h2 : k2 + ms = m2) (hce : m1 ≤ R.cells) (hsl : m2 ≤ R.slots)
    (kk : ∀ (r : Option Value) (n' : Nat) (sh' : Nat → tb_Sh) (I' : tb_I), Q' r n' sh' I' → tb_At l G y R xt Z m1 m2 n' sh' I' (pc + 3) L (r.toList ++ S))
    (kx : ∀ (E : String) (n' : Nat) (sh' : Nat → tb_Sh) (I' : tb_I), X' E n' sh' I' → tb_Ax l G y R xt Z m1 m2 n' sh' I' pc L S E) : tb_At l G y R xt Z k1 k2 n sh I pc L St := by
  subst h1
  subst h2
  subst hst
  intro ok p e s m args below meth c A adr0 n0 bx C H locs adr ls ha hP hD hS hl
  obtain ⟨so1, so2⟩ := tb_so_take ok.2.2
  obtain ⟨hl1, hl2, hCD⟩ := hv
  have hts := C.2.2.2.2.2.2.2.2.1
  have hstk : (as.reverse ++ S).map (tb_rn adr) = (as.map (tb_rn adr)).reverse ++ S.map (tb_rn adr) := by
    rw [List.map_append, List.map_reverse]
  rw [hstk]
  exact tb_back C ha hD hS hl ok.2.1 so2
    (vx_runS (As := as.map (tb_rn adr)) (rest := S.map (tb_rn adr)) (Ts := tb_W) (own := y.1.cls) (cc := y.2.1) (nL := y.2.2.1) ⟨C.1, C.2.1, C.2.2.1, C.2.2.2.2.2.1, hts⟩ (hM so1 ok.1 adr H.size) ⟨tb_callB hts hl1 hCD hR, hts _ hl2⟩
      ⟨tb_blind, tb_pre C hP hD hS as⟩ rfl (by rw [List.length_map]; exact hna) hl.1 rfl (lv_room (by rw [tb_cats]; exact hcat)) hd ⟨hce, hsl⟩) kk kx
/-- a static call of a method with handlers -/
theorem tb_callH {idx nA d mc ms m1 m2 : Nat} {y' : tb_Mt} {as St : List Value} {Q' : tb_Q} {X' : tb_X} (hM : tb_Okw l G y' (tb_wh y') d mc ms as n sh I Q' X') (hl1 : Cond.methodLink y.1.cls idx y'.1 ∈ tb_W) (hl2 : Cond.static y'.1 ∈ tb_W) (hl3 : Cond.codeWith y'.1 y'.2.1 y'.2.2.1 y'.2.2.2.1 y'.2.2.2.2 ∈ tb_W) (hl4 : Cond.initialized y'.1.cls ∈ tb_W) (hl5 : y'.1.cls ≠ "java/lang/invoke/MethodHandle" ∧ y'.1.cls ≠ "java/lang/invoke/VarHandle" ∧ (parseMethodDescriptor y'.1.desc).map (fun d => d.parameters.length) = some nA) (hd : decode y.2.1 pc = .ok (.invokestatic idx, 3)) (hna : as.length = nA) (hst : St = as.reverse ++ S)
    (hcat : (S.map fun v => v.category).sum ≤ 8) (hR : d + 1 ≤ R.frames ∧ 8 + (y'.2.2.1 + 11) + 40 * d ≤ R.locals) (h1 : k1 + mc = m1) (h2 : k2 + ms = m2) (hce : m1 ≤ R.cells) (hsl : m2 ≤ R.slots)
    (kk : ∀ (r : Option Value) (n' : Nat) (sh' : Nat → tb_Sh) (I' : tb_I), Q' r n' sh' I' → tb_At l G y R xt Z m1 m2 n' sh' I' (pc + 3) L (r.toList ++ S))
    (kx : ∀ (E : String) (n' : Nat) (sh' : Nat → tb_Sh) (I' : tb_I), X' E n' sh' I' → tb_Ax l G y R xt Z m1 m2 n' sh' I' pc L S E) : tb_At l G y R xt Z k1 k2 n sh I pc L St := by
  subst h1
  subst h2
  subst hst
  intro ok p e s m args below meth c A adr0 n0 bx C H locs adr ls ha hP hD hS hl
  obtain ⟨so1, so2⟩ := tb_so_take ok.2.2
  have hts := C.2.2.2.2.2.2.2.2.1
  have hG : ∀ w ∈ va_wsS y.1.cls idx y'.1 (tb_wh y'), w ∈ tb_W := by
    intro w hw
    rcases List.mem_append.mp hw with h | h
    · rcases List.mem_cons.mp h with rfl | h
      · exact hl1
      · rcases List.mem_cons.mp h with rfl | h
        · exact hl2
        · rcases List.mem_cons.mp h with rfl | h
          · exact hl4
          · cases h
    · rcases List.mem_cons.mp h with rfl | h
      · exact hl3
      · exact h
  have hstk : (as.reverse ++ S).map (tb_rn adr) = (as.map (tb_rn adr)).reverse ++ S.map (tb_rn adr) := by
    rw [List.map_append, List.map_reverse]
  rw [hstk]
  exact tb_back C ha hD hS hl ok.2.1 so2
    (vx_runSX (hh := y'.2.2.2.2) (As := as.map (tb_rn adr)) (rest := S.map (tb_rn adr)) (Ts := tb_W) (own := y.1.cls) (cc := y.2.1) (nL := y.2.2.1) ⟨C.1, C.2.1, C.2.2.1, C.2.2.2.2.2.1, hts⟩ (hM so1 ok.1 adr H.size) (vx_cwSW nA hts (tb_gI hG) rfl rfl rfl hl5 hR)
      ⟨tb_blind, tb_pre C hP hD hS as⟩ rfl (by rw [List.length_map]; exact hna) hl.1 rfl (lv_room (by rw [tb_cats]; exact hcat)) hd ⟨hce, hsl⟩) kk kx
theorem tb_vxRun {p : Program} {e : Env} {s : State} {m : MethodId} {args : Array Value} {below : List Frame} {meth : Method} {c : Code} {H : Heap} {locs : List Loc} {cells slots mc ms : Nat} {g : JFrame} {rest : List Value} {Qa : State → Outcome → State → Prop} {XC : String → State → State → Prop} {free : Addr → Prop} (h : va_Run p l e R s m args below meth c H locs cells slots mc ms g rest Qa free) : vx_Run p l e R s m args below meth c H locs cells slots mc ms g rest Qa XC free := fun T hT X => Or.inl (h T hT X)
theorem tb_noX {A : Nat → Prop} {adr : Nat → Nat} : ∀ E a b, ¬ tb_XC G tb_Nx A adr n E a b := fun E a b h => by
  obtain ⟨_, _, _, _, hx, -⟩ := h
  exact hx
theorem tb_callI {idx nA d mc ms m1 m2 c9 : Nat} {y' : tb_Mt} {as St : List Value} {Q' : tb_Q} (hM : tb_Ok l G y' d mc ms (.ref c9 :: as) n sh I Q' tb_Nx) (hv : tb_IL y.1.cls idx y' nA) (hd : decode y.2.1 pc = .ok (.invokespecial idx, 3)) (hna : as.length = nA) (hst : St = as.reverse ++ .ref c9 :: S)
    (hcat : (S.map fun v => v.category).sum ≤ 8) (hR : d + 1 ≤ R.frames ∧ 8 + (y'.2.2.1 + 11) + 40 * d ≤ R.locals) (h1 : k1 + mc = m1) (h2 : k2 + ms = m2) (hce : m1 ≤ R.cells) (hsl : m2 ≤ R.slots)
    (kk : ∀ (r : Option Value) (n' : Nat) (sh' : Nat → tb_Sh) (I' : tb_I), Q' r n' sh' I' → tb_At l G y R xt Z m1 m2 n' sh' I' (pc + 3) L (r.toList ++ S)) : tb_At l G y R xt Z k1 k2 n sh I pc L St := by
  subst h1
  subst h2
  subst hst
  intro ok p e s m args below meth c A adr0 n0 bx C H locs adr ls ha hP hD hS hl
  obtain ⟨so1, so2⟩ := tb_so_take (S := .ref c9 :: S) ok.2.2
  obtain ⟨hl1, hl2, hnm, hret, hCD⟩ := hv
  have hts := C.2.2.2.2.2.2.2.2.1
  have hstk : (as.reverse ++ .ref c9 :: S).map (tb_rn adr) = (as.map (tb_rn adr)).reverse ++ .ref (adr c9) :: S.map (tb_rn adr) := by
    rw [List.map_append, List.map_reverse]
    rfl
  have hso : tb_so n (.ref c9 :: as) := .cons so2.head so1
  have hcb := tb_callB (R := R) (mc := mc) (ms := ms) hts hl1 hCD hR
  rw [hret] at hcb
  rw [hstk]
  exact tb_back (X' := tb_Nx) C ha hD hS hl ok.2.1 so2.tail
    (tb_vxRun (va_runI (As := as.map (tb_rn adr)) (rest := S.map (tb_rn adr)) (Ts := tb_W) (own := y.1.cls) (cc := y.2.1) (nL := y.2.2.1) ⟨C.1, C.2.1, C.2.2.1, C.2.2.2.2.2.1, hts⟩ (tb_Met (hM hso ok.1 adr H.size) tb_noX) ⟨hcb, hnm, hts _ hl2⟩
      ⟨tb_blind, tb_pre C hP hD hS (.ref c9 :: as)⟩ rfl (by rw [List.length_map]; exact hna) hl.1 rfl (lv_room (by rw [tb_cats]; exact hcat)) hd ⟨hce, hsl⟩)) kk (fun _ _ _ _ h => h.elim)
/-- the constructor of a nest mate (Symbols) -/
theorem tb_callIN {idx nA d mc ms m1 m2 c9 : Nat} {y' : tb_Mt} {as St : List Value} {Q' : tb_Q} {host : String} (hM : tb_Ok l G y' d mc ms (.ref c9 :: as) n sh I Q' tb_Nx) (hnest : ∀ (A : Nat → Prop) (s : State), tb_EX A s s.heap → va_Nw (.methodLinkNest y.1.cls idx y'.1 host) s) (hin : Cond.instanceMethod y'.1 ∈ tb_W) (hnm : y'.1.name = "<init>") (hret : y'.2.2.2.1 = none) (hCD : tb_CD y' nA) (hd : decode y.2.1 pc = .ok (.invokespecial idx, 3)) (hna : as.length = nA) (hst : St = as.reverse ++ .ref c9 :: S)
    (hcat : (S.map fun v => v.category).sum ≤ 8) (hR : d + 1 ≤ R.frames ∧ 8 + (y'.2.2.1 + 11) + 40 * d ≤ R.locals) (h1 : k1 + mc = m1) (h2 : k2 + ms = m2) (hce : m1 ≤ R.cells) (hsl : m2 ≤ R.slots)
    (kk : ∀ (r : Option Value) (n' : Nat) (sh' : Nat → tb_Sh) (I' : tb_I), Q' r n' sh' I' → tb_At l G y R xt Z m1 m2 n' sh' I' (pc + 3) L (r.toList ++ S)) : tb_At l G y R xt Z k1 k2 n sh I pc L St := by
  subst h1
  subst h2
  subst hst
  intro ok p e s m args below meth c A adr0 n0 bx C H locs adr ls ha hP hD hS hl
  obtain ⟨so1, so2⟩ := tb_so_take (S := .ref c9 :: S) ok.2.2
  have hts := C.2.2.2.2.2.2.2.2.1
  have hstk : (as.reverse ++ .ref c9 :: S).map (tb_rn adr) = (as.map (tb_rn adr)).reverse ++ .ref (adr c9) :: S.map (tb_rn adr) := by
    rw [List.map_append, List.map_reverse]
    rfl
  have hso : tb_so n (.ref c9 :: as) := .cons so2.head so1
  have hw : tb_wy y' = Cond.code y'.1 y'.2.1 y'.2.2.1 none :: tb_W := by rw [tb_wy, hret]
  rw [hstk]
  exact tb_back (X' := tb_Nx) C ha hD hS hl ok.2.1 so2.tail
    (tb_vxRun (va_runIN (As := as.map (tb_rn adr)) (rest := S.map (tb_rn adr)) (Ts := tb_W) (own := y.1.cls) (cc := y.2.1) (nL := y.2.2.1) (host := host) ⟨C.1, C.2.1, C.2.2.1, C.2.2.2.2.2.1, hts⟩ (tb_Met (hM hso ok.1 adr H.size) tb_noX)
      ⟨va_cnB nA hts (tb_gI (tb_wyW hCD)) hw rfl rfl (hnest A s C.2.2.2.2.2.2.2.2.2.2.2.1) (hts _ hCD.2.1) hCD.2.2 hR, hnm, hts _ hin⟩
      ⟨tb_blind, tb_pre C hP hD hS (.ref c9 :: as)⟩ rfl (by rw [List.length_map]; exact hna) hl.1 rfl (lv_room (by rw [tb_cats]; exact hcat)) hd ⟨hce, hsl⟩)) kk (fun _ _ _ _ h => h.elim)
theorem tb_objInit {idx c9 : Nat} (hd : decode y.2.1 pc = .ok (.invokespecial idx, 3)) (hw1 : Cond.methodLink y.1.cls idx Lib.objectInit ∈ tb_W) (hw2 : Cond.instanceMethod Lib.objectInit ∈ tb_W) (hw3 : Cond.code Lib.objectInit ⟨#[0xb1]⟩ 1 none ∈ tb_W) (hfr : 1 ≤ R.frames) (hlo : (S.map fun v => v.category).sum + 12 ≤ R.locals)
    (kk : tb_At l G y R xt Z k1 k2 n sh I (pc + 3) L S) : tb_At l G y R xt Z k1 k2 n sh I pc L (.ref c9 :: S) := by
  intro ok p e s m args below meth c A adr0 n0 bx C H locs adr ls ha hP hD hS hl
  have hts := C.2.2.2.2.2.2.2.2.1
  have h9 := kk ⟨ok.1, ok.2.1, ok.2.2.tail⟩ p e s m args below meth c A adr0 n0 bx C H locs adr ls ha hP hD hS hl
  exact W.objInit C.1 C.2.1 C.2.2.2.2.2.1 (hts _ hw1) (hts _ hw2) (hts _ hw3) rfl (by rw [C.2.2.1]; exact hl.1) rfl hd hfr (by show 2 * 0 + _ + 12 ≤ _; rw [tb_cats]; omega) h9
theorem tb_mmax {idx : Nat} {a b : Int32} (hd : decode y.2.1 pc = .ok (.invokestatic idx, 3)) (hw1 : Cond.methodLink y.1.cls idx Lib.Math.max.name ∈ tb_W) (hw2 : Cond.static Lib.Math.max.name ∈ tb_W) (hw3 : Cond.initialized "java/lang/Math" ∈ tb_W) (hw4 : Cond.code Lib.Math.max.name Lib.Math.max.code 2 (some .int) ∈ tb_W) (hfr : 1 ≤ R.frames) (hlo : (S.map fun v => v.category).sum + 13 ≤ R.locals) (hc : k1 ≤ R.cells) (hs : k2 ≤ R.slots)
    (kk : tb_At l G y R xt Z k1 k2 n sh I (pc + 3) L (.int (if a < b then b else a) :: S)) : tb_At l G y R xt Z k1 k2 n sh I pc L (.int b :: .int a :: S) := by
  intro ok p e s m args below meth c A adr0 n0 bx C H locs adr ls ha hP hD hS hl
  have hts := C.2.2.2.2.2.2.2.2.1
  exact va_mmax C.1 C.2.1 (by rw [C.2.2.1, hl.1]) C.2.2.2.2.2.1 (hts _ hw1) (hts _ hw2) (hts _ hw3) (hts _ hw4) hfr (by rw [tb_cats]; exact hlo) hc hs hd (kk ⟨ok.1, ok.2.1, .cons trivial ok.2.2.tail.tail⟩ p e s m args below meth c A adr0 n0 bx C H locs adr ls ha hP hD hS hl)
theorem tb_mmin {idx : Nat} {a b : Int32} (hd : decode y.2.1 pc = .ok (.invokestatic idx, 3)) (hw1 : Cond.methodLink y.1.cls idx Lib.Math.min.name ∈ tb_W) (hw2 : Cond.static Lib.Math.min.name ∈ tb_W) (hw3 : Cond.initialized "java/lang/Math" ∈ tb_W) (hw4 : Cond.code Lib.Math.min.name Lib.Math.min.code 2 (some .int) ∈ tb_W) (hfr : 1 ≤ R.frames) (hlo : (S.map fun v => v.category).sum + 13 ≤ R.locals) (hc : k1 ≤ R.cells) (hs : k2 ≤ R.slots)
    (kk : tb_At l G y R xt Z k1 k2 n sh I (pc + 3) L (.int (if b < a then b else a) :: S)) : tb_At l G y R xt Z k1 k2 n sh I pc L (.int b :: .int a :: S) := by
  intro ok p e s m args below meth c A adr0 n0 bx C H locs adr ls ha hP hD hS hl
  have hts := C.2.2.2.2.2.2.2.2.1
  exact va_mmin C.1 C.2.1 (by rw [C.2.2.1, hl.1]) C.2.2.2.2.2.1 (hts _ hw1) (hts _ hw2) (hts _ hw3) (hts _ hw4) hfr (by rw [tb_cats]; exact hlo) hc hs hd (kk ⟨ok.1, ok.2.1, .cons trivial ok.2.2.tail.tail⟩ p e s m args below meth c A adr0 n0 bx C H locs adr ls ha hP hD hS hl)
theorem tb_copy {idx c0 c9 n0' n1' sp dp ln : Nat} {rs0 rs1 : List (Option Nat)} {is id9 il : Int32} (hd : decode y.2.1 pc = .ok (.invokestatic idx, 3)) (hw1 : Cond.methodLink y.1.cls idx arraycopyName ∈ tb_W) (hw2 : Cond.native arraycopyName ∈ tb_W) (hw3 : Cond.static arraycopyName ∈ tb_W) (hw4 : Cond.initialized "java/lang/System" ∈ tb_W)
    (hs0 : sh c0 = (100, n0', rs0)) (hs1 : sh c9 = (100, n1', rs1)) (hc0 : c0 ≠ tb_sc) (hc9 : c9 ≠ tb_sc) (h1 : is = nI sp) (h2 : id9 = nI dp) (h3 : il = nI ln) (h4 : sp + ln ≤ n0') (h5 : dp + ln ≤ n1') (hb0 : n0' ≤ 100000) (hb1 : n1' ≤ 100000) (hfr : 1 ≤ R.frames) (hlo : (S.map fun v => v.category).sum + (nativeFrameWords "java/lang/System" "arraycopy" 5 + 11) ≤ R.locals)
    (kk : tb_At l G y R xt Z k1 k2 n sh (tb_row I c9 (va_cpy (I c0) (I c9) sp dp ln)) (pc + 3) L S) : tb_At l G y R xt Z k1 k2 n sh I pc L (.int il :: .int id9 :: .ref c9 :: .int is :: .ref c0 :: S) := by
  subst h1
  subst h2
  subst h3
  intro ok p e s m args below meth c A adr0 n0 bx C H locs adr ls ha hP hD hS hl
  have hts := C.2.2.2.2.2.2.2.2.1
  have hcn9 : c9 < n := ok.2.2.tail.tail.head.resolve_right hc9
  have hcn0 : c0 < n := ok.2.2.tail.tail.tail.tail.head.resolve_right hc0
  have he0 : (tb_ws G adr n sh I)[c0]? = some (adr c0, .inl (G.2.1, n0', .inl (I c0))) := by rw [tb_ws_at hcn0, hs0]; rfl
  have he9 : (tb_ws G adr n sh I)[c9]? = some (adr c9, .inl (G.2.1, n1', .inl (I c9))) := by rw [tb_ws_at hcn9, hs1]; rfl
  have e1 : (nI sp).toNatClampNeg = sp := nI_clamp (by omega)
  have e2 : (nI dp).toNatClampNeg = dp := nI_clamp (by omega)
  have e3 : (nI ln).toNatClampNeg = ln := nI_clamp (by omega)
  refine va_copyi (D := G.1) C.1 C.2.1 (by rw [C.2.2.1, hl.1]) C.2.2.2.2.2.1 (hts _ hw1) (hts _ hw2) (hts _ hw3) (hts _ hw4) C.2.2.2.2.2.2.2.2.2.2.1 hP hD hS c0 c9 0 0 he0 he9 (ty := .int) rfl rfl rfl (nI_pos (by omega)) (nI_pos (by omega)) (nI_pos (by omega)) (by rw [e1, e3]; exact h4) (by rw [e2, e3]; exact h5) (fun _ _ => rfl) hfr (by rw [tb_cats]; exact hlo) hd (fun H1 locs1 hP1 hD1 hS1 => ?_)
  have ew : (tb_ws G adr n sh I).set c9 (adr c9, .inl (G.2.1, n1', .inl (va_cpy (I c0) (I c9) sp dp ln))) = tb_ws G adr n sh (tb_row I c9 (va_cpy (I c0) (I c9) sp dp ln)) := by
    have e4 : (Sum.inl (G.2.1, n1', .inl (va_cpy (I c0) (I c9) sp dp ln)) : va_E) = tb_en G adr (sh c9) (va_cpy (I c0) (I c9) sp dp ln) := by rw [hs1]; rfl
    rw [e4]
    exact tb_ws_row _
  rw [e1, e2, e3, ew] at hP1 hD1
  exact kk ⟨ok.1, ok.2.1, ok.2.2.tail.tail.tail.tail.tail⟩ p e s m args below meth c A adr0 n0 bx C H1 locs1 adr ls ha hP1 hD1 hS1 hl
/-! ends -/
section Ends
variable {Q : tb_Q} {X : tb_X} {mc ms : Nat}
theorem tb_iret {x : Int32} {ty : FieldType} (hd : decode y.2.1 pc = .ok (.ireturn, 1)) (hr : y.2.2.2.1 = some ty) (hn : narrow ty (.int x) = .int x) (hc : k1 ≤ mc) (hs : k2 ≤ ms) (hq : Q (some (.int x)) n sh I) :
    tb_At l G y R xt (tb_ZM G mc ms Q X) k1 k2 n sh I pc L [.int x] := by
  intro ok p e s m args below meth c A adr0 n0 bx C H locs adr ls ha hP hD hS hl
  refine vx_ret (W.widen hc hs ?_)
  exact W.zret (ty := ty) C.1 C.2.1 (C.2.2.2.1.trans hr) hn (fun t ht hW => ⟨some (.int x), n, sh, I, adr, rfl, hq, fun v hv => by cases hv; trivial, ⟨ha.1, ha.2.1, ha.2.2.1, by rw [ht]; exact hP, hD, va_K.moved hW.alike C.2.2.2.2.2.2.2.2.2.2.1, ok.1⟩, hS.F ht⟩) hS.2.2 hd C.2.2.2.2.1
theorem tb_vret (hd : decode y.2.1 pc = .ok (.return_, 1)) (hr : y.2.2.2.1 = none) (hc : k1 ≤ mc) (hs : k2 ≤ ms) (hq : Q none n sh I) :
    tb_At l G y R xt (tb_ZM G mc ms Q X) k1 k2 n sh I pc L [] := by
  intro ok p e s m args below meth c A adr0 n0 bx C H locs adr ls ha hP hD hS hl
  refine vx_ret (W.widen hc hs ?_)
  exact W.vret C.1 C.2.1 (C.2.2.2.1.trans hr) (fun t ht hW => ⟨none, n, sh, I, adr, rfl, hq, fun v hv => (by cases hv), ⟨ha.1, ha.2.1, ha.2.2.1, by rw [ht]; exact hP, hD, va_K.moved hW.alike C.2.2.2.2.2.2.2.2.2.2.1, ok.1⟩, hS.F ht⟩) hS.2.2 hd C.2.2.2.2.1
theorem tb_aret {r : Nat} {rt : FieldType} (hd : decode y.2.1 pc = .ok (.areturn, 1)) (hr : y.2.2.2.1 = some rt) (hrt : (∃ n, rt = .object n) ∨ ∃ t, rt = .array t) (hc : k1 ≤ mc) (hs : k2 ≤ ms) (hq : Q (some (.ref r)) n sh I) :
    tb_At l G y R xt (tb_ZM G mc ms Q X) k1 k2 n sh I pc L [.ref r] := by
  intro ok p e s m args below meth c A adr0 n0 bx C H locs adr ls ha hP hD hS hl
  refine vx_ret (W.widen hc hs ?_)
  exact W.aret (v := .ref (adr r)) C.1 C.2.1 (C.2.2.2.1.trans hr) hrt (Or.inr ⟨_, rfl⟩) (fun t ht hW => ⟨some (.ref r), n, sh, I, adr, rfl, hq, fun v hv => by cases hv; exact ok.2.2.head, ⟨ha.1, ha.2.1, ha.2.2.1, by rw [ht]; exact hP, hD, va_K.moved hW.alike C.2.2.2.2.2.2.2.2.2.2.1, ok.1⟩, hS.F ht⟩) hS.2.2 hd C.2.2.2.2.1
/-- not caught here -/
theorem tb_out {E : String} (hh : y.2.2.2.2 = []) (hc : k1 ≤ mc) (hs : k2 ≤ ms) (hx : X E n sh I) : tb_Ax l G y R xt (tb_ZM G mc ms Q X) k1 k2 n sh I pc L S E := by
  intro ok p e s m args below meth c A adr0 n0 bx C H locs adr ls ha hP hD hS hl
  intro ce q9 hce hcv hcl
  refine vx_out (fun x hx => ?_) C.2.2.2.2.1 hce hcv hcl (fun t ht hW => ⟨n, sh, I, adr, hx, ⟨ha.1, ha.2.1, ha.2.2.1, by rw [ht]; exact hP, hD, va_K.moved hW C.2.2.2.2.2.2.2.2.2.2.1, ok.1⟩, hS.F ht⟩) hS.2.2 hc hs
  rw [C.2.2.2.2.2.2.2.1, hh] at hx
  cases hx
/-- 'throw new E("text")' -/
def tb_B : List Cond := tb_casts.map (fun q => Cond.castable q.1 q.2) ++ tb_decls.map (fun x => Cond.declares x)
theorem tb_B_at {A : Nat → Prop} {s : State} {H : Heap} {args : Array Value} (h : tb_EX A s H) : ∀ w ∈ tb_B, w.before args s = true := by
  intro w hw
  rcases List.mem_append.mp hw with h1 | h1
  · obtain ⟨q, hq, rfl⟩ := List.mem_map.mp h1
    exact va_Nw.use rfl (h.2.2.2.1 q hq)
  · obtain ⟨q, hq, rfl⟩ := List.mem_map.mp h1
    exact va_Nw.use rfl (h.2.2.2.2.2.1 q hq)
def tb_TH (own : String) (ik ic : Nat) (cls : String) (names : List String) : Prop := Bundle.fit cls = true ∧ (∀ n ∈ names, Bundle.fit n = true) ∧ Cond.classLink own ik cls ∈ tb_W ∧ Cond.initialized cls ∈ tb_W ∧ (∀ w ∈ (vx_atS own ic cls names).filter goodWord, w ∈ tb_W) ∧ (∀ w ∈ (vx_atS own ic cls names).filter (fun w => !goodWord w), w ∈ tb_B) ∧ (∀ w ∈ Cond.classLink own ik cls :: Cond.initialized cls :: vx_atS own ic cls names, vx_ot w = true)
theorem tb_throw {cls text : String} {names : List String} {ik is ic : Nat} (ht : tb_TH y.1.cls ik ic cls names) (hstr : (y.1.cls, is, text) ∈ tb_strs) (hh : y.2.2.2.2 = [])
    (d0 : decode y.2.1 pc = .ok (.new ik, 3)) (d3 : decode y.2.1 (pc + 3) = .ok (.dup, 1)) (d4 : decode y.2.1 (pc + 4) = .ok (.ldc is, 2)) (d6 : decode y.2.1 (pc + 6) = .ok (.invokespecial ic, 3)) (d9 : decode y.2.1 (pc + 9) = .ok (.athrow, 1))
    (hRf : names.length + 3 < R.frames) (hRl : (S.map fun v => v.category).sum + (13 * (names.length + 1) + 43) ≤ R.locals) (hRc : k1 + 1 ≤ R.cells) (hRs : k2 + 6 ≤ R.slots) (hc : k1 + 1 ≤ mc) (hs : k2 + 6 ≤ ms) (hx : X cls n sh I) :
    tb_At l G y R xt (tb_ZM G mc ms Q X) k1 k2 n sh I pc L S := by
  intro ok p e s m args below meth c A adr0 n0 bx C H locs adr ls ha hP hD hS hl
  obtain ⟨t1, t2, t3, t4, t5, t6, t7⟩ := ht
  have hts := C.2.2.2.2.2.2.2.2.1
  have hE := C.2.2.2.2.2.2.2.2.2.2.2.1
  obtain ⟨sa, hsa⟩ := hE.2.2.1 _ hstr
  refine vx_throwS (cc := y.2.1) C.1 C.2.1 C.2.2.2.2.2.2.2.2.2.2.2.2.1 C.2.2.2.2.2.1 t1 t2 (hts _ t3) (hts _ t4) hsa (vx_hat (fun w hw => hts w (t5 w hw)) t6 (tb_B_at hE)) t7 hE.1 hE.2.1 hS (by rw [C.2.2.1]; exact hl.1) d0 d3 d4 d6 d9 (fun x hx => ?_) hRf (by rw [tb_cats]; exact hRl) hRc hRs C.2.2.2.2.1 (fun t hvm hz hk => ?_) hS.2.2 hc hs
  · rw [C.2.2.2.2.2.2.2.1, hh] at hx
    cases hx
  · refine ⟨n, sh, I, adr, hx, ⟨ha.1, ha.2.1, ha.2.2.1, ?_, hD, va_K.moved hvm C.2.2.2.2.2.2.2.2.2.2.1, ok.1⟩, ?_, ?_⟩
    · exact hP.kept (fun k q hq => hk q.1 ((hP k q hq).lt))
    · exact Nat.le_trans hS.1 hz
    · intro q hq hA
      rw [hk q (Nat.lt_of_lt_of_le hq hS.1)]
      exact hS.2.1 q hq hA
theorem tb_throwW {cls text : String} {names : List String} {ik is ic : Nat} (ht : tb_TH y.1.cls ik ic cls names) (hstr : (y.1.cls, is, text) ∈ tb_strs) (hh : y.2.2.2.2 = [])
    (d0 : decode y.2.1 pc = .ok (.new ik, 3)) (d3 : decode y.2.1 (pc + 3) = .ok (.dup, 1)) (d4 : decode y.2.1 (pc + 4) = .ok (.ldc_w is, 3)) (d7 : decode y.2.1 (pc + 7) = .ok (.invokespecial ic, 3)) (d10 : decode y.2.1 (pc + 10) = .ok (.athrow, 1))
    (hRf : names.length + 3 < R.frames) (hRl : (S.map fun v => v.category).sum + (13 * (names.length + 1) + 43) ≤ R.locals) (hRc : k1 + 1 ≤ R.cells) (hRs : k2 + 6 ≤ R.slots) (hc : k1 + 1 ≤ mc) (hs : k2 + 6 ≤ ms) (hx : X cls n sh I) :
    tb_At l G y R xt (tb_ZM G mc ms Q X) k1 k2 n sh I pc L S := by
  intro ok p e s m args below meth c A adr0 n0 bx C H locs adr ls ha hP hD hS hl
  obtain ⟨t1, t2, t3, t4, t5, t6, t7⟩ := ht
  have hts := C.2.2.2.2.2.2.2.2.1
  have hE := C.2.2.2.2.2.2.2.2.2.2.2.1
  obtain ⟨sa, hsa⟩ := hE.2.2.1 _ hstr
  refine vx_throwSW (cc := y.2.1) C.1 C.2.1 C.2.2.2.2.2.2.2.2.2.2.2.2.1 C.2.2.2.2.2.1 t1 t2 (hts _ t3) (hts _ t4) hsa (vx_hat (fun w hw => hts w (t5 w hw)) t6 (tb_B_at hE)) t7 hE.1 hE.2.1 hS (by rw [C.2.2.1]; exact hl.1) d0 d3 d4 d7 d10 (fun x hx => ?_) hRf (by rw [tb_cats]; exact hRl) hRc hRs C.2.2.2.2.1 (fun t hvm hz hk => ?_) hS.2.2 hc hs
  · rw [C.2.2.2.2.2.2.2.1, hh] at hx
    cases hx
  · refine ⟨n, sh, I, adr, hx, ⟨ha.1, ha.2.1, ha.2.2.1, ?_, hD, va_K.moved hvm C.2.2.2.2.2.2.2.2.2.2.1, ok.1⟩, ?_, ?_⟩
    · exact hP.kept (fun k q hq => hk q.1 ((hP k q hq).lt))
    · exact Nat.le_trans hS.1 hz
    · intro q hq hA
      rw [hk q (Nat.lt_of_lt_of_le hq hS.1)]
      exact hS.2.1 q hq hA
end Ends
/-- caught by a row of the table, whose handler begins with a store of the thing -/
theorem tb_catch {E name : String} {i : Nat} {q : Fin 4} (pre : List ExceptionTableEntry) (x : ExceptionTableEntry) (suf : List ExceptionTableEntry) (hsplit : tableOf y.2.2.2.2 = pre ++ x :: suf) (hpass : ∀ z ∈ pre, covers z pc = false ∨ (z.catchType ≠ 0 ∧ ∃ nm : String, Cond.classLink y.1.cls z.catchType nm ∈ tb_W ∧ (E, nm) ∈ tb_nocs)) (hx : covers x pc = true) (h0 : x.catchType ≠ 0)
    (hlink : Cond.classLink y.1.cls x.catchType name ∈ tb_W) (hcast : (E, name) ∈ tb_casts) (hd : decode y.2.1 x.handlerPc = .ok (.astore_n q, 1)) (hq : (q : Nat) = i) (hi : i < y.2.2.1)
    (kk : tb_At l G y R xt Z k1 k2 n sh I (x.handlerPc + 1) (L.set i none) []) : tb_Ax l G y R xt Z k1 k2 n sh I pc L S E := by
  intro ok p e s m args below meth c A adr0 n0 bx C H locs adr ls ha hP hD hS hl
  intro ce q9 hce hcv hcl
  have hts := C.2.2.2.2.2.2.2.2.1
  have hE := C.2.2.2.2.2.2.2.2.2.2.2.1
  refine vx_catch C.2.2.2.2.2.1 pre x suf (by rw [C.2.2.2.2.2.2.2.1]; exact hsplit) (fun z hz => ?_) hx h0 (hts _ hlink) (va_Nw.use rfl (hE.2.2.2.1 _ hcast)) hce hcv hcl ?_
  · rcases hpass z hz with h | ⟨h1, nm, h2, h3⟩
    · exact Or.inl h
    · exact Or.inr ⟨h1, nm, hts _ h2, hE.2.2.2.2.1 _ h3⟩
  · refine lv_astore_n C.1 C.2.1 hd hq hl.has hi rfl (fun ls' h' => ?_)
    refine kk ⟨ok.1, fun v hv => ?_, fun v hv => nomatch hv⟩ p e s m args below meth c A adr0 n0 bx C H locs adr ls' ha hP hD hS ?_
    · rcases List.mem_or_eq_of_mem_set hv with h | h
      · exact ok.2.1 v h
      · cases h
    · refine ⟨h'.1, h'.2.1, by rw [List.length_set]; exact hl.2.2.1, fun j w hj => ?_⟩
      by_cases hij : j = i
      · subst hij
        rw [List.getElem?_set_self (by rw [hl.2.2.1]; exact hi)] at hj
        cases hj
      · rw [List.getElem?_set_ne (Ne.symm hij)] at hj
        refine h'.2.2 (j, tb_rn adr w) (List.mem_cons_of_mem _ (List.mem_filter.mpr ⟨?_, ?_⟩))
        · exact List.mem_filterMap.mpr ⟨(some w, j), List.mem_zipIdx_iff_getElem?.mpr hj, rfl⟩
        · have : w.category = 1 := (ok.2.1 w (List.mem_of_getElem? hj)).2
          simp [hij, tb_cat, this]
end TBC
/-- a contract of a method with handlers -/
theorem tb_Okw.of {l : Launch} {G : tb_G} {y : tb_Mt} {d mc ms : Nat} {as : List Value} {n : Nat} {sh : Nat → tb_Sh} {I : tb_I} {Q : tb_Q} {X : tb_X} (hl : l.stackTraces = false) (hy : plainName y.1.cls = true) (hc : ∀ v ∈ as, v.category = 1) (hn : as.length ≤ y.2.2.1)
    (h : tb_At l G y (tb_rm d mc ms) none (tb_ZM G mc ms Q X) 0 0 n sh I 0 (tb_L0 as y.2.2.1) []) : tb_Okw l G y (tb_wh y) d mc ms as n sh I Q X := by
  intro hs hcl adr sz
  refine vx_ofWH (cc := y.2.1) (maxL := y.2.2.1) (ret := y.2.2.2.1) (hh := y.2.2.2.2) hy rfl ?_
  intro p e s m args below meth c s₁ B hml hv
  obtain ⟨rfl, hsz, hP, hK, hD0, hE⟩ := hv
  have hts := atoms_spec (ws := tb_wh y) B.pre
  have hown : s.vm.findClass y.1.cls = some m.cls := findClass_of_methodNamed B.named
  subst hsz
  have hS : va_S (va_A (tb_ws G adr n sh I) s.heap.size) s.heap s.heap [] := va_S.rf
  have htab : c.exceptionTable.toList = tableOf y.2.2.2.2 := vx_table (x := y.1) B (hts _ List.mem_cons_self)
  rw [lg_entry_eq]
  exact h ⟨hcl, tb_lo0 hc hs, fun _ h9 => nomatch h9⟩ p e s m _ below meth c (va_A (tb_ws G adr n sh I) s.heap.size) adr n (adr tb_sc)
    ⟨B.exec, B.bytes, hml, B.returns, B.notSynchronized, hown, (name_of_methodNamed B.named B.method).1, htab, fun w hw => hts w (List.mem_cons_of_mem _ hw), fun q hq => Or.inr hq, hK, hE, hl, trivial⟩
    s.heap [] adr _ ⟨fun _ _ => rfl, rfl, Nat.le_refl _, rfl⟩ hP hD0.self hS (tb_entry hc hn)
