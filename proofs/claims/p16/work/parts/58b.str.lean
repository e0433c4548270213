/-! ===== texts and tables that lie outside the world ===== -/
/-- an end that is owed only where P holds of what tb_sc stands for -/
def ZP (P : (Nat → Prop) → State → Nat → Prop) (Z : tb_CT → State → Prop) : tb_CT → State → Prop := fun K t => P K.2.2.2.1 K.1 (K.2.2.2.2.1 tb_sc) → Z K t
def PGo (P : (Nat → Prop) → State → Nat → Prop) : Prop := ∀ (A B : Nat → Prop) (s U : State) (b : Nat), P A s b → s.WarmedH U.vm → (∀ a : Nat, a < s.heap.size → ¬ A a → U.heap[a]? = s.heap[a]?) → (∀ q, B q → A q) → P B U b
/-- a text with these bytes; a row of bytes; anything -/
def PS (bs : List Int32) : (Nat → Prop) → State → Nat → Prop := fun A U b => ∃ v : Nat, vk_S 1 [bs.length] [bs] (fun _ => b) (fun _ => v) A U U.heap
def PB (bs : List Int32) : (Nat → Prop) → State → Nat → Prop := fun A U b => va_T .byte b bs.length (fun j => .int (bs.getD j 0)) A U U.heap
def PA : (Nat → Prop) → State → Nat → Prop := fun _ _ _ => True
theorem PS.go (bs : List Int32) : PGo (PS bs) := fun _ _ _ _ _ h hW hk hAB => by
  obtain ⟨v, h⟩ := h
  exact ⟨v, ((h.kept hk).moved hW.alike).narrow hAB⟩
theorem PB.go (bs : List Int32) : PGo (PB bs) := fun _ _ _ _ _ h hW hk hAB => ((va_T.kept h hk).moved hW.alike).narrow hAB
theorem PA.go : PGo PA := fun _ _ _ _ _ _ _ _ _ => trivial
theorem PS.T {bs : List Int32} {A : Nat → Prop} {U : State} {b : Nat} (h : PS bs A U b) : ∃ v : Nat, va_O "java/lang/String" b A U U.heap ∧ va_OF "java/lang/String" "coder" "B" (.int 0) b A U U.heap ∧ va_OF "java/lang/String" "value" "[B" (.ref v) b A U U.heap ∧ PB bs A U v := by
  obtain ⟨v, h⟩ := h
  obtain ⟨h1, h2, h3, h4⟩ := h.1 0 (by decide)
  exact ⟨v, h1, h2, h3, h4⟩
def tb_OkP (P : (Nat → Prop) → State → Nat → Prop) (l : Launch) (G : tb_G) (y : tb_Mt) (d mc ms : Nat) (as : List Value) (n : Nat) (sh : Nat → tb_Sh) (I : tb_I) (Q : tb_Q) (X : tb_X) : Prop :=
  tb_so n as → tb_cl n sh → ∀ (adr : Nat → Nat) (sz : Nat), vx_Met l y.1 (tb_wy y) (tb_rm d mc ms) (va_Pc (as.map (tb_rn adr)) (fun U => tb_Pr G adr sz n sh I U ∧ P (va_A (tb_ws G adr n sh I) sz) U (adr tb_sc))) (tb_Qc G Q (va_A (tb_ws G adr n sh I) sz) adr n) (tb_XC G X (va_A (tb_ws G adr n sh I) sz) adr n) mc ms (va_A (tb_ws G adr n sh I) sz)
theorem tb_OkP.of {P : (Nat → Prop) → State → Nat → Prop} {l : Launch} {G : tb_G} {y : tb_Mt} {d mc ms : Nat} {as : List Value} {n : Nat} {sh : Nat → tb_Sh} {I : tb_I} {Q : tb_Q} {X : tb_X} (hl : l.stackTraces = false) (hy : plainName y.1.cls = true) (hh : y.2.2.2.2 = []) (hc : ∀ v ∈ as, v.category = 1) (hn : as.length ≤ y.2.2.1)
    (h : tb_At l G y (tb_rm d mc ms) none (ZP P (tb_ZM G mc ms Q X)) 0 0 n sh I 0 (tb_L0 as y.2.2.1) []) : tb_OkP P l G y d mc ms as n sh I Q X := by
  intro hs hcl adr sz
  refine vx_ofW (cc := y.2.1) (maxL := y.2.2.1) (ret := y.2.2.2.1) hy rfl ?_
  intro p e s m args below meth c s₁ B hml ht hv
  obtain ⟨rfl, ⟨hsz, hP, hK, hD0, hE⟩, hPP⟩ := hv
  have hts := atoms_spec (ws := tb_wy y) B.pre
  have hown : s.vm.findClass y.1.cls = some m.cls := findClass_of_methodNamed B.named
  subst hsz
  have hS : va_S (va_A (tb_ws G adr n sh I) s.heap.size) s.heap s.heap [] := va_S.rf
  have htab : c.exceptionTable.toList = tableOf y.2.2.2.2 := by
    rw [hh]
    cases e9 : c.exceptionTable.toList with
    | nil => rfl
    | cons x xs => exact (ht x (by rw [e9]; exact List.mem_cons_self)).elim
  rw [lg_entry_eq]
  have h9 := h ⟨hcl, tb_lo0 hc hs, fun _ h9 => nomatch h9⟩ p e s m _ below meth c (va_A (tb_ws G adr n sh I) s.heap.size) adr n (adr tb_sc)
    ⟨B.exec, B.bytes, hml, B.returns, B.notSynchronized, hown, (name_of_methodNamed B.named B.method).1, htab, fun w hw => hts w (List.mem_cons_of_mem _ hw), fun q hq => Or.inr hq, hK, hE, hl, trivial⟩
    s.heap [] adr _ ⟨fun _ _ => rfl, rfl, Nat.le_refl _, rfl⟩ hP hD0.self hS (tb_entry hc hn)
  intro T hT X
  obtain ⟨t, a1, b1⟩ := h9 T hT X
  exact ⟨t, a1, b1 hPP⟩
theorem tb_blindP {P : (Nat → Prop) → State → Nat → Prop} (hgo : PGo P) {G : tb_G} {adr : Nat → Nat} {sz n b : Nat} {sh : Nat → tb_Sh} {I : tb_I} {av : List Value} {A : Nat → Prop} : FrameBlind (va_Pc av (fun U => tb_Pr G adr sz n sh I U ∧ P A U b)) := by
  intro a U g mk h
  obtain ⟨h1, ⟨h2, h3, h4, h5, h6⟩, h7⟩ := h
  exact ⟨h1, ⟨h2, h3, va_K.moved (u := U) (U := U.calling g mk a) (Vm.Alike.refl U.vm) h4, h5, h6.go (U := U.calling g mk a) (State.WarmedH.refl U) (fun _ _ _ => rfl) (fun _ h => h)⟩, hgo A A U (U.calling g mk a) b h7 (State.WarmedH.refl U) (fun _ _ _ => rfl) (fun _ h => h)⟩
theorem tb_ad_sc {adr : Nat → Nat} {v : Nat} : tb_ad adr tb_sc v tb_sc = v := by simp [tb_ad]
theorem tb_ad_lt {adr : Nat → Nat} {n v k : Nat} (hn : n ≤ tb_sc) (hk : k < n) : tb_ad adr tb_sc v k = adr k := by
  have : ¬ k = tb_sc := by omega
  simp [tb_ad, this]
section TBF
variable {l : Launch} {G : tb_G} {y : tb_Mt} {R : Room} {xt : Option (Nat × (Nat → Int32))} {Z : tb_CT → State → Prop} {k1 k2 n : Nat} {sh : Nat → tb_Sh} {I : tb_I} {pc : Nat} {L : List (Option Value)} {S : List Value}
/-- what a callee that ran with another tb_sc says, said of ours -/
theorem tb_runF {p : Program} {e : Env} {s : State} {m : MethodId} {args : Array Value} {below : List Frame} {meth : Method} {c : Code} {A : Nat → Prop} {H : Heap} {locs : List Loc} {adr : Nat → Nat} {g : JFrame} {rest : List Value} {Q' : tb_Q} {X' : tb_X} {mc ms v : Nat} {a : Array Value} {free : Addr → Prop}
    (hr : vx_Run p l e R s m args below meth c H locs k1 k2 mc ms g rest (tb_Qc G Q' A (tb_ad adr tb_sc v) n a) (tb_XC G X' A (tb_ad adr tb_sc v) n) free) (hn : n ≤ tb_sc) (hQ : ∀ r n' sh' I', Q' r n' sh' I' → n' ≤ tb_sc ∧ ∀ q, ¬ r = some (.ref q)) (hX : ∀ E n' sh' I', ¬ X' E n' sh' I') :
    vx_Run p l e R s m args below meth c H locs k1 k2 mc ms g rest (tb_Qc G Q' A adr n a) (tb_XC G X' A adr n) free := by
  intro T hT X
  rcases hr T hT X with ⟨v9, st₀, t, T', L', h0, X9, hL, e1, e2, ⟨r, n', sh', I', adr', ho, hq, hvk, ⟨w1, w2, w3, w4, w5, w6, w7⟩, hF⟩, st⟩ | ⟨q, st₀, t, T', L', E, ce, h0, X9, hL, e1, e2, ⟨n', sh', I', adr', hx, -⟩, -⟩
  · refine Or.inl ⟨v9, st₀, t, T', L', h0, X9, hL, e1, e2, ⟨r, n', sh', I', tb_ad adr' tb_sc (adr tb_sc), ?_, hq, hvk, ⟨fun k hk => ?_, tb_ad_sc, w3, ?_, ?_, w6, w7⟩, hF⟩, st⟩
    · rw [ho]
      cases r with
      | none => rfl
      | some w =>
        cases w with
        | ref q => exact absurd rfl ((hQ _ _ _ _ hq).2 q)
        | _ => rfl
    · rw [tb_ad_lt hn hk, w1 k hk, tb_ad_lt hn hk]
    · rw [tb_ws_ad w7 (fun k hk => tb_ad_lt (hQ _ _ _ _ hq).1 hk)]
      exact w4
    · rw [tb_ws_ad w7 (fun k hk => tb_ad_lt (hQ _ _ _ _ hq).1 hk)]
      exact w5
  · exact absurd hx (hX _ _ _ _)
theorem tb_preF {P : (Nat → Prop) → State → Nat → Prop} (hgo : PGo P) {p : Program} {e : Env} {s : State} {m : MethodId} {args : Array Value} {meth : Method} {c : Code} {A : Nat → Prop} {bx : Nat} (C : tb_Cx l G y R xt p e s m args meth c A bx) {H : Heap} {locs : List Loc} {adr : Nat → Nat} (hP : va_P G.1 vwCl (tb_ws G adr n sh I) H) (hD : va_D A (tb_ws G adr n sh I)) (hS : va_S A s.heap H locs) (as : List Value) {v : Nat} (hcl : tb_cl n sh) (hn : n ≤ tb_sc) (hpv : P A s v) :
    ∀ U : State, U.heap = H → s.WarmedH U.vm → va_Pc (as.map (tb_rn (tb_ad adr tb_sc v))) (fun U => tb_Pr G (tb_ad adr tb_sc v) H.size n sh I U ∧ P (va_A (tb_ws G (tb_ad adr tb_sc v) n sh I) H.size) U (tb_ad adr tb_sc v tb_sc)) (as.map (tb_rn (tb_ad adr tb_sc v))).toArray U := by
  intro U hU hW
  have e1 : tb_ws G (tb_ad adr tb_sc v) n sh I = tb_ws G adr n sh I := tb_ws_ad hcl (fun k hk => tb_ad_lt hn hk)
  obtain ⟨-, a1, a2, a3, a4, a5⟩ := tb_pre C hP hD hS as U hU hW
  refine ⟨rfl, ⟨a1, by rw [e1]; exact a2, a3, by rw [e1]; exact a4, by rw [e1]; exact a5⟩, ?_⟩
  rw [e1, tb_ad_sc]
  exact hgo A _ s U v hpv hW (fun a h1 h2 => by rw [hU]; exact hS.2.1 a h1 h2) (tb_Asub hD hS C.2.2.2.2.2.2.2.2.2.1)
theorem tb_callSF {P : (Nat → Prop) → State → Nat → Prop} (hgo : PGo P) {idx nA d mc ms v : Nat} {y' : tb_Mt} {as : List Value} {Q' : tb_Q} {X' : tb_X} (hM : tb_OkP P l G y' d mc ms as n sh I Q' X') (hv : tb_SL y.1.cls idx y' nA) (hd : decode y.2.1 pc = .ok (.invokestatic idx, 3)) (hna : as.length = nA)
    (hcat : (S.map fun v => v.category).sum ≤ 8) (hR : d + 1 ≤ R.frames ∧ 8 + (y'.2.2.1 + 11) + 40 * d ≤ R.locals) (hce : k1 + mc ≤ R.cells) (hsl : k2 + ms ≤ R.slots) (hnb : n ≤ tb_sc) (hQ : ∀ r n' sh' I', Q' r n' sh' I' → n' ≤ tb_sc ∧ ∀ q, ¬ r = some (.ref q)) (hX : ∀ E n' sh' I', ¬ X' E n' sh' I')
    {p : Program} {e : Env} {s : State} {m : MethodId} {args : Array Value} {below : List Frame} {meth : Method} {c : Code} {A : Nat → Prop} {adr0 : Nat → Nat} {n0 bx : Nat} (C : tb_Cx l G y R xt p e s m args meth c A bx) {H : Heap} {locs : List Loc} {adr : Nat → Nat} {ls : Array Slot}
    (ha : (∀ k, k < n0 → adr k = adr0 k) ∧ adr tb_sc = adr0 tb_sc ∧ n0 ≤ n ∧ adr0 tb_sc = bx) (hP : va_P G.1 vwCl (tb_ws G adr n sh I) H) (hD : va_D A (tb_ws G adr n sh I)) (hS : va_S A s.heap H locs) (hl : tb_LL adr ls y.2.2.1 L) (hcl : tb_cl n sh) (hlo : tb_lo n L) (hso : tb_so n S) (has : tb_so n as) (hpv : P A s v)
    (kk : ∀ (r : Option Value) (n' : Nat) (sh' : Nat → tb_Sh) (I' : tb_I), Q' r n' sh' I' → tb_At l G y R xt Z (k1 + mc) (k2 + ms) n' sh' I' (pc + 3) L (r.toList ++ S)) :
    W p l e R s m args below meth c H locs k1 k2 (Z (s, args, below, A, adr0, n0)) (F0 m pc ls ((as.map (tb_rn (tb_ad adr tb_sc v))).reverse ++ S.map (tb_rn adr))) := by
  obtain ⟨hl1, hl2, hCD⟩ := hv
  have hts := C.2.2.2.2.2.2.2.2.1
  have e1 : tb_ws G (tb_ad adr tb_sc v) n sh I = tb_ws G adr n sh I := tb_ws_ad hcl (fun k hk => tb_ad_lt hnb hk)
  have hrun := vx_runS (e := e) (g := F0 m pc ls ((as.map (tb_rn (tb_ad adr tb_sc v))).reverse ++ S.map (tb_rn adr))) (below := below) (meth := meth) (cells := k1) (slots := k2) (locs := locs) (As := as.map (tb_rn (tb_ad adr tb_sc v))) (rest := S.map (tb_rn adr)) (Ts := tb_W) (own := y.1.cls) (cc := y.2.1) (nL := y.2.2.1) ⟨C.1, C.2.1, C.2.2.1, C.2.2.2.2.2.1, hts⟩ (hM has hcl (tb_ad adr tb_sc v) H.size) ⟨tb_callB hts hl1 hCD hR, hts _ hl2⟩
      ⟨tb_blindP hgo, tb_preF hgo C hP hD hS as hcl hnb hpv⟩ rfl (by rw [List.length_map]; exact hna) hl.1 rfl (lv_room (by rw [tb_cats]; exact hcat)) hd ⟨hce, hsl⟩
  rw [e1] at hrun
  exact tb_back C ha hD hS hl hlo hso (tb_runF hrun hnb hQ hX) kk (fun E n' sh' I' h => absurd h (hX _ _ _ _))
theorem tb_callVF {P : (Nat → Prop) → State → Nat → Prop} (hgo : PGo P) {idx nA d mc ms v c9 ci N : Nat} {rs : List (Option Nat)} {y' : tb_Mt} {as : List Value} {Q' : tb_Q} {X' : tb_X} (hM : tb_OkP P l G y' d mc ms (.ref c9 :: as) n sh I Q' X') (hv : tb_VL y.1.cls idx y' nA ci) (hd : decode y.2.1 pc = .ok (.invokevirtual idx, 3)) (hs : sh c9 = (ci, N, rs)) (hcn : c9 < n) (hna : as.length = nA)
    (hcat : (S.map fun v => v.category).sum ≤ 8) (hR : d + 1 ≤ R.frames ∧ 8 + (y'.2.2.1 + 11) + 40 * d ≤ R.locals) (hce : k1 + mc ≤ R.cells) (hsl : k2 + ms ≤ R.slots) (hnb : n ≤ tb_sc) (hQ : ∀ r n' sh' I', Q' r n' sh' I' → n' ≤ tb_sc ∧ ∀ q, ¬ r = some (.ref q)) (hX : ∀ E n' sh' I', ¬ X' E n' sh' I')
    {p : Program} {e : Env} {s : State} {m : MethodId} {args : Array Value} {below : List Frame} {meth : Method} {c : Code} {A : Nat → Prop} {adr0 : Nat → Nat} {n0 bx : Nat} (C : tb_Cx l G y R xt p e s m args meth c A bx) {H : Heap} {locs : List Loc} {adr : Nat → Nat} {ls : Array Slot}
    (ha : (∀ k, k < n0 → adr k = adr0 k) ∧ adr tb_sc = adr0 tb_sc ∧ n0 ≤ n ∧ adr0 tb_sc = bx) (hP : va_P G.1 vwCl (tb_ws G adr n sh I) H) (hD : va_D A (tb_ws G adr n sh I)) (hS : va_S A s.heap H locs) (hl : tb_LL adr ls y.2.2.1 L) (hcl : tb_cl n sh) (hlo : tb_lo n L) (hso : tb_so n S) (has : tb_so n as) (hpv : P A s v)
    (kk : ∀ (r : Option Value) (n' : Nat) (sh' : Nat → tb_Sh) (I' : tb_I), Q' r n' sh' I' → tb_At l G y R xt Z (k1 + mc) (k2 + ms) n' sh' I' (pc + 3) L (r.toList ++ S)) :
    W p l e R s m args below meth c H locs k1 k2 (Z (s, args, below, A, adr0, n0)) (F0 m pc ls ((as.map (tb_rn (tb_ad adr tb_sc v))).reverse ++ .ref (adr c9) :: S.map (tb_rn adr))) := by
  obtain ⟨hl1, hl2, hl3, hCD, hci, T9, N9, hvc⟩ := hv
  have hts := C.2.2.2.2.2.2.2.2.1
  have e1 : tb_ws G (tb_ad adr tb_sc v) n sh I = tb_ws G adr n sh I := tb_ws_ad hcl (fun k hk => tb_ad_lt hnb hk)
  have e2 : tb_ad adr tb_sc v c9 = adr c9 := tb_ad_lt hnb hcn
  have he : (tb_ws G adr n sh I)[c9]? = some (adr c9, .inr (ci, tb_fs adr ci N rs (I c9))) := by rw [tb_ws_at hcn, hs, tb_en_obj hci]
  have hrun := vx_runV (e := e) (b := tb_ad adr tb_sc v c9) (g := F0 m pc ls ((as.map (tb_rn (tb_ad adr tb_sc v))).reverse ++ .ref (adr c9) :: S.map (tb_rn adr))) (below := below) (meth := meth) (cells := k1) (slots := k2) (locs := locs) (As := as.map (tb_rn (tb_ad adr tb_sc v))) (rest := S.map (tb_rn adr)) (Ts := tb_W) (own := y.1.cls) (cc := y.2.1) (nL := y.2.2.1) ⟨C.1, C.2.1, C.2.2.1, C.2.2.2.2.2.1, hts⟩ (hM (.cons (Or.inl hcn) has) hcl (tb_ad adr tb_sc v) H.size) ⟨tb_callB hts hl1 hCD hR, hts _ hl2, hts _ hl3⟩
      ⟨tb_blindP hgo, by rw [e2]; exact va_recv C.2.2.2.2.2.2.2.2.2.2.1 hP hvc he, tb_preF hgo C hP hD hS (.ref c9 :: as) hcl hnb hpv⟩ rfl (by rw [List.length_map]; exact hna) hl.1 (by rw [e2]) (lv_room (by rw [tb_cats]; exact hcat)) hd ⟨hce, hsl⟩
  rw [e1] at hrun
  exact tb_back C ha hD hS hl hlo hso (tb_runF hrun hnb hQ hX) kk (fun E n' sh' I' h => absurd h (hX _ _ _ _))
end TBF
