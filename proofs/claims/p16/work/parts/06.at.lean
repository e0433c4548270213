/-! ===== the words, what is known of the machine around the world ===== -/
def tb_W : List Cond := lw_tbl.filter goodWord
theorem tb_W_good {w : Cond} (h : w ∈ tb_W) : goodWord w = true := (List.mem_filter.mp h).2
theorem tb_W_in {w : Cond} (h : w ∈ tb_W) : w ∈ lw_tbl := (List.mem_filter.mp h).1
def tb_wy (y : tb_Mt) : List Cond := Cond.code y.1 y.2.1 y.2.2.1 y.2.2.2.1 :: tb_W
def tb_wh (y : tb_Mt) : List Cond := Cond.codeWith y.1 y.2.1 y.2.2.1 y.2.2.2.1 y.2.2.2.2 :: tb_W
theorem tb_gI {ws : List Cond} (h : ∀ w ∈ ws, w ∈ tb_W) : GoodIn tb_W ws := fun w hw => ⟨h w hw, good_of_word (tb_W_good (h w hw))⟩
def tb_K (G : tb_G) (U : State) : Prop := va_K G.1 vwCl [(G.2.1, .int), (G.2.2.1, .array .int), (G.2.2.2, .long)] U
theorem tb_AOA_spec {ty : FieldType} {s : State} (h : va_AOA ty s) : ∃ comp c k, s.vm.findClass (FieldType.array ty).toString = some comp ∧ (s.vm.classes.findIdx? fun x => match x.kind with | .array component _ => component == comp | _ => false) = some c ∧ s.vm.classes[c]? = some k ∧ k.kind = .array comp (.array ty) ∧ s.vm.findClass ("[" ++ (FieldType.array ty).toString) = some c := by
  unfold va_AOA Cond.before at h
  simp only [Cond.holds, Cond.value, beq_iff_eq] at h
  cases hc : s.vm.findClass (FieldType.array ty).toString with
  | none => simp [hc] at h
  | some comp =>
    simp only [hc, Option.bind_some, Option.bind_eq_some_iff, Option.map_eq_some_iff] at h
    obtain ⟨c, hi, k, hk, hb⟩ := h
    obtain ⟨hlt, hp, -⟩ := Array.findIdx?_eq_some_iff_getElem.mp hi
    have hk2 : s.vm.classes[c] = k := by
      rw [Array.getElem?_eq_getElem hlt] at hk
      exact Option.some.inj hk
    rw [hk2] at hp
    cases hkk : k.kind with
    | array component ty2 =>
      rw [hkk] at hp hb
      simp only [beq_iff_eq] at hp
      simp only [Bool.and_eq_true, decide_eq_true_eq] at hb
      exact ⟨comp, c, k, rfl, hi, hk, by rw [hkk, hp, hb.1], hb.2⟩
    | _ => rw [hkk] at hb; simp at hb
theorem va_AOA.moved {ty : FieldType} {u U : State} (hvm : u.vm.Alike U.vm) (h : va_AOA ty u) : va_AOA ty U := by
  obtain ⟨comp, c, k, h1, h2, h3, h4, h5⟩ := tb_AOA_spec h
  obtain ⟨k', hk', he⟩ := hvm.2.2 _ _ h3
  have hi : (U.vm.classes.findIdx? fun (x : Class) => match x.kind with | .array component _ => component == comp | _ => false) = some c := by
    have e1 := va_idx_bare U.vm comp
    have e2 := va_idx_bare u.vm comp
    have eb : U.vm.bare = u.vm.bare := by first | exact hvm.bare_eq | exact hvm.bare_eq.symm
    rw [eb] at e1
    exact e1.symm.trans (e2.trans h2)
  have hkind : k'.kind = .array comp (.array ty) := by rw [he]; exact h4
  have f1 : U.vm.findClass (FieldType.array ty).toString = some comp := by rw [hvm.findClass]; exact h1
  have f2 : U.vm.findClass ("[" ++ (FieldType.array ty).toString) = some c := by rw [hvm.findClass]; exact h5
  unfold va_AOA Cond.before Cond.holds
  simp only [Cond.value]
  rw [f1, Option.bind_some]
  refine (congrArg (fun o : Option Nat => (o.bind (fun c => (U.vm.classes[c]?).map fun (k : Class) => match k.kind with | .array _ ty' => decide (ty' = FieldType.array ty) && decide (U.vm.findClass ("[" ++ (FieldType.array ty).toString) = some c) | _ => false) == some true)) hi).trans ?_
  simp [hk', hkind, f2]
def tb_strs : List (String × Nat × String) := [("TermBank", 124, "the tape has not so many bytes"), ("TermBank$Reader", 68, "symbol"), ("TermBank$Reader", 77, "term"), ("TermBank$Reader", 82, "rule"), ("TermBank$Reader", 160, "to"), ("TermBank$Reader", 87, "entry"), ("TermBank$Reader", 92, "room"), ("TermBank", 190, "no such count"), ("TermBank", 197, "no such symbol"), ("TermBank", 214, "no such question of a symbol"), ("TermBank", 397, "no such term"), ("TermBank", 247, "no such question of a term"), ("TermBank", 250, "no such argument"), ("TermBank", 260, "no such place"), ("TermBank", 268, "no such question of the index"), ("TermBank", 273, "no such rule or side"), ("TermBank", 275, "no such entry"), ("TermBank", 277, "no such memo or side"), ("TermBank", 282, "no such variable"), ("TermBank", 378, "no such question of the years"), ("TermBank", 380, "not so many years")]
def tb_casts : List (String × String) := [("java/lang/IllegalArgumentException", "java/lang/IllegalArgumentException"), ("java/util/NoSuchElementException", "java/util/NoSuchElementException"), ("TermBank", "java/lang/Object"), ("TermBank$Symbols", "java/lang/Object"), ("TermBank$Core", "java/lang/Object"), ("TermBank$Terms", "java/lang/Object"), ("TermBank$Ledger", "java/lang/Object"), ("TermBank$Matcher", "java/lang/Object"), ("TermBank$Maker", "java/lang/Object"), ("TermBank$Unifier", "java/lang/Object"), ("TermBank$Rulebook", "java/lang/Object"), ("TermBank$Ordering", "java/lang/Object"), ("TermBank$Rewriter", "java/lang/Object"), ("TermBank$Reader", "java/lang/Object"), ("TermBankModel", "java/lang/Object"), ("java/lang/IllegalArgumentException", "java/lang/Object"), ("java/util/NoSuchElementException", "java/lang/Object"), ("java/lang/Throwable", "java/lang/Object"), ("java/lang/String", "java/lang/Object")]
def tb_nocs : List (String × String) := [("java/lang/IllegalArgumentException", "java/util/NoSuchElementException")]
def tb_decls : List MethodName := [⟨"java/lang/RuntimeException", "<init>", "()V"⟩, ⟨"java/lang/RuntimeException", "<init>", "(Ljava/lang/String;)V"⟩, ⟨"java/lang/Exception", "<init>", "()V"⟩, ⟨"java/lang/Exception", "<init>", "(Ljava/lang/String;)V"⟩, ⟨"java/lang/Throwable", "<init>", "()V"⟩, ⟨"java/lang/Throwable", "<init>", "(Ljava/lang/String;)V"⟩]
/-- the reader's texts, with their bytes; the reference's row of known words -/
def tb_rs : List (Nat × String × List Int32) := [(68, "symbol", [115, 121, 109, 98, 111, 108]), (77, "term", [116, 101, 114, 109]), (82, "rule", [114, 117, 108, 101]), (87, "entry", [101, 110, 116, 114, 121]), (92, "room", [114, 111, 111, 109]), (160, "to", [116, 111])]
def tb_kn : List Int32 := [115, 121, 109, 98, 111, 108, 32, 116, 101, 114, 109, 32, 114, 117, 108, 101, 32, 101, 110, 116, 114, 121, 32, 114, 111, 111, 109, 32, 116, 111, 32]
def tb_SX (A : Nat → Prop) (U : State) (H : Heap) : Prop := (∀ q ∈ tb_rs, ∃ a v : Nat, vk_R "TermBank$Reader" q.1 q.2.1 a U ∧ vk_S 1 [q.2.2.length] [q.2.2] (fun _ => a) (fun _ => v) A U H) ∧ va_Z "java/lang/String" "COMPACT_STRINGS" "Z" (.int 1) A U H ∧ ∃ ka : Nat, va_Z "TermBankModel" "KNOWN" "[B" (.ref ka) A U H ∧ va_T .byte ka 31 (fun j => .int (tb_kn.getD j 0)) A U H ∧ va_Zq "jdk/internal/util/Preconditions" "SIOOBE_FORMATTER" "Ljava/util/function/BiFunction;" A U H
theorem tb_SX.go {A B : Nat → Prop} {s U : State} {H H1 : Heap} (h : tb_SX A s H) (hW : s.WarmedH U.vm) (hk : ∀ a : Nat, a < H.size → ¬ A a → H1[a]? = H[a]?) (hAB : ∀ q, B q → A q) : tb_SX B U H1 := by
  obtain ⟨h1, h2, ka, h3, h4, h5⟩ := h
  refine ⟨fun q hq => ?_, ((h2.kept hk).moved hW.alike).narrow hAB, ka, ((h3.kept hk).moved hW.alike).narrow hAB, ((h4.kept hk).moved hW.alike).narrow hAB, ((h5.kept hk).moved hW.alike).narrow hAB⟩
  obtain ⟨a, v, g1, g2⟩ := h1 q hq
  exact ⟨a, v, vk_R.warm hW g1, ((g2.kept hk).moved hW.alike).narrow hAB⟩
def tb_EX (A : Nat → Prop) (U : State) (H : Heap) : Prop := vx_Zq Bundle.tN "UNASSIGNED_STACK" Bundle.steD A U H ∧ vx_Zq Bundle.tN "SUPPRESSED_SENTINEL" Bundle.listD A U H ∧ (∀ q ∈ tb_strs, ∃ sa, vk_R q.1 q.2.1 q.2.2 sa U) ∧ (∀ q ∈ tb_casts, va_Nw (.castable q.1 q.2) U) ∧ (∀ q ∈ tb_nocs, va_Nc q.1 q.2 U) ∧ (∀ x ∈ tb_decls, va_Nw (.declares x) U) ∧ va_Nw (.methodLinkNest "TermBank" 9 yX8_init "TermBank") U ∧ va_AOA .int U ∧ tb_SX A U H
theorem tb_Nc_moved {C T : String} {u U : State} (hvm : u.vm.Alike U.vm) (h : va_Nc C T u) : va_Nc C T U := by
  obtain ⟨c, t, h1, h2, h3⟩ := h
  exact ⟨c, t, by rw [hvm.findClass]; exact h1, by rw [hvm.findClass]; exact h2, by rw [hvm.assignable]; exact h3⟩
theorem tb_EX.go {A B : Nat → Prop} {s U : State} {H H1 : Heap} (h : tb_EX A s H) (hW : s.WarmedH U.vm) (hk : ∀ a : Nat, a < H.size → ¬ A a → H1[a]? = H[a]?) (hAB : ∀ q, B q → A q) : tb_EX B U H1 := by
  obtain ⟨h1, h2, h3, h4, h5, h6, h7, h8, h9⟩ := h
  refine ⟨((h1.kept hk).moved hW.alike).narrow hAB, ((h2.kept hk).moved hW.alike).narrow hAB, fun q hq => ?_, fun q hq => va_Nw.warmC hW (h4 q hq), fun q hq => tb_Nc_moved hW.alike (h5 q hq), fun x hx => va_Nw.warmD hW (h6 x hx), va_Nw.warmM hW h7, h8.moved hW.alike, h9.go hW hk hAB⟩
  obtain ⟨sa, hs⟩ := h3 q hq
  exact ⟨sa, vk_R.warm hW hs⟩
/-! ===== the room, the context, the walk ===== -/
def tb_rm (d mc ms : Nat) : Room := { frames := d, cells := mc, slots := ms, locals := 40 * d }
abbrev tb_CT : Type := State × Array Value × List Frame × (Nat → Prop) × (Nat → Nat) × Nat
def tb_Xs (xt : Option (Nat × (Nat → Int32))) (A : Nat → Prop) (s : State) (bx : Nat) : Prop := match xt with
  | none => True
  | some q => va_X bx q.1 q.2 s s.heap ∧ ¬ A bx ∧ bx < s.heap.size
/-- what stays the same along a method's body -/
def tb_Cx (l : Launch) (G : tb_G) (y : tb_Mt) (R : Room) (xt : Option (Nat × (Nat → Int32))) (p : Program) (e : Env) (s : State) (m : MethodId) (args : Array Value) (meth : Method) (c : Code) (A : Nat → Prop) (bx : Nat) : Prop :=
  p.tables.exec = Jvm.exec ∧ c.code = y.2.1 ∧ c.maxLocals = y.2.2.1 ∧ meth.sig.returnType = y.2.2.2.1 ∧ meth.locks = false ∧ s.vm.findClass y.1.cls = some m.cls ∧ meth.name = y.1.name ∧ c.exceptionTable.toList = tableOf y.2.2.2.2 ∧ (∀ w ∈ tb_W, w.before args s = true) ∧ (∀ q, s.heap.size ≤ q → A q) ∧ tb_K G s ∧ tb_EX A s s.heap ∧ l.stackTraces = false ∧ tb_Xs xt A s bx
def tb_ok (n : Nat) (sh : Nat → tb_Sh) (L : List (Option Value)) (S : List Value) : Prop := tb_cl n sh ∧ tb_lo n L ∧ tb_so n S
/-- the method y, at pc, with these locals and this stack, in this world, comes to its end Z; k1 cells and k2 slots are made already -/
def tb_At (l : Launch) (G : tb_G) (y : tb_Mt) (R : Room) (xt : Option (Nat × (Nat → Int32))) (Z : tb_CT → State → Prop) (k1 k2 n : Nat) (sh : Nat → tb_Sh) (I : tb_I) (pc : Nat) (L : List (Option Value)) (S : List Value) : Prop :=
  tb_ok n sh L S → ∀ (p : Program) (e : Env) (s : State) (m : MethodId) (args : Array Value) (below : List Frame) (meth : Method) (c : Code) (A : Nat → Prop) (adr0 : Nat → Nat) (n0 bx : Nat), tb_Cx l G y R xt p e s m args meth c A bx →
    ∀ (H : Heap) (locs : List Loc) (adr : Nat → Nat) (ls : Array Slot), ((∀ k, k < n0 → adr k = adr0 k) ∧ adr tb_sc = adr0 tb_sc ∧ n0 ≤ n ∧ adr0 tb_sc = bx) → va_P G.1 vwCl (tb_ws G adr n sh I) H → va_D A (tb_ws G adr n sh I) → va_S A s.heap H locs → tb_LL adr ls y.2.2.1 L →
      W p l e R s m args below meth c H locs k1 k2 (Z (s, args, below, A, adr0, n0)) (F0 m pc ls (S.map (tb_rn adr)))
/-- the world behind a method -/
def tb_Wd (G : tb_G) (A : Nat → Prop) (adr0 : Nat → Nat) (n0 : Nat) (adr : Nat → Nat) (n : Nat) (sh : Nat → tb_Sh) (I : tb_I) (t : State) : Prop := (∀ k, k < n0 → adr k = adr0 k) ∧ adr tb_sc = adr0 tb_sc ∧ n0 ≤ n ∧ va_P G.1 vwCl (tb_ws G adr n sh I) t.heap ∧ va_D A (tb_ws G adr n sh I) ∧ tb_K G t ∧ tb_cl n sh
abbrev tb_Q : Type := Option Value → Nat → (Nat → tb_Sh) → tb_I → Prop
abbrev tb_X : Type := String → Nat → (Nat → tb_Sh) → tb_I → Prop
def tb_Qc (G : tb_G) (Q : tb_Q) (A : Nat → Prop) (adr0 : Nat → Nat) (n0 : Nat) : Array Value → State → Outcome → State → Prop := fun _ st o t => ∃ (r : Option Value) (n : Nat) (sh : Nat → tb_Sh) (I : tb_I) (adr : Nat → Nat), o = .returned (r.map (tb_rn adr)) ∧ Q r n sh I ∧ (∀ v, r = some v → tb_vk n v) ∧ tb_Wd G A adr0 n0 adr n sh I t ∧ va_F A st t
def tb_XC (G : tb_G) (X : tb_X) (A : Nat → Prop) (adr0 : Nat → Nat) (n0 : Nat) : String → State → State → Prop := fun E st t => ∃ (n : Nat) (sh : Nat → tb_Sh) (I : tb_I) (adr : Nat → Nat), X E n sh I ∧ tb_Wd G A adr0 n0 adr n sh I t ∧ va_F A st t
def tb_ZM (G : tb_G) (mc ms : Nat) (Q : tb_Q) (X : tb_X) : tb_CT → State → Prop := fun K => vx_MQ K.2.2.1 (tb_Qc G Q K.2.2.2.1 K.2.2.2.2.1 K.2.2.2.2.2) (tb_XC G X K.2.2.2.1 K.2.2.2.2.1 K.2.2.2.2.2) K.2.1 K.1 mc ms K.2.2.2.1
def tb_Pr (G : tb_G) (adr : Nat → Nat) (sz n : Nat) (sh : Nat → tb_Sh) (I : tb_I) (U : State) : Prop := U.heap.size = sz ∧ va_P G.1 vwCl (tb_ws G adr n sh I) U.heap ∧ tb_K G U ∧ va_D (fun _ => True) (tb_ws G adr n sh I) ∧ tb_EX (va_A (tb_ws G adr n sh I) sz) U U.heap
/-- a method's contract, said of the world by numbers -/
def tb_Okw (l : Launch) (G : tb_G) (y : tb_Mt) (ws : List Cond) (d mc ms : Nat) (as : List Value) (n : Nat) (sh : Nat → tb_Sh) (I : tb_I) (Q : tb_Q) (X : tb_X) : Prop :=
  tb_so n as → tb_cl n sh → ∀ (adr : Nat → Nat) (sz : Nat), vx_Met l y.1 ws (tb_rm d mc ms) (va_Pc (as.map (tb_rn adr)) (tb_Pr G adr sz n sh I)) (tb_Qc G Q (va_A (tb_ws G adr n sh I) sz) adr n) (tb_XC G X (va_A (tb_ws G adr n sh I) sz) adr n) mc ms (va_A (tb_ws G adr n sh I) sz)
def tb_Ok (l : Launch) (G : tb_G) (y : tb_Mt) (d mc ms : Nat) (as : List Value) (n : Nat) (sh : Nat → tb_Sh) (I : tb_I) (Q : tb_Q) (X : tb_X) : Prop := tb_Okw l G y (tb_wy y) d mc ms as n sh I Q X
def tb_Nx : tb_X := fun _ _ _ _ => False
theorem tb_args : ∀ (vs : List Value) (i : Nat), (∀ v ∈ vs, v.category = 1) → ∀ (j : Nat) (v : Value), vs[j]? = some v → (i + j, v) ∈ lv_args i vs
  | [], _, _, j, v, h => by simp at h
  | w :: vs, i, hc, j, v, h => by
    have hw : ¬ w.category = 2 := by rw [hc w List.mem_cons_self]; decide
    cases j with
    | zero =>
      rw [List.getElem?_cons_zero] at h
      cases h
      exact List.mem_cons_self
    | succ j =>
      rw [List.getElem?_cons_succ] at h
      have h1 := tb_args vs (i + 1) (fun v hv => hc v (List.mem_cons_of_mem _ hv)) j v h
      show (i + (j + 1), v) ∈ (i, w) :: lv_args (if w.category = 2 then i + 2 else i + 1) vs
      rw [if_neg hw]
      refine List.mem_cons_of_mem _ ?_
      rw [show i + (j + 1) = i + 1 + j by omega]
      exact h1
theorem tb_sl : ∀ (vs : List Value), (∀ v ∈ vs, v.category = 1) → (lg_sl vs).length = vs.length
  | [], _ => rfl
  | w :: vs, hc => by
    have hw : ¬ w.category = 2 := by rw [hc w List.mem_cons_self]; decide
    have h1 := tb_sl vs (fun v hv => hc v (List.mem_cons_of_mem _ hv))
    have e : lg_sl (w :: vs) = (if w.category = 2 then [.val w, .second] else [.val w]) ++ lg_sl vs := rfl
    rw [e, if_neg hw, List.length_append, h1]
    simp
    omega
def tb_L0 (as : List Value) (nL : Nat) : List (Option Value) := as.map some ++ List.replicate (nL - as.length) none
theorem tb_entry {as : List Value} {adr : Nat → Nat} {nL : Nat} (hc : ∀ v ∈ as, v.category = 1) (hn : as.length ≤ nL) : tb_LL adr ((lg_sl (as.map (tb_rn adr)) ++ List.replicate (nL - (lg_sl (as.map (tb_rn adr))).length) Slot.unset).toArray) nL (tb_L0 as nL) := by
  have hc' : ∀ v ∈ as.map (tb_rn adr), v.category = 1 := by
    intro v hv
    obtain ⟨w, hw, rfl⟩ := List.mem_map.mp hv
    rw [tb_cat]
    exact hc w hw
  have hlen : (lg_sl (as.map (tb_rn adr))).length = as.length := by rw [tb_sl _ hc', List.length_map]
  obtain ⟨h1, h2, h3⟩ := lv_entry (as.map (tb_rn adr)) (n := nL) (by rw [hlen]; exact hn)
  refine ⟨h1, h2, by simp [tb_L0]; omega, fun i v hv => ?_⟩
  have hi : i < as.length := by
    by_cases hi : i < as.length
    · exact hi
    · rw [tb_L0, List.getElem?_append_right (by rw [List.length_map]; omega)] at hv
      have := List.mem_of_getElem? hv
      rw [List.mem_replicate] at this
      cases this.2
  rw [tb_L0, List.getElem?_append_left (by rw [List.length_map]; exact hi), List.getElem?_map] at hv
  have hv' : as[i]? = some v := by
    cases ha : as[i]? with
    | none => rw [ha] at hv; cases hv
    | some w => rw [ha] at hv; cases hv; rfl
  have h4 := tb_args (as.map (tb_rn adr)) 0 hc' i (tb_rn adr v) (by rw [List.getElem?_map, hv']; rfl)
  rw [Nat.zero_add] at h4
  exact h3 _ h4
theorem tb_lo0 {as : List Value} {n nL : Nat} (hc : ∀ v ∈ as, v.category = 1) (hs : tb_so n as) : tb_lo n (tb_L0 as nL) := by
  intro v hv
  rcases List.mem_append.mp hv with h | h
  · obtain ⟨w, hw, e⟩ := List.mem_map.mp h
    cases e
    exact ⟨hs v hw, hc v hw⟩
  · rw [List.mem_replicate] at h
    cases h.2
/-- a contract out of a walk from the entry -/
theorem tb_Ok.of {l : Launch} {G : tb_G} {y : tb_Mt} {d mc ms : Nat} {as : List Value} {n : Nat} {sh : Nat → tb_Sh} {I : tb_I} {Q : tb_Q} {X : tb_X} (hl : l.stackTraces = false) (hy : plainName y.1.cls = true) (hh : y.2.2.2.2 = []) (hc : ∀ v ∈ as, v.category = 1) (hn : as.length ≤ y.2.2.1)
    (h : tb_At l G y (tb_rm d mc ms) none (tb_ZM G mc ms Q X) 0 0 n sh I 0 (tb_L0 as y.2.2.1) []) : tb_Ok l G y d mc ms as n sh I Q X := by
  intro hs hcl adr sz
  refine vx_ofW (cc := y.2.1) (maxL := y.2.2.1) (ret := y.2.2.2.1) hy rfl ?_
  intro p e s m args below meth c s₁ B hml ht hv
  obtain ⟨rfl, hsz, hP, hK, hD0, hE⟩ := hv
  have hts := atoms_spec (ws := tb_wy y) B.pre
  have hown : s.vm.findClass y.1.cls = some m.cls := findClass_of_methodNamed B.named
  subst hsz
  have hS : va_S (va_A (tb_ws G adr n sh I) s.heap.size) s.heap s.heap [] := va_S.rf
  have htab : c.exceptionTable.toList = tableOf y.2.2.2.2 := by
    rw [hh]
    cases e9 : c.exceptionTable.toList with
    | nil => rfl
    | cons x xs => exact (ht x (by rw [e9]; exact List.mem_cons_self)).elim
  rw [lg_entry_eq]
  exact h ⟨hcl, tb_lo0 hc hs, fun _ h9 => nomatch h9⟩ p e s m _ below meth c (va_A (tb_ws G adr n sh I) s.heap.size) adr n (adr tb_sc)
    ⟨B.exec, B.bytes, hml, B.returns, B.notSynchronized, hown, (name_of_methodNamed B.named B.method).1, htab, fun w hw => hts w (List.mem_cons_of_mem _ hw), fun q hq => Or.inr hq, hK, hE, hl, trivial⟩
    s.heap [] adr _ ⟨fun _ _ => rfl, rfl, Nat.le_refl _, rfl⟩ hP hD0.self hS (tb_entry hc hn)
