/-! THE CLAIM OUT OF ONE WALK OF THE LAW'S BODY. Your part is whole_start (and what it stands on); all else here is the same for every law, but numbers. -/
def R_law : String := "TermBankLaw"
def lw_P (b : Addr) (xs : List Int32) (args : Array Value) (s : State) : Prop := args = #[.ref b] ∧ s.IntsAt b xs ∧ xs.length ≤ 3072 ∧ (Jvm.Cond.and given_1 narrow_1).before args s = true
def lw_Q (_ : Array Value) (s : State) (o : Outcome) (t : State) : Prop := o = .returned (some (.int 1)) ∧ Framed s o t [] 601024 7293034
def lw_Z (below : List Frame) (a : Array Value) (s : State) : State → Prop := fun t => ∃ o, t.status = .running ∧ Ended t below o ∧ lw_Q a s o t
/-- the law's own end, with 1 on the stack, nothing written that was there before, its room as the claim has it -/
theorem lw_ret {p : Program} {l : Launch} {e : Env} {s : State} {m : MethodId} {below : List Frame} {meth : Method} {c : Code} {b : Nat} (hx : p.tables.exec = Jvm.exec) (hb : c.code = code) (hr : meth.sig.returnType = ret) (hlocks : meth.locks = false) {pc : Nat} {H : Heap} {ls : Array Slot} (hdg : decode code pc = .ok (.ireturn, 1)) : W p l e room_1 s m #[Value.ref b] below meth c H [] 601024 7293034 (lw_Z below #[Value.ref b] s) (F0 m pc ls [.int 1]) := by
  intro T hT X
  obtain ⟨fs, hret, hrun, hended, hW, hframe⟩ := X.leave (v := some (.int 1)) (hlocks := hlocks) (fun h => by rw [hr] at h; cases h)
  have hmeth' : T.vm.method? m = some meth := X.method'
  refine ⟨T.setFrames fs, ?_, .returned (some (.int 1)), hrun, hended, rfl, ⟨_, rfl⟩, hW, hframe⟩
  jvm_step X.here [X.here.top, hx, hb, hdg, hmeth', hr, ret, narrow_b1]
  (try refine ⟨rfl, ?_⟩); (try refine ⟨rfl, ?_⟩)
  first | (intro acts; rw [hret _ acts rfl rfl rfl]) | rw [hret _ _ rfl rfl rfl]
  exact Steps.refl _
/-- what holds at the law's entry: the machine, the code, the tables' words (any of lw_tbl by 'hts w (by decide +kernel)'), the script of L ints xs at the cell b, what the Statement gives of the start (any of its parts by flat_of_before) -/
def lw_At (p : Program) (s : State) (m : MethodId) (meth : Method) (c : Code) (b L : Nat) (xs : Nat → Int32) : Prop :=
  p.tables.exec = Jvm.exec ∧ c.code = code ∧ meth.sig.returnType = ret ∧ c.maxLocals = 7 ∧ s.vm.findClass R_law = some m.cls ∧ (∀ w ∈ lw_tbl, w.before #[Value.ref b] s = true) ∧ va_X b L xs s s.heap ∧ b < s.heap.size ∧ meth.locks = false ∧ meth.name = x.name ∧ (∀ z ∈ c.exceptionTable.toList, False) ∧ (Jvm.Cond.and given_1 narrow_1).before #[Value.ref b] s = true
/-! ===== from the law's entry into the world by numbers ===== -/
def M_L_law : tb_Mt := (x, code, 7, ret, [])
def tb_cond (K : tb_CT) : Prop := (∃ b, K.2.1 = #[Value.ref b]) ∧ ∀ q, K.2.2.2.1 q → K.1.heap.size ≤ q
def tb_LZ : tb_CT → State → Prop := fun K t => tb_cond K → lw_Z K.2.2.1 K.2.1 K.1 t
theorem tb_lret {l : Launch} {G : tb_G} {xt : Option (Nat × (Nat → Int32))} {k1 k2 n : Nat} {sh : Nat → tb_Sh} {I : tb_I} {pc : Nat} {L : List (Option Value)} (hd : decode code pc = .ok (.ireturn, 1)) (h1 : k1 ≤ 601024) (h2 : k2 ≤ 7293034) : tb_At l G M_L_law room_1 xt tb_LZ k1 k2 n sh I pc L [.int 1] := by
  intro ok p e s m args below meth c A adr0 n0 bx C H locs adr ls ha hP hD hS hl
  by_cases hc : tb_cond (s, args, below, A, adr0, n0)
  · obtain ⟨⟨b, hb⟩, hA⟩ := id hc
    have hb' : args = #[Value.ref b] := hb
    subst hb'
    have h9 : W p l e room_1 s m #[Value.ref b] below meth c H locs k1 k2 (lw_Z below #[Value.ref b] s) (F0 m pc ls [.int 1]) :=
      W.widen h1 h2 (va_forget (fun q hq => hA _ (hS.2.2 q hq)) (lw_ret C.1 C.2.1 C.2.2.2.1 C.2.2.2.2.1 hd))
    intro T hT X
    obtain ⟨t, a1, b1⟩ := h9 T hT X
    exact ⟨t, a1, fun _ => b1⟩
  · intro T hT X
    exact ⟨_, Steps.refl _, fun h => absurd h hc⟩
theorem tb_strs_in : ∀ q ∈ tb_strs, Cond.stringRef q.1 q.2.1 q.2.2 ∈ lw_tbl := by decide +kernel
theorem tb_casts_in : ∀ q ∈ tb_casts, Cond.castable q.1 q.2 ∈ lw_tbl := by decide +kernel
theorem tb_nocs_in : ∀ q ∈ tb_nocs, Cond.not (.castable q.1 q.2) ∈ flatC (Jvm.Cond.and given_1 narrow_1) := by decide +kernel
theorem tb_decls_in : ∀ q ∈ tb_decls, Cond.declares q ∈ lw_tbl := by decide +kernel
theorem tb_nest_in : Cond.methodLinkNest "TermBank" 9 yX8_init "TermBank" ∈ lw_tbl := by decide +kernel
theorem tb_over_in : Cond.arrayOver (.array .int) ∈ lw_tbl := by decide +kernel
theorem tb_lays1 : Cond.laysStatic Bundle.tN "UNASSIGNED_STACK" Bundle.steD ∈ lw_tbl := by decide +kernel
theorem tb_lays2 : Cond.laysStatic Bundle.tN "SUPPRESSED_SENTINEL" Bundle.listD ∈ lw_tbl := by decide +kernel
theorem tb_iniT : Cond.initialized Bundle.tN ∈ lw_tbl := by decide +kernel
theorem tb_ref1 : Cond.isRef (.static Bundle.tN "UNASSIGNED_STACK" Bundle.steD) ∈ flatC (Jvm.Cond.and given_1 narrow_1) := by decide +kernel
theorem tb_ref2 : Cond.isRef (.static Bundle.tN "SUPPRESSED_SENTINEL" Bundle.listD) ∈ flatC (Jvm.Cond.and given_1 narrow_1) := by decide +kernel
theorem tb_str_of {own tx : String} {k : Nat} {args : Array Value} {s : State} (h : (Cond.stringRef own k tx).before args s = true) : ∃ sa, vk_R own k tx sa s := by
  have h0 : (Cond.stringRef own k tx).holds args s none s [] = true := h
  cases hcur : s.vm.findClass own with
  | none => simp [Cond.holds, Cond.value, hcur] at h0
  | some cur =>
    obtain ⟨k9, cf, i, a, -, -, -, -, -, h6⟩ := Cond.stringRef_spec hcur h0
    exact ⟨a, h, h6⟩
theorem tb_arr_of {ty : FieldType} {args : Array Value} {s : State} (h : (Cond.arrayClass ty).before args s = true) : ∃ c : ClassId, ArrOfT s c ty ∧ s.vm.findClass ("[" ++ ty.toString) = some c := by
  obtain ⟨c, k, comp, h1, h2, h3⟩ := Cond.arrayClass_spec (show (Cond.arrayClass ty).holds args s none s [] = true from h)
  exact ⟨c, fun n z => ⟨fun k h => (by cases h), k, h2, comp, h3⟩, h1⟩
theorem tb_sx1 : ∀ q ∈ tb_rs, Cond.stringRef "TermBank$Reader" q.1 q.2.1 ∈ lw_tbl := by decide +kernel
theorem tb_sx2 : ∀ q ∈ tb_rs, Cond.exactly (.string "TermBank$Reader" q.1) "java/lang/String" ∈ flatC (Jvm.Cond.and given_1 narrow_1) := by decide +kernel
theorem tb_sx3 : ∀ q ∈ tb_rs, Cond.eq (.field (.string "TermBank$Reader" q.1) "java/lang/String" "coder" "B") (.int 0) ∈ flatC (Jvm.Cond.and given_1 narrow_1) := by decide +kernel
theorem tb_sx4 : ∀ q ∈ tb_rs, Cond.arrayOf (.field (.string "TermBank$Reader" q.1) "java/lang/String" "value" "[B") .byte ∈ flatC (Jvm.Cond.and given_1 narrow_1) := by decide +kernel
theorem tb_sx5 : ∀ q ∈ tb_rs, Cond.eq (.length (.field (.string "TermBank$Reader" q.1) "java/lang/String" "value" "[B")) (.int (Int32.ofNat q.2.2.length)) ∈ flatC (Jvm.Cond.and given_1 narrow_1) := by decide +kernel
theorem tb_sx6 : ∀ q ∈ tb_rs, ∀ j ∈ List.range q.2.2.length, Cond.eq (.elem (.field (.string "TermBank$Reader" q.1) "java/lang/String" "value" "[B") (.int (Int32.ofNat j))) (.int (q.2.2.getD j 0)) ∈ flatC (Jvm.Cond.and given_1 narrow_1) := by decide +kernel
theorem tb_sx7 : (∀ q ∈ tb_rs, q.2.2.length < 2 ^ 31) := by decide +kernel
theorem tb_sy1 : Cond.laysStatic "java/lang/String" "COMPACT_STRINGS" "Z" ∈ lw_tbl := by decide +kernel
theorem tb_sy2 : Cond.initialized "java/lang/String" ∈ lw_tbl := by decide +kernel
theorem tb_sy3 : Cond.eq (.static "java/lang/String" "COMPACT_STRINGS" "Z") (.int 1) ∈ flatC (Jvm.Cond.and given_1 narrow_1) := by decide +kernel
theorem tb_sz1 : Cond.laysStatic "TermBankModel" "KNOWN" "[B" ∈ lw_tbl := by decide +kernel
theorem tb_sz2 : Cond.initialized "TermBankModel" ∈ lw_tbl := by decide +kernel
theorem tb_sz3 : Cond.arrayOf (.static "TermBankModel" "KNOWN" "[B") .byte ∈ flatC (Jvm.Cond.and given_1 narrow_1) := by decide +kernel
theorem tb_sz4 : Cond.eq (.length (.static "TermBankModel" "KNOWN" "[B")) (.int (Int32.ofNat 31)) ∈ flatC (Jvm.Cond.and given_1 narrow_1) := by decide +kernel
theorem tb_sz5 : ∀ j ∈ List.range 31, Cond.eq (.elem (.static "TermBankModel" "KNOWN" "[B") (.int (Int32.ofNat j))) (.int (tb_kn.getD j 0)) ∈ flatC (Jvm.Cond.and given_1 narrow_1) := by decide +kernel
theorem tb_sw1 : Cond.laysStatic "jdk/internal/util/Preconditions" "SIOOBE_FORMATTER" "Ljava/util/function/BiFunction;" ∈ lw_tbl := by decide +kernel
theorem tb_sw2 : Cond.initialized "jdk/internal/util/Preconditions" ∈ lw_tbl := by decide +kernel
theorem tb_sw3 : Cond.isRef (.static "jdk/internal/util/Preconditions" "SIOOBE_FORMATTER" "Ljava/util/function/BiFunction;") ∈ flatC (Jvm.Cond.and given_1 narrow_1) := by decide +kernel
theorem tb_SX0 {s : State} {b : Nat} {A : Nat → Prop} (hts : ∀ w ∈ lw_tbl, w.before #[Value.ref b] s = true) (hs : ∀ w ∈ flatC (Jvm.Cond.and given_1 narrow_1), w.before #[Value.ref b] s = true) (hA : ∀ a : Nat, a < s.heap.size → ¬ A a) : tb_SX A s s.heap := by
  refine ⟨fun q hq => ?_, va_Zof (hts _ tb_sy1) (hts _ tb_sy2) (va_eqt (hs _ tb_sy3)) hA, ?_⟩
  · obtain ⟨adK, adV, h1, h2⟩ := vk_Sof (args := #[Value.ref b]) (s := s) (N := 1) (tm := fun _ => .string "TermBank$Reader" q.1) (len := [q.2.2.length]) (byt := [q.2.2]) (A := A) (fun i hi => by obtain rfl : i = 0 := (by omega); exact tb_sx7 q hq) (fun i _ => hs _ (tb_sx2 q hq)) (fun i _ => hs _ (tb_sx3 q hq)) (fun i _ => hs _ (tb_sx4 q hq)) (fun i hi => by
      obtain rfl : i = 0 := by omega
      exact hs _ (tb_sx5 q hq)) (fun i hi j hj => by
      obtain rfl : i = 0 := by omega
      exact hs _ (tb_sx6 q hq j (List.mem_range.mpr hj))) (fun i j hi hj h => absurd (show i = j by omega) h) hA
    have e1 : vk_S 1 [q.2.2.length] [q.2.2] (fun _ => adK 0) (fun _ => adV 0) A s s.heap := ⟨fun i hi => by
      obtain rfl : i = 0 := by omega
      exact h1.1 0 (by decide), fun i j hi hj _ => by omega⟩
    exact ⟨adK 0, adV 0, vk_R.of (hts _ (tb_sx1 q hq)) (h2 0 (by decide)), e1⟩
  · obtain ⟨t, h1, h2⟩ := va_Tof (args := #[Value.ref b]) (s := s) (tm := .static "TermBankModel" "KNOWN" "[B") (ty := .byte) (N := 31) (f := fun j => .int (tb_kn.getD j 0)) (A := A) (by decide) (hs _ tb_sz3) (va_eqt (hs _ tb_sz4)) (fun j hj => va_eqt (hs _ (tb_sz5 j (List.mem_range.mpr hj)))) hA
    exact ⟨t, va_Zof (hts _ tb_sz1) (hts _ tb_sz2) h1 hA, h2, va_Zqof (hts _ tb_sw1) (hts _ tb_sw2) (hs _ tb_sw3) hA⟩
theorem tb_EX0 {s : State} {b : Nat} {A : Nat → Prop} (hts : ∀ w ∈ lw_tbl, w.before #[Value.ref b] s = true) (hgv : (Jvm.Cond.and given_1 narrow_1).before #[Value.ref b] s = true) (hA : ∀ a : Nat, a < s.heap.size → ¬ A a) : tb_EX A s s.heap := by
  have hs := flat_of_before _ hgv
  exact ⟨vx_Zqof (hts _ tb_lays1) (hts _ tb_iniT) (hs _ tb_ref1) hA, vx_Zqof (hts _ tb_lays2) (hts _ tb_iniT) (hs _ tb_ref2) hA, fun q hq => tb_str_of (hts _ (tb_strs_in q hq)), fun q hq => va_Nw.of rfl (hts _ (tb_casts_in q hq)), fun q hq => va_Nc.of (hs _ (tb_nocs_in q hq)), fun q hq => va_Nw.of rfl (hts _ (tb_decls_in q hq)), va_Nw.of rfl (hts _ tb_nest_in), va_AOA.of (hts _ tb_over_in), tb_SX0 hts hs hA⟩
theorem tb_inst0 : Cond.instantiable RX0 7 ∈ lw_tbl := by decide +kernel
theorem tb_inst1 : Cond.instantiable RX1 1 ∈ lw_tbl := by decide +kernel
theorem tb_inst2 : Cond.instantiable RX2 6 ∈ lw_tbl := by decide +kernel
theorem tb_inst3 : Cond.instantiable RX3 2 ∈ lw_tbl := by decide +kernel
theorem tb_inst4 : Cond.instantiable RX4 5 ∈ lw_tbl := by decide +kernel
theorem tb_inst5 : Cond.instantiable RX5 11 ∈ lw_tbl := by decide +kernel
theorem tb_inst6 : Cond.instantiable RX6 9 ∈ lw_tbl := by decide +kernel
theorem tb_inst7 : Cond.instantiable RX7 5 ∈ lw_tbl := by decide +kernel
theorem tb_inst8 : Cond.instantiable RX8 4 ∈ lw_tbl := by decide +kernel
theorem tb_inst9 : Cond.instantiable RX9 13 ∈ lw_tbl := by decide +kernel
theorem tb_inst10 : Cond.instantiable RX10 12 ∈ lw_tbl := by decide +kernel
theorem tb_inst11 : Cond.instantiable RX11 16 ∈ lw_tbl := by decide +kernel
theorem tb_inst12 : Cond.instantiable RX12 47 ∈ lw_tbl := by decide +kernel
theorem tb_K0 {s : State} {b : Nat} (hts : ∀ w ∈ lw_tbl, w.before #[Value.ref b] s = true) : ∃ G : tb_G, tb_K G s := by
  have htw : ∀ w ∈ tb_W, w.before #[Value.ref b] s = true := fun w hw => hts w (tb_W_in hw)
  obtain ⟨c0, s0, hK0⟩ := u_known (C := RX0) (T := TX0) (N := 7) (n := 7) htw cl_0.2.1 (hts _ tb_inst0)
  obtain ⟨c1, s1, hK1⟩ := u_known (C := RX1) (T := TX1) (N := 1) (n := 1) htw cl_1.2.1 (hts _ tb_inst1)
  obtain ⟨c2, s2, hK2⟩ := u_known (C := RX2) (T := TX2) (N := 6) (n := 6) htw cl_2.2.1 (hts _ tb_inst2)
  obtain ⟨c3, s3, hK3⟩ := u_known (C := RX3) (T := TX3) (N := 2) (n := 2) htw cl_3.2.1 (hts _ tb_inst3)
  obtain ⟨c4, s4, hK4⟩ := u_known (C := RX4) (T := TX4) (N := 5) (n := 5) htw cl_4.2.1 (hts _ tb_inst4)
  obtain ⟨c5, s5, hK5⟩ := u_known (C := RX5) (T := TX5) (N := 11) (n := 11) htw cl_5.2.1 (hts _ tb_inst5)
  obtain ⟨c6, s6, hK6⟩ := u_known (C := RX6) (T := TX6) (N := 9) (n := 9) htw cl_6.2.1 (hts _ tb_inst6)
  obtain ⟨c7, s7, hK7⟩ := u_known (C := RX7) (T := TX7) (N := 5) (n := 5) htw cl_7.2.1 (hts _ tb_inst7)
  obtain ⟨c8, s8, hK8⟩ := u_known (C := RX8) (T := TX8) (N := 4) (n := 4) htw cl_8.2.1 (hts _ tb_inst8)
  obtain ⟨c9, s9, hK9⟩ := u_known (C := RX9) (T := TX9) (N := 13) (n := 13) htw cl_9.2.1 (hts _ tb_inst9)
  obtain ⟨c10, s10, hK10⟩ := u_known (C := RX10) (T := TX10) (N := 12) (n := 12) htw cl_10.2.1 (hts _ tb_inst10)
  obtain ⟨c11, s11, hK11⟩ := u_known (C := RX11) (T := TX11) (N := 16) (n := 16) htw cl_11.2.1 (hts _ tb_inst11)
  obtain ⟨c12, s12, hK12⟩ := u_known (C := RX12) (T := TX12) (N := 47) (n := 47) htw cl_12.2.1 (hts _ tb_inst12)
  obtain ⟨cI, hI1, hI2⟩ := tb_arr_of (ty := .int) (htw _ wk_arr_int)
  obtain ⟨cJ, hJ1, hJ2⟩ := tb_arr_of (ty := .long) (htw _ wk_arr_long)
  obtain ⟨comp, cc9, k9, h1, h2, h3, h4, h5⟩ := tb_AOA_spec (va_AOA.of (hts _ tb_over_in))
  refine ⟨((fun k => if k = 0 then c0 else if k = 1 then c1 else if k = 2 then c2 else if k = 3 then c3 else if k = 4 then c4 else if k = 5 then c5 else if k = 6 then c6 else if k = 7 then c7 else if k = 8 then c8 else if k = 9 then c9 else if k = 10 then c10 else if k = 11 then c11 else c12, fun k => if k = 0 then s0 else if k = 1 then s1 else if k = 2 then s2 else if k = 3 then s3 else if k = 4 then s4 else if k = 5 then s5 else if k = 6 then s6 else if k = 7 then s7 else if k = 8 then s8 else if k = 9 then s9 else if k = 10 then s10 else if k = 11 then s11 else s12), cI, cc9, cJ), ?_, ?_⟩
  · intro k q hq
    match k, hq with
    | 0, hq => cases hq; exact hK0
    | 1, hq => cases hq; exact hK1
    | 2, hq => cases hq; exact hK2
    | 3, hq => cases hq; exact hK3
    | 4, hq => cases hq; exact hK4
    | 5, hq => cases hq; exact hK5
    | 6, hq => cases hq; exact hK6
    | 7, hq => cases hq; exact hK7
    | 8, hq => cases hq; exact hK8
    | 9, hq => cases hq; exact hK9
    | 10, hq => cases hq; exact hK10
    | 11, hq => cases hq; exact hK11
    | 12, hq => cases hq; exact hK12
    | k + 13, hq => simp [vwCl] at hq
  · intro k q hq
    match k, hq with
    | 0, hq => cases hq; exact ⟨hI1, hI2⟩
    | 1, hq => cases hq; exact ⟨fun n z => ⟨fun k h => (by cases h), k9, h3, comp, h4⟩, h5⟩
    | 2, hq => cases hq; exact ⟨hJ1, hJ2⟩
    | k + 3, hq => simp at hq
theorem tb_stack0 (l : Launch) (hflags : l.flags = flags0) : l.stackTraces = false := by
  unfold Launch.stackTraces
  rw [hflags]
  decide +kernel
theorem tb_start {p : Program} {e : Env} {s : State} {m : MethodId} {below : List Frame} {meth : Method} {c : Code} (l : Launch) (hst : l.stackTraces = false) {b L : Nat} {xs : Nat → Int32} (C0 : lw_At p s m meth c b L xs)
    (h : ∀ G : tb_G, tb_At l G M_L_law room_1 (some (L, xs)) tb_LZ 0 0 0 (fun _ => (100, 3, [])) (fun _ _ => 0) 0 [some (.ref tb_sc), none, none, none, none, none, none] []) : W p l e room_1 s m #[Value.ref b] below meth c s.heap [] 0 0 (lw_Z below #[Value.ref b] s) (entryFrame m ([Value.ref b] : List Value).toArray 7) := by
  obtain ⟨hx, hb, hr, hml, hown, hts, hX, hbl, hlocks, hnm, htb, hgv⟩ := id C0
  obtain ⟨G, hK⟩ := tb_K0 hts
  have hE : tb_EX (fun q : Nat => s.heap.size ≤ q) s s.heap := tb_EX0 hts hgv (fun a ha => Nat.not_le.mpr ha)
  have htab : c.exceptionTable.toList = [] := by
    cases e9 : c.exceptionTable.toList with
    | nil => rfl
    | cons z zs => exact (htb z (by rw [e9]; exact List.mem_cons_self)).elim
  have hcl : tb_cl 0 (fun _ => ((100, 3, []) : tb_Sh)) := fun k hk => absurd hk (Nat.not_lt_zero k)
  have hso : tb_so 0 [Value.ref tb_sc] := fun v hv => by
    rw [List.mem_singleton] at hv
    subst hv
    exact Or.inr rfl
  have h9 := h G ⟨hcl, tb_lo0 (as := [Value.ref tb_sc]) (nL := 7) (tb_c1 rfl) hso, fun _ h9 => nomatch h9⟩ p e s m #[Value.ref b] below meth c (fun q : Nat => s.heap.size ≤ q) (fun _ => b) 0 b
    ⟨hx, hb, hml, hr, hlocks, hown, hnm, htab, fun w hw => hts w (tb_W_in hw), fun _ h => h, hK, hE, hst, hX, Nat.not_le.mpr hbl, hbl⟩
    s.heap [] (fun _ => b) _ ⟨fun _ _ => rfl, rfl, Nat.le_refl _, rfl⟩ (fun k q hq => by simp [tb_ws] at hq) ⟨fun i j p q h => by simp [tb_ws] at h, fun k q h => by simp [tb_ws] at h⟩ va_S.rf (tb_entry (as := [Value.ref tb_sc]) (adr := fun _ => b) (nL := 7) (tb_c1 rfl) (Nat.le_of_ble_eq_true rfl))
  rw [lg_entry_eq]
  intro T hT X
  obtain ⟨t, a1, b1⟩ := h9 T hT X
  exact ⟨t, a1, b1 ⟨⟨b, rfl⟩, fun _ h => h⟩⟩
