/-! ===== a world by numbers of cells: shapes, ints, and where each cell lies ===== -/
abbrev tb_Sh : Type := Nat × Nat × List (Option Nat)
abbrev tb_I : Type := Nat → Nat → Int32
abbrev tb_G : Type := va_G × ClassId × ClassId × ClassId
/-- a method: its name, its bytes, its locals, what it answers, its handlers -/
abbrev tb_Mt : Type := MethodName × ByteArray × Nat × Option FieldType × List (Nat × Nat × Nat × Nat)
def tb_ftab : List (List FieldType) := [[.object "TermBank$Terms", .object "TermBank$Ledger", .array (.array .int), .array .int, .array .int, .int, .int],
  [.array .int],
  [.object "TermBank$Terms", .array .int, .array .int, .array .int, .int, .int],
  [.object "TermBank$Terms", .array .int],
  [.object "TermBank$Terms", .array .int, .int, .int, .int],
  [.array .int, .object "TermBank$Core", .object "TermBank$Symbols", .object "TermBank$Rulebook", .int, .int, .int, .int, .int, .int, .boolean],
  [.object "TermBank$Core", .object "TermBank$Terms", .object "TermBank$Matcher", .object "TermBank$Maker", .array .int, .array .int, .array .int, .int, .int],
  [.object "TermBank$Core", .object "TermBank$Terms", .object "TermBank$Matcher", .object "TermBank$Unifier", .object "TermBank$Ordering"],
  [.array .int, .array .int, .array .int, .int],
  [.object "TermBank$Symbols", .array .int, .array .int, .array .int, .array .int, .array .int, .array .int, .array .int, .array .int, .array .int, .array .int, .array .int, .int],
  [.object "TermBank$Terms", .array .int, .array .int, .array .int, .array .int, .array .int, .array .int, .array .int, .array .int, .array .int, .int, .int],
  [.object "TermBank$Symbols", .object "TermBank$Core", .object "TermBank$Core", .object "TermBank$Symbols", .object "TermBank$Terms", .object "TermBank$Ledger", .object "TermBank$Matcher", .object "TermBank$Maker", .object "TermBank$Unifier", .object "TermBank$Rulebook", .object "TermBank$Rewriter", .object "TermBank$Reader", .array .int, .int, .int, .boolean],
  [.array .int, .array .int, .array .int, .array .int, .array .int, .array .int, .array .int, .array .int, .int, .int, .int, .int, .int, .int, .int, .int, .int, .int, .array .int, .int, .int, .boolean, .array .int, .array .int, .array .int, .array .int, .array .int, .array .int, .array .int, .array .int, .boolean, .array .int, .int, .boolean, .int, .int, .int, .int, .int, .int, .int, .int, .int, .int, .int, .int, .int]]
def tb_ft (ci j : Nat) : FieldType := (tb_ftab.getD ci []).getD j .int
def tb_isr (ci j : Nat) : Bool := refKind (tb_ft ci j)
def tb_rn (adr : Nat → Nat) (v : Value) : Value := match v with
  | .ref k => .ref (adr k)
  | w => w
def tb_fv (adr : Nat → Nat) (b : Bool) (r : Option Nat) (x : Int32) : Value := if b = true then va_rf (r.map adr) else .int x
def tb_fs (adr : Nat → Nat) (ci N : Nat) (rs : List (Option Nat)) (f : Nat → Int32) : List Value := (List.range N).map fun j => tb_fv adr (tb_isr ci j) (rs.getD j none) (f j)
def tb_en (G : tb_G) (adr : Nat → Nat) (s : tb_Sh) (f : Nat → Int32) : va_E :=
  if s.1 = 100 then .inl (G.2.1, s.2.1, .inl f)
  else if s.1 = 101 then .inl (G.2.2.1, s.2.1, .inr (.inr (.inr (.inr fun i => (s.2.2.getD i none).map adr))))
  else if s.1 = 102 then .inl (G.2.2.2, s.2.1, .inr (.inl fun i => (f i).toInt64))
  else .inr (s.1, tb_fs adr s.1 s.2.1 s.2.2 f)
def tb_ws (G : tb_G) (adr : Nat → Nat) (n : Nat) (sh : Nat → tb_Sh) (I : tb_I) : va_W := (List.range n).map fun k => (adr k, tb_en G adr (sh k) (I k))
def tb_row (I : tb_I) (c : Nat) (f : Nat → Int32) : tb_I := fun k => if k = c then f else I k
def tb_up (I : tb_I) (c k : Nat) (x : Int32) : tb_I := tb_row I c (upd (I c) k x)
def tb_sup (sh : Nat → tb_Sh) (c : Nat) (s : tb_Sh) : Nat → tb_Sh := fun k => if k = c then s else sh k
def tb_ad (adr : Nat → Nat) (n q : Nat) : Nat → Nat := fun k => if k = n then q else adr k
theorem tb_ws_at {G : tb_G} {adr : Nat → Nat} {n : Nat} {sh : Nat → tb_Sh} {I : tb_I} {k : Nat} (h : k < n) : (tb_ws G adr n sh I)[k]? = some (adr k, tb_en G adr (sh k) (I k)) := by
  simp [tb_ws, h]
theorem tb_ws_len {G : tb_G} {adr : Nat → Nat} {n : Nat} {sh : Nat → tb_Sh} {I : tb_I} : (tb_ws G adr n sh I).length = n := by simp [tb_ws]
theorem tb_ws_row {G : tb_G} {adr : Nat → Nat} {n : Nat} {sh : Nat → tb_Sh} {I : tb_I} {c : Nat} (f : Nat → Int32) : (tb_ws G adr n sh I).set c (adr c, tb_en G adr (sh c) f) = tb_ws G adr n sh (tb_row I c f) := by
  apply List.ext_getElem?
  intro k
  by_cases hk : k < n
  · rw [tb_ws_at hk]
    by_cases hc : k = c
    · subst hc
      rw [List.getElem?_set_self (by rw [tb_ws_len]; exact hk)]
      simp [tb_row]
    · rw [List.getElem?_set_ne (Ne.symm hc), tb_ws_at hk]
      simp [tb_row, hc]
  · rw [List.getElem?_eq_none (by rw [List.length_set, tb_ws_len]; omega), List.getElem?_eq_none (by rw [tb_ws_len]; omega)]
theorem tb_ws_sup {G : tb_G} {adr : Nat → Nat} {n : Nat} {sh : Nat → tb_Sh} {I : tb_I} {c : Nat} (s : tb_Sh) : (tb_ws G adr n sh I).set c (adr c, tb_en G adr s (I c)) = tb_ws G adr n (tb_sup sh c s) I := by
  apply List.ext_getElem?
  intro k
  by_cases hk : k < n
  · rw [tb_ws_at hk]
    by_cases hc : k = c
    · subst hc
      rw [List.getElem?_set_self (by rw [tb_ws_len]; exact hk)]
      simp [tb_sup]
    · rw [List.getElem?_set_ne (Ne.symm hc), tb_ws_at hk]
      simp [tb_sup, hc]
  · rw [List.getElem?_eq_none (by rw [List.length_set, tb_ws_len]; omega), List.getElem?_eq_none (by rw [tb_ws_len]; omega)]
theorem tb_fs_at {adr : Nat → Nat} {ci N : Nat} {rs : List (Option Nat)} {f : Nat → Int32} {k : Nat} (h : k < N) : (tb_fs adr ci N rs f)[k]? = some (tb_fv adr (tb_isr ci k) (rs.getD k none) (f k)) := by
  simp [tb_fs, h]
theorem tb_fs_len {adr : Nat → Nat} {ci N : Nat} {rs : List (Option Nat)} {f : Nat → Int32} : (tb_fs adr ci N rs f).length = N := by simp [tb_fs]
theorem tb_fs_setI {adr : Nat → Nat} {ci N : Nat} {rs : List (Option Nat)} {f : Nat → Int32} {k : Nat} {x : Int32} (hr : tb_isr ci k = false) : (tb_fs adr ci N rs f).set k (.int x) = tb_fs adr ci N rs (upd f k x) := by
  apply List.ext_getElem?
  intro j
  by_cases hj : j < N
  · rw [tb_fs_at hj]
    by_cases hc : j = k
    · subst hc
      rw [List.getElem?_set_self (by rw [tb_fs_len]; exact hj)]
      simp [tb_fv, hr, upd]
    · rw [List.getElem?_set_ne (Ne.symm hc), tb_fs_at hj]
      simp [upd, hc]
  · rw [List.getElem?_eq_none (by rw [List.length_set, tb_fs_len]; omega), List.getElem?_eq_none (by rw [tb_fs_len]; omega)]
theorem tb_fs_setR {adr : Nat → Nat} {ci N : Nat} {rs : List (Option Nat)} {f : Nat → Int32} {k r : Nat} (hr : tb_isr ci k = true) (hl : k < rs.length) : (tb_fs adr ci N rs f).set k (.ref (adr r)) = tb_fs adr ci N (rs.set k (some r)) f := by
  apply List.ext_getElem?
  intro j
  by_cases hj : j < N
  · rw [tb_fs_at hj]
    by_cases hc : j = k
    · subst hc
      rw [List.getElem?_set_self (by rw [tb_fs_len]; exact hj)]
      simp [tb_fv, hr, va_rf, List.getD, hl]
    · rw [List.getElem?_set_ne (Ne.symm hc), tb_fs_at hj]
      simp [List.getD, List.getElem?_set_ne (Ne.symm hc)]
  · rw [List.getElem?_eq_none (by rw [List.length_set, tb_fs_len]; omega), List.getElem?_eq_none (by rw [tb_fs_len]; omega)]
/-! what refers to a cell refers to one that is there -/
def tb_cl (n : Nat) (sh : Nat → tb_Sh) : Prop := ∀ k, k < n → ∀ r, some r ∈ (sh k).2.2 → r < n
def tb_sc : Nat := 1000000
def tb_vk (n : Nat) (v : Value) : Prop := match v with
  | .ref k => k < n ∨ k = tb_sc
  | _ => True
def tb_so (n : Nat) (S : List Value) : Prop := ∀ v ∈ S, tb_vk n v
def tb_lo (n : Nat) (L : List (Option Value)) : Prop := ∀ v, some v ∈ L → tb_vk n v ∧ v.category = 1
theorem tb_vk.mono {n n' : Nat} {v : Value} (h : tb_vk n v) (hn : n ≤ n') : tb_vk n' v := by
  cases v with
  | ref k => exact h.elim (fun h => Or.inl (Nat.lt_of_lt_of_le h hn)) Or.inr
  | _ => trivial
theorem tb_rn_eq {n : Nat} {adr adr' : Nat → Nat} (h : ∀ k, k < n → adr' k = adr k) (hx : adr' tb_sc = adr tb_sc) {v : Value} (hv : tb_vk n v) : tb_rn adr' v = tb_rn adr v := by
  cases v with
  | ref k =>
    rcases hv with hv | hv
    · show Value.ref _ = Value.ref _
      rw [h k hv]
    · subst hv
      show Value.ref _ = Value.ref _
      rw [hx]
  | _ => rfl
theorem tb_rn_map {n : Nat} {adr adr' : Nat → Nat} (h : ∀ k, k < n → adr' k = adr k) (hx : adr' tb_sc = adr tb_sc) {S : List Value} (hv : tb_so n S) : S.map (tb_rn adr') = S.map (tb_rn adr) := by
  apply List.map_congr_left
  intro v hv'
  exact tb_rn_eq h hx (hv v hv')
theorem tb_so.cons {n : Nat} {v : Value} {S : List Value} (hv : tb_vk n v) (h : tb_so n S) : tb_so n (v :: S) := fun w hw => (List.mem_cons.mp hw).elim (fun e => by rw [e]; exact hv) (h w)
theorem tb_so.tail {n : Nat} {v : Value} {S : List Value} (h : tb_so n (v :: S)) : tb_so n S := fun w hw => h w (List.mem_cons_of_mem _ hw)
theorem tb_so.head {n : Nat} {v : Value} {S : List Value} (h : tb_so n (v :: S)) : tb_vk n v := h v List.mem_cons_self
theorem tb_cat (adr : Nat → Nat) (v : Value) : (tb_rn adr v).category = v.category := by cases v <;> rfl
theorem tb_cats (adr : Nat → Nat) (S : List Value) : ((S.map (tb_rn adr)).map fun v => v.category) = S.map fun v => v.category := by
  rw [List.map_map]
  exact List.map_congr_left fun v _ => tb_cat adr v
/-! locals, by their places -/
def tb_LL (adr : Nat → Nat) (ls : Array Slot) (nL : Nat) (L : List (Option Value)) : Prop := ls.size = nL ∧ lv_wf ls ∧ L.length = nL ∧ ∀ (i : Nat) (v : Value), L[i]? = some (some v) → ls[i]? = some (.val (tb_rn adr v))
theorem tb_LL.has {adr : Nat → Nat} {ls : Array Slot} {nL : Nat} {L : List (Option Value)} (h : tb_LL adr ls nL L) : lv_has ls nL (L.zipIdx.filterMap fun q => q.1.map fun v => (q.2, tb_rn adr v)) := by
  refine ⟨h.1, h.2.1, fun q hq => ?_⟩
  obtain ⟨⟨o, i⟩, h1, h2⟩ := List.mem_filterMap.mp hq
  cases o with
  | none => cases h2
  | some v =>
    cases h2
    have h3 := List.mem_zipIdx_iff_getElem?.mp h1
    exact h.2.2.2 i v h3
