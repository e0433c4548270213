section
/-! ===== fields, arrays, new cells ===== -/
def tb_okf (ty : FieldType) : Bool := match ty with
  | .int => true
  | .boolean => true
  | .object _ => true
  | .array _ => true
  | _ => false
/-- a class of the tables -/
def tb_CL (ci : Nat) (C : String) (T : u_T) (N : Nat) : Prop := vwCl[ci]? = some (C, T, N) ∧ (∀ w ∈ u_ws C T N, w ∈ tb_W) ∧ (∀ k, k < N → parseFieldDescriptor (T k).2.2.1 = some (tb_ft ci k)) ∧ (∀ a, a < N → ∀ b, b < N → a ≠ b → (T a).2.1 ≠ (T b).2.1) ∧ ci < 100 ∧ (∀ k, k < N → tb_okf (tb_ft ci k) = true)
def tb_FL (own : String) (idx ci k : Nat) (fin : Bool) : Prop := ∃ (C : String) (T : u_T) (N : Nat), tb_CL ci C T N ∧ k < N ∧ Cond.fieldLink own idx (T k).1 (T k).2.1 (T k).2.2.1 ∈ tb_W ∧ (T k).2.2.2 = fin
def tb_FF (own : String) (idx ci k : Nat) : Prop := ∃ (C : String) (T : u_T) (N : Nat), tb_CL ci C T N ∧ k < N ∧ Cond.fieldLink own idx (T k).1 (T k).2.1 (T k).2.2.1 ∈ tb_W ∧ (T k).2.2.2 = true ∧ (T k).1 = own
def tb_NW (own : String) (idx ci N : Nat) : Prop := ∃ (C : String) (T : u_T), tb_CL ci C T N ∧ Cond.classLink own idx C ∈ tb_W ∧ Cond.instantiable C N ∈ tb_W ∧ Cond.initialized C ∈ tb_W
theorem tb_en_obj {G : tb_G} {adr : Nat → Nat} {ci N : Nat} {rs : List (Option Nat)} {f : Nat → Int32} (h : ci < 100) : tb_en G adr (ci, N, rs) f = .inr (ci, tb_fs adr ci N rs f) := by
  unfold tb_en
  rw [if_neg (show ¬ ci = 100 by omega), if_neg (show ¬ ci = 101 by omega), if_neg (show ¬ ci = 102 by omega)]
theorem tb_en_row {G : tb_G} {adr : Nat → Nat} {N : Nat} {rs : List (Option Nat)} {f : Nat → Int32} : tb_en G adr (101, N, rs) f = .inl (G.2.2.1, N, .inr (.inr (.inr (.inr fun i => (rs.getD i none).map adr)))) := rfl
theorem tb_en_long {G : tb_G} {adr : Nat → Nat} {N : Nat} {rs : List (Option Nat)} {f : Nat → Int32} : tb_en G adr (102, N, rs) f = .inl (G.2.2.2, N, .inr (.inl fun i => (f i).toInt64)) := rfl
theorem tb_isr_f {ty : FieldType} (h : ty = .int ∨ ty = .boolean) : refKind ty = false := by rcases h with rfl | rfl <;> rfl
theorem tb_ref_ok {ty : FieldType} (h : refKind ty = true) (a : Nat) : narrow ty (.ref a) = .ref a ∧ fits ty (.ref a) = true := by
  cases ty <;> first | exact ⟨rfl, rfl⟩ | cases h
theorem tb_z {x : Int32} (h : x = 0 ∨ x = 1) : narrow .boolean (.int x) = .int x ∧ fits .boolean (.int x) = true := by
  rcases h with rfl | rfl <;> exact ⟨by decide, by decide⟩
theorem tb_cl.sup {n : Nat} {sh : Nat → tb_Sh} {c : Nat} {s : tb_Sh} (h : tb_cl n sh) (hs : ∀ r, some r ∈ s.2.2 → r < n) : tb_cl n (tb_sup sh c s) := by
  intro k hk r hr
  by_cases hc : k = c
  · subst hc
    simp only [tb_sup, if_true] at hr
    exact hs r hr
  · simp only [tb_sup, hc, if_false] at hr
    exact h k hk r hr
theorem tb_cl.push {n m : Nat} {sh : Nat → tb_Sh} {s : tb_Sh} (h : tb_cl n sh) (hm : n + 1 = m) (hs : ∀ r, some r ∈ s.2.2 → r < m) : tb_cl m (tb_sup sh n s) := by
  subst hm
  intro k hk r hr
  by_cases hc : k = n
  · subst hc
    simp only [tb_sup, if_true] at hr
    exact hs r hr
  · simp only [tb_sup, hc, if_false] at hr
    exact Nat.lt_succ_of_lt (h k (by omega) r hr)
theorem tb_en_ad {G : tb_G} {adr adr' : Nat → Nat} {s : tb_Sh} {f : Nat → Int32} (h : ∀ r, some r ∈ s.2.2 → adr' r = adr r) : tb_en G adr' s f = tb_en G adr s f := by
  have e : ∀ i : Nat, (s.2.2.getD i none).map adr' = (s.2.2.getD i none).map adr := by
    intro i
    cases hi : s.2.2.getD i none with
    | none => rfl
    | some r =>
      have hm : some r ∈ s.2.2 := by
        rw [List.getD_eq_getElem?_getD] at hi
        cases hj : s.2.2[i]? with
        | none => rw [hj] at hi; cases hi
        | some z =>
          rw [hj] at hi
          have hz : z = some r := hi
          rw [hz] at hj
          exact List.mem_of_getElem? hj
      rw [Option.map_some, Option.map_some, h r hm]
  unfold tb_en
  split
  · rfl
  · split
    · simp only [e]
    · split
      · rfl
      · simp only [tb_fs, tb_fv, e]
theorem tb_ws_ad {G : tb_G} {adr adr' : Nat → Nat} {n : Nat} {sh : Nat → tb_Sh} {I : tb_I} (hc : tb_cl n sh) (h : ∀ k, k < n → adr' k = adr k) : tb_ws G adr' n sh I = tb_ws G adr n sh I := by
  apply List.map_congr_left
  intro k hk
  have hk := List.mem_range.mp hk
  rw [h k hk, tb_en_ad (fun r hr => h r (hc k hk r hr))]
theorem tb_ws_push {G : tb_G} {adr : Nat → Nat} {n q : Nat} {sh : Nat → tb_Sh} {I : tb_I} {s : tb_Sh} {f : Nat → Int32} (hc : tb_cl n sh) : tb_ws G (tb_ad adr n q) (n + 1) (tb_sup sh n s) (tb_row I n f) = tb_ws G adr n sh I ++ [(q, tb_en G (tb_ad adr n q) s f)] := by
  have e1 : tb_ws G (tb_ad adr n q) (n + 1) (tb_sup sh n s) (tb_row I n f) = tb_ws G (tb_ad adr n q) n (tb_sup sh n s) (tb_row I n f) ++ [(q, tb_en G (tb_ad adr n q) s f)] := by
    unfold tb_ws
    rw [List.range_succ, List.map_append]
    simp [tb_ad, tb_sup, tb_row]
  rw [e1]
  congr 1
  apply List.map_congr_left
  intro k hk
  have hk := List.mem_range.mp hk
  have hne : ¬ k = n := by omega
  have h1 : tb_sup sh n s k = sh k := by simp [tb_sup, hne]
  have h2 : tb_row I n f k = I k := by simp [tb_row, hne]
  have h3 : tb_ad adr n q k = adr k := by simp [tb_ad, hne]
  rw [h1, h2, h3, tb_en_ad (fun r hr => ?_)]
  have := hc k hk r hr
  have hr2 : ¬ r = n := by omega
  simp [tb_ad, hr2]
theorem tb_LL.ad {n : Nat} {adr adr' : Nat → Nat} {ls : Array Slot} {nL : Nat} {L : List (Option Value)} (h : tb_LL adr ls nL L) (hlo : tb_lo n L) (ha : ∀ k, k < n → adr' k = adr k) (hx : adr' tb_sc = adr tb_sc) : tb_LL adr' ls nL L := by
  refine ⟨h.1, h.2.1, h.2.2.1, fun i v hv => ?_⟩
  rw [tb_rn_eq ha hx (hlo.at hv)]
  exact h.2.2.2 i v hv
theorem tb_lo.mono {n n' : Nat} {L : List (Option Value)} (h : tb_lo n L) (hn : n ≤ n') : tb_lo n' L := fun v hv => ⟨(h v hv).1.mono hn, (h v hv).2⟩
theorem tb_so.mono {n n' : Nat} {S : List Value} (h : tb_so n S) (hn : n ≤ n') : tb_so n' S := fun v hv => (h v hv).mono hn
theorem tb_dflt {ty : FieldType} (h : tb_okf ty = true) (adr : Nat → Nat) : defaultValue ty = tb_fv adr (refKind ty) none 0 := by
  cases ty <;> first | rfl | cases h
section TBM
variable {l : Launch} {G : tb_G} {y : tb_Mt} {R : Room} {xt : Option (Nat × (Nat → Int32))} {Z : tb_CT → State → Prop} {k1 k2 n : Nat} {sh : Nat → tb_Sh} {I : tb_I} {pc : Nat} {L : List (Option Value)} {S : List Value}
theorem tb_getI {idx ci k c9 N : Nat} {fin : Bool} {rs : List (Option Nat)} (hd : decode y.2.1 pc = .ok (.getfield idx, 3)) (hf : tb_FL y.1.cls idx ci k fin) (hs : sh c9 = (ci, N, rs)) (hc : c9 ≠ tb_sc) (hk : k < N) (hr : tb_isr ci k = false)
    (kk : tb_At l G y R xt Z k1 k2 n sh I (pc + 3) L (.int (I c9 k) :: S)) : tb_At l G y R xt Z k1 k2 n sh I pc L (.ref c9 :: S) := by
  intro ok p e s m args below meth c A adr0 n0 bx C H locs adr ls ha hP hD hS hl
  obtain ⟨C', T, N', hCL, hkN, hw, hfin⟩ := hf
  have hcn : c9 < n := ok.2.2.head.resolve_right hc
  have he : (tb_ws G adr n sh I)[c9]? = some (adr c9, .inr (ci, tb_fs adr ci N rs (I c9))) := by rw [tb_ws_at hcn, hs, tb_en_obj hCL.2.2.2.2.1]
  exact va_get (D := G.1) (ci := ci) (v := .int (I c9 k)) (C := C') (T := T) (N := N') C.1 C.2.1 C.2.2.2.2.2.2.2.2.1 hCL.2.1 C.2.2.2.2.2.1 C.2.2.2.2.2.2.2.2.2.2.1 hP c9 he hCL.1 k hkN (C.2.2.2.2.2.2.2.2.1 _ hw) (fun _ h9 => h9) (by rw [tb_fs_at hk]; simp [tb_fv, hr]) hd (kk ⟨ok.1, ok.2.1, .cons trivial ok.2.2.tail⟩ p e s m args below meth c A adr0 n0 bx C H locs adr ls ha hP hD hS hl)
theorem tb_getR {idx ci k c9 N r : Nat} {fin : Bool} {rs : List (Option Nat)} (hd : decode y.2.1 pc = .ok (.getfield idx, 3)) (hf : tb_FL y.1.cls idx ci k fin) (hs : sh c9 = (ci, N, rs)) (hc : c9 ≠ tb_sc) (hk : k < N) (hr : tb_isr ci k = true) (hrk : rs[k]? = some (some r))
    (kk : tb_At l G y R xt Z k1 k2 n sh I (pc + 3) L (.ref r :: S)) : tb_At l G y R xt Z k1 k2 n sh I pc L (.ref c9 :: S) := by
  intro ok p e s m args below meth c A adr0 n0 bx C H locs adr ls ha hP hD hS hl
  obtain ⟨C', T, N', hCL, hkN, hw, hfin⟩ := hf
  have hcn : c9 < n := ok.2.2.head.resolve_right hc
  have he : (tb_ws G adr n sh I)[c9]? = some (adr c9, .inr (ci, tb_fs adr ci N rs (I c9))) := by rw [tb_ws_at hcn, hs, tb_en_obj hCL.2.2.2.2.1]
  have hrn : r < n := ok.1 c9 hcn r (by rw [hs]; exact List.mem_of_getElem? hrk)
  exact va_get (D := G.1) (ci := ci) (v := .ref (adr r)) (C := C') (T := T) (N := N') C.1 C.2.1 C.2.2.2.2.2.2.2.2.1 hCL.2.1 C.2.2.2.2.2.1 C.2.2.2.2.2.2.2.2.2.2.1 hP c9 he hCL.1 k hkN (C.2.2.2.2.2.2.2.2.1 _ hw) (fun _ h9 => h9) (by rw [tb_fs_at hk]; simp [tb_fv, hr, List.getD, hrk, va_rf]) hd (kk ⟨ok.1, ok.2.1, .cons (Or.inl hrn) ok.2.2.tail⟩ p e s m args below meth c A adr0 n0 bx C H locs adr ls ha hP hD hS hl)
theorem tb_putT {idx ci k c9 N : Nat} {rs : List (Option Nat)} {x : Int32} {ty : FieldType} (hd : decode y.2.1 pc = .ok (.putfield idx, 3)) (hf : tb_FL y.1.cls idx ci k false) (hs : sh c9 = (ci, N, rs)) (hc : c9 ≠ tb_sc) (hk : k < N) (ht : tb_ft ci k = ty) (hty : ty = .int ∨ ty = .boolean) (hx : narrow ty (.int x) = .int x ∧ fits ty (.int x) = true)
    (kk : tb_At l G y R xt Z k1 k2 n sh (tb_up I c9 k x) (pc + 3) L S) : tb_At l G y R xt Z k1 k2 n sh I pc L (.int x :: .ref c9 :: S) := by
  intro ok p e s m args below meth c A adr0 n0 bx C H locs adr ls ha hP hD hS hl
  obtain ⟨C', T, N', hCL, hkN, hw, hfin⟩ := hf
  have hcn : c9 < n := ok.2.2.tail.head.resolve_right hc
  have hisr : tb_isr ci k = false := by unfold tb_isr; rw [ht]; exact tb_isr_f hty
  have he : (tb_ws G adr n sh I)[c9]? = some (adr c9, .inr (ci, tb_fs adr ci N rs (I c9))) := by rw [tb_ws_at hcn, hs, tb_en_obj hCL.2.2.2.2.1]
  have ew : (tb_ws G adr n sh I).set c9 (adr c9, .inr (ci, (tb_fs adr ci N rs (I c9)).set k (.int x))) = tb_ws G adr n sh (tb_up I c9 k x) := by
    rw [tb_fs_setI hisr, ← tb_en_obj (G := G) hCL.2.2.2.2.1, ← hs]
    exact tb_ws_row _
  refine va_put (D := G.1) (ci := ci) (v := .int x) (ty := ty) (C := C') (T := T) (N := N') C.1 C.2.1 C.2.2.2.2.2.2.2.2.1 hCL.2.1 (tb_ft ci) hCL.2.2.1 hCL.2.2.2.1 C.2.2.2.2.2.1 C.2.2.2.2.2.2.2.2.2.2.1 hP hD hS c9 he hCL.1 k hkN (C.2.2.2.2.2.2.2.2.1 _ hw) (fun _ h9 => h9) hfin (by rw [hCL.2.2.1 k hkN, ht]) hx.1 hx.2 (by rw [tb_fs_len]; exact hk) hd (fun H1 locs1 hP1 hD1 hS1 => ?_)
  rw [ew] at hP1 hD1
  exact kk ⟨ok.1, ok.2.1, ok.2.2.tail.tail⟩ p e s m args below meth c A adr0 n0 bx C H1 locs1 adr ls ha hP1 hD1 hS1 hl
theorem tb_putI {idx ci k c9 N : Nat} {rs : List (Option Nat)} {x : Int32} (hd : decode y.2.1 pc = .ok (.putfield idx, 3)) (hf : tb_FL y.1.cls idx ci k false) (hs : sh c9 = (ci, N, rs)) (hc : c9 ≠ tb_sc) (hk : k < N) (ht : tb_ft ci k = .int)
    (kk : tb_At l G y R xt Z k1 k2 n sh (tb_up I c9 k x) (pc + 3) L S) : tb_At l G y R xt Z k1 k2 n sh I pc L (.int x :: .ref c9 :: S) := tb_putT hd hf hs hc hk ht (Or.inl rfl) ⟨rfl, rfl⟩ kk
theorem tb_putZ {idx ci k c9 N : Nat} {rs : List (Option Nat)} {x : Int32} (hd : decode y.2.1 pc = .ok (.putfield idx, 3)) (hf : tb_FL y.1.cls idx ci k false) (hs : sh c9 = (ci, N, rs)) (hc : c9 ≠ tb_sc) (hk : k < N) (ht : tb_ft ci k = .boolean) (hx : x = 0 ∨ x = 1)
    (kk : tb_At l G y R xt Z k1 k2 n sh (tb_up I c9 k x) (pc + 3) L S) : tb_At l G y R xt Z k1 k2 n sh I pc L (.int x :: .ref c9 :: S) := tb_putT hd hf hs hc hk ht (Or.inr rfl) (tb_z hx) kk
theorem tb_putR {idx ci k c9 N r : Nat} {rs rs2 : List (Option Nat)} (hd : decode y.2.1 pc = .ok (.putfield idx, 3)) (hi : y.1.name = "<init>") (hf : tb_FF y.1.cls idx ci k) (hs : sh c9 = (ci, N, rs)) (hc : c9 ≠ tb_sc) (hr0 : r ≠ tb_sc) (hk : k < N) (hkl : k < rs.length) (hr : tb_isr ci k = true) (hrs : rs.set k (some r) = rs2)
    (kk : tb_At l G y R xt Z k1 k2 n (tb_sup sh c9 (ci, N, rs2)) I (pc + 3) L S) : tb_At l G y R xt Z k1 k2 n sh I pc L (.ref r :: .ref c9 :: S) := by
  intro ok p e s m args below meth c A adr0 n0 bx C H locs adr ls ha hP hD hS hl
  subst hrs
  obtain ⟨C', T, N', hCL, hkN, hw, hfin, hown⟩ := hf
  have hcn : c9 < n := ok.2.2.tail.head.resolve_right hc
  have hrn : r < n := ok.2.2.head.resolve_right hr0
  have he : (tb_ws G adr n sh I)[c9]? = some (adr c9, .inr (ci, tb_fs adr ci N rs (I c9))) := by rw [tb_ws_at hcn, hs, tb_en_obj hCL.2.2.2.2.1]
  have ew : (tb_ws G adr n sh I).set c9 (adr c9, .inr (ci, (tb_fs adr ci N rs (I c9)).set k (.ref (adr r)))) = tb_ws G adr n (tb_sup sh c9 (ci, N, rs.set k (some r))) I := by
    rw [tb_fs_setR hr hkl, ← tb_en_obj (G := G) hCL.2.2.2.2.1]
    exact tb_ws_sup _
  have hx := tb_ref_ok (ty := tb_ft ci k) hr (adr r)
  refine va_putF (D := G.1) (ci := ci) (v := .ref (adr r)) (ty := tb_ft ci k) (C := C') (T := T) (N := N') C.1 C.2.1 C.2.2.2.2.2.2.2.2.1 hCL.2.1 (tb_ft ci) hCL.2.2.1 hCL.2.2.2.1 C.2.2.2.2.2.1 C.2.2.2.2.2.2.2.2.2.2.1 hP hD hS c9 he hCL.1 k hkN (C.2.2.2.2.2.2.2.2.1 _ hw) (fun _ h9 => h9) hfin (C.2.2.2.2.2.2.1.trans hi) hown (hCL.2.2.1 k hkN) hx.1 hx.2 (by rw [tb_fs_len]; exact hk) hd (fun H1 locs1 hP1 hD1 hS1 => ?_)
  rw [ew] at hP1 hD1
  refine kk ⟨ok.1.sup (fun z hz => ?_), ok.2.1, ok.2.2.tail.tail⟩ p e s m args below meth c A adr0 n0 bx C H1 locs1 adr ls ha hP1 hD1 hS1 hl
  rcases List.mem_or_eq_of_mem_set hz with h1 | h1
  · exact ok.1 c9 hcn z (by rw [hs]; exact h1)
  · cases h1
    exact hrn
theorem tb_iald {i : Int32} {j len c9 : Nat} {rs : List (Option Nat)} (hd : decode y.2.1 pc = .ok (.iaload, 1)) (hs : sh c9 = (100, len, rs)) (hc : c9 ≠ tb_sc) (hi : i = nI j) (hj : j < len) (hb : len ≤ 2147483647)
    (kk : tb_At l G y R xt Z k1 k2 n sh I (pc + 1) L (.int (I c9 j) :: S)) : tb_At l G y R xt Z k1 k2 n sh I pc L (.int i :: .ref c9 :: S) := by
  intro ok p e s m args below meth c A adr0 n0 bx C H locs adr ls ha hP hD hS hl
  subst hi
  have hcn : c9 < n := ok.2.2.tail.head.resolve_right hc
  have he : (tb_ws G adr n sh I)[c9]? = some (adr c9, .inl (G.2.1, len, .inl (I c9))) := by rw [tb_ws_at hcn, hs]; rfl
  refine va_iald (D := G.1) C.1 C.2.1 C.2.2.2.2.2.2.2.2.2.2.1 hP c9 0 he rfl (vp_in_nI hj (by omega)) hd ?_
  rw [nI_clamp (by omega)]
  exact kk ⟨ok.1, ok.2.1, .cons trivial ok.2.2.tail.tail⟩ p e s m args below meth c A adr0 n0 bx C H locs adr ls ha hP hD hS hl
theorem tb_iast {i x : Int32} {j len c9 : Nat} {rs : List (Option Nat)} (hd : decode y.2.1 pc = .ok (.iastore, 1)) (hs : sh c9 = (100, len, rs)) (hc : c9 ≠ tb_sc) (hi : i = nI j) (hj : j < len) (hb : len ≤ 2147483647)
    (kk : tb_At l G y R xt Z k1 k2 n sh (tb_up I c9 j x) (pc + 1) L S) : tb_At l G y R xt Z k1 k2 n sh I pc L (.int x :: .int i :: .ref c9 :: S) := by
  intro ok p e s m args below meth c A adr0 n0 bx C H locs adr ls ha hP hD hS hl
  subst hi
  have hcn : c9 < n := ok.2.2.tail.tail.head.resolve_right hc
  have he : (tb_ws G adr n sh I)[c9]? = some (adr c9, .inl (G.2.1, len, .inl (I c9))) := by rw [tb_ws_at hcn, hs]; rfl
  have ew : (tb_ws G adr n sh I).set c9 (adr c9, .inl (G.2.1, len, .inl (upd (I c9) j x))) = tb_ws G adr n sh (tb_up I c9 j x) := by
    have e2 : (Sum.inl (G.2.1, len, .inl (upd (I c9) j x)) : va_E) = tb_en G adr (sh c9) (upd (I c9) j x) := by rw [hs]; rfl
    rw [e2]
    exact tb_ws_row _
  refine va_iast (D := G.1) C.1 C.2.1 C.2.2.2.2.2.2.2.2.2.2.1 hP hD hS c9 0 he rfl (vp_in_nI hj (by omega)) hd (fun H1 locs1 hP1 hD1 hS1 => ?_)
  rw [nI_clamp (by omega), ew] at hP1 hD1
  exact kk ⟨ok.1, ok.2.1, ok.2.2.tail.tail.tail⟩ p e s m args below meth c A adr0 n0 bx C H1 locs1 adr ls ha hP1 hD1 hS1 hl
theorem tb_alen {len c9 : Nat} {rs : List (Option Nat)} (hd : decode y.2.1 pc = .ok (.arraylength, 1)) (hs : sh c9 = (100, len, rs)) (hc : c9 ≠ tb_sc)
    (kk : tb_At l G y R xt Z k1 k2 n sh I (pc + 1) L (.int (nI len) :: S)) : tb_At l G y R xt Z k1 k2 n sh I pc L (.ref c9 :: S) := by
  intro ok p e s m args below meth c A adr0 n0 bx C H locs adr ls ha hP hD hS hl
  have hcn : c9 < n := ok.2.2.head.resolve_right hc
  have he : (tb_ws G adr n sh I)[c9]? = some (adr c9, .inl (G.2.1, len, .inl (I c9))) := by rw [tb_ws_at hcn, hs]; rfl
  exact va_alen (D := G.1) C.1 C.2.1 C.2.2.2.2.2.2.2.2.2.2.1 hP c9 0 he (ty := .int) rfl rfl hd (kk ⟨ok.1, ok.2.1, .cons trivial ok.2.2.tail⟩ p e s m args below meth c A adr0 n0 bx C H locs adr ls ha hP hD hS hl)
theorem tb_aald {i : Int32} {j len c9 r : Nat} {rs : List (Option Nat)} (hd : decode y.2.1 pc = .ok (.aaload, 1)) (hs : sh c9 = (101, len, rs)) (hc : c9 ≠ tb_sc) (hi : i = nI j) (hj : j < len) (hb : len ≤ 2147483647) (hr : rs[j]? = some (some r))
    (kk : tb_At l G y R xt Z k1 k2 n sh I (pc + 1) L (.ref r :: S)) : tb_At l G y R xt Z k1 k2 n sh I pc L (.int i :: .ref c9 :: S) := by
  intro ok p e s m args below meth c A adr0 n0 bx C H locs adr ls ha hP hD hS hl
  subst hi
  have hcn : c9 < n := ok.2.2.tail.head.resolve_right hc
  have hrn : r < n := ok.1 c9 hcn r (by rw [hs]; exact List.mem_of_getElem? hr)
  have he : (tb_ws G adr n sh I)[c9]? = some (adr c9, .inl (G.2.2.1, len, .inr (.inr (.inr (.inr fun i => (rs.getD i none).map adr))))) := by rw [tb_ws_at hcn, hs]; rfl
  have hcl : (nI j).toNatClampNeg = j := nI_clamp (by omega)
  have hin : vp_in (nI j) len := vp_in_nI hj (by omega)
  have hval : va_rf ((rs.getD (nI j).toNatClampNeg none).map adr) = .ref (adr r) := by rw [hcl, List.getD_eq_getElem?_getD, hr]; rfl
  have hlt : (nI j).toNatClampNeg < len := by rw [hcl]; exact hj
  have hK := C.2.2.2.2.2.2.2.2.2.2.1
  exact W.aald (v := .ref (adr r)) (ty := .array .int) C.1 C.2.1 (hP c9 _ he) ((hK.2 1 _ rfl).1 len (fun j => va_rf ((rs.getD j none).map adr))) rfl (fun q => by cases q) (by show ¬ (nI j < 0 ∨ (arrV _ _ _).slots.size ≤ _); rw [arrV_size]; exact hin) (by show (arrV _ _ _).slots[_]? = _; rw [arrV_read _ _ hlt, hval]) rfl rfl hd (kk ⟨ok.1, ok.2.1, .cons (Or.inl hrn) ok.2.2.tail.tail⟩ p e s m args below meth c A adr0 n0 bx C H locs adr ls ha hP hD hS hl)
theorem tb_lald {i : Int32} {j len c9 : Nat} {rs : List (Option Nat)} (hd : decode y.2.1 pc = .ok (.laload, 1)) (hs : sh c9 = (102, len, rs)) (hc : c9 ≠ tb_sc) (hi : i = nI j) (hj : j < len) (hb : len ≤ 2147483647)
    (kk : tb_At l G y R xt Z k1 k2 n sh I (pc + 1) L (.long (I c9 j).toInt64 :: S)) : tb_At l G y R xt Z k1 k2 n sh I pc L (.int i :: .ref c9 :: S) := by
  intro ok p e s m args below meth c A adr0 n0 bx C H locs adr ls ha hP hD hS hl
  subst hi
  have hcn : c9 < n := ok.2.2.tail.head.resolve_right hc
  have he : (tb_ws G adr n sh I)[c9]? = some (adr c9, .inl (G.2.2.2, len, .inr (.inl fun i => (I c9 i).toInt64))) := by rw [tb_ws_at hcn, hs]; rfl
  refine va_lald (D := G.1) C.1 C.2.1 C.2.2.2.2.2.2.2.2.2.2.1 hP c9 2 he rfl (vp_in_nI hj (by omega)) hd ?_
  rw [nI_clamp (by omega)]
  exact kk ⟨ok.1, ok.2.1, .cons trivial ok.2.2.tail.tail⟩ p e s m args below meth c A adr0 n0 bx C H locs adr ls ha hP hD hS hl
theorem tb_last {i x : Int32} {j len c9 : Nat} {rs : List (Option Nat)} (hd : decode y.2.1 pc = .ok (.lastore, 1)) (hs : sh c9 = (102, len, rs)) (hc : c9 ≠ tb_sc) (hi : i = nI j) (hj : j < len) (hb : len ≤ 2147483647)
    (kk : tb_At l G y R xt Z k1 k2 n sh (tb_up I c9 j x) (pc + 1) L S) : tb_At l G y R xt Z k1 k2 n sh I pc L (.long x.toInt64 :: .int i :: .ref c9 :: S) := by
  intro ok p e s m args below meth c A adr0 n0 bx C H locs adr ls ha hP hD hS hl
  subst hi
  have hcn : c9 < n := ok.2.2.tail.tail.head.resolve_right hc
  have he : (tb_ws G adr n sh I)[c9]? = some (adr c9, .inl (G.2.2.2, len, .inr (.inl fun i => (I c9 i).toInt64))) := by rw [tb_ws_at hcn, hs]; rfl
  have ew : (tb_ws G adr n sh I).set c9 (adr c9, .inl (G.2.2.2, len, .inr (.inl (vp_updL (fun i => (I c9 i).toInt64) j x.toInt64)))) = tb_ws G adr n sh (tb_up I c9 j x) := by
    have e2 : (Sum.inl (G.2.2.2, len, .inr (.inl (vp_updL (fun i => (I c9 i).toInt64) j x.toInt64))) : va_E) = tb_en G adr (sh c9) (upd (I c9) j x) := by
      rw [hs, tb_en_long]
      have e3 : vp_updL (fun i => (I c9 i).toInt64) j x.toInt64 = fun i => (upd (I c9) j x i).toInt64 := by
        funext i
        unfold vp_updL upd
        split <;> rfl
      rw [e3]
    rw [e2]
    exact tb_ws_row _
  refine va_last (D := G.1) C.1 C.2.1 C.2.2.2.2.2.2.2.2.2.2.1 hP hD hS c9 2 he rfl (vp_in_nI hj (by omega)) hd (fun H1 locs1 hP1 hD1 hS1 => ?_)
  rw [nI_clamp (by omega), ew] at hP1 hD1
  exact kk ⟨ok.1, ok.2.1, ok.2.2.tail.tail.tail⟩ p e s m args below meth c A adr0 n0 bx C H1 locs1 adr ls ha hP1 hD1 hS1 hl
theorem tb_sld {i : Int32} {j Lx : Nat} {xs : Nat → Int32} (hx : xt = some (Lx, xs)) (hd : decode y.2.1 pc = .ok (.iaload, 1)) (hi : i = nI j) (hj : j < Lx) (hb : Lx ≤ 2147483647)
    (kk : tb_At l G y R xt Z k1 k2 n sh I (pc + 1) L (.int (xs j) :: S)) : tb_At l G y R xt Z k1 k2 n sh I pc L (.int i :: .ref tb_sc :: S) := by
  intro ok p e s m args below meth c A adr0 n0 bx C H locs adr ls ha hP hD hS hl
  subst hi
  have hX := C.2.2.2.2.2.2.2.2.2.2.2.2.2
  rw [hx] at hX
  have hbx : adr tb_sc = bx := ha.2.1.trans ha.2.2.2
  obtain ⟨h1, h2, h3⟩ := hX
  show W p l e R s m args below meth c H locs k1 k2 _ (F0 m pc ls (.int (nI j) :: .ref (adr tb_sc) :: S.map (tb_rn adr)))
  rw [hbx]
  refine va_sld C.1 C.2.1 h1 h3 h2 hS (vp_in_nI hj (by omega)) hd ?_
  rw [nI_clamp (by omega)]
  exact kk ⟨ok.1, ok.2.1, .cons trivial ok.2.2.tail.tail⟩ p e s m args below meth c A adr0 n0 bx C H locs adr ls ha hP hD hS hl
theorem tb_slen {Lx : Nat} {xs : Nat → Int32} (hx : xt = some (Lx, xs)) (hd : decode y.2.1 pc = .ok (.arraylength, 1))
    (kk : tb_At l G y R xt Z k1 k2 n sh I (pc + 1) L (.int (nI Lx) :: S)) : tb_At l G y R xt Z k1 k2 n sh I pc L (.ref tb_sc :: S) := by
  intro ok p e s m args below meth c A adr0 n0 bx C H locs adr ls ha hP hD hS hl
  have hX := C.2.2.2.2.2.2.2.2.2.2.2.2.2
  rw [hx] at hX
  have hbx : adr tb_sc = bx := ha.2.1.trans ha.2.2.2
  obtain ⟨h1, h2, h3⟩ := hX
  show W p l e R s m args below meth c H locs k1 k2 _ (F0 m pc ls (.ref (adr tb_sc) :: S.map (tb_rn adr)))
  rw [hbx]
  exact va_slen C.1 C.2.1 h1 h3 h2 hS hd (kk ⟨ok.1, ok.2.1, .cons trivial ok.2.2.tail⟩ p e s m args below meth c A adr0 n0 bx C H locs adr ls ha hP hD hS hl)
/-- a new cell, in the words of the world by numbers -/
theorem tb_pushed {A : Nat → Prop} {adr0 adr : Nat → Nat} {n0 bx q : Nat} {H1 : Heap} {s9 : tb_Sh} {f : Nat → Int32} {e9 : va_E} (hcl : tb_cl n sh) (hns : n < tb_sc) (hs9 : ∀ r, some r ∉ s9.2.2) (he9 : tb_en G adr s9 f = e9) (ha : (∀ k, k < n0 → adr k = adr0 k) ∧ adr tb_sc = adr0 tb_sc ∧ n0 ≤ n ∧ adr0 tb_sc = bx)
    (hP : va_P G.1 vwCl (tb_ws G adr n sh I ++ [(q, e9)]) H1) (hD : va_D A (tb_ws G adr n sh I ++ [(q, e9)])) :
    (va_P G.1 vwCl (tb_ws G (tb_ad adr n q) (n + 1) (tb_sup sh n s9) (tb_row I n f)) H1 ∧ va_D A (tb_ws G (tb_ad adr n q) (n + 1) (tb_sup sh n s9) (tb_row I n f))) ∧ ((∀ k, k < n0 → tb_ad adr n q k = adr0 k) ∧ tb_ad adr n q tb_sc = adr0 tb_sc ∧ n0 ≤ n + 1 ∧ adr0 tb_sc = bx) ∧ (∀ k, k < n → tb_ad adr n q k = adr k) ∧ tb_ad adr n q tb_sc = adr tb_sc := by
  have e1 : tb_en G (tb_ad adr n q) s9 f = e9 := by rw [← he9]; exact tb_en_ad (fun r hr => absurd hr (hs9 r))
  have h1 : ∀ k, k < n → tb_ad adr n q k = adr k := fun k hk => by
    have : ¬ k = n := by omega
    simp [tb_ad, this]
  have h2 : tb_ad adr n q tb_sc = adr tb_sc := by
    have : ¬ tb_sc = n := by omega
    simp [tb_ad, this]
  rw [tb_ws_push hcl, e1]
  refine ⟨⟨hP, hD⟩, ⟨fun k hk => (h1 k (by omega)).trans (ha.1 k hk), h2.trans ha.2.1, by omega, ha.2.2.2⟩, h1, h2⟩
theorem tb_new {idx ci N m1 m2 n' : Nat} (hd : decode y.2.1 pc = .ok (.new idx, 3)) (hf : tb_NW y.1.cls idx ci N) (hns : n < tb_sc) (h1 : k1 + 1 = m1) (h2 : k2 + N = m2) (h3 : n + 1 = n') (hcells : m1 ≤ R.cells) (hslots : m2 ≤ R.slots)
    (kk : tb_At l G y R xt Z m1 m2 n' (tb_sup sh n (ci, N, List.replicate N none)) (tb_row I n (fun _ => 0)) (pc + 3) L (.ref n :: S)) : tb_At l G y R xt Z k1 k2 n sh I pc L S := by
  subst h1
  subst h2
  subst h3
  intro ok p e s m args below meth c A adr0 n0 bx C H locs adr ls ha hP hD hS hl
  obtain ⟨C', T, hCL, hw1, hw2, hw3⟩ := hf
  have hts := C.2.2.2.2.2.2.2.2.1
  have hdv : ∀ j, j < N → defaultValue (tb_ft ci j) = vp_V (tb_fs adr ci N (List.replicate N none) (fun _ => 0)) j := by
    intro j hj
    have e1 : vp_V (tb_fs adr ci N (List.replicate N none) (fun _ => 0)) j = tb_fv adr (tb_isr ci j) none 0 := by
      unfold vp_V
      rw [List.getD_eq_getElem?_getD, tb_fs_at hj]
      simp [List.getD_eq_getElem?_getD, hj]
    rw [e1]
    exact tb_dflt (hCL.2.2.2.2.2 j hj) adr
  refine va_new (D := G.1) (ci := ci) (fs := tb_fs adr ci N (List.replicate N none) (fun _ => 0)) (C := C') (T := T) (N := N) C.1 C.2.1 hts hCL.2.1 (tb_ft ci) hCL.2.2.1 C.2.2.2.2.2.1 (hts _ hw1) (hts _ hw2) (hts _ hw3) C.2.2.2.2.2.2.2.2.2.2.1 hP hD hS C.2.2.2.2.2.2.2.2.2.1 hCL.1 hdv hcells hslots hd (fun q H1 hP1 hD1 hS1 => ?_)
  have hno : ∀ r, some r ∉ ((ci, N, List.replicate N none) : tb_Sh).2.2 := fun r hr => by
    have := (List.mem_replicate.mp hr).2
    cases this
  obtain ⟨⟨hP2, hD2⟩, ha2, hk1, hk2⟩ := tb_pushed (s9 := (ci, N, List.replicate N none)) (f := fun _ => 0) ok.1 hns hno (tb_en_obj hCL.2.2.2.2.1) ha hP1 hD1
  have hmap := tb_rn_map hk1 hk2 ok.2.2
  have hq : tb_rn (tb_ad adr n q) (.ref n) = .ref q := by simp [tb_rn, tb_ad]
  have h9 := kk ⟨ok.1.push rfl (fun r hr => absurd hr (hno r)), ok.2.1.mono (Nat.le_succ n), .cons (Or.inl (Nat.lt_succ_self n)) (ok.2.2.mono (Nat.le_succ n))⟩ p e s m args below meth c A adr0 n0 bx C H1 locs (tb_ad adr n q) ls ha2 hP2 hD2 hS1 (hl.ad ok.2.1 hk1 hk2)
  rw [List.map_cons, hmap, hq] at h9
  exact h9
theorem tb_newa {v : Int32} {len m1 m2 n' : Nat} (hd : decode y.2.1 pc = .ok (.newarray .int, 2)) (hw : Cond.arrayClass .int ∈ tb_W) (hns : n < tb_sc) (hv : v = nI len) (hb : len ≤ 100000) (h1 : k1 + 1 = m1) (h2 : k2 + len = m2) (h3 : n + 1 = n') (hcells : m1 ≤ R.cells) (hslots : m2 ≤ R.slots)
    (kk : tb_At l G y R xt Z m1 m2 n' (tb_sup sh n (100, len, [])) (tb_row I n (fun _ => 0)) (pc + 2) L (.ref n :: S)) : tb_At l G y R xt Z k1 k2 n sh I pc L (.int v :: S) := by
  subst h1
  subst h2
  subst h3
  subst hv
  intro ok p e s m args below meth c A adr0 n0 bx C H locs adr ls ha hP hD hS hl
  have hts := C.2.2.2.2.2.2.2.2.1
  have hK := C.2.2.2.2.2.2.2.2.2.2.1
  refine va_newa (D := G.1) (atype := .int) (ty := .int) (a0 := (len, .inl (fun _ => 0))) C.1 C.2.1 (hts _ hw) rfl hK hP hD hS C.2.2.2.2.2.2.2.2.2.1 (fun cA => rfl) (nI_pos (by omega)) (nI_clamp (by omega)) (by show len * 4 ≤ _; omega) hcells hslots hd (fun q cA H1 hK1 hP1 hD1 hS1 => ?_)
  have hcA : cA = G.2.1 := by
    have e1 := (hK1.2 3 _ rfl).2
    have e2 := (hK.2 0 _ rfl).2
    exact Option.some.inj (e1.symm.trans e2)
  subst hcA
  obtain ⟨⟨hP2, hD2⟩, ha2, hk1, hk2⟩ := tb_pushed (s9 := (100, len, [])) (f := fun _ => 0) ok.1 hns (fun r hr => nomatch hr) rfl ha hP1 hD1
  have hmap := tb_rn_map hk1 hk2 ok.2.2.tail
  have hq : tb_rn (tb_ad adr n q) (.ref n) = .ref q := by simp [tb_rn, tb_ad]
  have h9 := kk ⟨ok.1.push rfl (fun r hr => nomatch hr), ok.2.1.mono (Nat.le_succ n), .cons (Or.inl (Nat.lt_succ_self n)) (ok.2.2.tail.mono (Nat.le_succ n))⟩ p e s m args below meth c A adr0 n0 bx C H1 locs (tb_ad adr n q) ls ha2 hP2 hD2 hS1 (hl.ad ok.2.1 hk1 hk2)
  rw [List.map_cons, hmap, hq] at h9
  exact h9
theorem tb_newl {v : Int32} {len m1 m2 n' : Nat} (hd : decode y.2.1 pc = .ok (.newarray .long, 2)) (hw : Cond.arrayClass .long ∈ tb_W) (hns : n < tb_sc) (hv : v = nI len) (hb : len ≤ 100000) (h1 : k1 + 1 = m1) (h2 : k2 + len = m2) (h3 : n + 1 = n') (hcells : m1 ≤ R.cells) (hslots : m2 ≤ R.slots)
    (kk : tb_At l G y R xt Z m1 m2 n' (tb_sup sh n (102, len, [])) (tb_row I n (fun _ => 0)) (pc + 2) L (.ref n :: S)) : tb_At l G y R xt Z k1 k2 n sh I pc L (.int v :: S) := by
  subst h1
  subst h2
  subst h3
  subst hv
  intro ok p e s m args below meth c A adr0 n0 bx C H locs adr ls ha hP hD hS hl
  have hts := C.2.2.2.2.2.2.2.2.1
  have hK := C.2.2.2.2.2.2.2.2.2.2.1
  refine va_newa (D := G.1) (atype := .long) (ty := .long) (a0 := (len, .inr (.inl (fun _ => 0)))) C.1 C.2.1 (hts _ hw) rfl hK hP hD hS C.2.2.2.2.2.2.2.2.2.1 (fun cA => rfl) (nI_pos (by omega)) (nI_clamp (by omega)) (by show len * 8 ≤ _; omega) hcells hslots hd (fun q cA H1 hK1 hP1 hD1 hS1 => ?_)
  have hcA : cA = G.2.2.2 := by
    have e1 := (hK1.2 3 _ rfl).2
    have e2 := (hK.2 2 _ rfl).2
    exact Option.some.inj (e1.symm.trans e2)
  subst hcA
  obtain ⟨⟨hP2, hD2⟩, ha2, hk1, hk2⟩ := tb_pushed (s9 := (102, len, [])) (f := fun _ => 0) ok.1 hns (fun r hr => nomatch hr) rfl ha hP1 hD1
  have hmap := tb_rn_map hk1 hk2 ok.2.2.tail
  have hq : tb_rn (tb_ad adr n q) (.ref n) = .ref q := by simp [tb_rn, tb_ad]
  have h9 := kk ⟨ok.1.push rfl (fun r hr => nomatch hr), ok.2.1.mono (Nat.le_succ n), .cons (Or.inl (Nat.lt_succ_self n)) (ok.2.2.tail.mono (Nat.le_succ n))⟩ p e s m args below meth c A adr0 n0 bx C H1 locs (tb_ad adr n q) ls ha2 hP2 hD2 hS1 (hl.ad ok.2.1 hk1 hk2)
  rw [List.map_cons, hmap, hq] at h9
  exact h9
end TBM
end
section
/-! ===== calls, ends, throws ===== -/
theorem tb_Met {l : Launch} {y : MethodName} {ws : List Cond} {rm : Room} {Pc : Array Value → State → Prop} {Qc : Array Value → State → Outcome → State → Prop} {XC : String → State → State → Prop} {mc ms : Nat} {free : Addr → Prop} (h : vx_Met l y ws rm Pc Qc XC mc ms free) (hx : ∀ E a b, ¬ XC E a b) : Met l y ws rm Pc Qc mc ms free := by
  intro p e ha hc hk s m args below hf happ hP hK
  obtain ⟨n, o, h1, h2, h3, hq⟩ := h p e ha hc hk s m args below hf happ hP hK
  rcases hq with hq | ⟨q, ho, E, ce, L, hx1, -⟩
  · exact ⟨n, o, h1, h2, h3, hq⟩
  · exact absurd hx1 (hx _ _ _)
/-- thrown here: a thing of class E over this frame -/
def tb_Ax (l : Launch) (G : tb_G) (y : tb_Mt) (R : Room) (xt : Option (Nat × (Nat → Int32))) (Z : tb_CT → State → Prop) (k1 k2 n : Nat) (sh : Nat → tb_Sh) (I : tb_I) (pc : Nat) (L : List (Option Value)) (S : List Value) (E : String) : Prop :=
  tb_ok n sh L S → ∀ (p : Program) (e : Env) (s : State) (m : MethodId) (args : Array Value) (below : List Frame) (meth : Method) (c : Code) (A : Nat → Prop) (adr0 : Nat → Nat) (n0 bx : Nat), tb_Cx l G y R xt p e s m args meth c A bx →
    ∀ (H : Heap) (locs : List Loc) (adr : Nat → Nat) (ls : Array Slot), ((∀ k, k < n0 → adr k = adr0 k) ∧ adr tb_sc = adr0 tb_sc ∧ n0 ≤ n ∧ adr0 tb_sc = bx) → va_P G.1 vwCl (tb_ws G adr n sh I) H → va_D A (tb_ws G adr n sh I) → va_S A s.heap H locs → tb_LL adr ls y.2.2.1 L →
      ∀ (ce : Cell) (q9 : Addr), H[q9]? = some ce → ce.vm = .none → s.vm.findClass E = some ce.cls → vx_W p l e R s m args below meth c H locs k1 k2 (Z (s, args, below, A, adr0, n0)) (F0 m pc ls (S.map (tb_rn adr))) q9
def tb_CD (y : tb_Mt) (nA : Nat) : Prop := Cond.code y.1 y.2.1 y.2.2.1 y.2.2.2.1 ∈ tb_W ∧ Cond.initialized y.1.cls ∈ tb_W ∧ (y.1.cls ≠ "java/lang/invoke/MethodHandle" ∧ y.1.cls ≠ "java/lang/invoke/VarHandle" ∧ (parseMethodDescriptor y.1.desc).map (fun d => d.parameters.length) = some nA)
def tb_VL (own : String) (idx : Nat) (y : tb_Mt) (nA ci : Nat) : Prop := Cond.methodLink own idx y.1 ∈ tb_W ∧ Cond.instanceMethod y.1 ∈ tb_W ∧ Cond.selects y.1.cls y.1 y.1 ∈ tb_W ∧ tb_CD y nA ∧ ci < 100 ∧ ∃ (T : u_T) (N : Nat), vwCl[ci]? = some (y.1.cls, T, N)
def tb_SL (own : String) (idx : Nat) (y : tb_Mt) (nA : Nat) : Prop := Cond.methodLink own idx y.1 ∈ tb_W ∧ Cond.static y.1 ∈ tb_W ∧ tb_CD y nA
def tb_IL (own : String) (idx : Nat) (y : tb_Mt) (nA : Nat) : Prop := Cond.methodLink own idx y.1 ∈ tb_W ∧ Cond.instanceMethod y.1 ∈ tb_W ∧ y.1.name = "<init>" ∧ y.2.2.2.1 = none ∧ tb_CD y nA
theorem tb_wyW {y : tb_Mt} {nA : Nat} (h : tb_CD y nA) : ∀ w ∈ tb_wy y, w ∈ tb_W := fun w hw => (List.mem_cons.mp hw).elim (fun e => by rw [e]; exact h.1) (fun h => h)
theorem tb_Asub {G : tb_G} {adr : Nat → Nat} {n : Nat} {sh : Nat → tb_Sh} {I : tb_I} {A : Nat → Prop} {H0 H : Heap} {locs : List Loc} (hD : va_D A (tb_ws G adr n sh I)) (hS : va_S A H0 H locs) (hA : ∀ q, H0.size ≤ q → A q) : ∀ q, va_A (tb_ws G adr n sh I) H.size q → A q := by
  intro q h
  rcases h with ⟨k, e, h⟩ | h
  · exact hD.2 k (q, e) h
  · exact hA q (Nat.le_trans hS.1 h)
theorem tb_blind {G : tb_G} {adr : Nat → Nat} {sz n : Nat} {sh : Nat → tb_Sh} {I : tb_I} {av : List Value} : FrameBlind (va_Pc av (tb_Pr G adr sz n sh I)) := by
  intro a U g mk h
  obtain ⟨h1, h2, h3, h4, h5, h6⟩ := h
  exact ⟨h1, h2, h3, va_K.moved (u := U) (U := U.calling g mk a) (Vm.Alike.refl U.vm) h4, h5, h6.go (U := U.calling g mk a) (State.WarmedH.refl U) (fun _ _ _ => rfl) (fun _ h => h)⟩
section TBC
variable {l : Launch} {G : tb_G} {y : tb_Mt} {R : Room} {xt : Option (Nat × (Nat → Int32))} {Z : tb_CT → State → Prop} {k1 k2 n : Nat} {sh : Nat → tb_Sh} {I : tb_I} {pc : Nat} {L : List (Option Value)} {S : List Value}
theorem tb_pre {p : Program} {e : Env} {s : State} {m : MethodId} {args : Array Value} {meth : Method} {c : Code} {A : Nat → Prop} {bx : Nat} (C : tb_Cx l G y R xt p e s m args meth c A bx) {H : Heap} {locs : List Loc} {adr : Nat → Nat} (hP : va_P G.1 vwCl (tb_ws G adr n sh I) H) (hD : va_D A (tb_ws G adr n sh I)) (hS : va_S A s.heap H locs) (as : List Value) :
    ∀ U : State, U.heap = H → s.WarmedH U.vm → va_Pc (as.map (tb_rn adr)) (tb_Pr G adr H.size n sh I) (as.map (tb_rn adr)).toArray U := by
  intro U hU hW
  refine ⟨rfl, by rw [hU], by rw [hU]; exact hP, va_K.moved hW.alike C.2.2.2.2.2.2.2.2.2.2.1, hD.weaken (fun _ _ _ _ => trivial), ?_⟩
  rw [hU]
  exact C.2.2.2.2.2.2.2.2.2.2.2.1.go hW hS.2.1 (tb_Asub hD hS C.2.2.2.2.2.2.2.2.2.1)
theorem tb_back {p : Program} {e : Env} {s : State} {m : MethodId} {args : Array Value} {below : List Frame} {meth : Method} {c : Code} {A : Nat → Prop} {adr0 : Nat → Nat} {n0 bx : Nat} (C : tb_Cx l G y R xt p e s m args meth c A bx) {H : Heap} {locs : List Loc} {adr : Nat → Nat} {ls : Array Slot}
    (ha : (∀ k, k < n0 → adr k = adr0 k) ∧ adr tb_sc = adr0 tb_sc ∧ n0 ≤ n ∧ adr0 tb_sc = bx) (hD : va_D A (tb_ws G adr n sh I)) (hS : va_S A s.heap H locs) (hl : tb_LL adr ls y.2.2.1 L) (hlo : tb_lo n L) (hso : tb_so n S) {Q' : tb_Q} {X' : tb_X} {mc ms : Nat} {st0 : List Value} {a : Array Value}
    (hr : vx_Run p l e R s m args below meth c H locs k1 k2 mc ms (F0 m pc ls st0) (S.map (tb_rn adr)) (tb_Qc G Q' (va_A (tb_ws G adr n sh I) H.size) adr n a) (tb_XC G X' (va_A (tb_ws G adr n sh I) H.size) adr n) (va_A (tb_ws G adr n sh I) H.size))
    (kk : ∀ (r : Option Value) (n' : Nat) (sh' : Nat → tb_Sh) (I' : tb_I), Q' r n' sh' I' → tb_At l G y R xt Z (k1 + mc) (k2 + ms) n' sh' I' (pc + 3) L (r.toList ++ S))
    (kx : ∀ (E : String) (n' : Nat) (sh' : Nat → tb_Sh) (I' : tb_I), X' E n' sh' I' → tb_Ax l G y R xt Z (k1 + mc) (k2 + ms) n' sh' I' pc L S E) :
    W p l e R s m args below meth c H locs k1 k2 (Z (s, args, below, A, adr0, n0)) (F0 m pc ls st0) := by
  have hsub := tb_Asub hD hS C.2.2.2.2.2.2.2.2.2.1
  intro T hT X
  rcases hr T hT X with ⟨v, st₀, t, T', L', h0, X', hL, e1, e2, ⟨r, n', sh', I', adr', ho, hQ, hvk, ⟨w1, w2, w3, w4, w5, w6, w7⟩, hF⟩, st⟩ | ⟨q, st₀, t, T', L', E, ce, h0, X', hL, e1, e2, ⟨n', sh', I', adr', hX, ⟨w1, w2, w3, w4, w5, w6, w7⟩, hF⟩, hce, hcv, hcl, st⟩
  · have hv : v = r.map (tb_rn adr') := by cases ho; rfl
    subst hv
    obtain ⟨g1, g2, g3⟩ := vx_keep h0 e1 hS (fun q _ h => hsub q h) hsub hL hF
    have hso' : tb_so n' (r.toList ++ S) := by
      intro v hv
      rcases List.mem_append.mp hv with h | h
      · cases r with
        | none => cases h
        | some w =>
          have : v = w := by simpa using h
          rw [this]
          exact hvk w rfl
      · exact (hso v h).mono w3
    have hstk : (r.toList ++ S).map (tb_rn adr') = (r.map (tb_rn adr')).toList ++ S.map (tb_rn adr) := by
      rw [List.map_append, tb_rn_map w1 w2 hso]
      cases r <;> rfl
    have h9 := kk r n' sh' I' hQ ⟨w7, hlo.mono w3, hso'⟩ p e s m args below meth c A adr0 n0 bx C T'.heap (locs ++ L') adr' ls ⟨fun k hk => (w1 k (by omega)).trans (ha.1 k hk), w2.trans ha.2.1, by omega, ha.2.2.2⟩ (by rw [e1]; exact w4) (w5.weaken (fun _ q _ h => hsub q.1 h)) g3 (hl.ad hlo w1 w2)
    rw [hstk] at h9
    obtain ⟨t2, a1, b1⟩ := h9 T' rfl X'
    exact ⟨t2, st t2 a1, b1⟩
  · obtain ⟨g1, g2, g3⟩ := vx_keep h0 e1 hS (fun q _ h => hsub q h) hsub hL hF
    have h9 := kx E n' sh' I' hX ⟨w7, hlo.mono w3, hso.mono w3⟩ p e s m args below meth c A adr0 n0 bx C T'.heap (locs ++ L') adr' ls ⟨fun k hk => (w1 k (by omega)).trans (ha.1 k hk), w2.trans ha.2.1, by omega, ha.2.2.2⟩ (by rw [e1]; exact w4) (w5.weaken (fun _ q _ h => hsub q.1 h)) g3 (hl.ad hlo w1 w2) ce q (by rw [e1]; exact hce) hcv hcl
    rw [tb_rn_map w1 w2 hso] at h9
    obtain ⟨t2, a1, b1⟩ := h9 T' rfl X'
    exact ⟨t2, st.trans a1, b1⟩
theorem tb_callB {s : State} {args : Array Value} {own : String} {idx d mc ms nA : Nat} {y' : tb_Mt} (hts : ∀ w ∈ tb_W, w.before args s = true) (hlk : Cond.methodLink own idx y'.1 ∈ tb_W) (hCD : tb_CD y' nA) (hR : d + 1 ≤ R.frames ∧ 8 + (y'.2.2.1 + 11) + 40 * d ≤ R.locals) :
    CallB R s args own idx y'.1 y'.2.1 y'.2.2.1 y'.2.2.2.1 (tb_wy y') (tb_rm d mc ms) mc ms nA :=
  callB_of nA hts (tb_gI (tb_wyW hCD)) rfl rfl rfl (hts _ hCD.2.1) (hts _ hlk) hCD.2.2 hR
theorem tb_so_take {as : List Value} (h : tb_so n (as.reverse ++ S)) : tb_so n as ∧ tb_so n S := ⟨fun v hv => h v (List.mem_append_left _ (List.mem_reverse.mpr hv)), fun v hv => h v (List.mem_append_right _ hv)⟩
theorem tb_callV {idx nA d mc ms m1 m2 c9 ci N : Nat} {rs : List (Option Nat)} {y' : tb_Mt} {as St : List Value} {Q' : tb_Q} {X' : tb_X} (hM : tb_Ok l G y' d mc ms (.ref c9 :: as) n sh I Q' X') (hv : tb_VL y.1.cls idx y' nA ci) (hd : decode y.2.1 pc = .ok (.invokevirtual idx, 3)) (hs : sh c9 = (ci, N, rs)) (hc : c9 ≠ tb_sc) (hna : as.length = nA) (hst : St = as.reverse ++ .ref c9 :: S)
    (hcat : (S.map fun v => v.category).sum ≤ 8) (hR : d + 1 ≤ R.frames ∧ 8 + (y'.2.2.1 + 11) + 40 * d ≤ R.locals) (h1 : k1 + mc = m1) (h2 : k2 + ms = m2) (hce : m1 ≤ R.cells) (hsl : m2 ≤ R.slots)
    (kk : ∀ (r : Option Value) (n' : Nat) (sh' : Nat → tb_Sh) (I' : tb_I), Q' r n' sh' I' → tb_At l G y R xt Z m1 m2 n' sh' I' (pc + 3) L (r.toList ++ S))
    (kx : ∀ (E : String) (n' : Nat) (sh' : Nat → tb_Sh) (I' : tb_I), X' E n' sh' I' → tb_Ax l G y R xt Z m1 m2 n' sh' I' pc L S E) : tb_At l G y R xt Z k1 k2 n sh I pc L St := by
  subst h1
  subst h2
  subst hst
  intro ok p e s m args below meth c A adr0 n0 bx C H locs adr ls ha hP hD hS hl
  obtain ⟨so1, so2⟩ := tb_so_take (S := .ref c9 :: S) ok.2.2
  have hcn : c9 < n := so2.head.resolve_right hc
  obtain ⟨hl1, hl2, hl3, hCD, hci, T9, N9, hcl⟩ := hv
  have hts := C.2.2.2.2.2.2.2.2.1
  have he : (tb_ws G adr n sh I)[c9]? = some (adr c9, .inr (ci, tb_fs adr ci N rs (I c9))) := by rw [tb_ws_at hcn, hs, tb_en_obj hci]
  have hstk : (as.reverse ++ .ref c9 :: S).map (tb_rn adr) = (as.map (tb_rn adr)).reverse ++ .ref (adr c9) :: S.map (tb_rn adr) := by
    rw [List.map_append, List.map_reverse]
    rfl
  have hso : tb_so n (.ref c9 :: as) := .cons so2.head so1
  rw [hstk]
  exact tb_back C ha hD hS hl ok.2.1 so2.tail
    (vx_runV (As := as.map (tb_rn adr)) (rest := S.map (tb_rn adr)) (Ts := tb_W) (own := y.1.cls) (cc := y.2.1) (nL := y.2.2.1) ⟨C.1, C.2.1, C.2.2.1, C.2.2.2.2.2.1, hts⟩ (hM hso ok.1 adr H.size) ⟨tb_callB hts hl1 hCD hR, hts _ hl2, hts _ hl3⟩
      ⟨tb_blind, va_recv C.2.2.2.2.2.2.2.2.2.2.1 hP hcl he, tb_pre C hP hD hS (.ref c9 :: as)⟩ rfl (by rw [List.length_map]; exact hna) hl.1 rfl (lv_room (by rw [tb_cats]; exact hcat)) hd ⟨hce, hsl⟩) kk kx
theorem tb_callS {idx nA d mc ms m1 m2 : Nat} {y' : tb_Mt} {as St : List Value} {Q' : tb_Q} {X' : tb_X} (hM : tb_Ok l G y' d mc ms as n sh I Q' X') (hv : tb_SL y.1.cls idx y' nA) (hd : decode y.2.1 pc = .ok (.invokestatic idx, 3)) (hna : as.length = nA) (hst : St = as.reverse ++ S)
    (hcat : (S.map fun v => v.category).sum ≤ 8) (hR : d + 1 ≤ R.frames ∧ 8 + (y'.2.2.1 + 11) + 40 * d ≤ R.locals) (h1 : k1 + mc = m1) (h2 : k2 + ms = m2) (hce : m1 ≤ R.cells) (hsl : m2 ≤ R.slots)
    (kk : ∀ (r : Option Value) (n' : Nat) (sh' : Nat → tb_Sh) (I' : tb_I), Q' r n' sh' I' → tb_At l G y R xt Z m1 m2 n' sh' I' (pc + 3) L (r.toList ++ S))
    (kx : ∀ (E : String) (n' : Nat) (sh' : Nat → tb_Sh) (I' : tb_I), X' E n' sh' I' → tb_Ax l G y R xt Z m1 m2 n' sh' I' pc L S E) : tb_At l G y R xt Z k1 k2 n sh I pc L St := by
  subst h1
  subst h2
  subst hst
  intro ok p e s m args below meth c A adr0 n0 bx C H locs adr ls ha hP hD hS hl
  obtain ⟨so1, so2⟩ := tb_so_take ok.2.2
  obtain ⟨hl1, hl2, hCD⟩ := hv
  have hts := C.2.2.2.2.2.2.2.2.1
  have hstk : (as.reverse ++ S).map (tb_rn adr) = (as.map (tb_rn adr)).reverse ++ S.map (tb_rn adr) := by
    rw [List.map_append, List.map_reverse]
  rw [hstk]
  exact tb_back C ha hD hS hl ok.2.1 so2
    (vx_runS (As := as.map (tb_rn adr)) (rest := S.map (tb_rn adr)) (Ts := tb_W) (own := y.1.cls) (cc := y.2.1) (nL := y.2.2.1) ⟨C.1, C.2.1, C.2.2.1, C.2.2.2.2.2.1, hts⟩ (hM so1 ok.1 adr H.size) ⟨tb_callB hts hl1 hCD hR, hts _ hl2⟩
      ⟨tb_blind, tb_pre C hP hD hS as⟩ rfl (by rw [List.length_map]; exact hna) hl.1 rfl (lv_room (by rw [tb_cats]; exact hcat)) hd ⟨hce, hsl⟩) kk kx
/-- a static call of a method with handlers -/
theorem tb_callH {idx nA d mc ms m1 m2 : Nat} {y' : tb_Mt} {as St : List Value} {Q' : tb_Q} {X' : tb_X} (hM : tb_Okw l G y' (tb_wh y') d mc ms as n sh I Q' X') (hl1 : Cond.methodLink y.1.cls idx y'.1 ∈ tb_W) (hl2 : Cond.static y'.1 ∈ tb_W) (hl3 : Cond.codeWith y'.1 y'.2.1 y'.2.2.1 y'.2.2.2.1 y'.2.2.2.2 ∈ tb_W) (hl4 : Cond.initialized y'.1.cls ∈ tb_W) (hl5 : y'.1.cls ≠ "java/lang/invoke/MethodHandle" ∧ y'.1.cls ≠ "java/lang/invoke/VarHandle" ∧ (parseMethodDescriptor y'.1.desc).map (fun d => d.parameters.length) = some nA) (hd : decode y.2.1 pc = .ok (.invokestatic idx, 3)) (hna : as.length = nA) (hst : St = as.reverse ++ S)
    (hcat : (S.map fun v => v.category).sum ≤ 8) (hR : d + 1 ≤ R.frames ∧ 8 + (y'.2.2.1 + 11) + 40 * d ≤ R.locals) (h1 : k1 + mc = m1) (h2 : k2 + ms = m2) (hce : m1 ≤ R.cells) (hsl : m2 ≤ R.slots)
    (kk : ∀ (r : Option Value) (n' : Nat) (sh' : Nat → tb_Sh) (I' : tb_I), Q' r n' sh' I' → tb_At l G y R xt Z m1 m2 n' sh' I' (pc + 3) L (r.toList ++ S))
    (kx : ∀ (E : String) (n' : Nat) (sh' : Nat → tb_Sh) (I' : tb_I), X' E n' sh' I' → tb_Ax l G y R xt Z m1 m2 n' sh' I' pc L S E) : tb_At l G y R xt Z k1 k2 n sh I pc L St := by
  subst h1
  subst h2
  subst hst
  intro ok p e s m args below meth c A adr0 n0 bx C H locs adr ls ha hP hD hS hl
  obtain ⟨so1, so2⟩ := tb_so_take ok.2.2
  have hts := C.2.2.2.2.2.2.2.2.1
  have hG : ∀ w ∈ va_wsS y.1.cls idx y'.1 (tb_wh y'), w ∈ tb_W := by
    intro w hw
    rcases List.mem_append.mp hw with h | h
    · rcases List.mem_cons.mp h with rfl | h
      · exact hl1
      · rcases List.mem_cons.mp h with rfl | h
        · exact hl2
        · rcases List.mem_cons.mp h with rfl | h
          · exact hl4
          · cases h
    · rcases List.mem_cons.mp h with rfl | h
      · exact hl3
      · exact h
  have hstk : (as.reverse ++ S).map (tb_rn adr) = (as.map (tb_rn adr)).reverse ++ S.map (tb_rn adr) := by
    rw [List.map_append, List.map_reverse]
  rw [hstk]
  exact tb_back C ha hD hS hl ok.2.1 so2
    (vx_runSX (hh := y'.2.2.2.2) (As := as.map (tb_rn adr)) (rest := S.map (tb_rn adr)) (Ts := tb_W) (own := y.1.cls) (cc := y.2.1) (nL := y.2.2.1) ⟨C.1, C.2.1, C.2.2.1, C.2.2.2.2.2.1, hts⟩ (hM so1 ok.1 adr H.size) (vx_cwSW nA hts (tb_gI hG) rfl rfl rfl hl5 hR)
      ⟨tb_blind, tb_pre C hP hD hS as⟩ rfl (by rw [List.length_map]; exact hna) hl.1 rfl (lv_room (by rw [tb_cats]; exact hcat)) hd ⟨hce, hsl⟩) kk kx
theorem tb_vxRun {p : Program} {e : Env} {s : State} {m : MethodId} {args : Array Value} {below : List Frame} {meth : Method} {c : Code} {H : Heap} {locs : List Loc} {cells slots mc ms : Nat} {g : JFrame} {rest : List Value} {Qa : State → Outcome → State → Prop} {XC : String → State → State → Prop} {free : Addr → Prop} (h : va_Run p l e R s m args below meth c H locs cells slots mc ms g rest Qa free) : vx_Run p l e R s m args below meth c H locs cells slots mc ms g rest Qa XC free := fun T hT X => Or.inl (h T hT X)
theorem tb_noX {A : Nat → Prop} {adr : Nat → Nat} : ∀ E a b, ¬ tb_XC G tb_Nx A adr n E a b := fun E a b h => by
  obtain ⟨_, _, _, _, hx, -⟩ := h
  exact hx
theorem tb_callI {idx nA d mc ms m1 m2 c9 : Nat} {y' : tb_Mt} {as St : List Value} {Q' : tb_Q} (hM : tb_Ok l G y' d mc ms (.ref c9 :: as) n sh I Q' tb_Nx) (hv : tb_IL y.1.cls idx y' nA) (hd : decode y.2.1 pc = .ok (.invokespecial idx, 3)) (hna : as.length = nA) (hst : St = as.reverse ++ .ref c9 :: S)
    (hcat : (S.map fun v => v.category).sum ≤ 8) (hR : d + 1 ≤ R.frames ∧ 8 + (y'.2.2.1 + 11) + 40 * d ≤ R.locals) (h1 : k1 + mc = m1) (h2 : k2 + ms = m2) (hce : m1 ≤ R.cells) (hsl : m2 ≤ R.slots)
    (kk : ∀ (r : Option Value) (n' : Nat) (sh' : Nat → tb_Sh) (I' : tb_I), Q' r n' sh' I' → tb_At l G y R xt Z m1 m2 n' sh' I' (pc + 3) L (r.toList ++ S)) : tb_At l G y R xt Z k1 k2 n sh I pc L St := by
  subst h1
  subst h2
  subst hst
  intro ok p e s m args below meth c A adr0 n0 bx C H locs adr ls ha hP hD hS hl
  obtain ⟨so1, so2⟩ := tb_so_take (S := .ref c9 :: S) ok.2.2
  obtain ⟨hl1, hl2, hnm, hret, hCD⟩ := hv
  have hts := C.2.2.2.2.2.2.2.2.1
  have hstk : (as.reverse ++ .ref c9 :: S).map (tb_rn adr) = (as.map (tb_rn adr)).reverse ++ .ref (adr c9) :: S.map (tb_rn adr) := by
    rw [List.map_append, List.map_reverse]
    rfl
  have hso : tb_so n (.ref c9 :: as) := .cons so2.head so1
  have hcb := tb_callB (R := R) (mc := mc) (ms := ms) hts hl1 hCD hR
  rw [hret] at hcb
  rw [hstk]
  exact tb_back (X' := tb_Nx) C ha hD hS hl ok.2.1 so2.tail
    (tb_vxRun (va_runI (As := as.map (tb_rn adr)) (rest := S.map (tb_rn adr)) (Ts := tb_W) (own := y.1.cls) (cc := y.2.1) (nL := y.2.2.1) ⟨C.1, C.2.1, C.2.2.1, C.2.2.2.2.2.1, hts⟩ (tb_Met (hM hso ok.1 adr H.size) tb_noX) ⟨hcb, hnm, hts _ hl2⟩
      ⟨tb_blind, tb_pre C hP hD hS (.ref c9 :: as)⟩ rfl (by rw [List.length_map]; exact hna) hl.1 rfl (lv_room (by rw [tb_cats]; exact hcat)) hd ⟨hce, hsl⟩)) kk (fun _ _ _ _ h => h.elim)
/-- the constructor of a nest mate (Symbols) -/
theorem tb_callIN {idx nA d mc ms m1 m2 c9 : Nat} {y' : tb_Mt} {as St : List Value} {Q' : tb_Q} {host : String} (hM : tb_Ok l G y' d mc ms (.ref c9 :: as) n sh I Q' tb_Nx) (hnest : ∀ (A : Nat → Prop) (s : State), tb_EX A s s.heap → va_Nw (.methodLinkNest y.1.cls idx y'.1 host) s) (hin : Cond.instanceMethod y'.1 ∈ tb_W) (hnm : y'.1.name = "<init>") (hret : y'.2.2.2.1 = none) (hCD : tb_CD y' nA) (hd : decode y.2.1 pc = .ok (.invokespecial idx, 3)) (hna : as.length = nA) (hst : St = as.reverse ++ .ref c9 :: S)
    (hcat : (S.map fun v => v.category).sum ≤ 8) (hR : d + 1 ≤ R.frames ∧ 8 + (y'.2.2.1 + 11) + 40 * d ≤ R.locals) (h1 : k1 + mc = m1) (h2 : k2 + ms = m2) (hce : m1 ≤ R.cells) (hsl : m2 ≤ R.slots)
    (kk : ∀ (r : Option Value) (n' : Nat) (sh' : Nat → tb_Sh) (I' : tb_I), Q' r n' sh' I' → tb_At l G y R xt Z m1 m2 n' sh' I' (pc + 3) L (r.toList ++ S)) : tb_At l G y R xt Z k1 k2 n sh I pc L St := by
  subst h1
  subst h2
  subst hst
  intro ok p e s m args below meth c A adr0 n0 bx C H locs adr ls ha hP hD hS hl
  obtain ⟨so1, so2⟩ := tb_so_take (S := .ref c9 :: S) ok.2.2
  have hts := C.2.2.2.2.2.2.2.2.1
  have hstk : (as.reverse ++ .ref c9 :: S).map (tb_rn adr) = (as.map (tb_rn adr)).reverse ++ .ref (adr c9) :: S.map (tb_rn adr) := by
    rw [List.map_append, List.map_reverse]
    rfl
  have hso : tb_so n (.ref c9 :: as) := .cons so2.head so1
  have hw : tb_wy y' = Cond.code y'.1 y'.2.1 y'.2.2.1 none :: tb_W := by rw [tb_wy, hret]
  rw [hstk]
  exact tb_back (X' := tb_Nx) C ha hD hS hl ok.2.1 so2.tail
    (tb_vxRun (va_runIN (As := as.map (tb_rn adr)) (rest := S.map (tb_rn adr)) (Ts := tb_W) (own := y.1.cls) (cc := y.2.1) (nL := y.2.2.1) (host := host) ⟨C.1, C.2.1, C.2.2.1, C.2.2.2.2.2.1, hts⟩ (tb_Met (hM hso ok.1 adr H.size) tb_noX)
      ⟨va_cnB nA hts (tb_gI (tb_wyW hCD)) hw rfl rfl (hnest A s C.2.2.2.2.2.2.2.2.2.2.2.1) (hts _ hCD.2.1) hCD.2.2 hR, hnm, hts _ hin⟩
      ⟨tb_blind, tb_pre C hP hD hS (.ref c9 :: as)⟩ rfl (by rw [List.length_map]; exact hna) hl.1 rfl (lv_room (by rw [tb_cats]; exact hcat)) hd ⟨hce, hsl⟩)) kk (fun _ _ _ _ h => h.elim)
theorem tb_objInit {idx c9 : Nat} (hd : decode y.2.1 pc = .ok (.invokespecial idx, 3)) (hw1 : Cond.methodLink y.1.cls idx Lib.objectInit ∈ tb_W) (hw2 : Cond.instanceMethod Lib.objectInit ∈ tb_W) (hw3 : Cond.code Lib.objectInit ⟨#[0xb1]⟩ 1 none ∈ tb_W) (hfr : 1 ≤ R.frames) (hlo : (S.map fun v => v.category).sum + 12 ≤ R.locals)
    (kk : tb_At l G y R xt Z k1 k2 n sh I (pc + 3) L S) : tb_At l G y R xt Z k1 k2 n sh I pc L (.ref c9 :: S) := by
  intro ok p e s m args below meth c A adr0 n0 bx C H locs adr ls ha hP hD hS hl
  have hts := C.2.2.2.2.2.2.2.2.1
  have h9 := kk ⟨ok.1, ok.2.1, ok.2.2.tail⟩ p e s m args below meth c A adr0 n0 bx C H locs adr ls ha hP hD hS hl
  exact W.objInit C.1 C.2.1 C.2.2.2.2.2.1 (hts _ hw1) (hts _ hw2) (hts _ hw3) rfl (by rw [C.2.2.1]; exact hl.1) rfl hd hfr (by show 2 * 0 + _ + 12 ≤ _; rw [tb_cats]; omega) h9
theorem tb_mmax {idx : Nat} {a b : Int32} (hd : decode y.2.1 pc = .ok (.invokestatic idx, 3)) (hw1 : Cond.methodLink y.1.cls idx Lib.Math.max.name ∈ tb_W) (hw2 : Cond.static Lib.Math.max.name ∈ tb_W) (hw3 : Cond.initialized "java/lang/Math" ∈ tb_W) (hw4 : Cond.code Lib.Math.max.name Lib.Math.max.code 2 (some .int) ∈ tb_W) (hfr : 1 ≤ R.frames) (hlo : (S.map fun v => v.category).sum + 13 ≤ R.locals) (hc : k1 ≤ R.cells) (hs : k2 ≤ R.slots)
    (kk : tb_At l G y R xt Z k1 k2 n sh I (pc + 3) L (.int (if a < b then b else a) :: S)) : tb_At l G y R xt Z k1 k2 n sh I pc L (.int b :: .int a :: S) := by
  intro ok p e s m args below meth c A adr0 n0 bx C H locs adr ls ha hP hD hS hl
  have hts := C.2.2.2.2.2.2.2.2.1
  exact va_mmax C.1 C.2.1 (by rw [C.2.2.1, hl.1]) C.2.2.2.2.2.1 (hts _ hw1) (hts _ hw2) (hts _ hw3) (hts _ hw4) hfr (by rw [tb_cats]; exact hlo) hc hs hd (kk ⟨ok.1, ok.2.1, .cons trivial ok.2.2.tail.tail⟩ p e s m args below meth c A adr0 n0 bx C H locs adr ls ha hP hD hS hl)
theorem tb_mmin {idx : Nat} {a b : Int32} (hd : decode y.2.1 pc = .ok (.invokestatic idx, 3)) (hw1 : Cond.methodLink y.1.cls idx Lib.Math.min.name ∈ tb_W) (hw2 : Cond.static Lib.Math.min.name ∈ tb_W) (hw3 : Cond.initialized "java/lang/Math" ∈ tb_W) (hw4 : Cond.code Lib.Math.min.name Lib.Math.min.code 2 (some .int) ∈ tb_W) (hfr : 1 ≤ R.frames) (hlo : (S.map fun v => v.category).sum + 13 ≤ R.locals) (hc : k1 ≤ R.cells) (hs : k2 ≤ R.slots)
    (kk : tb_At l G y R xt Z k1 k2 n sh I (pc + 3) L (.int (if b < a then b else a) :: S)) : tb_At l G y R xt Z k1 k2 n sh I pc L (.int b :: .int a :: S) := by
  intro ok p e s m args below meth c A adr0 n0 bx C H locs adr ls ha hP hD hS hl
  have hts := C.2.2.2.2.2.2.2.2.1
  exact va_mmin C.1 C.2.1 (by rw [C.2.2.1, hl.1]) C.2.2.2.2.2.1 (hts _ hw1) (hts _ hw2) (hts _ hw3) (hts _ hw4) hfr (by rw [tb_cats]; exact hlo) hc hs hd (kk ⟨ok.1, ok.2.1, .cons trivial ok.2.2.tail.tail⟩ p e s m args below meth c A adr0 n0 bx C H locs adr ls ha hP hD hS hl)
theorem tb_copy {idx c0 c9 n0' n1' sp dp ln : Nat} {rs0 rs1 : List (Option Nat)} {is id9 il : Int32} (hd : decode y.2.1 pc = .ok (.invokestatic idx, 3)) (hw1 : Cond.methodLink y.1.cls idx arraycopyName ∈ tb_W) (hw2 : Cond.native arraycopyName ∈ tb_W) (hw3 : Cond.static arraycopyName ∈ tb_W) (hw4 : Cond.initialized "java/lang/System" ∈ tb_W)
    (hs0 : sh c0 = (100, n0', rs0)) (hs1 : sh c9 = (100, n1', rs1)) (hc0 : c0 ≠ tb_sc) (hc9 : c9 ≠ tb_sc) (h1 : is = nI sp) (h2 : id9 = nI dp) (h3 : il = nI ln) (h4 : sp + ln ≤ n0') (h5 : dp + ln ≤ n1') (hb0 : n0' ≤ 100000) (hb1 : n1' ≤ 100000) (hfr : 1 ≤ R.frames) (hlo : (S.map fun v => v.category).sum + (nativeFrameWords "java/lang/System" "arraycopy" 5 + 11) ≤ R.locals)
    (kk : tb_At l G y R xt Z k1 k2 n sh (tb_row I c9 (va_cpy (I c0) (I c9) sp dp ln)) (pc + 3) L S) : tb_At l G y R xt Z k1 k2 n sh I pc L (.int il :: .int id9 :: .ref c9 :: .int is :: .ref c0 :: S) := by
  subst h1
  subst h2
  subst h3
  intro ok p e s m args below meth c A adr0 n0 bx C H locs adr ls ha hP hD hS hl
  have hts := C.2.2.2.2.2.2.2.2.1
  have hcn9 : c9 < n := ok.2.2.tail.tail.head.resolve_right hc9
  have hcn0 : c0 < n := ok.2.2.tail.tail.tail.tail.head.resolve_right hc0
  have he0 : (tb_ws G adr n sh I)[c0]? = some (adr c0, .inl (G.2.1, n0', .inl (I c0))) := by rw [tb_ws_at hcn0, hs0]; rfl
  have he9 : (tb_ws G adr n sh I)[c9]? = some (adr c9, .inl (G.2.1, n1', .inl (I c9))) := by rw [tb_ws_at hcn9, hs1]; rfl
  have e1 : (nI sp).toNatClampNeg = sp := nI_clamp (by omega)
  have e2 : (nI dp).toNatClampNeg = dp := nI_clamp (by omega)
  have e3 : (nI ln).toNatClampNeg = ln := nI_clamp (by omega)
  refine va_copyi (D := G.1) C.1 C.2.1 (by rw [C.2.2.1, hl.1]) C.2.2.2.2.2.1 (hts _ hw1) (hts _ hw2) (hts _ hw3) (hts _ hw4) C.2.2.2.2.2.2.2.2.2.2.1 hP hD hS c0 c9 0 0 he0 he9 (ty := .int) rfl rfl rfl (nI_pos (by omega)) (nI_pos (by omega)) (nI_pos (by omega)) (by rw [e1, e3]; exact h4) (by rw [e2, e3]; exact h5) (fun _ _ => rfl) hfr (by rw [tb_cats]; exact hlo) hd (fun H1 locs1 hP1 hD1 hS1 => ?_)
  have ew : (tb_ws G adr n sh I).set c9 (adr c9, .inl (G.2.1, n1', .inl (va_cpy (I c0) (I c9) sp dp ln))) = tb_ws G adr n sh (tb_row I c9 (va_cpy (I c0) (I c9) sp dp ln)) := by
    have e4 : (Sum.inl (G.2.1, n1', .inl (va_cpy (I c0) (I c9) sp dp ln)) : va_E) = tb_en G adr (sh c9) (va_cpy (I c0) (I c9) sp dp ln) := by rw [hs1]; rfl
    rw [e4]
    exact tb_ws_row _
  rw [e1, e2, e3, ew] at hP1 hD1
  exact kk ⟨ok.1, ok.2.1, ok.2.2.tail.tail.tail.tail.tail⟩ p e s m args below meth c A adr0 n0 bx C H1 locs1 adr ls ha hP1 hD1 hS1 hl
/-! ends -/
section Ends
variable {Q : tb_Q} {X : tb_X} {mc ms : Nat}
theorem tb_iret {x : Int32} {ty : FieldType} (hd : decode y.2.1 pc = .ok (.ireturn, 1)) (hr : y.2.2.2.1 = some ty) (hn : narrow ty (.int x) = .int x) (hc : k1 ≤ mc) (hs : k2 ≤ ms) (hq : Q (some (.int x)) n sh I) :
    tb_At l G y R xt (tb_ZM G mc ms Q X) k1 k2 n sh I pc L [.int x] := by
  intro ok p e s m args below meth c A adr0 n0 bx C H locs adr ls ha hP hD hS hl
  refine vx_ret (W.widen hc hs ?_)
  exact W.zret (ty := ty) C.1 C.2.1 (C.2.2.2.1.trans hr) hn (fun t ht hW => ⟨some (.int x), n, sh, I, adr, rfl, hq, fun v hv => by cases hv; trivial, ⟨ha.1, ha.2.1, ha.2.2.1, by rw [ht]; exact hP, hD, va_K.moved hW.alike C.2.2.2.2.2.2.2.2.2.2.1, ok.1⟩, hS.F ht⟩) hS.2.2 hd C.2.2.2.2.1
theorem tb_vret (hd : decode y.2.1 pc = .ok (.return_, 1)) (hr : y.2.2.2.1 = none) (hc : k1 ≤ mc) (hs : k2 ≤ ms) (hq : Q none n sh I) :
    tb_At l G y R xt (tb_ZM G mc ms Q X) k1 k2 n sh I pc L [] := by
  intro ok p e s m args below meth c A adr0 n0 bx C H locs adr ls ha hP hD hS hl
  refine vx_ret (W.widen hc hs ?_)
  exact W.vret C.1 C.2.1 (C.2.2.2.1.trans hr) (fun t ht hW => ⟨none, n, sh, I, adr, rfl, hq, fun v hv => (by cases hv), ⟨ha.1, ha.2.1, ha.2.2.1, by rw [ht]; exact hP, hD, va_K.moved hW.alike C.2.2.2.2.2.2.2.2.2.2.1, ok.1⟩, hS.F ht⟩) hS.2.2 hd C.2.2.2.2.1
theorem tb_aret {r : Nat} {rt : FieldType} (hd : decode y.2.1 pc = .ok (.areturn, 1)) (hr : y.2.2.2.1 = some rt) (hrt : (∃ n, rt = .object n) ∨ ∃ t, rt = .array t) (hc : k1 ≤ mc) (hs : k2 ≤ ms) (hq : Q (some (.ref r)) n sh I) :
    tb_At l G y R xt (tb_ZM G mc ms Q X) k1 k2 n sh I pc L [.ref r] := by
  intro ok p e s m args below meth c A adr0 n0 bx C H locs adr ls ha hP hD hS hl
  refine vx_ret (W.widen hc hs ?_)
  exact W.aret (v := .ref (adr r)) C.1 C.2.1 (C.2.2.2.1.trans hr) hrt (Or.inr ⟨_, rfl⟩) (fun t ht hW => ⟨some (.ref r), n, sh, I, adr, rfl, hq, fun v hv => by cases hv; exact ok.2.2.head, ⟨ha.1, ha.2.1, ha.2.2.1, by rw [ht]; exact hP, hD, va_K.moved hW.alike C.2.2.2.2.2.2.2.2.2.2.1, ok.1⟩, hS.F ht⟩) hS.2.2 hd C.2.2.2.2.1
/-- not caught here -/
theorem tb_out {E : String} (hh : y.2.2.2.2 = []) (hc : k1 ≤ mc) (hs : k2 ≤ ms) (hx : X E n sh I) : tb_Ax l G y R xt (tb_ZM G mc ms Q X) k1 k2 n sh I pc L S E := by
  intro ok p e s m args below meth c A adr0 n0 bx C H locs adr ls ha hP hD hS hl
  intro ce q9 hce hcv hcl
  refine vx_out (fun x hx => ?_) C.2.2.2.2.1 hce hcv hcl (fun t ht hW => ⟨n, sh, I, adr, hx, ⟨ha.1, ha.2.1, ha.2.2.1, by rw [ht]; exact hP, hD, va_K.moved hW C.2.2.2.2.2.2.2.2.2.2.1, ok.1⟩, hS.F ht⟩) hS.2.2 hc hs
  rw [C.2.2.2.2.2.2.2.1, hh] at hx
  cases hx
/-- 'throw new E("text")' -/
def tb_B : List Cond := tb_casts.map (fun q => Cond.castable q.1 q.2) ++ tb_decls.map (fun x => Cond.declares x)
theorem tb_B_at {A : Nat → Prop} {s : State} {H : Heap} {args : Array Value} (h : tb_EX A s H) : ∀ w ∈ tb_B, w.before args s = true := by
  intro w hw
  rcases List.mem_append.mp hw with h1 | h1
  · obtain ⟨q, hq, rfl⟩ := List.mem_map.mp h1
    exact va_Nw.use rfl (h.2.2.2.1 q hq)
  · obtain ⟨q, hq, rfl⟩ := List.mem_map.mp h1
    exact va_Nw.use rfl (h.2.2.2.2.2.1 q hq)
def tb_TH (own : String) (ik ic : Nat) (cls : String) (names : List String) : Prop := Bundle.fit cls = true ∧ (∀ n ∈ names, Bundle.fit n = true) ∧ Cond.classLink own ik cls ∈ tb_W ∧ Cond.initialized cls ∈ tb_W ∧ (∀ w ∈ (vx_atS own ic cls names).filter goodWord, w ∈ tb_W) ∧ (∀ w ∈ (vx_atS own ic cls names).filter (fun w => !goodWord w), w ∈ tb_B) ∧ (∀ w ∈ Cond.classLink own ik cls :: Cond.initialized cls :: vx_atS own ic cls names, vx_ot w = true)
theorem tb_throw {cls text : String} {names : List String} {ik is ic : Nat} (ht : tb_TH y.1.cls ik ic cls names) (hstr : (y.1.cls, is, text) ∈ tb_strs) (hh : y.2.2.2.2 = [])
    (d0 : decode y.2.1 pc = .ok (.new ik, 3)) (d3 : decode y.2.1 (pc + 3) = .ok (.dup, 1)) (d4 : decode y.2.1 (pc + 4) = .ok (.ldc is, 2)) (d6 : decode y.2.1 (pc + 6) = .ok (.invokespecial ic, 3)) (d9 : decode y.2.1 (pc + 9) = .ok (.athrow, 1))
    (hRf : names.length + 3 < R.frames) (hRl : (S.map fun v => v.category).sum + (13 * (names.length + 1) + 43) ≤ R.locals) (hRc : k1 + 1 ≤ R.cells) (hRs : k2 + 6 ≤ R.slots) (hc : k1 + 1 ≤ mc) (hs : k2 + 6 ≤ ms) (hx : X cls n sh I) :
    tb_At l G y R xt (tb_ZM G mc ms Q X) k1 k2 n sh I pc L S := by
  intro ok p e s m args below meth c A adr0 n0 bx C H locs adr ls ha hP hD hS hl
  obtain ⟨t1, t2, t3, t4, t5, t6, t7⟩ := ht
  have hts := C.2.2.2.2.2.2.2.2.1
  have hE := C.2.2.2.2.2.2.2.2.2.2.2.1
  obtain ⟨sa, hsa⟩ := hE.2.2.1 _ hstr
  refine vx_throwS (cc := y.2.1) C.1 C.2.1 C.2.2.2.2.2.2.2.2.2.2.2.2.1 C.2.2.2.2.2.1 t1 t2 (hts _ t3) (hts _ t4) hsa (vx_hat (fun w hw => hts w (t5 w hw)) t6 (tb_B_at hE)) t7 hE.1 hE.2.1 hS (by rw [C.2.2.1]; exact hl.1) d0 d3 d4 d6 d9 (fun x hx => ?_) hRf (by rw [tb_cats]; exact hRl) hRc hRs C.2.2.2.2.1 (fun t hvm hz hk => ?_) hS.2.2 hc hs
  · rw [C.2.2.2.2.2.2.2.1, hh] at hx
    cases hx
  · refine ⟨n, sh, I, adr, hx, ⟨ha.1, ha.2.1, ha.2.2.1, ?_, hD, va_K.moved hvm C.2.2.2.2.2.2.2.2.2.2.1, ok.1⟩, ?_, ?_⟩
    · exact hP.kept (fun k q hq => hk q.1 ((hP k q hq).lt))
    · exact Nat.le_trans hS.1 hz
    · intro q hq hA
      rw [hk q (Nat.lt_of_lt_of_le hq hS.1)]
      exact hS.2.1 q hq hA
theorem tb_throwW {cls text : String} {names : List String} {ik is ic : Nat} (ht : tb_TH y.1.cls ik ic cls names) (hstr : (y.1.cls, is, text) ∈ tb_strs) (hh : y.2.2.2.2 = [])
    (d0 : decode y.2.1 pc = .ok (.new ik, 3)) (d3 : decode y.2.1 (pc + 3) = .ok (.dup, 1)) (d4 : decode y.2.1 (pc + 4) = .ok (.ldc_w is, 3)) (d7 : decode y.2.1 (pc + 7) = .ok (.invokespecial ic, 3)) (d10 : decode y.2.1 (pc + 10) = .ok (.athrow, 1))
    (hRf : names.length + 3 < R.frames) (hRl : (S.map fun v => v.category).sum + (13 * (names.length + 1) + 43) ≤ R.locals) (hRc : k1 + 1 ≤ R.cells) (hRs : k2 + 6 ≤ R.slots) (hc : k1 + 1 ≤ mc) (hs : k2 + 6 ≤ ms) (hx : X cls n sh I) :
    tb_At l G y R xt (tb_ZM G mc ms Q X) k1 k2 n sh I pc L S := by
  intro ok p e s m args below meth c A adr0 n0 bx C H locs adr ls ha hP hD hS hl
  obtain ⟨t1, t2, t3, t4, t5, t6, t7⟩ := ht
  have hts := C.2.2.2.2.2.2.2.2.1
  have hE := C.2.2.2.2.2.2.2.2.2.2.2.1
  obtain ⟨sa, hsa⟩ := hE.2.2.1 _ hstr
  refine vx_throwSW (cc := y.2.1) C.1 C.2.1 C.2.2.2.2.2.2.2.2.2.2.2.2.1 C.2.2.2.2.2.1 t1 t2 (hts _ t3) (hts _ t4) hsa (vx_hat (fun w hw => hts w (t5 w hw)) t6 (tb_B_at hE)) t7 hE.1 hE.2.1 hS (by rw [C.2.2.1]; exact hl.1) d0 d3 d4 d7 d10 (fun x hx => ?_) hRf (by rw [tb_cats]; exact hRl) hRc hRs C.2.2.2.2.1 (fun t hvm hz hk => ?_) hS.2.2 hc hs
  · rw [C.2.2.2.2.2.2.2.1, hh] at hx
    cases hx
  · refine ⟨n, sh, I, adr, hx, ⟨ha.1, ha.2.1, ha.2.2.1, ?_, hD, va_K.moved hvm C.2.2.2.2.2.2.2.2.2.2.1, ok.1⟩, ?_, ?_⟩
    · exact hP.kept (fun k q hq => hk q.1 ((hP k q hq).lt))
    · exact Nat.le_trans hS.1 hz
    · intro q hq hA
      rw [hk q (Nat.lt_of_lt_of_le hq hS.1)]
      exact hS.2.1 q hq hA
end Ends
/-- caught by a row of the table, whose handler begins with a store of the thing -/
theorem tb_catch {E name : String} {i : Nat} {q : Fin 4} (pre : List ExceptionTableEntry) (x : ExceptionTableEntry) (suf : List ExceptionTableEntry) (hsplit : tableOf y.2.2.2.2 = pre ++ x :: suf) (hpass : ∀ z ∈ pre, covers z pc = false ∨ (z.catchType ≠ 0 ∧ ∃ nm : String, Cond.classLink y.1.cls z.catchType nm ∈ tb_W ∧ (E, nm) ∈ tb_nocs)) (hx : covers x pc = true) (h0 : x.catchType ≠ 0)
    (hlink : Cond.classLink y.1.cls x.catchType name ∈ tb_W) (hcast : (E, name) ∈ tb_casts) (hd : decode y.2.1 x.handlerPc = .ok (.astore_n q, 1)) (hq : (q : Nat) = i) (hi : i < y.2.2.1)
    (kk : tb_At l G y R xt Z k1 k2 n sh I (x.handlerPc + 1) (L.set i none) []) : tb_Ax l G y R xt Z k1 k2 n sh I pc L S E := by
  intro ok p e s m args below meth c A adr0 n0 bx C H locs adr ls ha hP hD hS hl
  intro ce q9 hce hcv hcl
  have hts := C.2.2.2.2.2.2.2.2.1
  have hE := C.2.2.2.2.2.2.2.2.2.2.2.1
  refine vx_catch C.2.2.2.2.2.1 pre x suf (by rw [C.2.2.2.2.2.2.2.1]; exact hsplit) (fun z hz => ?_) hx h0 (hts _ hlink) (va_Nw.use rfl (hE.2.2.2.1 _ hcast)) hce hcv hcl ?_
  · rcases hpass z hz with h | ⟨h1, nm, h2, h3⟩
    · exact Or.inl h
    · exact Or.inr ⟨h1, nm, hts _ h2, hE.2.2.2.2.1 _ h3⟩
  · refine lv_astore_n C.1 C.2.1 hd hq hl.has hi rfl (fun ls' h' => ?_)
    refine kk ⟨ok.1, fun v hv => ?_, fun v hv => nomatch hv⟩ p e s m args below meth c A adr0 n0 bx C H locs adr ls' ha hP hD hS ?_
    · rcases List.mem_or_eq_of_mem_set hv with h | h
      · exact ok.2.1 v h
      · cases h
    · refine ⟨h'.1, h'.2.1, by rw [List.length_set]; exact hl.2.2.1, fun j w hj => ?_⟩
      by_cases hij : j = i
      · subst hij
        rw [List.getElem?_set_self (by rw [hl.2.2.1]; exact hi)] at hj
        cases hj
      · rw [List.getElem?_set_ne (Ne.symm hij)] at hj
        refine h'.2.2 (j, tb_rn adr w) (List.mem_cons_of_mem _ (List.mem_filter.mpr ⟨?_, ?_⟩))
        · exact List.mem_filterMap.mpr ⟨(some w, j), List.mem_zipIdx_iff_getElem?.mpr hj, rfl⟩
        · have : w.category = 1 := (ok.2.1 w (List.mem_of_getElem? hj)).2
          simp [hij, tb_cat, this]
end TBC
/-- a contract of a method with handlers -/
theorem tb_Okw.of {l : Launch} {G : tb_G} {y : tb_Mt} {d mc ms : Nat} {as : List Value} {n : Nat} {sh : Nat → tb_Sh} {I : tb_I} {Q : tb_Q} {X : tb_X} (hl : l.stackTraces = false) (hy : plainName y.1.cls = true) (hc : ∀ v ∈ as, v.category = 1) (hn : as.length ≤ y.2.2.1)
    (h : tb_At l G y (tb_rm d mc ms) none (tb_ZM G mc ms Q X) 0 0 n sh I 0 (tb_L0 as y.2.2.1) []) : tb_Okw l G y (tb_wh y) d mc ms as n sh I Q X := by
  intro hs hcl adr sz
  refine vx_ofWH (cc := y.2.1) (maxL := y.2.2.1) (ret := y.2.2.2.1) (hh := y.2.2.2.2) hy rfl ?_
  intro p e s m args below meth c s₁ B hml hv
  obtain ⟨rfl, hsz, hP, hK, hD0, hE⟩ := hv
  have hts := atoms_spec (ws := tb_wh y) B.pre
  have hown : s.vm.findClass y.1.cls = some m.cls := findClass_of_methodNamed B.named
  subst hsz
  have hS : va_S (va_A (tb_ws G adr n sh I) s.heap.size) s.heap s.heap [] := va_S.rf
  have htab : c.exceptionTable.toList = tableOf y.2.2.2.2 := vx_table (x := y.1) B (hts _ List.mem_cons_self)
  rw [lg_entry_eq]
  exact h ⟨hcl, tb_lo0 hc hs, fun _ h9 => nomatch h9⟩ p e s m _ below meth c (va_A (tb_ws G adr n sh I) s.heap.size) adr n (adr tb_sc)
    ⟨B.exec, B.bytes, hml, B.returns, B.notSynchronized, hown, (name_of_methodNamed B.named B.method).1, htab, fun w hw => hts w (List.mem_cons_of_mem _ hw), fun q hq => Or.inr hq, hK, hE, hl, trivial⟩
    s.heap [] adr _ ⟨fun _ _ => rfl, rfl, Nat.le_refl _, rfl⟩ hP hD0.self hS (tb_entry hc hn)
end
section
/-! ===== new int[N][K] ===== -/
def tb_shM (sh : Nat → tb_Sh) (n N K : Nat) : Nat → tb_Sh := fun k => if k = n then (101, N, (List.range N).map (fun i => some (n + 1 + i))) else if n < k ∧ k < n + 1 + N then (100, K, []) else sh k
def tb_IM (I : tb_I) (n N : Nat) : tb_I := fun k => if n ≤ k ∧ k < n + 1 + N then (fun _ => 0) else I k
def tb_adM (adr : Nat → Nat) (n N q : Nat) (r : Nat → Nat) : Nat → Nat := fun k => if k = n then q else if n < k ∧ k < n + 1 + N then r (k - (n + 1)) else adr k
theorem tb_ws_mna {G : tb_G} {adr : Nat → Nat} {n N K q : Nat} {r : Nat → Nat} {sh : Nat → tb_Sh} {I : tb_I} {f : Nat → va_E} (hc : tb_cl n sh) (hr : ∀ i j : Nat, i < N → j < N → r i = r j → i = j) :
    tb_ws G (tb_adM adr n N q r) (n + 1 + N) (tb_shM sh n N K) (tb_IM I n N) = (tb_ws G adr n sh I ++ [(q, .inl (G.2.2.1, N, .inr (.inr (.inr (.inr (fun i => if i < N then some (r i) else none))))))]) ++ va_pl ([] ++ (List.range N).map r) (vr_up f ((List.range N).map r) (.inl (G.2.1, K, .inl (fun _ => 0)))) := by
  apply List.ext_getElem?
  intro k
  have hl1 : (tb_ws G adr n sh I ++ [(q, (.inl (G.2.2.1, N, .inr (.inr (.inr (.inr (fun i => if i < N then some (r i) else none))))) : va_E))]).length = n + 1 := by simp [tb_ws_len]
  by_cases h1 : k < n
  · rw [tb_ws_at (by omega), List.getElem?_append_left (by rw [hl1]; omega), List.getElem?_append_left (by rw [tb_ws_len]; exact h1), tb_ws_at h1]
    have e1 : tb_adM adr n N q r k = adr k := by
      have : ¬ k = n := by omega
      have h2 : ¬ (n < k ∧ k < n + 1 + N) := by omega
      simp only [tb_adM, this, h2, if_false]
    have e2 : tb_shM sh n N K k = sh k := by
      have : ¬ k = n := by omega
      have h2 : ¬ (n < k ∧ k < n + 1 + N) := by omega
      simp only [tb_shM, this, h2, if_false]
    have e3 : tb_IM I n N k = I k := by
      have h2 : ¬ (n ≤ k ∧ k < n + 1 + N) := by omega
      simp only [tb_IM, h2, if_false]
    rw [e1, e2, e3, tb_en_ad (fun z hz => ?_)]
    have := hc k h1 z hz
    have g1 : ¬ z = n := by omega
    have g2 : ¬ (n < z ∧ z < n + 1 + N) := by omega
    simp only [tb_adM, g1, g2, if_false]
  · by_cases h2 : k = n
    · subst h2
      rw [tb_ws_at (by omega), List.getElem?_append_left (by rw [hl1]; omega), List.getElem?_append_right (by rw [tb_ws_len]; omega), tb_ws_len, Nat.sub_self]
      have e1 : tb_adM adr k N q r k = q := by simp only [tb_adM, if_true]
      have e2 : tb_shM sh k N K k = (101, N, (List.range N).map (fun i => some (k + 1 + i))) := by simp only [tb_shM, if_true]
      rw [e1, e2, tb_en_row, List.getElem?_cons_zero]
      have e3 : (fun i => (((List.range N).map (fun i => some (k + 1 + i))).getD i none).map (tb_adM adr k N q r)) = fun i => if i < N then some (r i) else none := by
        funext i
        by_cases hi : i < N
        · have g0 : ¬ k + 1 + i = k := by omega
          have g1 : k < k + 1 + i ∧ k + 1 + i < k + 1 + N := by omega
          have g2 : k + 1 + i - (k + 1) = i := by omega
          simp [List.getD_eq_getElem?_getD, hi, tb_adM, g0, g1, g2]
        · simp [List.getD_eq_getElem?_getD, hi]
      rw [e3]
    · by_cases h3 : k < n + 1 + N
      · obtain ⟨i, rfl⟩ : ∃ i, k = n + 1 + i := ⟨k - (n + 1), by omega⟩
        have hi : i < N := by omega
        rw [tb_ws_at h3, List.getElem?_append_right (by rw [hl1]; omega), hl1]
        have e1 : tb_adM adr n N q r (n + 1 + i) = r i := by
          have g1 : n < n + 1 + i ∧ n + 1 + i < n + 1 + N := by omega
          have g2 : n + 1 + i - (n + 1) = i := by omega
          simp only [tb_adM, h2, if_false, g1, and_self, if_true, g2]
        have e2 : tb_shM sh n N K (n + 1 + i) = (100, K, []) := by
          have g1 : n < n + 1 + i ∧ n + 1 + i < n + 1 + N := by omega
          simp only [tb_shM, h2, if_false, g1, and_self, if_true]
        have e3 : tb_IM I n N (n + 1 + i) = fun _ => 0 := by
          have g1 : n ≤ n + 1 + i ∧ n + 1 + i < n + 1 + N := by omega
          simp only [tb_IM, g1, and_self, if_true]
        have e4 : n + 1 + i - (n + 1) = i := by omega
        rw [e1, e2, e3, e4]
        have hm : r i ∈ (List.range N).map r := List.mem_map.mpr ⟨i, List.mem_range.mpr hi, rfl⟩
        rw [List.nil_append]
        unfold va_pl
        rw [List.getElem?_map, List.getElem?_map, List.getElem?_range hi]
        simp only [Option.map_some, vr_up_in hm]
        rfl
      · rw [List.getElem?_eq_none (by rw [tb_ws_len]; omega), List.getElem?_eq_none (by rw [List.length_append, hl1]; simp [va_pl]; omega)]
section TBN
variable {l : Launch} {G : tb_G} {y : tb_Mt} {R : Room} {xt : Option (Nat × (Nat → Int32))} {Z : tb_CT → State → Prop} {k1 k2 n : Nat} {sh : Nat → tb_Sh} {I : tb_I} {pc : Nat} {L : List (Option Value)} {S : List Value}
theorem tb_mna {idx N K m1 m2 n' : Nat} {a b : Int32} (hd : decode y.2.1 pc = .ok (.multianewarray idx 2, 4)) (hw1 : Cond.classLink y.1.cls idx ("[" ++ (FieldType.array .int).toString) ∈ tb_W) (hw2 : Cond.arrayClass .int ∈ tb_W) (hns : n + 1 + N < tb_sc) (ha1 : a = nI N) (hb1 : b = nI K) (hN : N ≤ 10000) (hK9 : K ≤ 10000) (h1 : k1 + 1 + N = m1) (h2 : k2 + N + N * K = m2) (h3 : n + 1 + N = n') (hcells : m1 ≤ R.cells) (hslots : m2 ≤ R.slots)
    (kk : tb_At l G y R xt Z m1 m2 n' (tb_shM sh n N K) (tb_IM I n N) (pc + 4) L (.ref n :: S)) : tb_At l G y R xt Z k1 k2 n sh I pc L (.int b :: .int a :: S) := by
  subst h1
  subst h2
  subst h3
  subst ha1
  subst hb1
  intro ok p e s m args below meth c A adr0 n0 bx C H locs adr ls ha hP hD hS hl
  have hts := C.2.2.2.2.2.2.2.2.1
  have hK := C.2.2.2.2.2.2.2.2.2.2.1
  have hE := C.2.2.2.2.2.2.2.2.2.2.2.1
  have hcy : s.vm.findClass (FieldType.array .int).toString = some G.2.1 := (hK.2 0 _ rfl).2
  have eX : tb_ws G adr n sh I ++ va_pl [] (fun _ => (.inr (0, []) : va_E)) = tb_ws G adr n sh I := List.append_nil _
  refine va_mna (D := G.1) (X := tb_ws G adr n sh I) (L := []) (f := fun _ => .inr (0, [])) (z := (K, .inl (fun _ => 0))) (ty := .int) (cy := G.2.1) C.1 C.2.1 C.2.2.2.2.2.1 (hts _ hw1) hE.2.2.2.2.2.2.2.1 (hts _ hw2) hcy hK (by rw [eX]; exact hP) (by rw [eX]; exact hD) hS C.2.2.2.2.2.2.2.2.2.1 (nI_pos (by omega)) (nI_pos (by omega)) (nI_clamp (by omega)) (nI_clamp (by omega)) (by omega) (by show K * 4 ≤ _; omega) (by omega) rfl rfl (by omega) (by omega) (fun c9 => arrV_new c9 K (.int 0)) hd (fun q r cA H1 hinj hfr hK1 hP1 hD1 hS1 => ?_)
  have hcA : cA = G.2.2.1 := by
    have e1 := (hK1.2 3 _ rfl).2
    have e2 := (hK.2 1 _ rfl).2
    exact Option.some.inj (e1.symm.trans e2)
  subst hcA
  rw [← tb_ws_mna (I := I) ok.1 hinj] at hP1 hD1
  have g1 : ∀ k, k < n → tb_adM adr n N q r k = adr k := fun k hk => by
    have z1 : ¬ k = n := by omega
    have z2 : ¬ (n < k ∧ k < n + 1 + N) := by omega
    simp only [tb_adM, z1, z2, if_false]
  have g2 : tb_adM adr n N q r tb_sc = adr tb_sc := by
    have z1 : ¬ tb_sc = n := by omega
    have z2 : ¬ (n < tb_sc ∧ tb_sc < n + 1 + N) := by omega
    simp only [tb_adM, z1, z2, if_false]
  have hmap := tb_rn_map g1 g2 ok.2.2.tail.tail
  have hq : tb_rn (tb_adM adr n N q r) (.ref n) = .ref q := by simp [tb_rn, tb_adM]
  have hcl : tb_cl (n + 1 + N) (tb_shM sh n N K) := by
    intro k hk z hz
    by_cases z1 : k = n
    · simp only [tb_shM, z1, if_true] at hz
      obtain ⟨i, hi, e9⟩ := List.mem_map.mp hz
      have := List.mem_range.mp hi
      cases e9
      omega
    · by_cases z2 : n < k ∧ k < n + 1 + N
      · simp only [tb_shM, z1, if_false, z2, and_self, if_true] at hz
        cases hz
      · simp only [tb_shM, z1, if_false, z2] at hz
        have := ok.1 k (by omega) z hz
        omega
  have hnn : n ≤ n + 1 + N := by omega
  have hnl : n < n + 1 + N := by omega
  have hn0 : n0 ≤ n + 1 + N := by omega
  have h9 := kk ⟨hcl, ok.2.1.mono hnn, .cons (show tb_vk (n + 1 + N) (.ref n) from Or.inl hnl) (ok.2.2.tail.tail.mono hnn)⟩ p e s m args below meth c A adr0 n0 bx C H1 locs (tb_adM adr n N q r) ls ⟨fun k hk => (g1 k (Nat.lt_of_lt_of_le hk ha.2.2.1)).trans (ha.1 k hk), g2.trans ha.2.1, hn0, ha.2.2.2⟩ hP1 hD1 hS1 (hl.ad ok.2.1 g1 g2)
  rw [List.map_cons, hmap, hq] at h9
  exact h9
end TBN
end
section
theorem tb_mem {w : Cond} (i : Nat) (h : lw_tbl[i]? = some w) (hg : goodWord w = true) : w ∈ tb_W := List.mem_filter.mpr ⟨List.mem_of_getElem? h, hg⟩
theorem tb_mm {w : Cond} (h : w ∈ tables_1) (hg : goodWord w = true) : w ∈ tb_W := List.mem_filter.mpr ⟨List.mem_append_right _ h, hg⟩
theorem tb_mp {q : MethodName × Nat} {L : List (MethodName × Nat)} (hL : ∀ q ∈ L, q ∈ lw_privs) (h : q ∈ L) (hg : goodWord (Cond.selects q.1.cls q.1 q.1) = true) : Cond.selects q.1.cls q.1 q.1 ∈ tb_W := List.mem_filter.mpr ⟨List.mem_append_left _ (List.mem_map.mpr ⟨q, hL q h, rfl⟩), hg⟩
theorem tb_cw {C : String} {T : u_T} {N : Nat} (ws : List Cond) (e : u_ws C T N = ws) (h : ∀ w ∈ ws, w ∈ tb_W) : ∀ w ∈ u_ws C T N, w ∈ tb_W := by rw [e]; exact h
theorem tp_1 : ∀ q ∈ lw_privs_1, q ∈ lw_privs := fun q h => by
  show q ∈ lw_privs_1 ++ (lw_privs_2 ++ (lw_privs_3 ++ (lw_privs_4 ++ (lw_privs_5 ++ (lw_privs_6 ++ (lw_privs_7 ++ (lw_privs_8 ++ (lw_privs_9 ++ (lw_privs_10)))))))))
  exact List.mem_append_left _ h
theorem tp_2 : ∀ q ∈ lw_privs_2, q ∈ lw_privs := fun q h => by
  show q ∈ lw_privs_1 ++ (lw_privs_2 ++ (lw_privs_3 ++ (lw_privs_4 ++ (lw_privs_5 ++ (lw_privs_6 ++ (lw_privs_7 ++ (lw_privs_8 ++ (lw_privs_9 ++ (lw_privs_10)))))))))
  exact List.mem_append_right _ (List.mem_append_left _ h)
theorem tp_3 : ∀ q ∈ lw_privs_3, q ∈ lw_privs := fun q h => by
  show q ∈ lw_privs_1 ++ (lw_privs_2 ++ (lw_privs_3 ++ (lw_privs_4 ++ (lw_privs_5 ++ (lw_privs_6 ++ (lw_privs_7 ++ (lw_privs_8 ++ (lw_privs_9 ++ (lw_privs_10)))))))))
  exact List.mem_append_right _ (List.mem_append_right _ (List.mem_append_left _ h))
theorem tp_4 : ∀ q ∈ lw_privs_4, q ∈ lw_privs := fun q h => by
  show q ∈ lw_privs_1 ++ (lw_privs_2 ++ (lw_privs_3 ++ (lw_privs_4 ++ (lw_privs_5 ++ (lw_privs_6 ++ (lw_privs_7 ++ (lw_privs_8 ++ (lw_privs_9 ++ (lw_privs_10)))))))))
  exact List.mem_append_right _ (List.mem_append_right _ (List.mem_append_right _ (List.mem_append_left _ h)))
theorem tp_5 : ∀ q ∈ lw_privs_5, q ∈ lw_privs := fun q h => by
  show q ∈ lw_privs_1 ++ (lw_privs_2 ++ (lw_privs_3 ++ (lw_privs_4 ++ (lw_privs_5 ++ (lw_privs_6 ++ (lw_privs_7 ++ (lw_privs_8 ++ (lw_privs_9 ++ (lw_privs_10)))))))))
  exact List.mem_append_right _ (List.mem_append_right _ (List.mem_append_right _ (List.mem_append_right _ (List.mem_append_left _ h))))
theorem tp_6 : ∀ q ∈ lw_privs_6, q ∈ lw_privs := fun q h => by
  show q ∈ lw_privs_1 ++ (lw_privs_2 ++ (lw_privs_3 ++ (lw_privs_4 ++ (lw_privs_5 ++ (lw_privs_6 ++ (lw_privs_7 ++ (lw_privs_8 ++ (lw_privs_9 ++ (lw_privs_10)))))))))
  exact List.mem_append_right _ (List.mem_append_right _ (List.mem_append_right _ (List.mem_append_right _ (List.mem_append_right _ (List.mem_append_left _ h)))))
theorem tp_7 : ∀ q ∈ lw_privs_7, q ∈ lw_privs := fun q h => by
  show q ∈ lw_privs_1 ++ (lw_privs_2 ++ (lw_privs_3 ++ (lw_privs_4 ++ (lw_privs_5 ++ (lw_privs_6 ++ (lw_privs_7 ++ (lw_privs_8 ++ (lw_privs_9 ++ (lw_privs_10)))))))))
  exact List.mem_append_right _ (List.mem_append_right _ (List.mem_append_right _ (List.mem_append_right _ (List.mem_append_right _ (List.mem_append_right _ (List.mem_append_left _ h))))))
theorem tp_8 : ∀ q ∈ lw_privs_8, q ∈ lw_privs := fun q h => by
  show q ∈ lw_privs_1 ++ (lw_privs_2 ++ (lw_privs_3 ++ (lw_privs_4 ++ (lw_privs_5 ++ (lw_privs_6 ++ (lw_privs_7 ++ (lw_privs_8 ++ (lw_privs_9 ++ (lw_privs_10)))))))))
  exact List.mem_append_right _ (List.mem_append_right _ (List.mem_append_right _ (List.mem_append_right _ (List.mem_append_right _ (List.mem_append_right _ (List.mem_append_right _ (List.mem_append_left _ h)))))))
theorem tp_9 : ∀ q ∈ lw_privs_9, q ∈ lw_privs := fun q h => by
  show q ∈ lw_privs_1 ++ (lw_privs_2 ++ (lw_privs_3 ++ (lw_privs_4 ++ (lw_privs_5 ++ (lw_privs_6 ++ (lw_privs_7 ++ (lw_privs_8 ++ (lw_privs_9 ++ (lw_privs_10)))))))))
  exact List.mem_append_right _ (List.mem_append_right _ (List.mem_append_right _ (List.mem_append_right _ (List.mem_append_right _ (List.mem_append_right _ (List.mem_append_right _ (List.mem_append_right _ (List.mem_append_left _ h))))))))
theorem tp_10 : ∀ q ∈ lw_privs_10, q ∈ lw_privs := fun q h => by
  show q ∈ lw_privs_1 ++ (lw_privs_2 ++ (lw_privs_3 ++ (lw_privs_4 ++ (lw_privs_5 ++ (lw_privs_6 ++ (lw_privs_7 ++ (lw_privs_8 ++ (lw_privs_9 ++ (lw_privs_10)))))))))
  exact List.mem_append_right _ (List.mem_append_right _ (List.mem_append_right _ (List.mem_append_right _ (List.mem_append_right _ (List.mem_append_right _ (List.mem_append_right _ (List.mem_append_right _ (List.mem_append_right _ (h)))))))))
set_option maxRecDepth 10000 in
theorem cl_0 : tb_CL 0 RX0 TX0 7 := ⟨rfl, tb_cw [.laysFinal "TermBank$Core" "TermBank$Core" "terms" "LTermBank$Terms;", .laysFinal "TermBank$Core" "TermBank$Core" "ledger" "LTermBank$Ledger;", .laysFinal "TermBank$Core" "TermBank$Core" "undoRows" "[[I", .laysFinal "TermBank$Core" "TermBank$Core" "before" "[I", .laysFinal "TermBank$Core" "TermBank$Core" "status" "[I", .lays "TermBank$Core" "TermBank$Core" "firstAct" "I", .lays "TermBank$Core" "TermBank$Core" "acts" "I"] rfl (List.forall_mem_cons.mpr ⟨(tb_mm tw_1_11.2.2.2.2.2.2.2.2.1 rfl), List.forall_mem_cons.mpr ⟨(tb_mm tw_1_11.2.2.2.2.2.2.2.2.2.1 rfl), List.forall_mem_cons.mpr ⟨(tb_mm tw_1_11.2.2.2.2.2.2.2.2.2.2.1 rfl), List.forall_mem_cons.mpr ⟨(tb_mm tw_1_11.2.2.2.2.2.2.2.2.2.2.2 rfl), List.forall_mem_cons.mpr ⟨(tb_mm tw_1_12.1 rfl), List.forall_mem_cons.mpr ⟨(tb_mm tw_1_12.2.1 rfl), List.forall_mem_cons.mpr ⟨(tb_mm tw_1_12.2.2.1 rfl), List.forall_mem_nil _⟩⟩⟩⟩⟩⟩⟩), by decide +kernel, nmX0, by decide, by decide +kernel⟩
set_option maxRecDepth 10000 in
theorem cl_1 : tb_CL 1 RX1 TX1 1 := ⟨rfl, tb_cw [.laysFinal "TermBank$Ledger" "TermBank$Ledger" "cells" "[I"] rfl (List.forall_mem_cons.mpr ⟨(tb_mm tw_1_9.2.2.2.2.2.2.2.2.2.2.2.2.2 rfl), List.forall_mem_nil _⟩), by decide +kernel, nmX1, by decide, by decide +kernel⟩
set_option maxRecDepth 10000 in
theorem cl_2 : tb_CL 2 RX2 TX2 6 := ⟨rfl, tb_cw [.laysFinal "TermBank$Maker" "TermBank$Maker" "terms" "LTermBank$Terms;", .laysFinal "TermBank$Maker" "TermBank$Maker" "closedTerms" "[I", .laysFinal "TermBank$Maker" "TermBank$Maker" "coupleFirst" "[I", .laysFinal "TermBank$Maker" "TermBank$Maker" "coupleSecond" "[I", .lays "TermBank$Maker" "TermBank$Maker" "couples" "I", .lays "TermBank$Maker" "TermBank$Maker" "seed" "I"] rfl (List.forall_mem_cons.mpr ⟨(tb_mm tw_1_14.2.2.2.1 rfl), List.forall_mem_cons.mpr ⟨(tb_mm tw_1_14.2.2.2.2.1 rfl), List.forall_mem_cons.mpr ⟨(tb_mm tw_1_14.2.2.2.2.2.1 rfl), List.forall_mem_cons.mpr ⟨(tb_mm tw_1_14.2.2.2.2.2.2.1 rfl), List.forall_mem_cons.mpr ⟨(tb_mm tw_1_14.2.2.2.2.2.2.2.1 rfl), List.forall_mem_cons.mpr ⟨(tb_mm tw_1_14.2.2.2.2.2.2.2.2 rfl), List.forall_mem_nil _⟩⟩⟩⟩⟩⟩), by decide +kernel, nmX2, by decide, by decide +kernel⟩
set_option maxRecDepth 10000 in
theorem cl_3 : tb_CL 3 RX3 TX3 2 := ⟨rfl, tb_cw [.laysFinal "TermBank$Matcher" "TermBank$Matcher" "terms" "LTermBank$Terms;", .laysFinal "TermBank$Matcher" "TermBank$Matcher" "got" "[I"] rfl (List.forall_mem_cons.mpr ⟨(tb_mm tw_1_13.2.1 rfl), List.forall_mem_cons.mpr ⟨(tb_mm tw_1_13.2.2.1 rfl), List.forall_mem_nil _⟩⟩), by decide +kernel, nmX3, by decide, by decide +kernel⟩
set_option maxRecDepth 10000 in
theorem cl_4 : tb_CL 4 RX4 TX4 5 := ⟨rfl, tb_cw [.laysFinal "TermBank$Ordering" "TermBank$Ordering" "terms" "LTermBank$Terms;", .laysFinal "TermBank$Ordering" "TermBank$Ordering" "balance" "[I", .lays "TermBank$Ordering" "TermBank$Ordering" "weight" "I", .lays "TermBank$Ordering" "TermBank$Ordering" "triedSymbol" "I", .lays "TermBank$Ordering" "TermBank$Ordering" "triedWeight" "I"] rfl (List.forall_mem_cons.mpr ⟨(tb_mm tw_2_3.2.2.2.2.2.2.2.2.1 rfl), List.forall_mem_cons.mpr ⟨(tb_mm tw_2_3.2.2.2.2.2.2.2.2.2.1 rfl), List.forall_mem_cons.mpr ⟨(tb_mm tw_2_3.2.2.2.2.2.2.2.2.2.2.1 rfl), List.forall_mem_cons.mpr ⟨(tb_mm tw_2_3.2.2.2.2.2.2.2.2.2.2.2 rfl), List.forall_mem_cons.mpr ⟨(tb_mm tw_2_4.1 rfl), List.forall_mem_nil _⟩⟩⟩⟩⟩), by decide +kernel, nmX4, by decide, by decide +kernel⟩
set_option maxRecDepth 10000 in
theorem cl_5 : tb_CL 5 RX5 TX5 11 := ⟨rfl, tb_cw [.laysFinal "TermBank$Reader" "TermBank$Reader" "tape" "[I", .laysFinal "TermBank$Reader" "TermBank$Reader" "core" "LTermBank$Core;", .laysFinal "TermBank$Reader" "TermBank$Reader" "symbols" "LTermBank$Symbols;", .laysFinal "TermBank$Reader" "TermBank$Reader" "rulebook" "LTermBank$Rulebook;", .lays "TermBank$Reader" "TermBank$Reader" "length" "I", .lays "TermBank$Reader" "TermBank$Reader" "kind" "I", .lays "TermBank$Reader" "TermBank$Reader" "start" "I", .lays "TermBank$Reader" "TermBank$Reader" "end" "I", .lays "TermBank$Reader" "TermBank$Reader" "fault" "I", .lays "TermBank$Reader" "TermBank$Reader" "faultAt" "I", .lays "TermBank$Reader" "TermBank$Reader" "roomTold" "Z"] rfl (List.forall_mem_cons.mpr ⟨(tb_mm tw_2_8.2.2.2.2.2.2.2.2.2.2.1 rfl), List.forall_mem_cons.mpr ⟨(tb_mm tw_2_8.2.2.2.2.2.2.2.2.2.2.2.1 rfl), List.forall_mem_cons.mpr ⟨(tb_mm tw_2_8.2.2.2.2.2.2.2.2.2.2.2.2 rfl), List.forall_mem_cons.mpr ⟨(tb_mm tw_2_9.1 rfl), List.forall_mem_cons.mpr ⟨(tb_mm tw_2_9.2.1 rfl), List.forall_mem_cons.mpr ⟨(tb_mm tw_2_9.2.2.1 rfl), List.forall_mem_cons.mpr ⟨(tb_mm tw_2_9.2.2.2.1 rfl), List.forall_mem_cons.mpr ⟨(tb_mm tw_2_9.2.2.2.2.1 rfl), List.forall_mem_cons.mpr ⟨(tb_mm tw_2_9.2.2.2.2.2.1 rfl), List.forall_mem_cons.mpr ⟨(tb_mm tw_2_9.2.2.2.2.2.2.1 rfl), List.forall_mem_cons.mpr ⟨(tb_mm tw_2_9.2.2.2.2.2.2.2 rfl), List.forall_mem_nil _⟩⟩⟩⟩⟩⟩⟩⟩⟩⟩⟩), by decide +kernel, nmX5, by decide, by decide +kernel⟩
set_option maxRecDepth 10000 in
theorem cl_6 : tb_CL 6 RX6 TX6 9 := ⟨rfl, tb_cw [.laysFinal "TermBank$Rewriter" "TermBank$Rewriter" "core" "LTermBank$Core;", .laysFinal "TermBank$Rewriter" "TermBank$Rewriter" "terms" "LTermBank$Terms;", .laysFinal "TermBank$Rewriter" "TermBank$Rewriter" "matcher" "LTermBank$Matcher;", .laysFinal "TermBank$Rewriter" "TermBank$Rewriter" "maker" "LTermBank$Maker;", .laysFinal "TermBank$Rewriter" "TermBank$Rewriter" "asked" "[I", .laysFinal "TermBank$Rewriter" "TermBank$Rewriter" "stages" "[I", .laysFinal "TermBank$Rewriter" "TermBank$Rewriter" "parts" "[I", .lays "TermBank$Rewriter" "TermBank$Rewriter" "height" "I", .lays "TermBank$Rewriter" "TermBank$Rewriter" "stepsLeft" "I"] rfl (List.forall_mem_cons.mpr ⟨(tb_mm tw_2_6.2.2.2.2.2.2.1 rfl), List.forall_mem_cons.mpr ⟨(tb_mm tw_2_6.2.2.2.2.2.2.2.1 rfl), List.forall_mem_cons.mpr ⟨(tb_mm tw_2_6.2.2.2.2.2.2.2.2.1 rfl), List.forall_mem_cons.mpr ⟨(tb_mm tw_2_6.2.2.2.2.2.2.2.2.2.1 rfl), List.forall_mem_cons.mpr ⟨(tb_mm tw_2_6.2.2.2.2.2.2.2.2.2.2 rfl), List.forall_mem_cons.mpr ⟨(tb_mm tw_2_7.1 rfl), List.forall_mem_cons.mpr ⟨(tb_mm tw_2_7.2.1 rfl), List.forall_mem_cons.mpr ⟨(tb_mm tw_2_7.2.2.1 rfl), List.forall_mem_cons.mpr ⟨(tb_mm tw_2_7.2.2.2.1 rfl), List.forall_mem_nil _⟩⟩⟩⟩⟩⟩⟩⟩⟩), by decide +kernel, nmX6, by decide, by decide +kernel⟩
set_option maxRecDepth 10000 in
theorem cl_7 : tb_CL 7 RX7 TX7 5 := ⟨rfl, tb_cw [.laysFinal "TermBank$Rulebook" "TermBank$Rulebook" "core" "LTermBank$Core;", .laysFinal "TermBank$Rulebook" "TermBank$Rulebook" "terms" "LTermBank$Terms;", .laysFinal "TermBank$Rulebook" "TermBank$Rulebook" "matcher" "LTermBank$Matcher;", .laysFinal "TermBank$Rulebook" "TermBank$Rulebook" "unifier" "LTermBank$Unifier;", .laysFinal "TermBank$Rulebook" "TermBank$Rulebook" "ordering" "LTermBank$Ordering;"] rfl (List.forall_mem_cons.mpr ⟨(tb_mm tw_2_4.2.2.2.2.2.2.2.2.2.2.1 rfl), List.forall_mem_cons.mpr ⟨(tb_mm tw_2_4.2.2.2.2.2.2.2.2.2.2.2 rfl), List.forall_mem_cons.mpr ⟨(tb_mm tw_2_5.1 rfl), List.forall_mem_cons.mpr ⟨(tb_mm tw_2_5.2.1 rfl), List.forall_mem_cons.mpr ⟨(tb_mm tw_2_5.2.2.1 rfl), List.forall_mem_nil _⟩⟩⟩⟩⟩), by decide +kernel, nmX7, by decide, by decide +kernel⟩
set_option maxRecDepth 10000 in
theorem cl_8 : tb_CL 8 RX8 TX8 4 := ⟨rfl, tb_cw [.laysFinal "TermBank$Symbols" "TermBank$Symbols" "names" "[I", .laysFinal "TermBank$Symbols" "TermBank$Symbols" "arities" "[I", .laysFinal "TermBank$Symbols" "TermBank$Symbols" "weights" "[I", .lays "TermBank$Symbols" "TermBank$Symbols" "told" "I"] rfl (List.forall_mem_cons.mpr ⟨(tb_mm tw_1_3.2.2.2.2.2.2.2.1 rfl), List.forall_mem_cons.mpr ⟨(tb_mm tw_1_3.2.2.2.2.2.2.2.2.1 rfl), List.forall_mem_cons.mpr ⟨(tb_mm tw_1_3.2.2.2.2.2.2.2.2.2.1 rfl), List.forall_mem_cons.mpr ⟨(tb_mm tw_1_3.2.2.2.2.2.2.2.2.2.2 rfl), List.forall_mem_nil _⟩⟩⟩⟩), by decide +kernel, nmX8, by decide, by decide +kernel⟩
set_option maxRecDepth 10000 in
theorem cl_9 : tb_CL 9 RX9 TX9 13 := ⟨rfl, tb_cw [.laysFinal "TermBank$Terms" "TermBank$Terms" "symbols" "LTermBank$Symbols;", .laysFinal "TermBank$Terms" "TermBank$Terms" "heads" "[I", .laysFinal "TermBank$Terms" "TermBank$Terms" "arities" "[I", .laysFinal "TermBank$Terms" "TermBank$Terms" "arguments" "[I", .laysFinal "TermBank$Terms" "TermBank$Terms" "sizes" "[I", .laysFinal "TermBank$Terms" "TermBank$Terms" "weights" "[I", .laysFinal "TermBank$Terms" "TermBank$Terms" "depths" "[I", .laysFinal "TermBank$Terms" "TermBank$Terms" "variables" "[I", .laysFinal "TermBank$Terms" "TermBank$Terms" "shapes" "[I", .laysFinal "TermBank$Terms" "TermBank$Terms" "chains" "[I", .laysFinal "TermBank$Terms" "TermBank$Terms" "buckets" "[I", .laysFinal "TermBank$Terms" "TermBank$Terms" "marks" "[I", .lays "TermBank$Terms" "TermBank$Terms" "there" "I"] rfl (List.forall_mem_cons.mpr ⟨(tb_mm tw_1_7.2.2.1 rfl), List.forall_mem_cons.mpr ⟨(tb_mm tw_1_7.2.2.2.1 rfl), List.forall_mem_cons.mpr ⟨(tb_mm tw_1_7.2.2.2.2.1 rfl), List.forall_mem_cons.mpr ⟨(tb_mm tw_1_7.2.2.2.2.2.1 rfl), List.forall_mem_cons.mpr ⟨(tb_mm tw_1_7.2.2.2.2.2.2.1 rfl), List.forall_mem_cons.mpr ⟨(tb_mm tw_1_7.2.2.2.2.2.2.2.1 rfl), List.forall_mem_cons.mpr ⟨(tb_mm tw_1_7.2.2.2.2.2.2.2.2 rfl), List.forall_mem_cons.mpr ⟨(tb_mm tw_1_8.1 rfl), List.forall_mem_cons.mpr ⟨(tb_mm tw_1_8.2.1 rfl), List.forall_mem_cons.mpr ⟨(tb_mm tw_1_8.2.2.1 rfl), List.forall_mem_cons.mpr ⟨(tb_mm tw_1_8.2.2.2.1 rfl), List.forall_mem_cons.mpr ⟨(tb_mm tw_1_8.2.2.2.2.1 rfl), List.forall_mem_cons.mpr ⟨(tb_mm tw_1_8.2.2.2.2.2.1 rfl), List.forall_mem_nil _⟩⟩⟩⟩⟩⟩⟩⟩⟩⟩⟩⟩⟩), by decide +kernel, nmX9, by decide, by decide +kernel⟩
set_option maxRecDepth 10000 in
theorem cl_10 : tb_CL 10 RX10 TX10 12 := ⟨rfl, tb_cw [.laysFinal "TermBank$Unifier" "TermBank$Unifier" "terms" "LTermBank$Terms;", .laysFinal "TermBank$Unifier" "TermBank$Unifier" "rounds" "[I", .laysFinal "TermBank$Unifier" "TermBank$Unifier" "parents" "[I", .laysFinal "TermBank$Unifier" "TermBank$Unifier" "solid" "[I", .laysFinal "TermBank$Unifier" "TermBank$Unifier" "least" "[I", .laysFinal "TermBank$Unifier" "TermBank$Unifier" "solved" "[I", .laysFinal "TermBank$Unifier" "TermBank$Unifier" "pairFirst" "[I", .laysFinal "TermBank$Unifier" "TermBank$Unifier" "pairSecond" "[I", .laysFinal "TermBank$Unifier" "TermBank$Unifier" "listed" "[I", .laysFinal "TermBank$Unifier" "TermBank$Unifier" "uses" "[I", .lays "TermBank$Unifier" "TermBank$Unifier" "round" "I", .lays "TermBank$Unifier" "TermBank$Unifier" "pairs" "I"] rfl (List.forall_mem_cons.mpr ⟨(tb_mm tw_2_1.2.2.1 rfl), List.forall_mem_cons.mpr ⟨(tb_mm tw_2_1.2.2.2.1 rfl), List.forall_mem_cons.mpr ⟨(tb_mm tw_2_1.2.2.2.2.1 rfl), List.forall_mem_cons.mpr ⟨(tb_mm tw_2_1.2.2.2.2.2.1 rfl), List.forall_mem_cons.mpr ⟨(tb_mm tw_2_1.2.2.2.2.2.2.1 rfl), List.forall_mem_cons.mpr ⟨(tb_mm tw_2_1.2.2.2.2.2.2.2.1 rfl), List.forall_mem_cons.mpr ⟨(tb_mm tw_2_1.2.2.2.2.2.2.2.2 rfl), List.forall_mem_cons.mpr ⟨(tb_mm tw_2_2.1 rfl), List.forall_mem_cons.mpr ⟨(tb_mm tw_2_2.2.1 rfl), List.forall_mem_cons.mpr ⟨(tb_mm tw_2_2.2.2.1 rfl), List.forall_mem_cons.mpr ⟨(tb_mm tw_2_2.2.2.2.1 rfl), List.forall_mem_cons.mpr ⟨(tb_mm tw_2_2.2.2.2.2.1 rfl), List.forall_mem_nil _⟩⟩⟩⟩⟩⟩⟩⟩⟩⟩⟩⟩), by decide +kernel, nmX10, by decide, by decide +kernel⟩
set_option maxRecDepth 10000 in
theorem cl_11 : tb_CL 11 RX11 TX11 16 := ⟨rfl, tb_cw [.laysFinal "TermBank" "TermBank" "symbols" "LTermBank$Symbols;", .laysFinal "TermBank" "TermBank" "core" "LTermBank$Core;", .laysFinal "TermBank" "TermBank" "kept" "LTermBank$Core;", .laysFinal "TermBank" "TermBank" "spareSymbols" "LTermBank$Symbols;", .laysFinal "TermBank" "TermBank" "spareTerms" "LTermBank$Terms;", .laysFinal "TermBank" "TermBank" "spareLedger" "LTermBank$Ledger;", .laysFinal "TermBank" "TermBank" "matcher" "LTermBank$Matcher;", .laysFinal "TermBank" "TermBank" "maker" "LTermBank$Maker;", .laysFinal "TermBank" "TermBank" "unifier" "LTermBank$Unifier;", .laysFinal "TermBank" "TermBank" "rulebook" "LTermBank$Rulebook;", .laysFinal "TermBank" "TermBank" "rewriter" "LTermBank$Rewriter;", .laysFinal "TermBank" "TermBank" "reader" "LTermBank$Reader;", .laysFinal "TermBank" "TermBank" "tape" "[I", .lays "TermBank" "TermBank" "taped" "I", .lays "TermBank" "TermBank" "faultPlace" "I", .lays "TermBank" "TermBank" "hasImage" "Z"] rfl (List.forall_mem_cons.mpr ⟨(tb_mm tw_2_11.2.1 rfl), List.forall_mem_cons.mpr ⟨(tb_mm tw_2_11.2.2.1 rfl), List.forall_mem_cons.mpr ⟨(tb_mm tw_2_11.2.2.2.1 rfl), List.forall_mem_cons.mpr ⟨(tb_mm tw_2_11.2.2.2.2.1 rfl), List.forall_mem_cons.mpr ⟨(tb_mm tw_2_11.2.2.2.2.2.1 rfl), List.forall_mem_cons.mpr ⟨(tb_mm tw_2_11.2.2.2.2.2.2.1 rfl), List.forall_mem_cons.mpr ⟨(tb_mm tw_2_11.2.2.2.2.2.2.2.1 rfl), List.forall_mem_cons.mpr ⟨(tb_mm tw_2_11.2.2.2.2.2.2.2.2 rfl), List.forall_mem_cons.mpr ⟨(tb_mm tw_2_12.1 rfl), List.forall_mem_cons.mpr ⟨(tb_mm tw_2_12.2.1 rfl), List.forall_mem_cons.mpr ⟨(tb_mm tw_2_12.2.2.1 rfl), List.forall_mem_cons.mpr ⟨(tb_mm tw_2_12.2.2.2.1 rfl), List.forall_mem_cons.mpr ⟨(tb_mm tw_2_12.2.2.2.2.1 rfl), List.forall_mem_cons.mpr ⟨(tb_mm tw_2_12.2.2.2.2.2.1 rfl), List.forall_mem_cons.mpr ⟨(tb_mm tw_2_12.2.2.2.2.2.2.1 rfl), List.forall_mem_cons.mpr ⟨(tb_mm tw_2_12.2.2.2.2.2.2.2 rfl), List.forall_mem_nil _⟩⟩⟩⟩⟩⟩⟩⟩⟩⟩⟩⟩⟩⟩⟩⟩), by decide +kernel, nmX11, by decide, by decide +kernel⟩
set_option maxRecDepth 10000 in
theorem cl_12 : tb_CL 12 RX12 TX12 47 := ⟨rfl, tb_cw [.laysFinal "TermBankModel" "TermBankModel" "rows" "[I", .laysFinal "TermBankModel" "TermBankModel" "heads" "[I", .laysFinal "TermBankModel" "TermBankModel" "arguments" "[I", .laysFinal "TermBankModel" "TermBankModel" "depths" "[I", .laysFinal "TermBankModel" "TermBankModel" "letter" "[I", .laysFinal "TermBankModel" "TermBankModel" "arity" "[I", .laysFinal "TermBankModel" "TermBankModel" "weight" "[I", .laysFinal "TermBankModel" "TermBankModel" "refused" "[I", .lays "TermBankModel" "TermBankModel" "thrown" "I", .lays "TermBankModel" "TermBankModel" "symbols" "I", .lays "TermBankModel" "TermBankModel" "acts" "I", .lays "TermBankModel" "TermBankModel" "firstAct" "I", .lays "TermBankModel" "TermBankModel" "imageActs" "I", .lays "TermBankModel" "TermBankModel" "imageFirst" "I", .lays "TermBankModel" "TermBankModel" "hasImage" "I", .lays "TermBankModel" "TermBankModel" "base" "I", .lays "TermBankModel" "TermBankModel" "row" "I", .lays "TermBankModel" "TermBankModel" "named" "I", .laysFinal "TermBankModel" "TermBankModel" "tape" "[I", .lays "TermBankModel" "TermBankModel" "taped" "I", .lays "TermBankModel" "TermBankModel" "faultPlace" "I", .lays "TermBankModel" "TermBankModel" "isFull" "Z", .laysFinal "TermBankModel" "TermBankModel" "met" "[I", .laysFinal "TermBankModel" "TermBankModel" "bound" "[I", .laysFinal "TermBankModel" "TermBankModel" "next" "[I", .laysFinal "TermBankModel" "TermBankModel" "up" "[I", .laysFinal "TermBankModel" "TermBankModel" "shown" "[I", .laysFinal "TermBankModel" "TermBankModel" "least" "[I", .laysFinal "TermBankModel" "TermBankModel" "color" "[I", .laysFinal "TermBankModel" "TermBankModel" "pairs" "[I", .lays "TermBankModel" "TermBankModel" "isClash" "Z", .laysFinal "TermBankModel" "TermBankModel" "coupled" "[I", .lays "TermBankModel" "TermBankModel" "couples" "I", .lays "TermBankModel" "TermBankModel" "isMuch" "Z", .lays "TermBankModel" "TermBankModel" "stepped" "I", .lays "TermBankModel" "TermBankModel" "at" "I", .lays "TermBankModel" "TermBankModel" "place" "I", .lays "TermBankModel" "TermBankModel" "size" "I", .lays "TermBankModel" "TermBankModel" "sort" "I", .lays "TermBankModel" "TermBankModel" "value" "I", .lays "TermBankModel" "TermBankModel" "word" "I", .lays "TermBankModel" "TermBankModel" "wordLong" "I", .lays "TermBankModel" "TermBankModel" "sign" "I", .lays "TermBankModel" "TermBankModel" "bad" "I", .lays "TermBankModel" "TermBankModel" "symbols1" "I", .lays "TermBankModel" "TermBankModel" "rooms1" "I", .lays "TermBankModel" "TermBankModel" "its" "I"] rfl (List.forall_mem_cons.mpr ⟨(tb_mm tw_6_14.2.2.2.2.1 rfl), List.forall_mem_cons.mpr ⟨(tb_mm tw_6_14.2.2.2.2.2.1 rfl), List.forall_mem_cons.mpr ⟨(tb_mm tw_6_14.2.2.2.2.2.2.1 rfl), List.forall_mem_cons.mpr ⟨(tb_mm tw_6_14.2.2.2.2.2.2.2.1 rfl), List.forall_mem_cons.mpr ⟨(tb_mm tw_6_14.2.2.2.2.2.2.2.2.1 rfl), List.forall_mem_cons.mpr ⟨(tb_mm tw_6_14.2.2.2.2.2.2.2.2.2 rfl), List.forall_mem_cons.mpr ⟨(tb_mm tw_7_0.1 rfl), List.forall_mem_cons.mpr ⟨(tb_mm tw_7_0.2.1 rfl), List.forall_mem_cons.mpr ⟨(tb_mm tw_7_0.2.2.1 rfl), List.forall_mem_cons.mpr ⟨(tb_mm tw_7_0.2.2.2.1 rfl), List.forall_mem_cons.mpr ⟨(tb_mm tw_7_0.2.2.2.2.1 rfl), List.forall_mem_cons.mpr ⟨(tb_mm tw_7_0.2.2.2.2.2.1 rfl), List.forall_mem_cons.mpr ⟨(tb_mm tw_7_0.2.2.2.2.2.2.1 rfl), List.forall_mem_cons.mpr ⟨(tb_mm tw_7_0.2.2.2.2.2.2.2 rfl), List.forall_mem_cons.mpr ⟨(tb_mm tw_7_1.1 rfl), List.forall_mem_cons.mpr ⟨(tb_mm tw_7_1.2.1 rfl), List.forall_mem_cons.mpr ⟨(tb_mm tw_7_1.2.2.1 rfl), List.forall_mem_cons.mpr ⟨(tb_mm tw_7_1.2.2.2.1 rfl), List.forall_mem_cons.mpr ⟨(tb_mm tw_7_1.2.2.2.2.1 rfl), List.forall_mem_cons.mpr ⟨(tb_mm tw_7_1.2.2.2.2.2.1 rfl), List.forall_mem_cons.mpr ⟨(tb_mm tw_7_1.2.2.2.2.2.2.1 rfl), List.forall_mem_cons.mpr ⟨(tb_mm tw_7_1.2.2.2.2.2.2.2 rfl), List.forall_mem_cons.mpr ⟨(tb_mm tw_7_2.1 rfl), List.forall_mem_cons.mpr ⟨(tb_mm tw_7_2.2.1 rfl), List.forall_mem_cons.mpr ⟨(tb_mm tw_7_2.2.2.1 rfl), List.forall_mem_cons.mpr ⟨(tb_mm tw_7_2.2.2.2.1 rfl), List.forall_mem_cons.mpr ⟨(tb_mm tw_7_2.2.2.2.2.1 rfl), List.forall_mem_cons.mpr ⟨(tb_mm tw_7_2.2.2.2.2.2.1 rfl), List.forall_mem_cons.mpr ⟨(tb_mm tw_7_2.2.2.2.2.2.2.1 rfl), List.forall_mem_cons.mpr ⟨(tb_mm tw_7_2.2.2.2.2.2.2.2 rfl), List.forall_mem_cons.mpr ⟨(tb_mm tw_7_3.1 rfl), List.forall_mem_cons.mpr ⟨(tb_mm tw_7_3.2.1 rfl), List.forall_mem_cons.mpr ⟨(tb_mm tw_7_3.2.2.1 rfl), List.forall_mem_cons.mpr ⟨(tb_mm tw_7_3.2.2.2.1 rfl), List.forall_mem_cons.mpr ⟨(tb_mm tw_7_3.2.2.2.2.1 rfl), List.forall_mem_cons.mpr ⟨(tb_mm tw_7_3.2.2.2.2.2.1 rfl), List.forall_mem_cons.mpr ⟨(tb_mm tw_7_3.2.2.2.2.2.2.1 rfl), List.forall_mem_cons.mpr ⟨(tb_mm tw_7_3.2.2.2.2.2.2.2 rfl), List.forall_mem_cons.mpr ⟨(tb_mm tw_7_4.1 rfl), List.forall_mem_cons.mpr ⟨(tb_mm tw_7_4.2.1 rfl), List.forall_mem_cons.mpr ⟨(tb_mm tw_7_4.2.2.1 rfl), List.forall_mem_cons.mpr ⟨(tb_mm tw_7_4.2.2.2.1 rfl), List.forall_mem_cons.mpr ⟨(tb_mm tw_7_4.2.2.2.2.1 rfl), List.forall_mem_cons.mpr ⟨(tb_mm tw_7_4.2.2.2.2.2.1 rfl), List.forall_mem_cons.mpr ⟨(tb_mm tw_7_4.2.2.2.2.2.2.1 rfl), List.forall_mem_cons.mpr ⟨(tb_mm tw_7_4.2.2.2.2.2.2.2 rfl), List.forall_mem_cons.mpr ⟨(tb_mm tw_7_5.1 rfl), List.forall_mem_nil _⟩⟩⟩⟩⟩⟩⟩⟩⟩⟩⟩⟩⟩⟩⟩⟩⟩⟩⟩⟩⟩⟩⟩⟩⟩⟩⟩⟩⟩⟩⟩⟩⟩⟩⟩⟩⟩⟩⟩⟩⟩⟩⟩⟩⟩⟩⟩), by decide +kernel, nmX12, by decide, by decide +kernel⟩
abbrev M_X11_init : tb_Mt := (yX11_init, cX11_init, 1, none, [])
theorem nc_0 : ("TermBank" : String) ≠ "java/lang/invoke/MethodHandle" ∧ ("TermBank" : String) ≠ "java/lang/invoke/VarHandle" := by decide +kernel
theorem pd_0 : (parseMethodDescriptor "()V").map (fun d => d.parameters.length) = some 0 := by decide +kernel
theorem cd_X11_init : tb_CD M_X11_init 0 := ⟨(tb_mm tw_1_1.2.2.2.2.2.2.2.2.2.2.1 rfl), (tb_mm tw_1_0.1 rfl), nc_0.1, nc_0.2, pd_0⟩
abbrev M_X8_init : tb_Mt := (yX8_init, cX8_init, 1, none, [])
theorem nc_1 : ("TermBank$Symbols" : String) ≠ "java/lang/invoke/MethodHandle" ∧ ("TermBank$Symbols" : String) ≠ "java/lang/invoke/VarHandle" := by decide +kernel
theorem cd_X8_init : tb_CD M_X8_init 0 := ⟨(tb_mm tw_1_2.2.2.2.2.2.1 rfl), (tb_mm tw_1_0.2.1 rfl), nc_1.1, nc_1.2, pd_0⟩
abbrev M_X9_init : tb_Mt := (yX9_init, cX9_init, 2, none, [])
theorem nc_2 : ("TermBank$Terms" : String) ≠ "java/lang/invoke/MethodHandle" ∧ ("TermBank$Terms" : String) ≠ "java/lang/invoke/VarHandle" := by decide +kernel
theorem pd_1 : (parseMethodDescriptor "(LTermBank$Symbols;)V").map (fun d => d.parameters.length) = some 1 := by decide +kernel
theorem cd_X9_init : tb_CD M_X9_init 1 := ⟨(tb_mm tw_1_4.2.2.2.2.2.2.2.1 rfl), (tb_mm tw_1_0.2.2.2.1 rfl), nc_2.1, nc_2.2, pd_1⟩
abbrev M_J7_fill_53178 : tb_Mt := (yJ7_fill_53178, cJ7_fill_53178, 4, none, [])
theorem nc_3 : ("java/util/Arrays" : String) ≠ "java/lang/invoke/MethodHandle" ∧ ("java/util/Arrays" : String) ≠ "java/lang/invoke/VarHandle" := by decide +kernel
theorem pd_2 : (parseMethodDescriptor "([II)V").map (fun d => d.parameters.length) = some 2 := by decide +kernel
theorem cd_J7_fill_53178 : tb_CD M_J7_fill_53178 2 := ⟨(tb_mm tw_1_4.2.2.2.2.2.2.2.2.2.2.2.1 rfl), (tb_mm tw_1_0.2.2.2.2.1 rfl), nc_3.1, nc_3.2, pd_2⟩
abbrev M_X1_init : tb_Mt := (yX1_init, cX1_init, 1, none, [])
theorem nc_4 : ("TermBank$Ledger" : String) ≠ "java/lang/invoke/MethodHandle" ∧ ("TermBank$Ledger" : String) ≠ "java/lang/invoke/VarHandle" := by decide +kernel
theorem cd_X1_init : tb_CD M_X1_init 0 := ⟨(tb_mm tw_1_9.2.1 rfl), (tb_mm tw_1_0.2.2.2.2.2.1 rfl), nc_4.1, nc_4.2, pd_0⟩
abbrev M_X1_fillAnew : tb_Mt := (yX1_fillAnew, cX1_fillAnew, 2, none, [])
theorem pd_3 : (parseMethodDescriptor "([I)V").map (fun d => d.parameters.length) = some 1 := by decide +kernel
theorem cd_X1_fillAnew : tb_CD M_X1_fillAnew 1 := ⟨(tb_mm tw_1_9.2.2.2.2.2.1 rfl), (tb_mm tw_1_0.2.2.2.2.2.1 rfl), nc_4.1, nc_4.2, pd_3⟩
abbrev M_X0_init : tb_Mt := (yX0_init, cX0_init, 3, none, [])
theorem nc_5 : ("TermBank$Core" : String) ≠ "java/lang/invoke/MethodHandle" ∧ ("TermBank$Core" : String) ≠ "java/lang/invoke/VarHandle" := by decide +kernel
theorem pd_4 : (parseMethodDescriptor "(LTermBank$Terms;LTermBank$Ledger;)V").map (fun d => d.parameters.length) = some 2 := by decide +kernel
theorem cd_X0_init : tb_CD M_X0_init 2 := ⟨(tb_mm tw_1_10.2.2.1 rfl), (tb_mm tw_1_0.2.2.1 rfl), nc_5.1, nc_5.2, pd_4⟩
abbrev M_X3_init : tb_Mt := (yX3_init, cX3_init, 2, none, [])
theorem nc_6 : ("TermBank$Matcher" : String) ≠ "java/lang/invoke/MethodHandle" ∧ ("TermBank$Matcher" : String) ≠ "java/lang/invoke/VarHandle" := by decide +kernel
theorem pd_5 : (parseMethodDescriptor "(LTermBank$Terms;)V").map (fun d => d.parameters.length) = some 1 := by decide +kernel
theorem cd_X3_init : tb_CD M_X3_init 1 := ⟨(tb_mm tw_1_12.2.2.2.2.2.2.2.1 rfl), (tb_mm tw_1_0.2.2.2.2.2.2.1 rfl), nc_6.1, nc_6.2, pd_5⟩
abbrev M_X2_init : tb_Mt := (yX2_init, cX2_init, 2, none, [])
theorem nc_7 : ("TermBank$Maker" : String) ≠ "java/lang/invoke/MethodHandle" ∧ ("TermBank$Maker" : String) ≠ "java/lang/invoke/VarHandle" := by decide +kernel
theorem cd_X2_init : tb_CD M_X2_init 1 := ⟨(tb_mm tw_1_13.2.2.2.2.2.2.2.1 rfl), (tb_mm tw_1_0.2.2.2.2.2.2.2.1 rfl), nc_7.1, nc_7.2, pd_5⟩
abbrev M_X10_init : tb_Mt := (yX10_init, cX10_init, 2, none, [])
theorem nc_8 : ("TermBank$Unifier" : String) ≠ "java/lang/invoke/MethodHandle" ∧ ("TermBank$Unifier" : String) ≠ "java/lang/invoke/VarHandle" := by decide +kernel
theorem cd_X10_init : tb_CD M_X10_init 1 := ⟨(tb_mm tw_2_0.2.2.2.2.1 rfl), (tb_mm tw_1_0.2.2.2.2.2.2.2.2.1 rfl), nc_8.1, nc_8.2, pd_5⟩
abbrev M_X4_init : tb_Mt := (yX4_init, cX4_init, 2, none, [])
theorem nc_9 : ("TermBank$Ordering" : String) ≠ "java/lang/invoke/MethodHandle" ∧ ("TermBank$Ordering" : String) ≠ "java/lang/invoke/VarHandle" := by decide +kernel
theorem cd_X4_init : tb_CD M_X4_init 1 := ⟨(tb_mm tw_2_3.2.1 rfl), (tb_mm tw_1_0.2.2.2.2.2.2.2.2.2.2.1 rfl), nc_9.1, nc_9.2, pd_5⟩
abbrev M_X7_init : tb_Mt := (yX7_init, cX7_init, 5, none, [])
theorem nc_10 : ("TermBank$Rulebook" : String) ≠ "java/lang/invoke/MethodHandle" ∧ ("TermBank$Rulebook" : String) ≠ "java/lang/invoke/VarHandle" := by decide +kernel
theorem pd_6 : (parseMethodDescriptor "(LTermBank$Core;LTermBank$Matcher;LTermBank$Unifier;LTermBank$Ordering;)V").map (fun d => d.parameters.length) = some 4 := by decide +kernel
theorem cd_X7_init : tb_CD M_X7_init 4 := ⟨(tb_mm tw_2_4.2.2.2.1 rfl), (tb_mm tw_1_0.2.2.2.2.2.2.2.2.2.1 rfl), nc_10.1, nc_10.2, pd_6⟩
abbrev M_X6_init : tb_Mt := (yX6_init, cX6_init, 4, none, [])
theorem nc_11 : ("TermBank$Rewriter" : String) ≠ "java/lang/invoke/MethodHandle" ∧ ("TermBank$Rewriter" : String) ≠ "java/lang/invoke/VarHandle" := by decide +kernel
theorem pd_7 : (parseMethodDescriptor "(LTermBank$Core;LTermBank$Matcher;LTermBank$Maker;)V").map (fun d => d.parameters.length) = some 3 := by decide +kernel
theorem cd_X6_init : tb_CD M_X6_init 3 := ⟨(tb_mm tw_2_5.2.2.2.2.2.2.2.1 rfl), (tb_mm tw_1_0.2.2.2.2.2.2.2.2.2.2.2.1 rfl), nc_11.1, nc_11.2, pd_7⟩
abbrev M_X5_init : tb_Mt := (yX5_init, cX5_init, 4, none, [])
theorem nc_12 : ("TermBank$Reader" : String) ≠ "java/lang/invoke/MethodHandle" ∧ ("TermBank$Reader" : String) ≠ "java/lang/invoke/VarHandle" := by decide +kernel
theorem pd_8 : (parseMethodDescriptor "([ILTermBank$Core;LTermBank$Rulebook;)V").map (fun d => d.parameters.length) = some 3 := by decide +kernel
theorem cd_X5_init : tb_CD M_X5_init 3 := ⟨(tb_mm tw_2_7.2.2.2.2.2.2.2.2.1 rfl), (tb_mm tw_1_0.2.2.2.2.2.2.2.2.2.2.2.2.1 rfl), nc_12.1, nc_12.2, pd_8⟩
abbrev M_X11_feed : tb_Mt := (yX11_feed, cX11_feed, 6, some .int, [])
theorem pd_9 : (parseMethodDescriptor "(IIIII)I").map (fun d => d.parameters.length) = some 5 := by decide +kernel
theorem cd_X11_feed : tb_CD M_X11_feed 5 := ⟨(tb_mm tw_2_13.2.2.2.1 rfl), (tb_mm tw_1_0.1 rfl), nc_0.1, nc_0.2, pd_9⟩
abbrev M_X11_tapeNumber : tb_Mt := (yX11_tapeNumber, cX11_tapeNumber, 3, none, [])
theorem pd_10 : (parseMethodDescriptor "(I)V").map (fun d => d.parameters.length) = some 1 := by decide +kernel
theorem cd_X11_tapeNumber : tb_CD M_X11_tapeNumber 1 := ⟨(tb_mm tw_2_13.2.2.2.2.2.2.2.1 rfl), (tb_mm tw_1_0.1 rfl), nc_0.1, nc_0.2, pd_10⟩
abbrev M_X11_fault : tb_Mt := (yX11_fault, cX11_fault, 1, some .int, [])
theorem pd_11 : (parseMethodDescriptor "()I").map (fun d => d.parameters.length) = some 0 := by decide +kernel
theorem cd_X11_fault : tb_CD M_X11_fault 0 := ⟨(tb_mm tw_2_13.2.2.2.2.2.2.2.2.2.2.2.1 rfl), (tb_mm tw_1_0.1 rfl), nc_0.1, nc_0.2, pd_11⟩
abbrev M_X11_variable : tb_Mt := (yX11_variable, cX11_variable, 2, some .int, [])
theorem pd_12 : (parseMethodDescriptor "(I)I").map (fun d => d.parameters.length) = some 1 := by decide +kernel
theorem cd_X11_variable : tb_CD M_X11_variable 1 := ⟨(tb_mm tw_2_14.2.1 rfl), (tb_mm tw_1_0.1 rfl), nc_0.1, nc_0.2, pd_12⟩
abbrev M_X11_isVariableNumber : tb_Mt := (yX11_isVariableNumber, cX11_isVariableNumber, 1, some .boolean, [])
theorem pd_13 : (parseMethodDescriptor "(I)Z").map (fun d => d.parameters.length) = some 1 := by decide +kernel
theorem cd_X11_isVariableNumber : tb_CD M_X11_isVariableNumber 1 := ⟨(tb_mm tw_2_14.2.2.2.2.1 rfl), (tb_mm tw_1_0.1 rfl), nc_0.1, nc_0.2, pd_13⟩
abbrev M_X11_refused : tb_Mt := (yX11_refused, cX11_refused, 3, some .int, [])
theorem pd_14 : (parseMethodDescriptor "(II)I").map (fun d => d.parameters.length) = some 2 := by decide +kernel
theorem cd_X11_refused : tb_CD M_X11_refused 2 := ⟨(tb_mm tw_2_14.2.2.2.2.2.2.2.2.1 rfl), (tb_mm tw_1_0.1 rfl), nc_0.1, nc_0.2, pd_14⟩
abbrev M_X0_begin : tb_Mt := (yX0_begin, cX0_begin, 1, none, [])
theorem cd_X0_begin : tb_CD M_X0_begin 0 := ⟨(tb_mm tw_2_14.2.2.2.2.2.2.2.2.2.2.2.2.1 rfl), (tb_mm tw_1_0.2.2.1 rfl), nc_5.1, nc_5.2, pd_0⟩
abbrev M_X9_variableTerm : tb_Mt := (yX9_variableTerm, cX9_variableTerm, 2, some .int, [])
theorem cd_X9_variableTerm : tb_CD M_X9_variableTerm 1 := ⟨(tb_mm tw_3_0.2.2.2.1 rfl), (tb_mm tw_1_0.2.2.2.1 rfl), nc_2.1, nc_2.2, pd_12⟩
abbrev M_X9_made : tb_Mt := (yX9_made, cX9_made, 11, some .int, [])
theorem pd_15 : (parseMethodDescriptor "(IIII)I").map (fun d => d.parameters.length) = some 4 := by decide +kernel
theorem cd_X9_made : tb_CD M_X9_made 4 := ⟨(tb_mm tw_3_0.2.2.2.2.2.2.2.1 rfl), (tb_mm tw_1_0.2.2.2.1 rfl), nc_2.1, nc_2.2, pd_15⟩
abbrev M_X8_has : tb_Mt := (yX8_has, cX8_has, 2, some .boolean, [])
theorem cd_X8_has : tb_CD M_X8_has 1 := ⟨(tb_mm tw_3_0.2.2.2.2.2.2.2.2.2.2.2.1 rfl), (tb_mm tw_1_0.2.1 rfl), nc_1.1, nc_1.2, pd_13⟩
abbrev M_X9_bucketOf : tb_Mt := (yX9_bucketOf, cX9_bucketOf, 4, some .int, [])
theorem cd_X9_bucketOf : tb_CD M_X9_bucketOf 1 := ⟨(tb_mm tw_3_0.2.2.2.2.2.2.2.2.2.2.2.2.2.2.2 rfl), (tb_mm tw_1_0.2.2.2.1 rfl), nc_2.1, nc_2.2, pd_12⟩
abbrev M_X9_isSame : tb_Mt := (yX9_isSame, cX9_isSame, 5, some .boolean, [])
theorem pd_16 : (parseMethodDescriptor "(II)Z").map (fun d => d.parameters.length) = some 2 := by decide +kernel
theorem cd_X9_isSame : tb_CD M_X9_isSame 2 := ⟨(tb_mm tw_3_1.2.2.2.2.2.2.1 rfl), (tb_mm tw_1_0.2.2.2.1 rfl), nc_2.1, nc_2.2, pd_16⟩
abbrev M_X9_hasShapeOf : tb_Mt := (yX9_hasShapeOf, cX9_hasShapeOf, 5, some .boolean, [])
theorem cd_X9_hasShapeOf : tb_CD M_X9_hasShapeOf 2 := ⟨(tb_mm tw_3_1.2.2.2.2.2.2.2.2.2.2.1 rfl), (tb_mm tw_1_0.2.2.2.1 rfl), nc_2.1, nc_2.2, pd_16⟩
abbrev M_X9_measure : tb_Mt := (yX9_measure, cX9_measure, 4, none, [])
theorem cd_X9_measure : tb_CD M_X9_measure 1 := ⟨(tb_mm tw_3_1.2.2.2.2.2.2.2.2.2.2.2.2.2.2.1 rfl), (tb_mm tw_1_0.2.2.2.1 rfl), nc_2.1, nc_2.2, pd_10⟩
abbrev M_X11_settled : tb_Mt := (yX11_settled, cX11_settled, 2, some .int, [])
theorem cd_X11_settled : tb_CD M_X11_settled 1 := ⟨(tb_mm tw_3_2.2.2.1 rfl), (tb_mm tw_1_0.1 rfl), nc_0.1, nc_0.2, pd_12⟩
abbrev M_X0_rollBack : tb_Mt := (yX0_rollBack, cX0_rollBack, 1, none, [])
theorem cd_X0_rollBack : tb_CD M_X0_rollBack 0 := ⟨(tb_mm tw_3_2.2.2.2.2.2.2.1 rfl), (tb_mm tw_1_0.2.2.1 rfl), nc_5.1, nc_5.2, pd_0⟩
abbrev M_X0_takeBack : tb_Mt := (yX0_takeBack, cX0_takeBack, 2, none, [])
theorem cd_X0_takeBack : tb_CD M_X0_takeBack 1 := ⟨(tb_mm tw_3_2.2.2.2.2.2.2.2.2.2.2.1 rfl), (tb_mm tw_1_0.2.2.1 rfl), nc_5.1, nc_5.2, pd_3⟩
abbrev M_X9_cutTo : tb_Mt := (yX9_cutTo, cX9_cutTo, 3, none, [])
theorem cd_X9_cutTo : tb_CD M_X9_cutTo 1 := ⟨(tb_mm tw_3_2.2.2.2.2.2.2.2.2.2.2.2.2.2.2.1 rfl), (tb_mm tw_1_0.2.2.2.1 rfl), nc_2.1, nc_2.2, pd_10⟩
abbrev M_X0_keep : tb_Mt := (yX0_keep, cX0_keep, 1, none, [])
theorem cd_X0_keep : tb_CD M_X0_keep 0 := ⟨(tb_mm tw_3_3.2.2.1 rfl), (tb_mm tw_1_0.2.2.1 rfl), nc_5.1, nc_5.2, pd_0⟩
abbrev M_X11_make : tb_Mt := (yX11_make, cX11_make, 5, some .int, [])
theorem cd_X11_make : tb_CD M_X11_make 4 := ⟨(tb_mm tw_3_3.2.2.2.2.2.2.1 rfl), (tb_mm tw_1_0.1 rfl), nc_0.1, nc_0.2, pd_15⟩
abbrev M_X11_haveArguments : tb_Mt := (yX11_haveArguments, cX11_haveArguments, 6, some .boolean, [])
theorem pd_17 : (parseMethodDescriptor "(IIII)Z").map (fun d => d.parameters.length) = some 4 := by decide +kernel
theorem cd_X11_haveArguments : tb_CD M_X11_haveArguments 4 := ⟨(tb_mm tw_3_3.2.2.2.2.2.2.2.2.2.2.2.1 rfl), (tb_mm tw_1_0.1 rfl), nc_0.1, nc_0.2, pd_17⟩
abbrev M_X9_has : tb_Mt := (yX9_has, cX9_has, 2, some .boolean, [])
theorem cd_X9_has : tb_CD M_X9_has 1 := ⟨(tb_mm tw_3_3.2.2.2.2.2.2.2.2.2.2.2.2.2.2.2 rfl), (tb_mm tw_1_0.2.2.2.1 rfl), nc_2.1, nc_2.2, pd_13⟩
abbrev M_X11_bind : tb_Mt := (yX11_bind, cX11_bind, 4, some .int, [])
theorem cd_X11_bind : tb_CD M_X11_bind 2 := ⟨(tb_mm tw_3_4.2.2.2.2.1 rfl), (tb_mm tw_1_0.1 rfl), nc_0.1, nc_0.2, pd_14⟩
abbrev M_X11_apply : tb_Mt := (yX11_apply, cX11_apply, 2, some .int, [])
theorem cd_X11_apply : tb_CD M_X11_apply 1 := ⟨(tb_mm tw_3_4.2.2.2.2.2.2.2.2.1 rfl), (tb_mm tw_1_0.1 rfl), nc_0.1, nc_0.2, pd_12⟩
abbrev M_X2_applied : tb_Mt := (yX2_applied, cX2_applied, 4, some .int, [])
theorem pd_18 : (parseMethodDescriptor "(I[II)I").map (fun d => d.parameters.length) = some 3 := by decide +kernel
theorem cd_X2_applied : tb_CD M_X2_applied 3 := ⟨(tb_mm tw_3_4.2.2.2.2.2.2.2.2.2.2.2.2.1 rfl), (tb_mm tw_1_0.2.2.2.2.2.2.2.1 rfl), nc_7.1, nc_7.2, pd_18⟩
abbrev M_X2_appliedPart : tb_Mt := (yX2_appliedPart, cX2_appliedPart, 9, some .int, [])
theorem pd_19 : (parseMethodDescriptor "(I[III)I").map (fun d => d.parameters.length) = some 4 := by decide +kernel
theorem cd_X2_appliedPart : tb_CD M_X2_appliedPart 4 := ⟨(tb_mm tw_3_5.1 rfl), (tb_mm tw_1_0.2.2.2.2.2.2.2.1 rfl), nc_7.1, nc_7.2, pd_19⟩
abbrev M_X9_isVariable : tb_Mt := (yX9_isVariable, cX9_isVariable, 2, some .boolean, [])
theorem cd_X9_isVariable : tb_CD M_X9_isVariable 1 := ⟨(tb_mm tw_3_5.2.2.2.2.1 rfl), (tb_mm tw_1_0.2.2.2.1 rfl), nc_2.1, nc_2.2, pd_13⟩
abbrev M_X9_argumentOf : tb_Mt := (yX9_argumentOf, cX9_argumentOf, 3, some .int, [])
theorem cd_X9_argumentOf : tb_CD M_X9_argumentOf 2 := ⟨(tb_mm tw_3_5.2.2.2.2.2.2.2.2.1 rfl), (tb_mm tw_1_0.2.2.2.1 rfl), nc_2.1, nc_2.2, pd_14⟩
abbrev M_X11_close : tb_Mt := (yX11_close, cX11_close, 2, some .int, [])
theorem cd_X11_close : tb_CD M_X11_close 1 := ⟨(tb_mm tw_3_5.2.2.2.2.2.2.2.2.2.2.2.2.2.1 rfl), (tb_mm tw_1_0.1 rfl), nc_0.1, nc_0.2, pd_12⟩
abbrev M_X2_hasRing : tb_Mt := (yX2_hasRing, cX2_hasRing, 7, some .boolean, [])
theorem pd_20 : (parseMethodDescriptor "(I[II)Z").map (fun d => d.parameters.length) = some 3 := by decide +kernel
theorem cd_X2_hasRing : tb_CD M_X2_hasRing 3 := ⟨(tb_mm tw_3_6.2.1 rfl), (tb_mm tw_1_0.2.2.2.2.2.2.2.1 rfl), nc_7.1, nc_7.2, pd_20⟩
abbrev M_X2_reachedFrom : tb_Mt := (yX2_reachedFrom, cX2_reachedFrom, 8, some .int, [])
theorem cd_X2_reachedFrom : tb_CD M_X2_reachedFrom 3 := ⟨(tb_mm tw_3_6.2.2.2.2.2.1 rfl), (tb_mm tw_1_0.2.2.2.2.2.2.2.1 rfl), nc_7.1, nc_7.2, pd_18⟩
abbrev M_X2_closed : tb_Mt := (yX2_closed, cX2_closed, 4, some .int, [])
theorem cd_X2_closed : tb_CD M_X2_closed 3 := ⟨(tb_mm tw_3_6.2.2.2.2.2.2.2.2.2.1 rfl), (tb_mm tw_1_0.2.2.2.2.2.2.2.1 rfl), nc_7.1, nc_7.2, pd_18⟩
abbrev M_X2_closedPart : tb_Mt := (yX2_closedPart, cX2_closedPart, 9, some .int, [])
theorem cd_X2_closedPart : tb_CD M_X2_closedPart 4 := ⟨(tb_mm tw_3_6.2.2.2.2.2.2.2.2.2.2.2.2.2.2.1 rfl), (tb_mm tw_1_0.2.2.2.2.2.2.2.1 rfl), nc_7.1, nc_7.2, pd_19⟩
abbrev M_X2_closedVariable : tb_Mt := (yX2_closedVariable, cX2_closedVariable, 7, some .int, [])
theorem cd_X2_closedVariable : tb_CD M_X2_closedVariable 4 := ⟨(tb_mm tw_3_7.2.2.1 rfl), (tb_mm tw_1_0.2.2.2.2.2.2.2.1 rfl), nc_7.1, nc_7.2, pd_19⟩
abbrev M_X11_unify : tb_Mt := (yX11_unify, cX11_unify, 5, some .int, [])
theorem cd_X11_unify : tb_CD M_X11_unify 2 := ⟨(tb_mm tw_3_7.2.2.2.2.2.2.1 rfl), (tb_mm tw_1_0.1 rfl), nc_0.1, nc_0.2, pd_14⟩
abbrev M_X10_wayOf : tb_Mt := (yX10_wayOf, cX10_wayOf, 6, some .int, [])
theorem pd_21 : (parseMethodDescriptor "(III)I").map (fun d => d.parameters.length) = some 3 := by decide +kernel
theorem cd_X10_wayOf : tb_CD M_X10_wayOf 3 := ⟨(tb_mm tw_3_7.2.2.2.2.2.2.2.2.2.2.1 rfl), (tb_mm tw_1_0.2.2.2.2.2.2.2.2.1 rfl), nc_8.1, nc_8.2, pd_21⟩
abbrev M_X10_addPair : tb_Mt := (yX10_addPair, cX10_addPair, 3, none, [])
theorem pd_22 : (parseMethodDescriptor "(II)V").map (fun d => d.parameters.length) = some 2 := by decide +kernel
theorem cd_X10_addPair : tb_CD M_X10_addPair 2 := ⟨(tb_mm tw_3_7.2.2.2.2.2.2.2.2.2.2.2.2.2.2.1 rfl), (tb_mm tw_1_0.2.2.2.2.2.2.2.2.1 rfl), nc_8.1, nc_8.2, pd_22⟩
abbrev M_X10_topOf : tb_Mt := (yX10_topOf, cX10_topOf, 4, some .int, [])
theorem cd_X10_topOf : tb_CD M_X10_topOf 1 := ⟨(tb_mm tw_3_8.2.2.1 rfl), (tb_mm tw_1_0.2.2.2.2.2.2.2.2.1 rfl), nc_8.1, nc_8.2, pd_12⟩
abbrev M_X10_wake : tb_Mt := (yX10_wake, cX10_wake, 3, none, [])
theorem cd_X10_wake : tb_CD M_X10_wake 1 := ⟨(tb_mm tw_3_8.2.2.2.2.2.2.1 rfl), (tb_mm tw_1_0.2.2.2.2.2.2.2.2.1 rfl), nc_8.1, nc_8.2, pd_10⟩
abbrev M_X10_termOf : tb_Mt := (yX10_termOf, cX10_termOf, 2, some .int, [])
theorem cd_X10_termOf : tb_CD M_X10_termOf 1 := ⟨(tb_mm tw_3_8.2.2.2.2.2.2.2.2.2.2.1 rfl), (tb_mm tw_1_0.2.2.2.2.2.2.2.2.1 rfl), nc_8.1, nc_8.2, pd_12⟩
abbrev M_X10_joined : tb_Mt := (yX10_joined, cX10_joined, 6, some .boolean, [])
theorem cd_X10_joined : tb_CD M_X10_joined 2 := ⟨(tb_mm tw_3_8.2.2.2.2.2.2.2.2.2.2.2.2.2.2.1 rfl), (tb_mm tw_1_0.2.2.2.2.2.2.2.2.1 rfl), nc_8.1, nc_8.2, pd_16⟩
abbrev M_X10_lesser : tb_Mt := (yX10_lesser, cX10_lesser, 3, some .int, [])
theorem cd_X10_lesser : tb_CD M_X10_lesser 2 := ⟨(tb_mm tw_3_9.2.2.1 rfl), (tb_mm tw_1_0.2.2.2.2.2.2.2.2.1 rfl), nc_8.1, nc_8.2, pd_14⟩
abbrev M_X10_partOf : tb_Mt := (yX10_partOf, cX10_partOf, 3, some .int, [])
theorem cd_X10_partOf : tb_CD M_X10_partOf 2 := ⟨(tb_mm tw_3_9.2.2.2.2.2.2.1 rfl), (tb_mm tw_1_0.2.2.2.2.2.2.2.2.1 rfl), nc_8.1, nc_8.2, pd_14⟩
abbrev M_X10_sideOf : tb_Mt := (yX10_sideOf, cX10_sideOf, 2, some .int, [])
theorem cd_X10_sideOf : tb_CD M_X10_sideOf 1 := ⟨(tb_mm tw_3_9.2.2.2.2.2.2.2.2.2.2.2.1 rfl), (tb_mm tw_1_0.2.2.2.2.2.2.2.2.1 rfl), nc_8.1, nc_8.2, pd_12⟩
abbrev M_X10_listAll : tb_Mt := (yX10_listAll, cX10_listAll, 7, some .int, [])
theorem cd_X10_listAll : tb_CD M_X10_listAll 1 := ⟨(tb_mm tw_3_9.2.2.2.2.2.2.2.2.2.2.2.2.2.2.2 rfl), (tb_mm tw_1_0.2.2.2.2.2.2.2.2.1 rfl), nc_8.1, nc_8.2, pd_12⟩
abbrev M_X10_takenAway : tb_Mt := (yX10_takenAway, cX10_takenAway, 7, some .int, [])
theorem cd_X10_takenAway : tb_CD M_X10_takenAway 1 := ⟨(tb_mm tw_3_10.2.2.2.1 rfl), (tb_mm tw_1_0.2.2.2.2.2.2.2.2.1 rfl), nc_8.1, nc_8.2, pd_12⟩
abbrev M_X10_bindAll : tb_Mt := (yX10_bindAll, cX10_bindAll, 6, some .int, [])
theorem cd_X10_bindAll : tb_CD M_X10_bindAll 3 := ⟨(tb_mm tw_3_10.2.2.2.2.2.2.2.1 rfl), (tb_mm tw_1_0.2.2.2.2.2.2.2.2.1 rfl), nc_8.1, nc_8.2, pd_18⟩
abbrev M_X10_boundOf : tb_Mt := (yX10_boundOf, cX10_boundOf, 3, some .int, [])
theorem cd_X10_boundOf : tb_CD M_X10_boundOf 1 := ⟨(tb_mm tw_3_10.2.2.2.2.2.2.2.2.2.2.2.2.1 rfl), (tb_mm tw_1_0.2.2.2.2.2.2.2.2.1 rfl), nc_8.1, nc_8.2, pd_12⟩
abbrev M_X10_solvedClass : tb_Mt := (yX10_solvedClass, cX10_solvedClass, 4, some .int, [])
theorem cd_X10_solvedClass : tb_CD M_X10_solvedClass 2 := ⟨(tb_mm tw_3_11.1 rfl), (tb_mm tw_1_0.2.2.2.2.2.2.2.2.1 rfl), nc_8.1, nc_8.2, pd_14⟩
abbrev M_X10_solvedTerm : tb_Mt := (yX10_solvedTerm, cX10_solvedTerm, 7, some .int, [])
theorem cd_X10_solvedTerm : tb_CD M_X10_solvedTerm 2 := ⟨(tb_mm tw_3_11.2.2.2.2.1 rfl), (tb_mm tw_1_0.2.2.2.2.2.2.2.2.1 rfl), nc_8.1, nc_8.2, pd_14⟩
abbrev M_X11_match : tb_Mt := (yX11_match, cX11_match, 3, some .int, [])
theorem cd_X11_match : tb_CD M_X11_match 2 := ⟨(tb_mm tw_3_11.2.2.2.2.2.2.2.2.2.1 rfl), (tb_mm tw_1_0.1 rfl), nc_0.1, nc_0.2, pd_14⟩
abbrev M_X3_matches : tb_Mt := (yX3_matches, cX3_matches, 3, some .boolean, [])
theorem cd_X3_matches : tb_CD M_X3_matches 2 := ⟨(tb_mm tw_3_11.2.2.2.2.2.2.2.2.2.2.2.2.2.1 rfl), (tb_mm tw_1_0.2.2.2.2.2.2.1 rfl), nc_6.1, nc_6.2, pd_16⟩
abbrev M_X3_fitsPart : tb_Mt := (yX3_fitsPart, cX3_fitsPart, 5, some .boolean, [])
theorem pd_23 : (parseMethodDescriptor "(III)Z").map (fun d => d.parameters.length) = some 3 := by decide +kernel
theorem cd_X3_fitsPart : tb_CD M_X3_fitsPart 3 := ⟨(tb_mm tw_3_12.2.2.1 rfl), (tb_mm tw_1_0.2.2.2.2.2.2.1 rfl), nc_6.1, nc_6.2, pd_23⟩
abbrev M_X3_takes : tb_Mt := (yX3_takes, cX3_takes, 3, some .boolean, [])
theorem cd_X3_takes : tb_CD M_X3_takes 2 := ⟨(tb_mm tw_3_12.2.2.2.2.2.2.2.1 rfl), (tb_mm tw_1_0.2.2.2.2.2.2.1 rfl), nc_6.1, nc_6.2, pd_16⟩
abbrev M_X11_common : tb_Mt := (yX11_common, cX11_common, 3, some .int, [])
theorem cd_X11_common : tb_CD M_X11_common 2 := ⟨(tb_mm tw_3_12.2.2.2.2.2.2.2.2.2.2.2.2.2.1 rfl), (tb_mm tw_1_0.1 rfl), nc_0.1, nc_0.2, pd_14⟩
abbrev M_X2_haveCommon : tb_Mt := (yX2_haveCommon, cX2_haveCommon, 3, some .boolean, [])
theorem cd_X2_haveCommon : tb_CD M_X2_haveCommon 2 := ⟨(tb_mm tw_3_13.2.1 rfl), (tb_mm tw_1_0.2.2.2.2.2.2.2.1 rfl), nc_7.1, nc_7.2, pd_16⟩
abbrev M_X2_couple : tb_Mt := (yX2_couple, cX2_couple, 5, some .boolean, [])
theorem cd_X2_couple : tb_CD M_X2_couple 3 := ⟨(tb_mm tw_3_13.2.2.2.2.2.1 rfl), (tb_mm tw_1_0.2.2.2.2.2.2.2.1 rfl), nc_7.1, nc_7.2, pd_23⟩
abbrev M_X2_addCouple : tb_Mt := (yX2_addCouple, cX2_addCouple, 3, some .boolean, [])
theorem cd_X2_addCouple : tb_CD M_X2_addCouple 2 := ⟨(tb_mm tw_3_13.2.2.2.2.2.2.2.2.2.1 rfl), (tb_mm tw_1_0.2.2.2.2.2.2.2.1 rfl), nc_7.1, nc_7.2, pd_16⟩
abbrev M_X2_coupleOf : tb_Mt := (yX2_coupleOf, cX2_coupleOf, 4, some .int, [])
theorem cd_X2_coupleOf : tb_CD M_X2_coupleOf 2 := ⟨(tb_mm tw_3_13.2.2.2.2.2.2.2.2.2.2.2.2.2.1 rfl), (tb_mm tw_1_0.2.2.2.2.2.2.2.1 rfl), nc_7.1, nc_7.2, pd_14⟩
abbrev M_X2_commonOf : tb_Mt := (yX2_commonOf, cX2_commonOf, 3, some .int, [])
theorem cd_X2_commonOf : tb_CD M_X2_commonOf 2 := ⟨(tb_mm tw_3_14.2.1 rfl), (tb_mm tw_1_0.2.2.2.2.2.2.2.1 rfl), nc_7.1, nc_7.2, pd_14⟩
abbrev M_X2_commonPart : tb_Mt := (yX2_commonPart, cX2_commonPart, 9, some .int, [])
theorem cd_X2_commonPart : tb_CD M_X2_commonPart 3 := ⟨(tb_mm tw_3_14.2.2.2.2.2.1 rfl), (tb_mm tw_1_0.2.2.2.2.2.2.2.1 rfl), nc_7.1, nc_7.2, pd_21⟩
abbrev M_X11_normal : tb_Mt := (yX11_normal, cX11_normal, 2, some .int, [])
theorem cd_X11_normal : tb_CD M_X11_normal 1 := ⟨(tb_mm tw_3_14.2.2.2.2.2.2.2.2.2.2.1 rfl), (tb_mm tw_1_0.1 rfl), nc_0.1, nc_0.2, pd_12⟩
abbrev M_X6_allowSteps : tb_Mt := (yX6_allowSteps, cX6_allowSteps, 1, none, [])
theorem cd_X6_allowSteps : tb_CD M_X6_allowSteps 0 := ⟨(tb_mm tw_3_14.2.2.2.2.2.2.2.2.2.2.2.2.2.2.1 rfl), (tb_mm tw_1_0.2.2.2.2.2.2.2.2.2.2.2.1 rfl), nc_11.1, nc_11.2, pd_0⟩
abbrev M_X6_normalOf : tb_Mt := (yX6_normalOf, cX6_normalOf, 4, some .int, [])
theorem cd_X6_normalOf : tb_CD M_X6_normalOf 1 := ⟨(tb_mm tw_4_0.2.2.1 rfl), (tb_mm tw_1_0.2.2.2.2.2.2.2.2.2.2.2.1 rfl), nc_11.1, nc_11.2, pd_12⟩
abbrev M_X6_opened : tb_Mt := (yX6_opened, cX6_opened, 3, some .int, [])
theorem cd_X6_opened : tb_CD M_X6_opened 1 := ⟨(tb_mm tw_4_0.2.2.2.2.2.2.1 rfl), (tb_mm tw_1_0.2.2.2.2.2.2.2.2.2.2.2.1 rfl), nc_11.1, nc_11.2, pd_12⟩
abbrev M_X1_recalled : tb_Mt := (yX1_recalled, cX1_recalled, 4, some .int, [])
theorem cd_X1_recalled : tb_CD M_X1_recalled 1 := ⟨(tb_mm tw_4_0.2.2.2.2.2.2.2.2.2.2.2.1 rfl), (tb_mm tw_1_0.2.2.2.2.2.1 rfl), nc_4.1, nc_4.2, pd_12⟩
abbrev M_X1_dropMemo : tb_Mt := (yX1_dropMemo, cX1_dropMemo, 4, none, [])
theorem cd_X1_dropMemo : tb_CD M_X1_dropMemo 1 := ⟨(tb_mm tw_4_0.2.2.2.2.2.2.2.2.2.2.2.2.2.2.2 rfl), (tb_mm tw_1_0.2.2.2.2.2.1 rfl), nc_4.1, nc_4.2, pd_10⟩
abbrev M_X1_addMemo : tb_Mt := (yX1_addMemo, cX1_addMemo, 4, none, [])
theorem cd_X1_addMemo : tb_CD M_X1_addMemo 2 := ⟨(tb_mm tw_4_1.2.2.2.1 rfl), (tb_mm tw_1_0.2.2.2.2.2.1 rfl), nc_4.1, nc_4.2, pd_22⟩
abbrev M_X6_wentOn : tb_Mt := (yX6_wentOn, cX6_wentOn, 6, some .int, [])
theorem cd_X6_wentOn : tb_CD M_X6_wentOn 1 := ⟨(tb_mm tw_4_1.2.2.2.2.2.2.2.2.1 rfl), (tb_mm tw_1_0.2.2.2.2.2.2.2.2.2.2.2.1 rfl), nc_11.1, nc_11.2, pd_12⟩
abbrev M_X7_firstRule : tb_Mt := (yX7_firstRule, cX7_firstRule, 4, some .int, [])
theorem pd_24 : (parseMethodDescriptor "(LTermBank$Ledger;LTermBank$Matcher;I)I").map (fun d => d.parameters.length) = some 3 := by decide +kernel
theorem cd_X7_firstRule : tb_CD M_X7_firstRule 3 := ⟨(tb_mm tw_4_1.2.2.2.2.2.2.2.2.2.2.2.2.2.1 rfl), (tb_mm tw_1_0.2.2.2.2.2.2.2.2.2.1 rfl), nc_10.1, nc_10.2, pd_24⟩
abbrev M_X6_closedWith : tb_Mt := (yX6_closedWith, cX6_closedWith, 3, some .int, [])
theorem cd_X6_closedWith : tb_CD M_X6_closedWith 2 := ⟨(tb_mm tw_4_2.2.2.1 rfl), (tb_mm tw_1_0.2.2.2.2.2.2.2.2.2.2.2.1 rfl), nc_11.1, nc_11.2, pd_14⟩
abbrev M_X1_remember : tb_Mt := (yX1_remember, cX1_remember, 3, none, [])
theorem cd_X1_remember : tb_CD M_X1_remember 2 := ⟨(tb_mm tw_4_2.2.2.2.2.2.2.1 rfl), (tb_mm tw_1_0.2.2.2.2.2.1 rfl), nc_4.1, nc_4.2, pd_22⟩
abbrev M_X6_countStep : tb_Mt := (yX6_countStep, cX6_countStep, 2, none, [])
theorem cd_X6_countStep : tb_CD M_X6_countStep 1 := ⟨(tb_mm tw_4_2.2.2.2.2.2.2.2.2.2.2.1 rfl), (tb_mm tw_1_0.2.2.2.2.2.2.2.2.2.2.2.1 rfl), nc_11.1, nc_11.2, pd_10⟩
abbrev M_X6_handed : tb_Mt := (yX6_handed, cX6_handed, 4, some .int, [])
theorem cd_X6_handed : tb_CD M_X6_handed 2 := ⟨(tb_mm tw_4_2.2.2.2.2.2.2.2.2.2.2.2.2.2.2.2 rfl), (tb_mm tw_1_0.2.2.2.2.2.2.2.2.2.2.2.1 rfl), nc_11.1, nc_11.2, pd_14⟩
abbrev M_X11_put : tb_Mt := (yX11_put, cX11_put, 5, some .int, [])
theorem cd_X11_put : tb_CD M_X11_put 3 := ⟨(tb_mm tw_4_3.2.2.2.1 rfl), (tb_mm tw_1_0.1 rfl), nc_0.1, nc_0.2, pd_21⟩
abbrev M_X9_hasPlace : tb_Mt := (yX9_hasPlace, cX9_hasPlace, 3, some .boolean, [])
theorem cd_X9_hasPlace : tb_CD M_X9_hasPlace 2 := ⟨(tb_mm tw_4_3.2.2.2.2.2.2.2.1 rfl), (tb_mm tw_1_0.2.2.2.1 rfl), nc_2.1, nc_2.2, pd_16⟩
abbrev M_X2_replaced : tb_Mt := (yX2_replaced, cX2_replaced, 4, some .int, [])
theorem cd_X2_replaced : tb_CD M_X2_replaced 3 := ⟨(tb_mm tw_4_3.2.2.2.2.2.2.2.2.2.2.2.1 rfl), (tb_mm tw_1_0.2.2.2.2.2.2.2.1 rfl), nc_7.1, nc_7.2, pd_21⟩
abbrev M_X2_replacedPart : tb_Mt := (yX2_replacedPart, cX2_replacedPart, 11, some .int, [])
theorem cd_X2_replacedPart : tb_CD M_X2_replacedPart 4 := ⟨(tb_mm tw_4_3.2.2.2.2.2.2.2.2.2.2.2.2.2.2.2 rfl), (tb_mm tw_1_0.2.2.2.2.2.2.2.1 rfl), nc_7.1, nc_7.2, pd_15⟩
abbrev M_X9_argumentAtPlace : tb_Mt := (yX9_argumentAtPlace, cX9_argumentAtPlace, 6, some .int, [])
theorem cd_X9_argumentAtPlace : tb_CD M_X9_argumentAtPlace 2 := ⟨(tb_mm tw_4_4.2.2.2.1 rfl), (tb_mm tw_1_0.2.2.2.1 rfl), nc_2.1, nc_2.2, pd_14⟩
abbrev M_X9_placeInArgument : tb_Mt := (yX9_placeInArgument, cX9_placeInArgument, 6, some .int, [])
theorem cd_X9_placeInArgument : tb_CD M_X9_placeInArgument 3 := ⟨(tb_mm tw_4_4.2.2.2.2.2.2.2.2.1 rfl), (tb_mm tw_1_0.2.2.2.1 rfl), nc_2.1, nc_2.2, pd_21⟩
abbrev M_X11_rules : tb_Mt := (yX11_rules, cX11_rules, 4, some .int, [])
theorem cd_X11_rules : tb_CD M_X11_rules 2 := ⟨(tb_mm tw_4_4.2.2.2.2.2.2.2.2.2.2.2.2.1 rfl), (tb_mm tw_1_0.1 rfl), nc_0.1, nc_0.2, pd_14⟩
abbrev M_X7_isRule : tb_Mt := (yX7_isRule, cX7_isRule, 3, some .boolean, [])
theorem cd_X7_isRule : tb_CD M_X7_isRule 2 := ⟨(tb_mm tw_4_5.1 rfl), (tb_mm tw_1_0.2.2.2.2.2.2.2.2.2.1 rfl), nc_10.1, nc_10.2, pd_16⟩
abbrev M_X4_isGreater : tb_Mt := (yX4_isGreater, cX4_isGreater, 7, some .boolean, [])
theorem cd_X4_isGreater : tb_CD M_X4_isGreater 2 := ⟨(tb_mm tw_4_5.2.2.2.2.2.2.1 rfl), (tb_mm tw_1_0.2.2.2.2.2.2.2.2.2.2.1 rfl), nc_9.1, nc_9.2, pd_16⟩
abbrev M_X4_weighBoth : tb_Mt := (yX4_weighBoth, cX4_weighBoth, 3, none, [])
theorem cd_X4_weighBoth : tb_CD M_X4_weighBoth 2 := ⟨(tb_mm tw_4_5.2.2.2.2.2.2.2.2.2.2.1 rfl), (tb_mm tw_1_0.2.2.2.2.2.2.2.2.2.2.1 rfl), nc_9.1, nc_9.2, pd_22⟩
abbrev M_X4_weigh : tb_Mt := (yX4_weigh, cX4_weigh, 6, none, [])
theorem pd_25 : (parseMethodDescriptor "(III)V").map (fun d => d.parameters.length) = some 3 := by decide +kernel
theorem cd_X4_weigh : tb_CD M_X4_weigh 3 := ⟨(tb_mm tw_4_5.2.2.2.2.2.2.2.2.2.2.2.2.2.2.2 rfl), (tb_mm tw_1_0.2.2.2.2.2.2.2.2.2.2.1 rfl), nc_9.1, nc_9.2, pd_25⟩
abbrev M_X4_lacksVariable : tb_Mt := (yX4_lacksVariable, cX4_lacksVariable, 2, some .boolean, [])
theorem pd_26 : (parseMethodDescriptor "()Z").map (fun d => d.parameters.length) = some 0 := by decide +kernel
theorem cd_X4_lacksVariable : tb_CD M_X4_lacksVariable 0 := ⟨(tb_mm tw_4_6.2.2.2.2.1 rfl), (tb_mm tw_1_0.2.2.2.2.2.2.2.2.2.2.1 rfl), nc_9.1, nc_9.2, pd_26⟩
abbrev M_X4_firstUnlike : tb_Mt := (yX4_firstUnlike, cX4_firstUnlike, 5, some .int, [])
theorem cd_X4_firstUnlike : tb_CD M_X4_firstUnlike 2 := ⟨(tb_mm tw_4_6.2.2.2.2.2.2.2.2.2.1 rfl), (tb_mm tw_1_0.2.2.2.2.2.2.2.2.2.2.1 rfl), nc_9.1, nc_9.2, pd_14⟩
abbrev M_X1_addRule : tb_Mt := (yX1_addRule, cX1_addRule, 4, none, [])
theorem cd_X1_addRule : tb_CD M_X1_addRule 2 := ⟨(tb_mm tw_4_6.2.2.2.2.2.2.2.2.2.2.2.2.2.2.1 rfl), (tb_mm tw_1_0.2.2.2.2.2.1 rfl), nc_4.1, nc_4.2, pd_22⟩
abbrev M_X11_enter : tb_Mt := (yX11_enter, cX11_enter, 3, some .int, [])
theorem cd_X11_enter : tb_CD M_X11_enter 1 := ⟨(tb_mm tw_4_7.2.2.1 rfl), (tb_mm tw_1_0.1 rfl), nc_0.1, nc_0.2, pd_12⟩
abbrev M_X1_entryOf : tb_Mt := (yX1_entryOf, cX1_entryOf, 3, some .int, [])
theorem cd_X1_entryOf : tb_CD M_X1_entryOf 1 := ⟨(tb_mm tw_4_7.2.2.2.2.2.2.1 rfl), (tb_mm tw_1_0.2.2.2.2.2.1 rfl), nc_4.1, nc_4.2, pd_12⟩
abbrev M_X1_addEntry : tb_Mt := (yX1_addEntry, cX1_addEntry, 3, none, [])
theorem cd_X1_addEntry : tb_CD M_X1_addEntry 1 := ⟨(tb_mm tw_4_7.2.2.2.2.2.2.2.2.2.2.1 rfl), (tb_mm tw_1_0.2.2.2.2.2.1 rfl), nc_4.1, nc_4.2, pd_10⟩
abbrev M_X11_leave : tb_Mt := (yX11_leave, cX11_leave, 4, some .int, [])
theorem cd_X11_leave : tb_CD M_X11_leave 1 := ⟨(tb_mm tw_4_7.2.2.2.2.2.2.2.2.2.2.2.2.2.2.1 rfl), (tb_mm tw_1_0.1 rfl), nc_0.1, nc_0.2, pd_12⟩
abbrev M_X1_dropEntry : tb_Mt := (yX1_dropEntry, cX1_dropEntry, 4, none, [])
theorem cd_X1_dropEntry : tb_CD M_X1_dropEntry 1 := ⟨(tb_mm tw_4_8.2.2.1 rfl), (tb_mm tw_1_0.2.2.2.2.2.1 rfl), nc_4.1, nc_4.2, pd_10⟩
abbrev M_X11_room : tb_Mt := (yX11_room, cX11_room, 3, some .int, [])
theorem cd_X11_room : tb_CD M_X11_room 1 := ⟨(tb_mm tw_4_8.2.2.2.2.2.2.1 rfl), (tb_mm tw_1_0.1 rfl), nc_0.1, nc_0.2, pd_12⟩
abbrev M_X1_tellRoom : tb_Mt := (yX1_tellRoom, cX1_tellRoom, 2, none, [])
theorem cd_X1_tellRoom : tb_CD M_X1_tellRoom 1 := ⟨(tb_mm tw_4_8.2.2.2.2.2.2.2.2.2.2.1 rfl), (tb_mm tw_1_0.2.2.2.2.2.1 rfl), nc_4.1, nc_4.2, pd_10⟩
abbrev M_X11_draw : tb_Mt := (yX11_draw, cX11_draw, 3, some .int, [])
theorem cd_X11_draw : tb_CD M_X11_draw 2 := ⟨(tb_mm tw_4_8.2.2.2.2.2.2.2.2.2.2.2.2.2.2.1 rfl), (tb_mm tw_1_0.1 rfl), nc_0.1, nc_0.2, pd_14⟩
abbrev M_X2_drawn : tb_Mt := (yX2_drawn, cX2_drawn, 2, some .int, [])
theorem cd_X2_drawn : tb_CD M_X2_drawn 1 := ⟨(tb_mm tw_4_9.2.2.1 rfl), (tb_mm tw_1_0.2.2.2.2.2.2.2.1 rfl), nc_7.1, nc_7.2, pd_12⟩
abbrev M_X2_drawnPart : tb_Mt := (yX2_drawnPart, cX2_drawnPart, 9, some .int, [])
theorem cd_X2_drawnPart : tb_CD M_X2_drawnPart 1 := ⟨(tb_mm tw_4_9.2.2.2.2.2.2.2.2.2.1 rfl), (tb_mm tw_1_0.2.2.2.2.2.2.2.1 rfl), nc_7.1, nc_7.2, pd_12⟩
abbrev M_X2_drawOf : tb_Mt := (yX2_drawOf, cX2_drawOf, 2, some .int, [])
theorem cd_X2_drawOf : tb_CD M_X2_drawOf 1 := ⟨(tb_mm tw_4_9.2.2.2.2.2.2.2.2.2.2.2.2.2.1 rfl), (tb_mm tw_1_0.2.2.2.2.2.2.2.1 rfl), nc_7.1, nc_7.2, pd_12⟩
abbrev M_X11_undo : tb_Mt := (yX11_undo, cX11_undo, 1, some .int, [])
theorem cd_X11_undo : tb_CD M_X11_undo 0 := ⟨(tb_mm tw_4_10.2.2.1 rfl), (tb_mm tw_1_0.1 rfl), nc_0.1, nc_0.2, pd_11⟩
abbrev M_X0_undoLast : tb_Mt := (yX0_undoLast, cX0_undoLast, 1, some .int, [])
theorem cd_X0_undoLast : tb_CD M_X0_undoLast 0 := ⟨(tb_mm tw_4_10.2.2.2.2.2.2.1 rfl), (tb_mm tw_1_0.2.2.1 rfl), nc_5.1, nc_5.2, pd_11⟩
abbrev M_X11_image : tb_Mt := (yX11_image, cX11_image, 1, none, [])
theorem cd_X11_image : tb_CD M_X11_image 0 := ⟨(tb_mm tw_4_10.2.2.2.2.2.2.2.2.2.2.1 rfl), (tb_mm tw_1_0.1 rfl), nc_0.1, nc_0.2, pd_0⟩
abbrev M_X0_takeFrom : tb_Mt := (yX0_takeFrom, cX0_takeFrom, 4, none, [])
theorem pd_27 : (parseMethodDescriptor "(LTermBank$Core;)V").map (fun d => d.parameters.length) = some 1 := by decide +kernel
theorem cd_X0_takeFrom : tb_CD M_X0_takeFrom 1 := ⟨(tb_mm tw_4_10.2.2.2.2.2.2.2.2.2.2.2.2.2.2.1 rfl), (tb_mm tw_1_0.2.2.1 rfl), nc_5.1, nc_5.2, pd_27⟩
abbrev M_X9_takeFrom : tb_Mt := (yX9_takeFrom, cX9_takeFrom, 2, none, [])
theorem cd_X9_takeFrom : tb_CD M_X9_takeFrom 1 := ⟨(tb_mm tw_4_11.2.2.1 rfl), (tb_mm tw_1_0.2.2.2.1 rfl), nc_2.1, nc_2.2, pd_5⟩
abbrev M_X1_takeFrom : tb_Mt := (yX1_takeFrom, cX1_takeFrom, 2, none, [])
theorem pd_28 : (parseMethodDescriptor "(LTermBank$Ledger;)V").map (fun d => d.parameters.length) = some 1 := by decide +kernel
theorem cd_X1_takeFrom : tb_CD M_X1_takeFrom 1 := ⟨(tb_mm tw_4_11.2.2.2.2.2.2.2.1 rfl), (tb_mm tw_1_0.2.2.2.2.2.1 rfl), nc_4.1, nc_4.2, pd_28⟩
abbrev M_X11_restore : tb_Mt := (yX11_restore, cX11_restore, 1, some .boolean, [])
theorem cd_X11_restore : tb_CD M_X11_restore 0 := ⟨(tb_mm tw_4_11.2.2.2.2.2.2.2.2.2.2.2.2.1 rfl), (tb_mm tw_1_0.1 rfl), nc_0.1, nc_0.2, pd_26⟩
abbrev M_L_bank : tb_Mt := (yL_bank, cL_bank, 4, some .int, [(0, 9, 12, 13)])
theorem ch_L_bank : Cond.codeWith M_L_bank.1 M_L_bank.2.1 M_L_bank.2.2.1 M_L_bank.2.2.2.1 M_L_bank.2.2.2.2 ∈ tb_W := (tb_mm tw_4_11.2.2.2.2.2.2.2.2.2.2.2.2.2.2.2 rfl)
abbrev M_X11_bank : tb_Mt := (yX11_bank, cX11_bank, 3, some .int, [])
theorem cd_X11_bank : tb_CD M_X11_bank 1 := ⟨(tb_mm tw_4_12.2.2.2.2.1 rfl), (tb_mm tw_1_0.1 rfl), nc_0.1, nc_0.2, pd_12⟩
abbrev M_X11_setAside : tb_Mt := (yX11_setAside, cX11_setAside, 1, none, [])
theorem cd_X11_setAside : tb_CD M_X11_setAside 0 := ⟨(tb_mm tw_5_1.2.2.2.2.1 rfl), (tb_mm tw_1_0.1 rfl), nc_0.1, nc_0.2, pd_0⟩
abbrev M_X8_takeFrom : tb_Mt := (yX8_takeFrom, cX8_takeFrom, 2, none, [])
theorem cd_X8_takeFrom : tb_CD M_X8_takeFrom 1 := ⟨(tb_mm tw_5_1.2.2.2.2.2.2.2.2 rfl), (tb_mm tw_1_0.2.1 rfl), nc_1.1, nc_1.2, pd_1⟩
abbrev M_X11_startAnew : tb_Mt := (yX11_startAnew, cX11_startAnew, 1, none, [])
theorem cd_X11_startAnew : tb_CD M_X11_startAnew 0 := ⟨(tb_mm tw_5_2.2.2.2.2.2.2.1 rfl), (tb_mm tw_1_0.1 rfl), nc_0.1, nc_0.2, pd_0⟩
abbrev M_X8_empty : tb_Mt := (yX8_empty, cX8_empty, 1, none, [])
theorem cd_X8_empty : tb_CD M_X8_empty 0 := ⟨(tb_mm tw_5_2.2.2.2.2.2.2.2.2.2.2.1 rfl), (tb_mm tw_1_0.2.1 rfl), nc_1.1, nc_1.2, pd_0⟩
abbrev M_X9_empty : tb_Mt := (yX9_empty, cX9_empty, 1, none, [])
theorem cd_X9_empty : tb_CD M_X9_empty 0 := ⟨(tb_mm tw_5_2.2.2.2.2.2.2.2.2.2.2.2.2.2.2.1 rfl), (tb_mm tw_1_0.2.2.2.1 rfl), nc_2.1, nc_2.2, pd_0⟩
abbrev M_X1_empty : tb_Mt := (yX1_empty, cX1_empty, 1, none, [])
theorem cd_X1_empty : tb_CD M_X1_empty 0 := ⟨(tb_mm tw_5_3.2.2.1 rfl), (tb_mm tw_1_0.2.2.2.2.2.1 rfl), nc_4.1, nc_4.2, pd_0⟩
abbrev M_X5_readBank : tb_Mt := (yX5_readBank, cX5_readBank, 3, some .int, [])
theorem cd_X5_readBank : tb_CD M_X5_readBank 1 := ⟨(tb_mm tw_5_3.2.2.2.2.2.2.1 rfl), (tb_mm tw_1_0.2.2.2.2.2.2.2.2.2.2.2.2.1 rfl), nc_12.1, nc_12.2, pd_12⟩
abbrev M_X5_next : tb_Mt := (yX5_next, cX5_next, 1, none, [])
theorem cd_X5_next : tb_CD M_X5_next 0 := ⟨(tb_mm tw_5_3.2.2.2.2.2.2.2.2.2.2.2.1 rfl), (tb_mm tw_1_0.2.2.2.2.2.2.2.2.2.2.2.2.1 rfl), nc_12.1, nc_12.2, pd_0⟩
end
section
abbrev M_X5_kindOf : tb_Mt := (yX5_kindOf, cX5_kindOf, 2, some .int, [])
theorem cd_X5_kindOf : tb_CD M_X5_kindOf 1 := ⟨(tb_mm tw_5_3.2.2.2.2.2.2.2.2.2.2.2.2.2.2 rfl), (tb_mm tw_1_0.2.2.2.2.2.2.2.2.2.2.2.2.1 rfl), nc_12.1, nc_12.2, pd_12⟩
abbrev M_X5_isWord : tb_Mt := (yX5_isWord, cX5_isWord, 3, some .boolean, [])
theorem pd_29 : (parseMethodDescriptor "(Ljava/lang/String;)Z").map (fun d => d.parameters.length) = some 1 := by decide +kernel
theorem cd_X5_isWord : tb_CD M_X5_isWord 1 := ⟨(tb_mm tw_5_4.2.2.2.1 rfl), (tb_mm tw_1_0.2.2.2.2.2.2.2.2.2.2.2.2.1 rfl), nc_12.1, nc_12.2, pd_29⟩
abbrev M_J0_length_8abf5 : tb_Mt := (yJ0_length_8abf5, cJ0_length_8abf5, 1, some .int, [])
theorem nc_14 : ("java/lang/String" : String) ≠ "java/lang/invoke/MethodHandle" ∧ ("java/lang/String" : String) ≠ "java/lang/invoke/VarHandle" := by decide +kernel
theorem cd_J0_length_8abf5 : tb_CD M_J0_length_8abf5 0 := ⟨(tb_mm tw_5_4.2.2.2.2.1 rfl), (tb_mm tw_1_1.2.2.1 rfl), nc_14.1, nc_14.2, pd_11⟩
abbrev M_J0_coder_7d493 : tb_Mt := (yJ0_coder_7d493, cJ0_coder_7d493, 1, some .byte, [])
theorem pd_30 : (parseMethodDescriptor "()B").map (fun d => d.parameters.length) = some 0 := by decide +kernel
theorem cd_J0_coder_7d493 : tb_CD M_J0_coder_7d493 0 := ⟨(tb_mm tw_5_4.2.2.2.2.2 rfl), (tb_mm tw_1_1.2.2.1 rfl), nc_14.1, nc_14.2, pd_30⟩
abbrev M_J0_charAt_5068e : tb_Mt := (yJ0_charAt_5068e, cJ0_charAt_5068e, 2, some .char, [])
theorem pd_31 : (parseMethodDescriptor "(I)C").map (fun d => d.parameters.length) = some 1 := by decide +kernel
theorem cd_J0_charAt_5068e : tb_CD M_J0_charAt_5068e 1 := ⟨(tb_mm tw_5_5.1 rfl), (tb_mm tw_1_1.2.2.1 rfl), nc_14.1, nc_14.2, pd_31⟩
abbrev M_J0_isLatin1_aae02 : tb_Mt := (yJ0_isLatin1_aae02, cJ0_isLatin1_aae02, 1, some .boolean, [])
theorem cd_J0_isLatin1_aae02 : tb_CD M_J0_isLatin1_aae02 0 := ⟨(tb_mm tw_5_5.2.1 rfl), (tb_mm tw_1_1.2.2.1 rfl), nc_14.1, nc_14.2, pd_26⟩
abbrev M_J1_charAt_3b067 : tb_Mt := (yJ1_charAt_3b067, cJ1_charAt_3b067, 2, some .char, [])
theorem nc_15 : ("java/lang/StringLatin1" : String) ≠ "java/lang/invoke/MethodHandle" ∧ ("java/lang/StringLatin1" : String) ≠ "java/lang/invoke/VarHandle" := by decide +kernel
theorem pd_32 : (parseMethodDescriptor "([BI)C").map (fun d => d.parameters.length) = some 2 := by decide +kernel
theorem cd_J1_charAt_3b067 : tb_CD M_J1_charAt_3b067 2 := ⟨(tb_mm tw_5_5.2.2.2.2.1 rfl), (tb_mm tw_1_1.2.2.2.1 rfl), nc_15.1, nc_15.2, pd_32⟩
abbrev M_J0_checkIndex_df160 : tb_Mt := (yJ0_checkIndex_df160, cJ0_checkIndex_df160, 2, none, [])
theorem cd_J0_checkIndex_df160 : tb_CD M_J0_checkIndex_df160 2 := ⟨(tb_mm tw_5_5.2.2.2.2.2.2.2.1 rfl), (tb_mm tw_1_1.2.2.1 rfl), nc_14.1, nc_14.2, pd_22⟩
abbrev M_J3_checkIndex_8e157 : tb_Mt := (yJ3_checkIndex_8e157, cJ3_checkIndex_8e157, 3, some .int, [])
theorem nc_16 : ("jdk/internal/util/Preconditions" : String) ≠ "java/lang/invoke/MethodHandle" ∧ ("jdk/internal/util/Preconditions" : String) ≠ "java/lang/invoke/VarHandle" := by decide +kernel
theorem pd_33 : (parseMethodDescriptor "(IILjava/util/function/BiFunction;)I").map (fun d => d.parameters.length) = some 3 := by decide +kernel
theorem cd_J3_checkIndex_8e157 : tb_CD M_J3_checkIndex_8e157 3 := ⟨(tb_mm tw_5_6.1 rfl), (tb_mm tw_1_1.2.2.2.2.1 rfl), nc_16.1, nc_16.2, pd_33⟩
abbrev M_X5_readSymbol : tb_Mt := (yX5_readSymbol, cX5_readSymbol, 4, none, [])
theorem cd_X5_readSymbol : tb_CD M_X5_readSymbol 0 := ⟨(tb_mm tw_5_7.2.2.2.1 rfl), (tb_mm tw_1_0.2.2.2.2.2.2.2.2.2.2.2.2.1 rfl), nc_12.1, nc_12.2, pd_0⟩
abbrev M_X5_fail : tb_Mt := (yX5_fail, cX5_fail, 2, some .int, [])
theorem cd_X5_fail : tb_CD M_X5_fail 1 := ⟨(tb_mm tw_5_7.2.2.2.2.2.2.2.1 rfl), (tb_mm tw_1_0.2.2.2.2.2.2.2.2.2.2.2.2.1 rfl), nc_12.1, nc_12.2, pd_12⟩
abbrev M_X5_readNewName : tb_Mt := (yX5_readNewName, cX5_readNewName, 2, some .int, [])
theorem cd_X5_readNewName : tb_CD M_X5_readNewName 0 := ⟨(tb_mm tw_5_7.2.2.2.2.2.2.2.2.2.2.2 rfl), (tb_mm tw_1_0.2.2.2.2.2.2.2.2.2.2.2.2.1 rfl), nc_12.1, nc_12.2, pd_11⟩
abbrev M_X8_named : tb_Mt := (yX8_named, cX8_named, 3, some .int, [])
theorem cd_X8_named : tb_CD M_X8_named 1 := ⟨(tb_mm tw_5_8.2.2.2.1 rfl), (tb_mm tw_1_0.2.1 rfl), nc_1.1, nc_1.2, pd_12⟩
abbrev M_X5_readNumber : tb_Mt := (yX5_readNumber, cX5_readNumber, 4, some .int, [])
theorem cd_X5_readNumber : tb_CD M_X5_readNumber 2 := ⟨(tb_mm tw_5_8.2.2.2.2.2.2.2.1 rfl), (tb_mm tw_1_0.2.2.2.2.2.2.2.2.2.2.2.2.1 rfl), nc_12.1, nc_12.2, pd_14⟩
abbrev M_X5_pass : tb_Mt := (yX5_pass, cX5_pass, 2, none, [])
theorem cd_X5_pass : tb_CD M_X5_pass 1 := ⟨(tb_mm tw_5_8.2.2.2.2.2.2.2.2.2.2.2.1 rfl), (tb_mm tw_1_0.2.2.2.2.2.2.2.2.2.2.2.2.1 rfl), nc_12.1, nc_12.2, pd_10⟩
abbrev M_X8_add : tb_Mt := (yX8_add, cX8_add, 4, none, [])
theorem cd_X8_add : tb_CD M_X8_add 3 := ⟨(tb_mm tw_5_8.2.2.2.2.2.2.2.2.2.2.2.2.2.2.2 rfl), (tb_mm tw_1_0.2.1 rfl), nc_1.1, nc_1.2, pd_25⟩
abbrev M_X5_readLoneTerm : tb_Mt := (yX5_readLoneTerm, cX5_readLoneTerm, 1, none, [])
theorem cd_X5_readLoneTerm : tb_CD M_X5_readLoneTerm 0 := ⟨(tb_mm tw_5_9.2.2.2.1 rfl), (tb_mm tw_1_0.2.2.2.2.2.2.2.2.2.2.2.2.1 rfl), nc_12.1, nc_12.2, pd_0⟩
abbrev M_X5_readTerm : tb_Mt := (yX5_readTerm, cX5_readTerm, 2, some .int, [])
theorem cd_X5_readTerm : tb_CD M_X5_readTerm 1 := ⟨(tb_mm tw_5_9.2.2.2.2.2.2.2.1 rfl), (tb_mm tw_1_0.2.2.2.2.2.2.2.2.2.2.2.2.1 rfl), nc_12.1, nc_12.2, pd_12⟩
abbrev M_X5_readVariable : tb_Mt := (yX5_readVariable, cX5_readVariable, 2, some .int, [])
theorem cd_X5_readVariable : tb_CD M_X5_readVariable 0 := ⟨(tb_mm tw_5_9.2.2.2.2.2.2.2.2.2.2.2.1 rfl), (tb_mm tw_1_0.2.2.2.2.2.2.2.2.2.2.2.2.1 rfl), nc_12.1, nc_12.2, pd_11⟩
abbrev M_X5_held : tb_Mt := (yX5_held, cX5_held, 2, some .int, [])
theorem cd_X5_held : tb_CD M_X5_held 1 := ⟨(tb_mm tw_5_10.2.1 rfl), (tb_mm tw_1_0.2.2.2.2.2.2.2.2.2.2.2.2.1 rfl), nc_12.1, nc_12.2, pd_12⟩
abbrev M_X5_readCompound : tb_Mt := (yX5_readCompound, cX5_readCompound, 7, some .int, [])
theorem cd_X5_readCompound : tb_CD M_X5_readCompound 1 := ⟨(tb_mm tw_5_10.2.2.2.2.2.1 rfl), (tb_mm tw_1_0.2.2.2.2.2.2.2.2.2.2.2.2.1 rfl), nc_12.1, nc_12.2, pd_12⟩
abbrev M_X5_readArgument : tb_Mt := (yX5_readArgument, cX5_readArgument, 3, some .int, [])
theorem cd_X5_readArgument : tb_CD M_X5_readArgument 2 := ⟨(tb_mm tw_5_10.2.2.2.2.2.2.2.2.2.1 rfl), (tb_mm tw_1_0.2.2.2.2.2.2.2.2.2.2.2.2.1 rfl), nc_12.1, nc_12.2, pd_14⟩
abbrev M_X5_readRule : tb_Mt := (yX5_readRule, cX5_readRule, 3, none, [])
theorem cd_X5_readRule : tb_CD M_X5_readRule 0 := ⟨(tb_mm tw_5_10.2.2.2.2.2.2.2.2.2.2.2.2.2.2 rfl), (tb_mm tw_1_0.2.2.2.2.2.2.2.2.2.2.2.2.1 rfl), nc_12.1, nc_12.2, pd_0⟩
abbrev M_X5_passTo : tb_Mt := (yX5_passTo, cX5_passTo, 1, none, [])
theorem cd_X5_passTo : tb_CD M_X5_passTo 0 := ⟨(tb_mm tw_5_11.2.2.2.1 rfl), (tb_mm tw_1_0.2.2.2.2.2.2.2.2.2.2.2.2.1 rfl), nc_12.1, nc_12.2, pd_0⟩
abbrev M_X5_readEntry : tb_Mt := (yX5_readEntry, cX5_readEntry, 2, none, [])
theorem cd_X5_readEntry : tb_CD M_X5_readEntry 0 := ⟨(tb_mm tw_5_11.2.2.2.2.2.2.2.2.2.1 rfl), (tb_mm tw_1_0.2.2.2.2.2.2.2.2.2.2.2.2.1 rfl), nc_12.1, nc_12.2, pd_0⟩
abbrev M_X5_readRoom : tb_Mt := (yX5_readRoom, cX5_readRoom, 2, none, [])
theorem cd_X5_readRoom : tb_CD M_X5_readRoom 0 := ⟨(tb_mm tw_5_12.2.2.1 rfl), (tb_mm tw_1_0.2.2.2.2.2.2.2.2.2.2.2.2.1 rfl), nc_12.1, nc_12.2, pd_0⟩
abbrev M_X11_takeBack : tb_Mt := (yX11_takeBack, cX11_takeBack, 1, none, [])
theorem cd_X11_takeBack : tb_CD M_X11_takeBack 0 := ⟨(tb_mm tw_5_12.2.2.2.2.2.2.2.1 rfl), (tb_mm tw_1_0.1 rfl), nc_0.1, nc_0.2, pd_0⟩
abbrev M_X5_faultPlace : tb_Mt := (yX5_faultPlace, cX5_faultPlace, 1, some .int, [])
theorem cd_X5_faultPlace : tb_CD M_X5_faultPlace 0 := ⟨(tb_mm tw_5_12.2.2.2.2.2.2.2.2.2.2.2.1 rfl), (tb_mm tw_1_0.2.2.2.2.2.2.2.2.2.2.2.2.1 rfl), nc_12.1, nc_12.2, pd_11⟩
abbrev M_X0_forgetActs : tb_Mt := (yX0_forgetActs, cX0_forgetActs, 1, none, [])
theorem cd_X0_forgetActs : tb_CD M_X0_forgetActs 0 := ⟨(tb_mm tw_5_12.2.2.2.2.2.2.2.2.2.2.2.2.2.2.2 rfl), (tb_mm tw_1_0.2.2.1 rfl), nc_5.1, nc_5.2, pd_0⟩
abbrev M_L_count : tb_Mt := (yL_count, cL_count, 4, some .int, [(0, 9, 12, 18)])
theorem ch_L_count : Cond.codeWith M_L_count.1 M_L_count.2.1 M_L_count.2.2.1 M_L_count.2.2.2.1 M_L_count.2.2.2.2 ∈ tb_W := (tb_mm tw_5_13.2.2.1 rfl)
abbrev M_X11_count : tb_Mt := (yX11_count, cX11_count, 3, some .int, [])
theorem cd_X11_count : tb_CD M_X11_count 1 := ⟨(tb_mm tw_5_13.2.2.2.2.2.2.2.1 rfl), (tb_mm tw_1_0.1 rfl), nc_0.1, nc_0.2, pd_12⟩
abbrev M_X9_unlikeShapes : tb_Mt := (yX9_unlikeShapes, cX9_unlikeShapes, 3, some .int, [])
theorem cd_X9_unlikeShapes : tb_CD M_X9_unlikeShapes 0 := ⟨(tb_mm tw_5_13.2.2.2.2.2.2.2.2.2.2.2.1 rfl), (tb_mm tw_1_0.2.2.2.1 rfl), nc_2.1, nc_2.2, pd_11⟩
abbrev M_X7_meetings : tb_Mt := (yX7_meetings, cX7_meetings, 6, some .int, [])
theorem cd_X7_meetings : tb_CD M_X7_meetings 0 := ⟨(tb_mm tw_5_13.2.2.2.2.2.2.2.2.2.2.2.2.2.2.2 rfl), (tb_mm tw_1_0.2.2.2.2.2.2.2.2.2.1 rfl), nc_10.1, nc_10.2, pd_11⟩
abbrev M_X7_leftOf : tb_Mt := (yX7_leftOf, cX7_leftOf, 2, some .int, [])
theorem cd_X7_leftOf : tb_CD M_X7_leftOf 1 := ⟨(tb_mm tw_5_14.2.2.2.1 rfl), (tb_mm tw_1_0.2.2.2.2.2.2.2.2.2.1 rfl), nc_10.1, nc_10.2, pd_12⟩
abbrev M_X7_meet : tb_Mt := (yX7_meet, cX7_meet, 5, some .boolean, [])
theorem cd_X7_meet : tb_CD M_X7_meet 3 := ⟨(tb_mm tw_5_14.2.2.2.2.2.2.2.1 rfl), (tb_mm tw_1_0.2.2.2.2.2.2.2.2.2.1 rfl), nc_10.1, nc_10.2, pd_23⟩
abbrev M_X9_inPlace : tb_Mt := (yX9_inPlace, cX9_inPlace, 7, some .int, [])
theorem cd_X9_inPlace : tb_CD M_X9_inPlace 2 := ⟨(tb_mm tw_5_14.2.2.2.2.2.2.2.2.2.2.2.1 rfl), (tb_mm tw_1_0.2.2.2.1 rfl), nc_2.1, nc_2.2, pd_14⟩
abbrev M_X7_firstMeeting : tb_Mt := (yX7_firstMeeting, cX7_firstMeeting, 5, some .int, [])
theorem cd_X7_firstMeeting : tb_CD M_X7_firstMeeting 0 := ⟨(tb_mm tw_6_0.2.2.1 rfl), (tb_mm tw_1_0.2.2.2.2.2.2.2.2.2.1 rfl), nc_10.1, nc_10.2, pd_11⟩
abbrev M_L_symbol : tb_Mt := (yL_symbol, cL_symbol, 5, some .int, [(0, 10, 13, 18)])
theorem ch_L_symbol : Cond.codeWith M_L_symbol.1 M_L_symbol.2.1 M_L_symbol.2.2.1 M_L_symbol.2.2.2.1 M_L_symbol.2.2.2.2 ∈ tb_W := (tb_mm tw_6_1.2.2.1 rfl)
abbrev M_X11_symbol : tb_Mt := (yX11_symbol, cX11_symbol, 3, some .int, [])
theorem cd_X11_symbol : tb_CD M_X11_symbol 2 := ⟨(tb_mm tw_6_1.2.2.2.2.2.2.1 rfl), (tb_mm tw_1_0.1 rfl), nc_0.1, nc_0.2, pd_14⟩
abbrev M_X7_fits : tb_Mt := (yX7_fits, cX7_fits, 4, some .int, [])
theorem cd_X7_fits : tb_CD M_X7_fits 1 := ⟨(tb_mm tw_6_1.2.2.2.2.2.2.2.2.2.2.1 rfl), (tb_mm tw_1_0.2.2.2.2.2.2.2.2.2.1 rfl), nc_10.1, nc_10.2, pd_12⟩
abbrev M_X7_fitsBy : tb_Mt := (yX7_fitsBy, cX7_fitsBy, 6, some .boolean, [])
theorem cd_X7_fitsBy : tb_CD M_X7_fitsBy 2 := ⟨(tb_mm tw_6_2.2.2.1 rfl), (tb_mm tw_1_0.2.2.2.2.2.2.2.2.2.1 rfl), nc_10.1, nc_10.2, pd_16⟩
abbrev M_X4_tryWeight : tb_Mt := (yX4_tryWeight, cX4_tryWeight, 3, none, [])
theorem cd_X4_tryWeight : tb_CD M_X4_tryWeight 2 := ⟨(tb_mm tw_6_2.2.2.2.2.2.2.1 rfl), (tb_mm tw_1_0.2.2.2.2.2.2.2.2.2.2.1 rfl), nc_9.1, nc_9.2, pd_22⟩
abbrev M_X4_tryNothing : tb_Mt := (yX4_tryNothing, cX4_tryNothing, 1, none, [])
theorem cd_X4_tryNothing : tb_CD M_X4_tryNothing 0 := ⟨(tb_mm tw_6_2.2.2.2.2.2.2.2.2.2.2.2.1 rfl), (tb_mm tw_1_0.2.2.2.2.2.2.2.2.2.2.1 rfl), nc_9.1, nc_9.2, pd_0⟩
abbrev M_X7_leastFit : tb_Mt := (yX7_leastFit, cX7_leastFit, 3, some .int, [])
theorem cd_X7_leastFit : tb_CD M_X7_leastFit 1 := ⟨(tb_mm tw_6_2.2.2.2.2.2.2.2.2.2.2.2.2.2.2.2 rfl), (tb_mm tw_1_0.2.2.2.2.2.2.2.2.2.1 rfl), nc_10.1, nc_10.2, pd_12⟩
abbrev M_L_term : tb_Mt := (yL_term, cL_term, 5, some .int, [(0, 10, 13, 18)])
theorem ch_L_term : Cond.codeWith M_L_term.1 M_L_term.2.1 M_L_term.2.2.1 M_L_term.2.2.2.1 M_L_term.2.2.2.2 ∈ tb_W := (tb_mm tw_6_3.2.2.1 rfl)
abbrev M_X11_term : tb_Mt := (yX11_term, cX11_term, 4, some .int, [])
theorem cd_X11_term : tb_CD M_X11_term 2 := ⟨(tb_mm tw_6_3.2.2.2.2.2.2.1 rfl), (tb_mm tw_1_0.1 rfl), nc_0.1, nc_0.2, pd_14⟩
abbrev M_X11_needTerm : tb_Mt := (yX11_needTerm, cX11_needTerm, 2, none, [])
theorem cd_X11_needTerm : tb_CD M_X11_needTerm 1 := ⟨(tb_mm tw_6_3.2.2.2.2.2.2.2.2.2.2.1 rfl), (tb_mm tw_1_0.1 rfl), nc_0.1, nc_0.2, pd_10⟩
abbrev M_X9_shared : tb_Mt := (yX9_shared, cX9_shared, 4, some .int, [])
theorem cd_X9_shared : tb_CD M_X9_shared 1 := ⟨(tb_mm tw_6_4.2.1 rfl), (tb_mm tw_1_0.2.2.2.1 rfl), nc_2.1, nc_2.2, pd_12⟩
abbrev M_X9_markParts : tb_Mt := (yX9_markParts, cX9_markParts, 4, none, [])
theorem cd_X9_markParts : tb_CD M_X9_markParts 1 := ⟨(tb_mm tw_6_4.2.2.2.2.2.1 rfl), (tb_mm tw_1_0.2.2.2.1 rfl), nc_2.1, nc_2.2, pd_10⟩
abbrev M_X9_users : tb_Mt := (yX9_users, cX9_users, 4, some .int, [])
theorem cd_X9_users : tb_CD M_X9_users 1 := ⟨(tb_mm tw_6_4.2.2.2.2.2.2.2.2.2.1 rfl), (tb_mm tw_1_0.2.2.2.1 rfl), nc_2.1, nc_2.2, pd_12⟩
abbrev M_X7_isReduced : tb_Mt := (yX7_isReduced, cX7_isReduced, 3, some .boolean, [])
theorem cd_X7_isReduced : tb_CD M_X7_isReduced 1 := ⟨(tb_mm tw_6_4.2.2.2.2.2.2.2.2.2.2.2.2.2.1 rfl), (tb_mm tw_1_0.2.2.2.2.2.2.2.2.2.1 rfl), nc_10.1, nc_10.2, pd_13⟩
abbrev M_L_argument : tb_Mt := (yL_argument, cL_argument, 5, some .int, [(0, 10, 13, 18)])
theorem ch_L_argument : Cond.codeWith M_L_argument.1 M_L_argument.2.1 M_L_argument.2.2.1 M_L_argument.2.2.2.1 M_L_argument.2.2.2.2 ∈ tb_W := (tb_mm tw_6_5.2.2.1 rfl)
abbrev M_X11_argument : tb_Mt := (yX11_argument, cX11_argument, 3, some .int, [])
theorem cd_X11_argument : tb_CD M_X11_argument 2 := ⟨(tb_mm tw_6_5.2.2.2.2.2.2.1 rfl), (tb_mm tw_1_0.1 rfl), nc_0.1, nc_0.2, pd_14⟩
abbrev M_L_place : tb_Mt := (yL_place, cL_place, 5, some .int, [(0, 10, 13, 18)])
theorem ch_L_place : Cond.codeWith M_L_place.1 M_L_place.2.1 M_L_place.2.2.1 M_L_place.2.2.2.1 M_L_place.2.2.2.2 ∈ tb_W := (tb_mm tw_6_5.2.2.2.2.2.2.2.2.2.2.1 rfl)
abbrev M_X11_place : tb_Mt := (yX11_place, cX11_place, 3, some .int, [])
theorem cd_X11_place : tb_CD M_X11_place 2 := ⟨(tb_mm tw_6_6.1 rfl), (tb_mm tw_1_0.1 rfl), nc_0.1, nc_0.2, pd_14⟩
abbrev M_L_order : tb_Mt := (yL_order, cL_order, 5, some .int, [(0, 10, 13, 18)])
theorem ch_L_order : Cond.codeWith M_L_order.1 M_L_order.2.1 M_L_order.2.2.1 M_L_order.2.2.2.1 M_L_order.2.2.2.2 ∈ tb_W := (tb_mm tw_6_6.2.2.2.2.1 rfl)
abbrev M_X11_order : tb_Mt := (yX11_order, cX11_order, 3, some .int, [])
theorem cd_X11_order : tb_CD M_X11_order 2 := ⟨(tb_mm tw_6_6.2.2.2.2.2.2.2.2.1 rfl), (tb_mm tw_1_0.1 rfl), nc_0.1, nc_0.2, pd_14⟩
abbrev M_X7_compared : tb_Mt := (yX7_compared, cX7_compared, 3, some .int, [])
theorem cd_X7_compared : tb_CD M_X7_compared 2 := ⟨(tb_mm tw_6_6.2.2.2.2.2.2.2.2.2.2.2.2.1 rfl), (tb_mm tw_1_0.2.2.2.2.2.2.2.2.2.1 rfl), nc_10.1, nc_10.2, pd_14⟩
abbrev M_L_find : tb_Mt := (yL_find, cL_find, 5, some .int, [(0, 10, 13, 18)])
theorem ch_L_find : Cond.codeWith M_L_find.1 M_L_find.2.1 M_L_find.2.2.1 M_L_find.2.2.2.1 M_L_find.2.2.2.2 ∈ tb_W := (tb_mm tw_6_7.1 rfl)
abbrev M_X11_find : tb_Mt := (yX11_find, cX11_find, 3, some .int, [])
theorem cd_X11_find : tb_CD M_X11_find 2 := ⟨(tb_mm tw_6_7.2.2.2.2.1 rfl), (tb_mm tw_1_0.1 rfl), nc_0.1, nc_0.2, pd_14⟩
abbrev M_X7_found : tb_Mt := (yX7_found, cX7_found, 6, some .int, [])
theorem cd_X7_found : tb_CD M_X7_found 2 := ⟨(tb_mm tw_6_7.2.2.2.2.2.2.2.2.1 rfl), (tb_mm tw_1_0.2.2.2.2.2.2.2.2.2.1 rfl), nc_10.1, nc_10.2, pd_14⟩
abbrev M_X7_isFound : tb_Mt := (yX7_isFound, cX7_isFound, 4, some .boolean, [])
theorem cd_X7_isFound : tb_CD M_X7_isFound 3 := ⟨(tb_mm tw_6_7.2.2.2.2.2.2.2.2.2.2.2.2.1 rfl), (tb_mm tw_1_0.2.2.2.2.2.2.2.2.2.1 rfl), nc_10.1, nc_10.2, pd_23⟩
abbrev M_L_rule : tb_Mt := (yL_rule, cL_rule, 5, some .int, [(0, 10, 13, 18)])
theorem ch_L_rule : Cond.codeWith M_L_rule.1 M_L_rule.2.1 M_L_rule.2.2.1 M_L_rule.2.2.2.1 M_L_rule.2.2.2.2 ∈ tb_W := (tb_mm tw_6_8.1 rfl)
abbrev M_X11_rule : tb_Mt := (yX11_rule, cX11_rule, 4, some .int, [])
theorem cd_X11_rule : tb_CD M_X11_rule 2 := ⟨(tb_mm tw_6_8.2.2.2.2.1 rfl), (tb_mm tw_1_0.1 rfl), nc_0.1, nc_0.2, pd_14⟩
abbrev M_L_entry : tb_Mt := (yL_entry, cL_entry, 4, some .int, [(0, 9, 12, 18)])
theorem ch_L_entry : Cond.codeWith M_L_entry.1 M_L_entry.2.1 M_L_entry.2.2.1 M_L_entry.2.2.2.1 M_L_entry.2.2.2.2 ∈ tb_W := (tb_mm tw_6_8.2.2.2.2.2.2.2.1 rfl)
abbrev M_X11_entry : tb_Mt := (yX11_entry, cX11_entry, 3, some .int, [])
theorem cd_X11_entry : tb_CD M_X11_entry 1 := ⟨(tb_mm tw_6_8.2.2.2.2.2.2.2.2.2.2.2.1 rfl), (tb_mm tw_1_0.1 rfl), nc_0.1, nc_0.2, pd_12⟩
abbrev M_L_memo : tb_Mt := (yL_memo, cL_memo, 5, some .int, [(0, 10, 13, 18)])
theorem ch_L_memo : Cond.codeWith M_L_memo.1 M_L_memo.2.1 M_L_memo.2.2.1 M_L_memo.2.2.2.1 M_L_memo.2.2.2.2 ∈ tb_W := (tb_mm tw_6_9.1 rfl)
abbrev M_X11_memo : tb_Mt := (yX11_memo, cX11_memo, 4, some .int, [])
theorem cd_X11_memo : tb_CD M_X11_memo 2 := ⟨(tb_mm tw_6_9.2.2.2.2.1 rfl), (tb_mm tw_1_0.1 rfl), nc_0.1, nc_0.2, pd_14⟩
abbrev M_L_bound : tb_Mt := (yL_bound, cL_bound, 4, some .int, [(0, 9, 12, 18)])
theorem ch_L_bound : Cond.codeWith M_L_bound.1 M_L_bound.2.1 M_L_bound.2.2.1 M_L_bound.2.2.2.1 M_L_bound.2.2.2.2 ∈ tb_W := (tb_mm tw_6_9.2.2.2.2.2.2.2.1 rfl)
abbrev M_X11_bound : tb_Mt := (yX11_bound, cX11_bound, 2, some .int, [])
theorem cd_X11_bound : tb_CD M_X11_bound 1 := ⟨(tb_mm tw_6_9.2.2.2.2.2.2.2.2.2.2.2.1 rfl), (tb_mm tw_1_0.1 rfl), nc_0.1, nc_0.2, pd_12⟩
abbrev M_L_years : tb_Mt := (yL_years, cL_years, 6, some .int, [(0, 12, 15, 18), (0, 12, 19, 13)])
theorem ch_L_years : Cond.codeWith M_L_years.1 M_L_years.2.1 M_L_years.2.2.1 M_L_years.2.2.2.1 M_L_years.2.2.2.2 ∈ tb_W := (tb_mm tw_6_10.1 rfl)
abbrev M_X11_years : tb_Mt := (yX11_years, cX11_years, 6, some .int, [])
theorem cd_X11_years : tb_CD M_X11_years 3 := ⟨(tb_mm tw_6_10.2.2.2.2.1 rfl), (tb_mm tw_1_0.1 rfl), nc_0.1, nc_0.2, pd_21⟩
abbrev M_X11_lostBy : tb_Mt := (yX11_lostBy, cX11_lostBy, 7, some .int, [])
theorem cd_X11_lostBy : tb_CD M_X11_lostBy 2 := ⟨(tb_mm tw_6_10.2.2.2.2.2.2.2.2.1 rfl), (tb_mm tw_1_0.1 rfl), nc_0.1, nc_0.2, pd_14⟩
abbrev M_X11_yearsAnswer : tb_Mt := (yX11_yearsAnswer, cX11_yearsAnswer, 4, some .int, [])
theorem cd_X11_yearsAnswer : tb_CD M_X11_yearsAnswer 2 := ⟨(tb_mm tw_6_10.2.2.2.2.2.2.2.2.2.2.2.2.1 rfl), (tb_mm tw_1_0.1 rfl), nc_0.1, nc_0.2, pd_14⟩
abbrev M_X12_init : tb_Mt := (yX12_init, cX12_init, 1, none, [])
theorem nc_18 : ("TermBankModel" : String) ≠ "java/lang/invoke/MethodHandle" ∧ ("TermBankModel" : String) ≠ "java/lang/invoke/VarHandle" := by decide +kernel
theorem cd_X12_init : tb_CD M_X12_init 0 := ⟨(tb_mm tw_6_11.2.2.2.1 rfl), (tb_mm tw_1_0.2.2.2.2.2.2.2.2.2.2.2.2.2 rfl), nc_18.1, nc_18.2, pd_0⟩
abbrev M_X12_thrown : tb_Mt := (yX12_thrown, cX12_thrown, 1, some .int, [])
theorem cd_X12_thrown : tb_CD M_X12_thrown 0 := ⟨(tb_mm tw_7_5.2.2.2.2.1 rfl), (tb_mm tw_1_0.2.2.2.2.2.2.2.2.2.2.2.2.2 rfl), nc_18.1, nc_18.2, pd_11⟩
abbrev M_X12_feed : tb_Mt := (yX12_feed, cX12_feed, 8, some .int, [])
theorem cd_X12_feed : tb_CD M_X12_feed 5 := ⟨(tb_mm tw_7_5.2.2.2.2.2.2.2.2.1 rfl), (tb_mm tw_1_0.2.2.2.2.2.2.2.2.2.2.2.2.2 rfl), nc_18.1, nc_18.2, pd_9⟩
abbrev M_X12_bank : tb_Mt := (yX12_bank, cX12_bank, 3, some .int, [])
theorem cd_X12_bank : tb_CD M_X12_bank 1 := ⟨(tb_mm tw_7_5.2.2.2.2.2.2.2.2.2.2.2.2.1 rfl), (tb_mm tw_1_0.2.2.2.2.2.2.2.2.2.2.2.2.2 rfl), nc_18.1, nc_18.2, pd_12⟩
abbrev M_X12_right : tb_Mt := (yX12_right, cX12_right, 3, some .boolean, [])
theorem pd_36 : (parseMethodDescriptor "(ZI)Z").map (fun d => d.parameters.length) = some 2 := by decide +kernel
theorem cd_X12_right : tb_CD M_X12_right 2 := ⟨(tb_mm tw_7_6.2.2.1 rfl), (tb_mm tw_1_0.2.2.2.2.2.2.2.2.2.2.2.2.2 rfl), nc_18.1, nc_18.2, pd_36⟩
abbrev M_X12_readsAll : tb_Mt := (yX12_readsAll, cX12_readsAll, 3, none, [])
theorem cd_X12_readsAll : tb_CD M_X12_readsAll 1 := ⟨(tb_mm tw_7_6.2.2.2.2.2.2.1 rfl), (tb_mm tw_1_0.2.2.2.2.2.2.2.2.2.2.2.2.2 rfl), nc_18.1, nc_18.2, pd_10⟩
abbrev M_X12_go : tb_Mt := (yX12_go, cX12_go, 2, none, [])
theorem cd_X12_go : tb_CD M_X12_go 0 := ⟨(tb_mm tw_7_6.2.2.2.2.2.2.2.2.2.2.1 rfl), (tb_mm tw_1_0.2.2.2.2.2.2.2.2.2.2.2.2.2 rfl), nc_18.1, nc_18.2, pd_0⟩
abbrev M_X12_byteAt : tb_Mt := (yX12_byteAt, cX12_byteAt, 2, some .int, [])
theorem cd_X12_byteAt : tb_CD M_X12_byteAt 1 := ⟨(tb_mm tw_7_6.2.2.2.2.2.2.2.2.2.2.2.2.2.2.1 rfl), (tb_mm tw_1_0.2.2.2.2.2.2.2.2.2.2.2.2.2 rfl), nc_18.1, nc_18.2, pd_12⟩
abbrev M_X12_isLetter : tb_Mt := (yX12_isLetter, cX12_isLetter, 1, some .boolean, [])
theorem cd_X12_isLetter : tb_CD M_X12_isLetter 1 := ⟨(tb_mm tw_7_7.2.1 rfl), (tb_mm tw_1_0.2.2.2.2.2.2.2.2.2.2.2.2.2 rfl), nc_18.1, nc_18.2, pd_13⟩
abbrev M_X12_wordFrom : tb_Mt := (yX12_wordFrom, cX12_wordFrom, 7, some .int, [])
theorem cd_X12_wordFrom : tb_CD M_X12_wordFrom 2 := ⟨(tb_mm tw_7_7.2.2.2.2.2.1 rfl), (tb_mm tw_1_0.2.2.2.2.2.2.2.2.2.2.2.2.2 rfl), nc_18.1, nc_18.2, pd_14⟩
abbrev M_X12_isSignByte : tb_Mt := (yX12_isSignByte, cX12_isSignByte, 2, some .boolean, [])
theorem cd_X12_isSignByte : tb_CD M_X12_isSignByte 1 := ⟨(tb_mm tw_7_7.2.2.2.2.2.2.2.2.2.1 rfl), (tb_mm tw_1_0.2.2.2.2.2.2.2.2.2.2.2.2.2 rfl), nc_18.1, nc_18.2, pd_13⟩
abbrev M_X12_clause1 : tb_Mt := (yX12_clause1, cX12_clause1, 2, none, [])
theorem cd_X12_clause1 : tb_CD M_X12_clause1 0 := ⟨(tb_mm tw_7_7.2.2.2.2.2.2.2.2.2.2.2.2.2 rfl), (tb_mm tw_1_0.2.2.2.2.2.2.2.2.2.2.2.2.2 rfl), nc_18.1, nc_18.2, pd_0⟩
abbrev M_X12_symbol1 : tb_Mt := (yX12_symbol1, cX12_symbol1, 4, none, [])
theorem cd_X12_symbol1 : tb_CD M_X12_symbol1 0 := ⟨(tb_mm tw_7_8.2.2.2.1 rfl), (tb_mm tw_1_0.2.2.2.2.2.2.2.2.2.2.2.2.2 rfl), nc_18.1, nc_18.2, pd_0⟩
abbrev M_X12_wants : tb_Mt := (yX12_wants, cX12_wants, 3, some .boolean, [])
theorem cd_X12_wants : tb_CD M_X12_wants 2 := ⟨(tb_mm tw_7_8.2.2.2.2.2.2.2.1 rfl), (tb_mm tw_1_0.2.2.2.2.2.2.2.2.2.2.2.2.2 rfl), nc_18.1, nc_18.2, pd_36⟩
abbrev M_X12_symbolOf : tb_Mt := (yX12_symbolOf, cX12_symbolOf, 3, some .int, [])
theorem cd_X12_symbolOf : tb_CD M_X12_symbolOf 1 := ⟨(tb_mm tw_7_8.2.2.2.2.2.2.2.2.2.2.2.1 rfl), (tb_mm tw_1_0.2.2.2.2.2.2.2.2.2.2.2.2.2 rfl), nc_18.1, nc_18.2, pd_12⟩
abbrev M_X12_number : tb_Mt := (yX12_number, cX12_number, 4, some .int, [])
theorem cd_X12_number : tb_CD M_X12_number 2 := ⟨(tb_mm tw_7_8.2.2.2.2.2.2.2.2.2.2.2.2.2.2.2 rfl), (tb_mm tw_1_0.2.2.2.2.2.2.2.2.2.2.2.2.2 rfl), nc_18.1, nc_18.2, pd_14⟩
abbrev M_X12_within : tb_Mt := (yX12_within, cX12_within, 3, some .boolean, [])
theorem cd_X12_within : tb_CD M_X12_within 3 := ⟨(tb_mm tw_7_9.2.2.1 rfl), (tb_mm tw_1_0.2.2.2.2.2.2.2.2.2.2.2.2.2 rfl), nc_18.1, nc_18.2, pd_23⟩
abbrev M_X12_term1 : tb_Mt := (yX12_term1, cX12_term1, 7, some .int, [])
theorem cd_X12_term1 : tb_CD M_X12_term1 1 := ⟨(tb_mm tw_7_9.2.2.2.2.2.2.1 rfl), (tb_mm tw_1_0.2.2.2.2.2.2.2.2.2.2.2.2.2 rfl), nc_18.1, nc_18.2, pd_12⟩
abbrev M_X12_variableTerm : tb_Mt := (yX12_variableTerm, cX12_variableTerm, 2, some .int, [])
theorem cd_X12_variableTerm : tb_CD M_X12_variableTerm 1 := ⟨(tb_mm tw_7_9.2.2.2.2.2.2.2.2.2.2.1 rfl), (tb_mm tw_1_0.2.2.2.2.2.2.2.2.2.2.2.2.2 rfl), nc_18.1, nc_18.2, pd_12⟩
abbrev M_X12_termOf : tb_Mt := (yX12_termOf, cX12_termOf, 8, some .int, [])
theorem cd_X12_termOf : tb_CD M_X12_termOf 4 := ⟨(tb_mm tw_7_9.2.2.2.2.2.2.2.2.2.2.2.2.2.2.1 rfl), (tb_mm tw_1_0.2.2.2.2.2.2.2.2.2.2.2.2.2 rfl), nc_18.1, nc_18.2, pd_15⟩
abbrev M_X12_many : tb_Mt := (yX12_many, cX12_many, 1, some .int, [])
theorem cd_X12_many : tb_CD M_X12_many 0 := ⟨(tb_mm tw_7_10.2.2.1 rfl), (tb_mm tw_1_0.2.2.2.2.2.2.2.2.2.2.2.2.2 rfl), nc_18.1, nc_18.2, pd_11⟩
abbrev M_X12_isThat : tb_Mt := (yX12_isThat, cX12_isThat, 7, some .boolean, [])
theorem pd_37 : (parseMethodDescriptor "(IIIIII)Z").map (fun d => d.parameters.length) = some 6 := by decide +kernel
theorem cd_X12_isThat : tb_CD M_X12_isThat 6 := ⟨(tb_mm tw_7_10.2.2.2.2.2.2.1 rfl), (tb_mm tw_1_0.2.2.2.2.2.2.2.2.2.2.2.2.2 rfl), nc_18.1, nc_18.2, pd_37⟩
abbrev M_X12_head : tb_Mt := (yX12_head, cX12_head, 2, some .int, [])
theorem cd_X12_head : tb_CD M_X12_head 1 := ⟨(tb_mm tw_7_10.2.2.2.2.2.2.2.2.2.2.1 rfl), (tb_mm tw_1_0.2.2.2.2.2.2.2.2.2.2.2.2.2 rfl), nc_18.1, nc_18.2, pd_12⟩
abbrev M_X12_argument1 : tb_Mt := (yX12_argument1, cX12_argument1, 3, some .int, [])
theorem cd_X12_argument1 : tb_CD M_X12_argument1 2 := ⟨(tb_mm tw_7_10.2.2.2.2.2.2.2.2.2.2.2.2.2.2.1 rfl), (tb_mm tw_1_0.2.2.2.2.2.2.2.2.2.2.2.2.2 rfl), nc_18.1, nc_18.2, pd_14⟩
abbrev M_X12_greater : tb_Mt := (yX12_greater, cX12_greater, 2, some .int, [])
theorem cd_X12_greater : tb_CD M_X12_greater 2 := ⟨(tb_mm tw_7_11.2.1 rfl), (tb_mm tw_1_0.2.2.2.2.2.2.2.2.2.2.2.2.2 rfl), nc_18.1, nc_18.2, pd_14⟩
abbrev M_X12_sign : tb_Mt := (yX12_sign, cX12_sign, 2, none, [])
theorem cd_X12_sign : tb_CD M_X12_sign 1 := ⟨(tb_mm tw_7_11.2.2.2.2.2.1 rfl), (tb_mm tw_1_0.2.2.2.2.2.2.2.2.2.2.2.2.2 rfl), nc_18.1, nc_18.2, pd_10⟩
abbrev M_X12_rule1 : tb_Mt := (yX12_rule1, cX12_rule1, 3, none, [])
theorem cd_X12_rule1 : tb_CD M_X12_rule1 0 := ⟨(tb_mm tw_7_11.2.2.2.2.2.2.2.2.2.1 rfl), (tb_mm tw_1_0.2.2.2.2.2.2.2.2.2.2.2.2.2 rfl), nc_18.1, nc_18.2, pd_0⟩
abbrev M_X12_isRule : tb_Mt := (yX12_isRule, cX12_isRule, 3, some .boolean, [])
theorem cd_X12_isRule : tb_CD M_X12_isRule 2 := ⟨(tb_mm tw_7_11.2.2.2.2.2.2.2.2.2.2.2.2.2.1 rfl), (tb_mm tw_1_0.2.2.2.2.2.2.2.2.2.2.2.2.2 rfl), nc_18.1, nc_18.2, pd_16⟩
abbrev M_X12_isVariable : tb_Mt := (yX12_isVariable, cX12_isVariable, 2, some .boolean, [])
theorem cd_X12_isVariable : tb_CD M_X12_isVariable 1 := ⟨(tb_mm tw_7_12.2.1 rfl), (tb_mm tw_1_0.2.2.2.2.2.2.2.2.2.2.2.2.2 rfl), nc_18.1, nc_18.2, pd_13⟩
abbrev M_X12_isGreater : tb_Mt := (yX12_isGreater, cX12_isGreater, 5, some .boolean, [])
theorem cd_X12_isGreater : tb_CD M_X12_isGreater 2 := ⟨(tb_mm tw_7_12.2.2.2.2.2.1 rfl), (tb_mm tw_1_0.2.2.2.2.2.2.2.2.2.2.2.2.2 rfl), nc_18.1, nc_18.2, pd_16⟩
abbrev M_X12_timesOf : tb_Mt := (yX12_timesOf, cX12_timesOf, 5, some .int, [])
theorem cd_X12_timesOf : tb_CD M_X12_timesOf 2 := ⟨(tb_mm tw_7_12.2.2.2.2.2.2.2.2.2.1 rfl), (tb_mm tw_1_0.2.2.2.2.2.2.2.2.2.2.2.2.2 rfl), nc_18.1, nc_18.2, pd_14⟩
abbrev M_X12_variableOf : tb_Mt := (yX12_variableOf, cX12_variableOf, 2, some .int, [])
theorem cd_X12_variableOf : tb_CD M_X12_variableOf 1 := ⟨(tb_mm tw_7_12.2.2.2.2.2.2.2.2.2.2.2.2.2.1 rfl), (tb_mm tw_1_0.2.2.2.2.2.2.2.2.2.2.2.2.2 rfl), nc_18.1, nc_18.2, pd_12⟩
abbrev M_X12_arityOf : tb_Mt := (yX12_arityOf, cX12_arityOf, 2, some .int, [])
theorem cd_X12_arityOf : tb_CD M_X12_arityOf 1 := ⟨(tb_mm tw_7_13.2.1 rfl), (tb_mm tw_1_0.2.2.2.2.2.2.2.2.2.2.2.2.2 rfl), nc_18.1, nc_18.2, pd_12⟩
abbrev M_X12_weightOf : tb_Mt := (yX12_weightOf, cX12_weightOf, 4, some .int, [])
theorem cd_X12_weightOf : tb_CD M_X12_weightOf 1 := ⟨(tb_mm tw_7_13.2.2.2.2.2.1 rfl), (tb_mm tw_1_0.2.2.2.2.2.2.2.2.2.2.2.2.2 rfl), nc_18.1, nc_18.2, pd_12⟩
abbrev M_X12_weightOfHead : tb_Mt := (yX12_weightOfHead, cX12_weightOfHead, 2, some .int, [])
theorem cd_X12_weightOfHead : tb_CD M_X12_weightOfHead 1 := ⟨(tb_mm tw_7_13.2.2.2.2.2.2.2.2.2.1 rfl), (tb_mm tw_1_0.2.2.2.2.2.2.2.2.2.2.2.2.2 rfl), nc_18.1, nc_18.2, pd_12⟩
abbrev M_X12_sizeOf : tb_Mt := (yX12_sizeOf, cX12_sizeOf, 4, some .int, [])
theorem cd_X12_sizeOf : tb_CD M_X12_sizeOf 1 := ⟨(tb_mm tw_7_13.2.2.2.2.2.2.2.2.2.2.2.2.2.1 rfl), (tb_mm tw_1_0.2.2.2.2.2.2.2.2.2.2.2.2.2 rfl), nc_18.1, nc_18.2, pd_12⟩
abbrev M_X12_rules1 : tb_Mt := (yX12_rules1, cX12_rules1, 4, none, [])
theorem cd_X12_rules1 : tb_CD M_X12_rules1 2 := ⟨(tb_mm tw_7_14.2.1 rfl), (tb_mm tw_1_0.2.2.2.2.2.2.2.2.2.2.2.2.2 rfl), nc_18.1, nc_18.2, pd_22⟩
abbrev M_X12_entry1 : tb_Mt := (yX12_entry1, cX12_entry1, 2, none, [])
theorem cd_X12_entry1 : tb_CD M_X12_entry1 0 := ⟨(tb_mm tw_7_14.2.2.2.2.2.1 rfl), (tb_mm tw_1_0.2.2.2.2.2.2.2.2.2.2.2.2.2 rfl), nc_18.1, nc_18.2, pd_0⟩
abbrev M_X12_entryOf : tb_Mt := (yX12_entryOf, cX12_entryOf, 3, some .int, [])
theorem cd_X12_entryOf : tb_CD M_X12_entryOf 1 := ⟨(tb_mm tw_7_14.2.2.2.2.2.2.2.2.2.1 rfl), (tb_mm tw_1_0.2.2.2.2.2.2.2.2.2.2.2.2.2 rfl), nc_18.1, nc_18.2, pd_12⟩
abbrev M_X12_enters1 : tb_Mt := (yX12_enters1, cX12_enters1, 2, none, [])
theorem cd_X12_enters1 : tb_CD M_X12_enters1 1 := ⟨(tb_mm tw_7_14.2.2.2.2.2.2.2.2.2.2.2.2.2.1 rfl), (tb_mm tw_1_0.2.2.2.2.2.2.2.2.2.2.2.2.2 rfl), nc_18.1, nc_18.2, pd_10⟩
abbrev M_X12_room1 : tb_Mt := (yX12_room1, cX12_room1, 1, none, [])
theorem cd_X12_room1 : tb_CD M_X12_room1 0 := ⟨(tb_mm tw_8_0.2.1 rfl), (tb_mm tw_1_0.2.2.2.2.2.2.2.2.2.2.2.2.2 rfl), nc_18.1, nc_18.2, pd_0⟩
abbrev M_X12_movesTerms : tb_Mt := (yX12_movesTerms, cX12_movesTerms, 5, none, [])
theorem cd_X12_movesTerms : tb_CD M_X12_movesTerms 2 := ⟨(tb_mm tw_8_0.2.2.2.2.2.1 rfl), (tb_mm tw_1_0.2.2.2.2.2.2.2.2.2.2.2.2.2 rfl), nc_18.1, nc_18.2, pd_22⟩
abbrev M_X12_copies : tb_Mt := (yX12_copies, cX12_copies, 5, none, [])
theorem cd_X12_copies : tb_CD M_X12_copies 3 := ⟨(tb_mm tw_8_0.2.2.2.2.2.2.2.2.2.1 rfl), (tb_mm tw_1_0.2.2.2.2.2.2.2.2.2.2.2.2.2 rfl), nc_18.1, nc_18.2, pd_25⟩
abbrev M_X12_fault : tb_Mt := (yX12_fault, cX12_fault, 1, some .int, [])
theorem cd_X12_fault : tb_CD M_X12_fault 0 := ⟨(tb_mm tw_8_0.2.2.2.2.2.2.2.2.2.2.2.2.2.1 rfl), (tb_mm tw_1_0.2.2.2.2.2.2.2.2.2.2.2.2.2 rfl), nc_18.1, nc_18.2, pd_11⟩
abbrev M_X12_count : tb_Mt := (yX12_count, cX12_count, 2, some .int, [])
theorem cd_X12_count : tb_CD M_X12_count 1 := ⟨(tb_mm tw_8_1.2.1 rfl), (tb_mm tw_1_0.2.2.2.2.2.2.2.2.2.2.2.2.2 rfl), nc_18.1, nc_18.2, pd_12⟩
abbrev M_X12_shapes : tb_Mt := (yX12_shapes, cX12_shapes, 5, some .int, [])
theorem cd_X12_shapes : tb_CD M_X12_shapes 0 := ⟨(tb_mm tw_8_1.2.2.2.2.2.1 rfl), (tb_mm tw_1_0.2.2.2.2.2.2.2.2.2.2.2.2.2 rfl), nc_18.1, nc_18.2, pd_11⟩
abbrev M_X12_isShape : tb_Mt := (yX12_isShape, cX12_isShape, 4, some .boolean, [])
theorem cd_X12_isShape : tb_CD M_X12_isShape 2 := ⟨(tb_mm tw_8_1.2.2.2.2.2.2.2.2.2.1 rfl), (tb_mm tw_1_0.2.2.2.2.2.2.2.2.2.2.2.2.2 rfl), nc_18.1, nc_18.2, pd_16⟩
abbrev M_X12_meetings : tb_Mt := (yX12_meetings, cX12_meetings, 8, some .int, [])
theorem pd_38 : (parseMethodDescriptor "(Z)I").map (fun d => d.parameters.length) = some 1 := by decide +kernel
theorem cd_X12_meetings : tb_CD M_X12_meetings 1 := ⟨(tb_mm tw_8_1.2.2.2.2.2.2.2.2.2.2.2.2.2.1 rfl), (tb_mm tw_1_0.2.2.2.2.2.2.2.2.2.2.2.2.2 rfl), nc_18.1, nc_18.2, pd_38⟩
abbrev M_X12_placeOf : tb_Mt := (yX12_placeOf, cX12_placeOf, 6, some .int, [])
theorem cd_X12_placeOf : tb_CD M_X12_placeOf 2 := ⟨(tb_mm tw_8_2.2.1 rfl), (tb_mm tw_1_0.2.2.2.2.2.2.2.2.2.2.2.2.2 rfl), nc_18.1, nc_18.2, pd_14⟩
abbrev M_X12_canBeAlike : tb_Mt := (yX12_canBeAlike, cX12_canBeAlike, 3, some .boolean, [])
theorem cd_X12_canBeAlike : tb_CD M_X12_canBeAlike 2 := ⟨(tb_mm tw_8_2.2.2.2.2.2.1 rfl), (tb_mm tw_1_0.2.2.2.2.2.2.2.2.2.2.2.2.2 rfl), nc_18.1, nc_18.2, pd_16⟩
abbrev M_X12_unifies : tb_Mt := (yX12_unifies, cX12_unifies, 3, some .int, [])
theorem cd_X12_unifies : tb_CD M_X12_unifies 2 := ⟨(tb_mm tw_8_2.2.2.2.2.2.2.2.2.2.1 rfl), (tb_mm tw_1_0.2.2.2.2.2.2.2.2.2.2.2.2.2 rfl), nc_18.1, nc_18.2, pd_14⟩
abbrev M_X12_beginsClasses : tb_Mt := (yX12_beginsClasses, cX12_beginsClasses, 4, none, [])
theorem cd_X12_beginsClasses : tb_CD M_X12_beginsClasses 0 := ⟨(tb_mm tw_8_2.2.2.2.2.2.2.2.2.2.2.2.2.2.1 rfl), (tb_mm tw_1_0.2.2.2.2.2.2.2.2.2.2.2.2.2 rfl), nc_18.1, nc_18.2, pd_0⟩
abbrev M_X12_joins : tb_Mt := (yX12_joins, cX12_joins, 8, none, [])
theorem cd_X12_joins : tb_CD M_X12_joins 2 := ⟨(tb_mm tw_8_3.2.1 rfl), (tb_mm tw_1_0.2.2.2.2.2.2.2.2.2.2.2.2.2 rfl), nc_18.1, nc_18.2, pd_22⟩
abbrev M_X12_top : tb_Mt := (yX12_top, cX12_top, 3, some .int, [])
theorem cd_X12_top : tb_CD M_X12_top 1 := ⟨(tb_mm tw_8_3.2.2.2.2.2.1 rfl), (tb_mm tw_1_0.2.2.2.2.2.2.2.2.2.2.2.2.2 rfl), nc_18.1, nc_18.2, pd_12⟩
abbrev M_X12_argumentOf : tb_Mt := (yX12_argumentOf, cX12_argumentOf, 3, some .int, [])
theorem cd_X12_argumentOf : tb_CD M_X12_argumentOf 2 := ⟨(tb_mm tw_8_3.2.2.2.2.2.2.2.2.2.1 rfl), (tb_mm tw_1_0.2.2.2.2.2.2.2.2.2.2.2.2.2 rfl), nc_18.1, nc_18.2, pd_14⟩
abbrev M_X12_turns : tb_Mt := (yX12_turns, cX12_turns, 4, some .boolean, [])
theorem cd_X12_turns : tb_CD M_X12_turns 1 := ⟨(tb_mm tw_8_3.2.2.2.2.2.2.2.2.2.2.2.2.2.1 rfl), (tb_mm tw_1_0.2.2.2.2.2.2.2.2.2.2.2.2.2 rfl), nc_18.1, nc_18.2, pd_13⟩
abbrev M_X12_symbol : tb_Mt := (yX12_symbol, cX12_symbol, 3, some .int, [])
theorem cd_X12_symbol : tb_CD M_X12_symbol 2 := ⟨(tb_mm tw_8_4.2.1 rfl), (tb_mm tw_1_0.2.2.2.2.2.2.2.2.2.2.2.2.2 rfl), nc_18.1, nc_18.2, pd_14⟩
abbrev M_X12_isSymbol : tb_Mt := (yX12_isSymbol, cX12_isSymbol, 2, some .boolean, [])
theorem cd_X12_isSymbol : tb_CD M_X12_isSymbol 1 := ⟨(tb_mm tw_8_4.2.2.2.2.2.1 rfl), (tb_mm tw_1_0.2.2.2.2.2.2.2.2.2.2.2.2.2 rfl), nc_18.1, nc_18.2, pd_13⟩
abbrev M_X12_fits : tb_Mt := (yX12_fits, cX12_fits, 9, some .int, [])
theorem pd_39 : (parseMethodDescriptor "(IZ)I").map (fun d => d.parameters.length) = some 2 := by decide +kernel
theorem cd_X12_fits : tb_CD M_X12_fits 2 := ⟨(tb_mm tw_8_4.2.2.2.2.2.2.2.2.2.1 rfl), (tb_mm tw_1_0.2.2.2.2.2.2.2.2.2.2.2.2.2 rfl), nc_18.1, nc_18.2, pd_39⟩
abbrev M_X12_term : tb_Mt := (yX12_term, cX12_term, 3, some .int, [])
theorem cd_X12_term : tb_CD M_X12_term 2 := ⟨(tb_mm tw_8_4.2.2.2.2.2.2.2.2.2.2.2.2.2.1 rfl), (tb_mm tw_1_0.2.2.2.2.2.2.2.2.2.2.2.2.2 rfl), nc_18.1, nc_18.2, pd_14⟩
abbrev M_X12_isTermNow : tb_Mt := (yX12_isTermNow, cX12_isTermNow, 2, some .boolean, [])
theorem cd_X12_isTermNow : tb_CD M_X12_isTermNow 1 := ⟨(tb_mm tw_8_5.2.1 rfl), (tb_mm tw_1_0.2.2.2.2.2.2.2.2.2.2.2.2.2 rfl), nc_18.1, nc_18.2, pd_13⟩
abbrev M_X12_isTerm : tb_Mt := (yX12_isTerm, cX12_isTerm, 2, some .boolean, [])
theorem cd_X12_isTerm : tb_CD M_X12_isTerm 1 := ⟨(tb_mm tw_8_5.2.2.2.2.2.1 rfl), (tb_mm tw_1_0.2.2.2.2.2.2.2.2.2.2.2.2.2 rfl), nc_18.1, nc_18.2, pd_13⟩
abbrev M_X12_sharedOf : tb_Mt := (yX12_sharedOf, cX12_sharedOf, 4, some .int, [])
theorem cd_X12_sharedOf : tb_CD M_X12_sharedOf 1 := ⟨(tb_mm tw_8_5.2.2.2.2.2.2.2.2.2.1 rfl), (tb_mm tw_1_0.2.2.2.2.2.2.2.2.2.2.2.2.2 rfl), nc_18.1, nc_18.2, pd_12⟩
abbrev M_X12_isIn : tb_Mt := (yX12_isIn, cX12_isIn, 4, some .boolean, [])
theorem cd_X12_isIn : tb_CD M_X12_isIn 2 := ⟨(tb_mm tw_8_5.2.2.2.2.2.2.2.2.2.2.2.2.2.1 rfl), (tb_mm tw_1_0.2.2.2.2.2.2.2.2.2.2.2.2.2 rfl), nc_18.1, nc_18.2, pd_16⟩
abbrev M_X12_variablesIn : tb_Mt := (yX12_variablesIn, cX12_variablesIn, 4, some .int, [])
theorem cd_X12_variablesIn : tb_CD M_X12_variablesIn 1 := ⟨(tb_mm tw_8_6.2.1 rfl), (tb_mm tw_1_0.2.2.2.2.2.2.2.2.2.2.2.2.2 rfl), nc_18.1, nc_18.2, pd_12⟩
abbrev M_X12_usesOf : tb_Mt := (yX12_usesOf, cX12_usesOf, 6, some .int, [])
theorem cd_X12_usesOf : tb_CD M_X12_usesOf 1 := ⟨(tb_mm tw_8_6.2.2.2.2.2.1 rfl), (tb_mm tw_1_0.2.2.2.2.2.2.2.2.2.2.2.2.2 rfl), nc_18.1, nc_18.2, pd_12⟩
abbrev M_X12_isSettled : tb_Mt := (yX12_isSettled, cX12_isSettled, 3, some .boolean, [])
theorem cd_X12_isSettled : tb_CD M_X12_isSettled 1 := ⟨(tb_mm tw_8_6.2.2.2.2.2.2.2.2.2.1 rfl), (tb_mm tw_1_0.2.2.2.2.2.2.2.2.2.2.2.2.2 rfl), nc_18.1, nc_18.2, pd_13⟩
abbrev M_X12_doesMatch : tb_Mt := (yX12_doesMatch, cX12_doesMatch, 4, some .boolean, [])
theorem cd_X12_doesMatch : tb_CD M_X12_doesMatch 2 := ⟨(tb_mm tw_8_6.2.2.2.2.2.2.2.2.2.2.2.2.2.1 rfl), (tb_mm tw_1_0.2.2.2.2.2.2.2.2.2.2.2.2.2 rfl), nc_18.1, nc_18.2, pd_16⟩
abbrev M_X12_matches : tb_Mt := (yX12_matches, cX12_matches, 4, some .boolean, [])
theorem cd_X12_matches : tb_CD M_X12_matches 2 := ⟨(tb_mm tw_8_7.2.1 rfl), (tb_mm tw_1_0.2.2.2.2.2.2.2.2.2.2.2.2.2 rfl), nc_18.1, nc_18.2, pd_16⟩
abbrev M_X12_argument : tb_Mt := (yX12_argument, cX12_argument, 3, some .int, [])
theorem cd_X12_argument : tb_CD M_X12_argument 2 := ⟨(tb_mm tw_8_7.2.2.2.2.2.1 rfl), (tb_mm tw_1_0.2.2.2.2.2.2.2.2.2.2.2.2.2 rfl), nc_18.1, nc_18.2, pd_14⟩
abbrev M_X12_place : tb_Mt := (yX12_place, cX12_place, 4, some .int, [])
theorem cd_X12_place : tb_CD M_X12_place 2 := ⟨(tb_mm tw_8_7.2.2.2.2.2.2.2.2.2.1 rfl), (tb_mm tw_1_0.2.2.2.2.2.2.2.2.2.2.2.2.2 rfl), nc_18.1, nc_18.2, pd_14⟩
abbrev M_X12_order : tb_Mt := (yX12_order, cX12_order, 3, some .int, [])
theorem cd_X12_order : tb_CD M_X12_order 2 := ⟨(tb_mm tw_8_7.2.2.2.2.2.2.2.2.2.2.2.2.2.1 rfl), (tb_mm tw_1_0.2.2.2.2.2.2.2.2.2.2.2.2.2 rfl), nc_18.1, nc_18.2, pd_14⟩
abbrev M_X12_find : tb_Mt := (yX12_find, cX12_find, 5, some .int, [])
theorem cd_X12_find : tb_CD M_X12_find 2 := ⟨(tb_mm tw_8_8.2.1 rfl), (tb_mm tw_1_0.2.2.2.2.2.2.2.2.2.2.2.2.2 rfl), nc_18.1, nc_18.2, pd_14⟩
abbrev M_X12_isFound : tb_Mt := (yX12_isFound, cX12_isFound, 4, some .boolean, [])
theorem cd_X12_isFound : tb_CD M_X12_isFound 3 := ⟨(tb_mm tw_8_8.2.2.2.2.2.1 rfl), (tb_mm tw_1_0.2.2.2.2.2.2.2.2.2.2.2.2.2 rfl), nc_18.1, nc_18.2, pd_23⟩
abbrev M_X12_rule : tb_Mt := (yX12_rule, cX12_rule, 3, some .int, [])
theorem cd_X12_rule : tb_CD M_X12_rule 2 := ⟨(tb_mm tw_8_8.2.2.2.2.2.2.2.2.2.1 rfl), (tb_mm tw_1_0.2.2.2.2.2.2.2.2.2.2.2.2.2 rfl), nc_18.1, nc_18.2, pd_14⟩
abbrev M_X12_entry : tb_Mt := (yX12_entry, cX12_entry, 2, some .int, [])
theorem cd_X12_entry : tb_CD M_X12_entry 1 := ⟨(tb_mm tw_8_8.2.2.2.2.2.2.2.2.2.2.2.2.2.1 rfl), (tb_mm tw_1_0.2.2.2.2.2.2.2.2.2.2.2.2.2 rfl), nc_18.1, nc_18.2, pd_12⟩
abbrev M_X12_memo : tb_Mt := (yX12_memo, cX12_memo, 3, some .int, [])
theorem cd_X12_memo : tb_CD M_X12_memo 2 := ⟨(tb_mm tw_8_9.2.1 rfl), (tb_mm tw_1_0.2.2.2.2.2.2.2.2.2.2.2.2.2 rfl), nc_18.1, nc_18.2, pd_14⟩
abbrev M_X12_bound : tb_Mt := (yX12_bound, cX12_bound, 2, some .int, [])
theorem cd_X12_bound : tb_CD M_X12_bound 1 := ⟨(tb_mm tw_8_9.2.2.2.2.2.1 rfl), (tb_mm tw_1_0.2.2.2.2.2.2.2.2.2.2.2.2.2 rfl), nc_18.1, nc_18.2, pd_12⟩
abbrev M_X12_variable : tb_Mt := (yX12_variable, cX12_variable, 2, some .int, [])
theorem cd_X12_variable : tb_CD M_X12_variable 1 := ⟨(tb_mm tw_8_9.2.2.2.2.2.2.2.2.2.1 rfl), (tb_mm tw_1_0.2.2.2.2.2.2.2.2.2.2.2.2.2 rfl), nc_18.1, nc_18.2, pd_12⟩
end
section
abbrev M_X12_refuses : tb_Mt := (yX12_refuses, cX12_refuses, 3, some .int, [])
theorem cd_X12_refuses : tb_CD M_X12_refuses 2 := ⟨(tb_mm tw_8_9.2.2.2.2.2.2.2.2.2.2.2.2.2.1 rfl), (tb_mm tw_1_0.2.2.2.2.2.2.2.2.2.2.2.2.2 rfl), nc_18.1, nc_18.2, pd_14⟩
abbrev M_X12_begins : tb_Mt := (yX12_begins, cX12_begins, 1, none, [])
theorem cd_X12_begins : tb_CD M_X12_begins 0 := ⟨(tb_mm tw_8_10.2.1 rfl), (tb_mm tw_1_0.2.2.2.2.2.2.2.2.2.2.2.2.2 rfl), nc_18.1, nc_18.2, pd_0⟩
abbrev M_X12_keeps : tb_Mt := (yX12_keeps, cX12_keeps, 2, some .int, [])
theorem cd_X12_keeps : tb_CD M_X12_keeps 1 := ⟨(tb_mm tw_8_10.2.2.2.2.2.1 rfl), (tb_mm tw_1_0.2.2.2.2.2.2.2.2.2.2.2.2.2 rfl), nc_18.1, nc_18.2, pd_12⟩
abbrev M_X12_fails : tb_Mt := (yX12_fails, cX12_fails, 3, some .int, [])
theorem cd_X12_fails : tb_CD M_X12_fails 2 := ⟨(tb_mm tw_8_10.2.2.2.2.2.2.2.2.2.1 rfl), (tb_mm tw_1_0.2.2.2.2.2.2.2.2.2.2.2.2.2 rfl), nc_18.1, nc_18.2, pd_14⟩
abbrev M_X12_keptAt : tb_Mt := (yX12_keptAt, cX12_keptAt, 2, some .int, [])
theorem cd_X12_keptAt : tb_CD M_X12_keptAt 2 := ⟨(tb_mm tw_8_10.2.2.2.2.2.2.2.2.2.2.2.2.1 rfl), (tb_mm tw_1_0.2.2.2.2.2.2.2.2.2.2.2.2.2 rfl), nc_18.1, nc_18.2, pd_14⟩
abbrev M_X12_make : tb_Mt := (yX12_make, cX12_make, 6, some .int, [])
theorem cd_X12_make : tb_CD M_X12_make 4 := ⟨(tb_mm tw_8_11.1 rfl), (tb_mm tw_1_0.2.2.2.2.2.2.2.2.2.2.2.2.2 rfl), nc_18.1, nc_18.2, pd_15⟩
abbrev M_X12_bind : tb_Mt := (yX12_bind, cX12_bind, 4, some .int, [])
theorem cd_X12_bind : tb_CD M_X12_bind 2 := ⟨(tb_mm tw_8_11.2.2.2.2.1 rfl), (tb_mm tw_1_0.2.2.2.2.2.2.2.2.2.2.2.2.2 rfl), nc_18.1, nc_18.2, pd_14⟩
abbrev M_X12_apply : tb_Mt := (yX12_apply, cX12_apply, 2, some .int, [])
theorem cd_X12_apply : tb_CD M_X12_apply 1 := ⟨(tb_mm tw_8_11.2.2.2.2.2.2.2.2.1 rfl), (tb_mm tw_1_0.2.2.2.2.2.2.2.2.2.2.2.2.2 rfl), nc_18.1, nc_18.2, pd_12⟩
abbrev M_X12_laysBound : tb_Mt := (yX12_laysBound, cX12_laysBound, 2, none, [])
theorem cd_X12_laysBound : tb_CD M_X12_laysBound 0 := ⟨(tb_mm tw_8_11.2.2.2.2.2.2.2.2.2.2.2.2.1 rfl), (tb_mm tw_1_0.2.2.2.2.2.2.2.2.2.2.2.2.2 rfl), nc_18.1, nc_18.2, pd_0⟩
abbrev M_X12_appliedBy : tb_Mt := (yX12_appliedBy, cX12_appliedBy, 7, some .int, [])
theorem pd_40 : (parseMethodDescriptor "(I[I)I").map (fun d => d.parameters.length) = some 2 := by decide +kernel
theorem cd_X12_appliedBy : tb_CD M_X12_appliedBy 2 := ⟨(tb_mm tw_8_12.1 rfl), (tb_mm tw_1_0.2.2.2.2.2.2.2.2.2.2.2.2.2 rfl), nc_18.1, nc_18.2, pd_40⟩
abbrev M_X12_remade : tb_Mt := (yX12_remade, cX12_remade, 5, some .int, [])
theorem cd_X12_remade : tb_CD M_X12_remade 4 := ⟨(tb_mm tw_8_12.2.2.2.2.1 rfl), (tb_mm tw_1_0.2.2.2.2.2.2.2.2.2.2.2.2.2 rfl), nc_18.1, nc_18.2, pd_15⟩
abbrev M_X12_close : tb_Mt := (yX12_close, cX12_close, 2, some .int, [])
theorem cd_X12_close : tb_CD M_X12_close 1 := ⟨(tb_mm tw_8_12.2.2.2.2.2.2.2.2.1 rfl), (tb_mm tw_1_0.2.2.2.2.2.2.2.2.2.2.2.2.2 rfl), nc_18.1, nc_18.2, pd_12⟩
abbrev M_X12_isRing : tb_Mt := (yX12_isRing, cX12_isRing, 6, some .boolean, [])
theorem cd_X12_isRing : tb_CD M_X12_isRing 1 := ⟨(tb_mm tw_8_12.2.2.2.2.2.2.2.2.2.2.2.2.1 rfl), (tb_mm tw_1_0.2.2.2.2.2.2.2.2.2.2.2.2.2 rfl), nc_18.1, nc_18.2, pd_13⟩
abbrev M_X12_closedOf : tb_Mt := (yX12_closedOf, cX12_closedOf, 7, some .int, [])
theorem cd_X12_closedOf : tb_CD M_X12_closedOf 2 := ⟨(tb_mm tw_8_13.1 rfl), (tb_mm tw_1_0.2.2.2.2.2.2.2.2.2.2.2.2.2 rfl), nc_18.1, nc_18.2, pd_14⟩
abbrev M_X12_isTooDeep : tb_Mt := (yX12_isTooDeep, cX12_isTooDeep, 2, some .boolean, [])
theorem cd_X12_isTooDeep : tb_CD M_X12_isTooDeep 1 := ⟨(tb_mm tw_8_13.2.2.2.2.1 rfl), (tb_mm tw_1_0.2.2.2.2.2.2.2.2.2.2.2.2.2 rfl), nc_18.1, nc_18.2, pd_13⟩
abbrev M_X12_unify : tb_Mt := (yX12_unify, cX12_unify, 4, some .int, [])
theorem cd_X12_unify : tb_CD M_X12_unify 2 := ⟨(tb_mm tw_8_13.2.2.2.2.2.2.2.2.1 rfl), (tb_mm tw_1_0.2.2.2.2.2.2.2.2.2.2.2.2.2 rfl), nc_18.1, nc_18.2, pd_14⟩
abbrev M_X12_bindsSolved : tb_Mt := (yX12_bindsSolved, cX12_bindsSolved, 6, none, [])
theorem cd_X12_bindsSolved : tb_CD M_X12_bindsSolved 1 := ⟨(tb_mm tw_8_13.2.2.2.2.2.2.2.2.2.2.2.2.1 rfl), (tb_mm tw_1_0.2.2.2.2.2.2.2.2.2.2.2.2.2 rfl), nc_18.1, nc_18.2, pd_10⟩
abbrev M_X12_thereOf : tb_Mt := (yX12_thereOf, cX12_thereOf, 3, some .int, [])
theorem cd_X12_thereOf : tb_CD M_X12_thereOf 1 := ⟨(tb_mm tw_8_14.1 rfl), (tb_mm tw_1_0.2.2.2.2.2.2.2.2.2.2.2.2.2 rfl), nc_18.1, nc_18.2, pd_12⟩
abbrev M_X12_solved : tb_Mt := (yX12_solved, cX12_solved, 9, some .int, [])
theorem cd_X12_solved : tb_CD M_X12_solved 2 := ⟨(tb_mm tw_8_14.2.2.2.2.1 rfl), (tb_mm tw_1_0.2.2.2.2.2.2.2.2.2.2.2.2.2 rfl), nc_18.1, nc_18.2, pd_14⟩
abbrev M_X12_match : tb_Mt := (yX12_match, cX12_match, 4, some .int, [])
theorem cd_X12_match : tb_CD M_X12_match 2 := ⟨(tb_mm tw_8_14.2.2.2.2.2.2.2.2.1 rfl), (tb_mm tw_1_0.2.2.2.2.2.2.2.2.2.2.2.2.2 rfl), nc_18.1, nc_18.2, pd_14⟩
abbrev M_X12_common : tb_Mt := (yX12_common, cX12_common, 4, some .int, [])
theorem cd_X12_common : tb_CD M_X12_common 2 := ⟨(tb_mm tw_8_14.2.2.2.2.2.2.2.2.2.2.2.2.1 rfl), (tb_mm tw_1_0.2.2.2.2.2.2.2.2.2.2.2.2.2 rfl), nc_18.1, nc_18.2, pd_14⟩
abbrev M_X12_commonOf : tb_Mt := (yX12_commonOf, cX12_commonOf, 7, some .int, [])
theorem cd_X12_commonOf : tb_CD M_X12_commonOf 2 := ⟨(tb_mm tw_9_0.1 rfl), (tb_mm tw_1_0.2.2.2.2.2.2.2.2.2.2.2.2.2 rfl), nc_18.1, nc_18.2, pd_14⟩
abbrev M_X12_coupleOf : tb_Mt := (yX12_coupleOf, cX12_coupleOf, 4, some .int, [])
theorem cd_X12_coupleOf : tb_CD M_X12_coupleOf 2 := ⟨(tb_mm tw_9_0.2.2.2.2.1 rfl), (tb_mm tw_1_0.2.2.2.2.2.2.2.2.2.2.2.2.2 rfl), nc_18.1, nc_18.2, pd_14⟩
abbrev M_X12_normal : tb_Mt := (yX12_normal, cX12_normal, 3, some .int, [])
theorem cd_X12_normal : tb_CD M_X12_normal 1 := ⟨(tb_mm tw_9_0.2.2.2.2.2.2.2.2.1 rfl), (tb_mm tw_1_0.2.2.2.2.2.2.2.2.2.2.2.2.2 rfl), nc_18.1, nc_18.2, pd_12⟩
abbrev M_X12_normalOf : tb_Mt := (yX12_normalOf, cX12_normalOf, 8, some .int, [])
theorem cd_X12_normalOf : tb_CD M_X12_normalOf 1 := ⟨(tb_mm tw_9_0.2.2.2.2.2.2.2.2.2.2.2.2.1 rfl), (tb_mm tw_1_0.2.2.2.2.2.2.2.2.2.2.2.2.2 rfl), nc_18.1, nc_18.2, pd_12⟩
abbrev M_X12_isStopped : tb_Mt := (yX12_isStopped, cX12_isStopped, 1, some .boolean, [])
theorem cd_X12_isStopped : tb_CD M_X12_isStopped 0 := ⟨(tb_mm tw_9_1.1 rfl), (tb_mm tw_1_0.2.2.2.2.2.2.2.2.2.2.2.2.2 rfl), nc_18.1, nc_18.2, pd_26⟩
abbrev M_X12_memoAt : tb_Mt := (yX12_memoAt, cX12_memoAt, 3, some .int, [])
theorem cd_X12_memoAt : tb_CD M_X12_memoAt 1 := ⟨(tb_mm tw_9_1.2.2.2.2.1 rfl), (tb_mm tw_1_0.2.2.2.2.2.2.2.2.2.2.2.2.2 rfl), nc_18.1, nc_18.2, pd_12⟩
abbrev M_X12_memoLoses : tb_Mt := (yX12_memoLoses, cX12_memoLoses, 3, none, [])
theorem cd_X12_memoLoses : tb_CD M_X12_memoLoses 1 := ⟨(tb_mm tw_9_1.2.2.2.2.2.2.2.2.1 rfl), (tb_mm tw_1_0.2.2.2.2.2.2.2.2.2.2.2.2.2 rfl), nc_18.1, nc_18.2, pd_10⟩
abbrev M_X12_memoGets : tb_Mt := (yX12_memoGets, cX12_memoGets, 3, none, [])
theorem cd_X12_memoGets : tb_CD M_X12_memoGets 2 := ⟨(tb_mm tw_9_1.2.2.2.2.2.2.2.2.2.2.2.2.1 rfl), (tb_mm tw_1_0.2.2.2.2.2.2.2.2.2.2.2.2.2 rfl), nc_18.1, nc_18.2, pd_22⟩
abbrev M_X12_lessened : tb_Mt := (yX12_lessened, cX12_lessened, 4, some .int, [])
theorem cd_X12_lessened : tb_CD M_X12_lessened 1 := ⟨(tb_mm tw_9_2.1 rfl), (tb_mm tw_1_0.2.2.2.2.2.2.2.2.2.2.2.2.2 rfl), nc_18.1, nc_18.2, pd_12⟩
abbrev M_X12_put : tb_Mt := (yX12_put, cX12_put, 4, some .int, [])
theorem cd_X12_put : tb_CD M_X12_put 3 := ⟨(tb_mm tw_9_2.2.2.2.2.1 rfl), (tb_mm tw_1_0.2.2.2.2.2.2.2.2.2.2.2.2.2 rfl), nc_18.1, nc_18.2, pd_21⟩
abbrev M_X12_withPut : tb_Mt := (yX12_withPut, cX12_withPut, 8, some .int, [])
theorem cd_X12_withPut : tb_CD M_X12_withPut 3 := ⟨(tb_mm tw_9_2.2.2.2.2.2.2.2.2.1 rfl), (tb_mm tw_1_0.2.2.2.2.2.2.2.2.2.2.2.2.2 rfl), nc_18.1, nc_18.2, pd_21⟩
abbrev M_X12_parts : tb_Mt := (yX12_parts, cX12_parts, 4, some (.array .int), [])
theorem pd_41 : (parseMethodDescriptor "(I)[I").map (fun d => d.parameters.length) = some 1 := by decide +kernel
theorem cd_X12_parts : tb_CD M_X12_parts 1 := ⟨(tb_mm tw_9_2.2.2.2.2.2.2.2.2.2.2.2.2.1 rfl), (tb_mm tw_1_0.2.2.2.2.2.2.2.2.2.2.2.2.2 rfl), nc_18.1, nc_18.2, pd_41⟩
abbrev M_X12_rules : tb_Mt := (yX12_rules, cX12_rules, 3, some .int, [])
theorem cd_X12_rules : tb_CD M_X12_rules 2 := ⟨(tb_mm tw_9_3.1 rfl), (tb_mm tw_1_0.2.2.2.2.2.2.2.2.2.2.2.2.2 rfl), nc_18.1, nc_18.2, pd_14⟩
abbrev M_X12_enter : tb_Mt := (yX12_enter, cX12_enter, 2, some .int, [])
theorem cd_X12_enter : tb_CD M_X12_enter 1 := ⟨(tb_mm tw_9_3.2.2.2.2.1 rfl), (tb_mm tw_1_0.2.2.2.2.2.2.2.2.2.2.2.2.2 rfl), nc_18.1, nc_18.2, pd_12⟩
abbrev M_X12_leave : tb_Mt := (yX12_leave, cX12_leave, 4, some .int, [])
theorem cd_X12_leave : tb_CD M_X12_leave 1 := ⟨(tb_mm tw_9_3.2.2.2.2.2.2.2.2.1 rfl), (tb_mm tw_1_0.2.2.2.2.2.2.2.2.2.2.2.2.2 rfl), nc_18.1, nc_18.2, pd_12⟩
abbrev M_X12_room : tb_Mt := (yX12_room, cX12_room, 3, some .int, [])
theorem cd_X12_room : tb_CD M_X12_room 1 := ⟨(tb_mm tw_9_3.2.2.2.2.2.2.2.2.2.2.2.2.1 rfl), (tb_mm tw_1_0.2.2.2.2.2.2.2.2.2.2.2.2.2 rfl), nc_18.1, nc_18.2, pd_12⟩
abbrev M_X12_draw : tb_Mt := (yX12_draw, cX12_draw, 3, some .int, [])
theorem cd_X12_draw : tb_CD M_X12_draw 2 := ⟨(tb_mm tw_9_4.1 rfl), (tb_mm tw_1_0.2.2.2.2.2.2.2.2.2.2.2.2.2 rfl), nc_18.1, nc_18.2, pd_14⟩
abbrev M_X12_drawn : tb_Mt := (yX12_drawn, cX12_drawn, 7, some .int, [])
theorem cd_X12_drawn : tb_CD M_X12_drawn 1 := ⟨(tb_mm tw_9_4.2.2.2.2.1 rfl), (tb_mm tw_1_0.2.2.2.2.2.2.2.2.2.2.2.2.2 rfl), nc_18.1, nc_18.2, pd_12⟩
abbrev M_X12_drawOf : tb_Mt := (yX12_drawOf, cX12_drawOf, 2, some .int, [])
theorem cd_X12_drawOf : tb_CD M_X12_drawOf 1 := ⟨(tb_mm tw_9_4.2.2.2.2.2.2.2.2.1 rfl), (tb_mm tw_1_0.2.2.2.2.2.2.2.2.2.2.2.2.2 rfl), nc_18.1, nc_18.2, pd_12⟩
abbrev M_X12_undo : tb_Mt := (yX12_undo, cX12_undo, 1, some .int, [])
theorem cd_X12_undo : tb_CD M_X12_undo 0 := ⟨(tb_mm tw_9_4.2.2.2.2.2.2.2.2.2.2.2.2.2.1 rfl), (tb_mm tw_1_0.2.2.2.2.2.2.2.2.2.2.2.2.2 rfl), nc_18.1, nc_18.2, pd_11⟩
abbrev M_X12_years : tb_Mt := (yX12_years, cX12_years, 9, some .int, [])
theorem cd_X12_years : tb_CD M_X12_years 3 := ⟨(tb_mm tw_9_5.2.1 rfl), (tb_mm tw_1_0.2.2.2.2.2.2.2.2.2.2.2.2.2 rfl), nc_18.1, nc_18.2, pd_21⟩
abbrev M_X12_image : tb_Mt := (yX12_image, cX12_image, 2, none, [])
theorem cd_X12_image : tb_CD M_X12_image 0 := ⟨(tb_mm tw_9_5.2.2.2.2.2.1 rfl), (tb_mm tw_1_0.2.2.2.2.2.2.2.2.2.2.2.2.2 rfl), nc_18.1, nc_18.2, pd_0⟩
abbrev M_X12_restore : tb_Mt := (yX12_restore, cX12_restore, 2, some .boolean, [])
theorem cd_X12_restore : tb_CD M_X12_restore 0 := ⟨(tb_mm tw_9_5.2.2.2.2.2.2.2.2.2.1 rfl), (tb_mm tw_1_0.2.2.2.2.2.2.2.2.2.2.2.2.2 rfl), nc_18.1, nc_18.2, pd_26⟩
theorem fl_X11_10 : tb_FL RX11 10 11 0 true := ⟨RX11, TX11, 16, cl_11, by decide, (tb_mm tw_2_10.1 rfl), rfl⟩
theorem ff_X11_10 : tb_FF RX11 10 11 0 := ⟨RX11, TX11, 16, cl_11, by decide, (tb_mm tw_2_10.1 rfl), rfl, rfl⟩
theorem fl_X11_29 : tb_FL RX11 29 11 1 true := ⟨RX11, TX11, 16, cl_11, by decide, (tb_mm tw_2_10.2.1 rfl), rfl⟩
theorem ff_X11_29 : tb_FF RX11 29 11 1 := ⟨RX11, TX11, 16, cl_11, by decide, (tb_mm tw_2_10.2.1 rfl), rfl, rfl⟩
theorem fl_X11_33 : tb_FL RX11 33 11 2 true := ⟨RX11, TX11, 16, cl_11, by decide, (tb_mm tw_2_10.2.2.1 rfl), rfl⟩
theorem ff_X11_33 : tb_FF RX11 33 11 2 := ⟨RX11, TX11, 16, cl_11, by decide, (tb_mm tw_2_10.2.2.1 rfl), rfl, rfl⟩
theorem fl_X11_36 : tb_FL RX11 36 11 3 true := ⟨RX11, TX11, 16, cl_11, by decide, (tb_mm tw_2_10.2.2.2.1 rfl), rfl⟩
theorem ff_X11_36 : tb_FF RX11 36 11 3 := ⟨RX11, TX11, 16, cl_11, by decide, (tb_mm tw_2_10.2.2.2.1 rfl), rfl, rfl⟩
theorem fl_X11_39 : tb_FL RX11 39 11 4 true := ⟨RX11, TX11, 16, cl_11, by decide, (tb_mm tw_2_10.2.2.2.2.1 rfl), rfl⟩
theorem ff_X11_39 : tb_FF RX11 39 11 4 := ⟨RX11, TX11, 16, cl_11, by decide, (tb_mm tw_2_10.2.2.2.2.1 rfl), rfl, rfl⟩
theorem fl_X11_43 : tb_FL RX11 43 11 5 true := ⟨RX11, TX11, 16, cl_11, by decide, (tb_mm tw_2_10.2.2.2.2.2.1 rfl), rfl⟩
theorem ff_X11_43 : tb_FF RX11 43 11 5 := ⟨RX11, TX11, 16, cl_11, by decide, (tb_mm tw_2_10.2.2.2.2.2.1 rfl), rfl, rfl⟩
theorem fl_X11_49 : tb_FL RX11 49 0 0 true := ⟨RX0, TX0, 7, cl_0, by decide, (tb_mm tw_1_10.2.2.2.2.2.2.2.2.2.1 rfl), rfl⟩
theorem fl_X11_55 : tb_FL RX11 55 11 6 true := ⟨RX11, TX11, 16, cl_11, by decide, (tb_mm tw_2_10.2.2.2.2.2.2.1 rfl), rfl⟩
theorem ff_X11_55 : tb_FF RX11 55 11 6 := ⟨RX11, TX11, 16, cl_11, by decide, (tb_mm tw_2_10.2.2.2.2.2.2.1 rfl), rfl, rfl⟩
theorem fl_X11_62 : tb_FL RX11 62 11 7 true := ⟨RX11, TX11, 16, cl_11, by decide, (tb_mm tw_2_10.2.2.2.2.2.2.2.1 rfl), rfl⟩
theorem ff_X11_62 : tb_FF RX11 62 11 7 := ⟨RX11, TX11, 16, cl_11, by decide, (tb_mm tw_2_10.2.2.2.2.2.2.2.1 rfl), rfl, rfl⟩
theorem fl_X11_69 : tb_FL RX11 69 11 8 true := ⟨RX11, TX11, 16, cl_11, by decide, (tb_mm tw_2_10.2.2.2.2.2.2.2.2.1 rfl), rfl⟩
theorem ff_X11_69 : tb_FF RX11 69 11 8 := ⟨RX11, TX11, 16, cl_11, by decide, (tb_mm tw_2_10.2.2.2.2.2.2.2.2.1 rfl), rfl, rfl⟩
theorem fl_X11_81 : tb_FL RX11 81 11 9 true := ⟨RX11, TX11, 16, cl_11, by decide, (tb_mm tw_2_10.2.2.2.2.2.2.2.2.2.1 rfl), rfl⟩
theorem ff_X11_81 : tb_FF RX11 81 11 9 := ⟨RX11, TX11, 16, cl_11, by decide, (tb_mm tw_2_10.2.2.2.2.2.2.2.2.2.1 rfl), rfl, rfl⟩
theorem fl_X11_90 : tb_FL RX11 90 11 10 true := ⟨RX11, TX11, 16, cl_11, by decide, (tb_mm tw_2_10.2.2.2.2.2.2.2.2.2.2.1 rfl), rfl⟩
theorem ff_X11_90 : tb_FF RX11 90 11 10 := ⟨RX11, TX11, 16, cl_11, by decide, (tb_mm tw_2_10.2.2.2.2.2.2.2.2.2.2.1 rfl), rfl, rfl⟩
theorem fl_X11_94 : tb_FL RX11 94 11 12 true := ⟨RX11, TX11, 16, cl_11, by decide, (tb_mm tw_2_10.2.2.2.2.2.2.2.2.2.2.2.2.1 rfl), rfl⟩
theorem ff_X11_94 : tb_FF RX11 94 11 12 := ⟨RX11, TX11, 16, cl_11, by decide, (tb_mm tw_2_10.2.2.2.2.2.2.2.2.2.2.2.2.1 rfl), rfl, rfl⟩
theorem fl_X11_103 : tb_FL RX11 103 11 11 true := ⟨RX11, TX11, 16, cl_11, by decide, (tb_mm tw_2_10.2.2.2.2.2.2.2.2.2.2.2.1 rfl), rfl⟩
theorem ff_X11_103 : tb_FF RX11 103 11 11 := ⟨RX11, TX11, 16, cl_11, by decide, (tb_mm tw_2_10.2.2.2.2.2.2.2.2.2.2.2.1 rfl), rfl, rfl⟩
theorem fl_X11_107 : tb_FL RX11 107 11 13 false := ⟨RX11, TX11, 16, cl_11, by decide, (tb_mm tw_2_10.2.2.2.2.2.2.2.2.2.2.2.2.2.1 rfl), rfl⟩
theorem fl_X11_111 : tb_FL RX11 111 11 14 false := ⟨RX11, TX11, 16, cl_11, by decide, (tb_mm tw_2_10.2.2.2.2.2.2.2.2.2.2.2.2.2.2 rfl), rfl⟩
theorem fl_X11_114 : tb_FL RX11 114 11 15 false := ⟨RX11, TX11, 16, cl_11, by decide, (tb_mm tw_2_11.1 rfl), rfl⟩
theorem fl_X11_142 : tb_FL RX11 142 0 4 true := ⟨RX0, TX0, 7, cl_0, by decide, (tb_mm tw_1_11.2.2.2.2.1 rfl), rfl⟩
theorem fl_X11_156 : tb_FL RX11 156 0 1 true := ⟨RX0, TX0, 7, cl_0, by decide, (tb_mm tw_1_10.2.2.2.2.2.2.2.2.2.2.2.2.1 rfl), rfl⟩
theorem fl_X11_167 : tb_FL RX11 167 1 0 true := ⟨RX1, TX1, 1, cl_1, by decide, (tb_mm tw_1_9.2.2.2.2.2.2.2.2.2.2.2.1 rfl), rfl⟩
theorem fl_X11_170 : tb_FL RX11 170 8 3 false := ⟨RX8, TX8, 4, cl_8, by decide, (tb_mm tw_1_3.2.2.2.2.1 rfl), rfl⟩
theorem fl_X11_173 : tb_FL RX11 173 9 12 false := ⟨RX9, TX9, 13, cl_9, by decide, (tb_mm tw_1_7.2.1 rfl), rfl⟩
theorem fl_X11_185 : tb_FL RX11 185 0 6 false := ⟨RX0, TX0, 7, cl_0, by decide, (tb_mm tw_1_11.2.2.2.2.2.2.2.1 rfl), rfl⟩
theorem fl_X11_199 : tb_FL RX11 199 8 0 true := ⟨RX8, TX8, 4, cl_8, by decide, (tb_mm tw_1_2.2.2.2.2.2.2.2.2.1 rfl), rfl⟩
theorem fl_X11_202 : tb_FL RX11 202 8 1 true := ⟨RX8, TX8, 4, cl_8, by decide, (tb_mm tw_1_2.2.2.2.2.2.2.2.2.2.2.2.1 rfl), rfl⟩
theorem fl_X11_205 : tb_FL RX11 205 8 2 true := ⟨RX8, TX8, 4, cl_8, by decide, (tb_mm tw_1_3.2.2.1 rfl), rfl⟩
theorem fl_X11_222 : tb_FL RX11 222 9 1 true := ⟨RX9, TX9, 13, cl_9, by decide, (tb_mm tw_1_5.2.2.2.2.2.2.1 rfl), rfl⟩
theorem fl_X11_225 : tb_FL RX11 225 9 4 true := ⟨RX9, TX9, 13, cl_9, by decide, (tb_mm tw_1_6.2.1 rfl), rfl⟩
theorem fl_X11_231 : tb_FL RX11 231 9 6 true := ⟨RX9, TX9, 13, cl_9, by decide, (tb_mm tw_1_6.2.2.2.2.2.1 rfl), rfl⟩
theorem fl_X11_234 : tb_FL RX11 234 9 5 true := ⟨RX9, TX9, 13, cl_9, by decide, (tb_mm tw_1_6.2.2.2.1 rfl), rfl⟩
theorem fl_X11_235 : tb_FL RX11 235 9 7 true := ⟨RX9, TX9, 13, cl_9, by decide, (tb_mm tw_1_6.2.2.2.2.2.2.2.2.1 rfl), rfl⟩
theorem fl_X11_249 : tb_FL RX11 249 9 2 true := ⟨RX9, TX9, 13, cl_9, by decide, (tb_mm tw_1_5.2.2.2.2.2.2.2.2.2.2.2.2.2.1 rfl), rfl⟩
theorem fl_X11_329 : tb_FL RX11 329 3 1 true := ⟨RX3, TX3, 2, cl_3, by decide, (tb_mm tw_1_13.1 rfl), rfl⟩
theorem fl_X11_369 : tb_FL RX11 369 2 5 false := ⟨RX2, TX2, 6, cl_2, by decide, (tb_mm tw_1_14.2.2.1 rfl), rfl⟩
theorem fl_X11_391 : tb_FL RX11 391 0 3 true := ⟨RX0, TX0, 7, cl_0, by decide, (tb_mm tw_1_11.2.2.1 rfl), rfl⟩
theorem fl_X0_13 : tb_FL RX0 13 0 2 true := ⟨RX0, TX0, 7, cl_0, by decide, (tb_mm tw_1_11.1 rfl), rfl⟩
theorem ff_X0_13 : tb_FF RX0 13 0 2 := ⟨RX0, TX0, 7, cl_0, by decide, (tb_mm tw_1_11.1 rfl), rfl, rfl⟩
theorem fl_X0_18 : tb_FL RX0 18 0 3 true := ⟨RX0, TX0, 7, cl_0, by decide, (tb_mm tw_1_11.2.1 rfl), rfl⟩
theorem ff_X0_18 : tb_FF RX0 18 0 3 := ⟨RX0, TX0, 7, cl_0, by decide, (tb_mm tw_1_11.2.1 rfl), rfl, rfl⟩
theorem fl_X0_22 : tb_FL RX0 22 0 4 true := ⟨RX0, TX0, 7, cl_0, by decide, (tb_mm tw_1_11.2.2.2.1 rfl), rfl⟩
theorem ff_X0_22 : tb_FF RX0 22 0 4 := ⟨RX0, TX0, 7, cl_0, by decide, (tb_mm tw_1_11.2.2.2.1 rfl), rfl, rfl⟩
theorem fl_X0_25 : tb_FL RX0 25 0 5 false := ⟨RX0, TX0, 7, cl_0, by decide, (tb_mm tw_1_11.2.2.2.2.2.1 rfl), rfl⟩
theorem fl_X0_29 : tb_FL RX0 29 0 6 false := ⟨RX0, TX0, 7, cl_0, by decide, (tb_mm tw_1_11.2.2.2.2.2.2.1 rfl), rfl⟩
theorem fl_X0_32 : tb_FL RX0 32 0 0 true := ⟨RX0, TX0, 7, cl_0, by decide, (tb_mm tw_1_10.2.2.2.2.2.2.1 rfl), rfl⟩
theorem ff_X0_32 : tb_FF RX0 32 0 0 := ⟨RX0, TX0, 7, cl_0, by decide, (tb_mm tw_1_10.2.2.2.2.2.2.1 rfl), rfl, rfl⟩
theorem fl_X0_36 : tb_FL RX0 36 0 1 true := ⟨RX0, TX0, 7, cl_0, by decide, (tb_mm tw_1_10.2.2.2.2.2.2.2.2.2.2.1 rfl), rfl⟩
theorem ff_X0_36 : tb_FF RX0 36 0 1 := ⟨RX0, TX0, 7, cl_0, by decide, (tb_mm tw_1_10.2.2.2.2.2.2.2.2.2.2.1 rfl), rfl, rfl⟩
theorem fl_X0_40 : tb_FL RX0 40 1 0 true := ⟨RX1, TX1, 1, cl_1, by decide, (tb_mm tw_1_9.2.2.2.2.2.2.2.2.1 rfl), rfl⟩
theorem fl_X0_43 : tb_FL RX0 43 9 12 false := ⟨RX9, TX9, 13, cl_9, by decide, (tb_mm tw_1_7.1 rfl), rfl⟩
theorem fl_X1_11 : tb_FL RX1 11 1 0 true := ⟨RX1, TX1, 1, cl_1, by decide, (tb_mm tw_1_9.2.2.2.2.2.2.2.1 rfl), rfl⟩
theorem ff_X1_11 : tb_FF RX1 11 1 0 := ⟨RX1, TX1, 1, cl_1, by decide, (tb_mm tw_1_9.2.2.2.2.2.2.2.1 rfl), rfl, rfl⟩
theorem fl_X2_9 : tb_FL RX2 9 2 1 true := ⟨RX2, TX2, 6, cl_2, by decide, (tb_mm tw_1_13.2.2.2.2.2.2.2.2.2.2.1 rfl), rfl⟩
theorem ff_X2_9 : tb_FF RX2 9 2 1 := ⟨RX2, TX2, 6, cl_2, by decide, (tb_mm tw_1_13.2.2.2.2.2.2.2.2.2.2.1 rfl), rfl, rfl⟩
theorem fl_X2_15 : tb_FL RX2 15 2 2 true := ⟨RX2, TX2, 6, cl_2, by decide, (tb_mm tw_1_13.2.2.2.2.2.2.2.2.2.2.2.1 rfl), rfl⟩
theorem ff_X2_15 : tb_FF RX2 15 2 2 := ⟨RX2, TX2, 6, cl_2, by decide, (tb_mm tw_1_13.2.2.2.2.2.2.2.2.2.2.2.1 rfl), rfl, rfl⟩
theorem fl_X2_18 : tb_FL RX2 18 2 3 true := ⟨RX2, TX2, 6, cl_2, by decide, (tb_mm tw_1_13.2.2.2.2.2.2.2.2.2.2.2.2 rfl), rfl⟩
theorem ff_X2_18 : tb_FF RX2 18 2 3 := ⟨RX2, TX2, 6, cl_2, by decide, (tb_mm tw_1_13.2.2.2.2.2.2.2.2.2.2.2.2 rfl), rfl, rfl⟩
theorem fl_X2_21 : tb_FL RX2 21 2 4 false := ⟨RX2, TX2, 6, cl_2, by decide, (tb_mm tw_1_14.1 rfl), rfl⟩
theorem fl_X2_25 : tb_FL RX2 25 2 5 false := ⟨RX2, TX2, 6, cl_2, by decide, (tb_mm tw_1_14.2.1 rfl), rfl⟩
theorem fl_X2_28 : tb_FL RX2 28 2 0 true := ⟨RX2, TX2, 6, cl_2, by decide, (tb_mm tw_1_13.2.2.2.2.2.2.2.2.2.1 rfl), rfl⟩
theorem ff_X2_28 : tb_FF RX2 28 2 0 := ⟨RX2, TX2, 6, cl_2, by decide, (tb_mm tw_1_13.2.2.2.2.2.2.2.2.2.1 rfl), rfl, rfl⟩
theorem fl_X2_42 : tb_FL RX2 42 9 1 true := ⟨RX9, TX9, 13, cl_9, by decide, (tb_mm tw_1_5.2.2.1 rfl), rfl⟩
theorem fl_X2_45 : tb_FL RX2 45 9 2 true := ⟨RX9, TX9, 13, cl_9, by decide, (tb_mm tw_1_5.2.2.2.2.2.2.2.2.1 rfl), rfl⟩
theorem fl_X2_56 : tb_FL RX2 56 9 7 true := ⟨RX9, TX9, 13, cl_9, by decide, (tb_mm tw_1_6.2.2.2.2.2.2.2.1 rfl), rfl⟩
theorem fl_X2_114 : tb_FL RX2 114 9 0 true := ⟨RX9, TX9, 13, cl_9, by decide, (tb_mm tw_1_4.2.2.2.2.2.2.2.2.2.2.2.2.2.2.2 rfl), rfl⟩
theorem fl_X2_118 : tb_FL RX2 118 8 3 false := ⟨RX8, TX8, 4, cl_8, by decide, (tb_mm tw_1_3.2.2.2.2.2.2.1 rfl), rfl⟩
theorem fl_X2_123 : tb_FL RX2 123 8 1 true := ⟨RX8, TX8, 4, cl_8, by decide, (tb_mm tw_1_2.2.2.2.2.2.2.2.2.2.2.2.2.1 rfl), rfl⟩
theorem fl_X3_9 : tb_FL RX3 9 3 1 true := ⟨RX3, TX3, 2, cl_3, by decide, (tb_mm tw_1_12.2.2.2.2.2.2.2.2.2.2.1 rfl), rfl⟩
theorem ff_X3_9 : tb_FF RX3 9 3 1 := ⟨RX3, TX3, 2, cl_3, by decide, (tb_mm tw_1_12.2.2.2.2.2.2.2.2.2.2.1 rfl), rfl, rfl⟩
theorem fl_X3_15 : tb_FL RX3 15 3 0 true := ⟨RX3, TX3, 2, cl_3, by decide, (tb_mm tw_1_12.2.2.2.2.2.2.2.2.2.1 rfl), rfl⟩
theorem ff_X3_15 : tb_FF RX3 15 3 0 := ⟨RX3, TX3, 2, cl_3, by decide, (tb_mm tw_1_12.2.2.2.2.2.2.2.2.2.1 rfl), rfl, rfl⟩
theorem fl_X3_35 : tb_FL RX3 35 9 1 true := ⟨RX9, TX9, 13, cl_9, by decide, (tb_mm tw_1_5.2.1 rfl), rfl⟩
theorem fl_X3_42 : tb_FL RX3 42 9 2 true := ⟨RX9, TX9, 13, cl_9, by decide, (tb_mm tw_1_5.2.2.2.2.2.2.2.2.2.1 rfl), rfl⟩
theorem fl_X4_9 : tb_FL RX4 9 4 1 true := ⟨RX4, TX4, 5, cl_4, by decide, (tb_mm tw_2_3.2.2.2.2.1 rfl), rfl⟩
theorem ff_X4_9 : tb_FF RX4 9 4 1 := ⟨RX4, TX4, 5, cl_4, by decide, (tb_mm tw_2_3.2.2.2.2.1 rfl), rfl, rfl⟩
theorem fl_X4_15 : tb_FL RX4 15 4 2 false := ⟨RX4, TX4, 5, cl_4, by decide, (tb_mm tw_2_3.2.2.2.2.2.1 rfl), rfl⟩
theorem fl_X4_19 : tb_FL RX4 19 4 3 false := ⟨RX4, TX4, 5, cl_4, by decide, (tb_mm tw_2_3.2.2.2.2.2.2.1 rfl), rfl⟩
theorem fl_X4_22 : tb_FL RX4 22 4 4 false := ⟨RX4, TX4, 5, cl_4, by decide, (tb_mm tw_2_3.2.2.2.2.2.2.2.1 rfl), rfl⟩
theorem fl_X4_25 : tb_FL RX4 25 4 0 true := ⟨RX4, TX4, 5, cl_4, by decide, (tb_mm tw_2_3.2.2.2.1 rfl), rfl⟩
theorem ff_X4_25 : tb_FF RX4 25 4 0 := ⟨RX4, TX4, 5, cl_4, by decide, (tb_mm tw_2_3.2.2.2.1 rfl), rfl, rfl⟩
theorem fl_X4_43 : tb_FL RX4 43 9 1 true := ⟨RX9, TX9, 13, cl_9, by decide, (tb_mm tw_1_5.2.2.2.1 rfl), rfl⟩
theorem fl_X4_63 : tb_FL RX4 63 9 0 true := ⟨RX9, TX9, 13, cl_9, by decide, (tb_mm tw_1_4.2.2.2.2.2.2.2.2.2.2.2.2.2.2.1 rfl), rfl⟩
theorem fl_X4_67 : tb_FL RX4 67 8 2 true := ⟨RX8, TX8, 4, cl_8, by decide, (tb_mm tw_1_3.1 rfl), rfl⟩
theorem fl_X4_72 : tb_FL RX4 72 9 2 true := ⟨RX9, TX9, 13, cl_9, by decide, (tb_mm tw_1_5.2.2.2.2.2.2.2.2.2.2.2.1 rfl), rfl⟩
theorem fl_X5_9 : tb_FL RX5 9 5 4 false := ⟨RX5, TX5, 11, cl_5, by decide, (tb_mm tw_2_8.2.2.2.1 rfl), rfl⟩
theorem fl_X5_15 : tb_FL RX5 15 5 5 false := ⟨RX5, TX5, 11, cl_5, by decide, (tb_mm tw_2_8.2.2.2.2.1 rfl), rfl⟩
theorem fl_X5_18 : tb_FL RX5 18 5 6 false := ⟨RX5, TX5, 11, cl_5, by decide, (tb_mm tw_2_8.2.2.2.2.2.1 rfl), rfl⟩
theorem fl_X5_21 : tb_FL RX5 21 5 7 false := ⟨RX5, TX5, 11, cl_5, by decide, (tb_mm tw_2_8.2.2.2.2.2.2.1 rfl), rfl⟩
theorem fl_X5_24 : tb_FL RX5 24 5 8 false := ⟨RX5, TX5, 11, cl_5, by decide, (tb_mm tw_2_8.2.2.2.2.2.2.2.1 rfl), rfl⟩
theorem fl_X5_27 : tb_FL RX5 27 5 9 false := ⟨RX5, TX5, 11, cl_5, by decide, (tb_mm tw_2_8.2.2.2.2.2.2.2.2.1 rfl), rfl⟩
theorem fl_X5_30 : tb_FL RX5 30 5 10 false := ⟨RX5, TX5, 11, cl_5, by decide, (tb_mm tw_2_8.2.2.2.2.2.2.2.2.2.1 rfl), rfl⟩
theorem fl_X5_34 : tb_FL RX5 34 5 0 true := ⟨RX5, TX5, 11, cl_5, by decide, (tb_mm tw_2_7.2.2.2.2.2.2.2.2.2.2 rfl), rfl⟩
theorem ff_X5_34 : tb_FF RX5 34 5 0 := ⟨RX5, TX5, 11, cl_5, by decide, (tb_mm tw_2_7.2.2.2.2.2.2.2.2.2.2 rfl), rfl, rfl⟩
theorem fl_X5_38 : tb_FL RX5 38 5 1 true := ⟨RX5, TX5, 11, cl_5, by decide, (tb_mm tw_2_8.1 rfl), rfl⟩
theorem ff_X5_38 : tb_FF RX5 38 5 1 := ⟨RX5, TX5, 11, cl_5, by decide, (tb_mm tw_2_8.1 rfl), rfl, rfl⟩
theorem fl_X5_42 : tb_FL RX5 42 0 0 true := ⟨RX0, TX0, 7, cl_0, by decide, (tb_mm tw_1_10.2.2.2.2.2.2.2.2.1 rfl), rfl⟩
theorem fl_X5_48 : tb_FL RX5 48 9 0 true := ⟨RX9, TX9, 13, cl_9, by decide, (tb_mm tw_1_4.2.2.2.2.2.2.2.2.2.2.2.2.1 rfl), rfl⟩
theorem fl_X5_54 : tb_FL RX5 54 5 2 true := ⟨RX5, TX5, 11, cl_5, by decide, (tb_mm tw_2_8.2.1 rfl), rfl⟩
theorem ff_X5_54 : tb_FF RX5 54 5 2 := ⟨RX5, TX5, 11, cl_5, by decide, (tb_mm tw_2_8.2.1 rfl), rfl, rfl⟩
theorem fl_X5_55 : tb_FL RX5 55 5 3 true := ⟨RX5, TX5, 11, cl_5, by decide, (tb_mm tw_2_8.2.2.1 rfl), rfl⟩
theorem ff_X5_55 : tb_FF RX5 55 5 3 := ⟨RX5, TX5, 11, cl_5, by decide, (tb_mm tw_2_8.2.2.1 rfl), rfl, rfl⟩
theorem fl_X5_120 : tb_FL RX5 120 8 3 false := ⟨RX8, TX8, 4, cl_8, by decide, (tb_mm tw_1_3.2.2.2.2.2.1 rfl), rfl⟩
theorem fl_X5_138 : tb_FL RX5 138 0 1 true := ⟨RX0, TX0, 7, cl_0, by decide, (tb_mm tw_1_10.2.2.2.2.2.2.2.2.2.2.2.2.2.2 rfl), rfl⟩
theorem fl_X5_142 : tb_FL RX5 142 1 0 true := ⟨RX1, TX1, 1, cl_1, by decide, (tb_mm tw_1_9.2.2.2.2.2.2.2.2.2.2.2.2.1 rfl), rfl⟩
theorem fl_X5_183 : tb_FL RX5 183 8 1 true := ⟨RX8, TX8, 4, cl_8, by decide, (tb_mm tw_1_2.2.2.2.2.2.2.2.2.2.2.2.2.2.1 rfl), rfl⟩
theorem fl_X6_11 : tb_FL RX6 11 6 4 true := ⟨RX6, TX6, 9, cl_6, by decide, (tb_mm tw_2_6.2.1 rfl), rfl⟩
theorem ff_X6_11 : tb_FF RX6 11 6 4 := ⟨RX6, TX6, 9, cl_6, by decide, (tb_mm tw_2_6.2.1 rfl), rfl, rfl⟩
theorem fl_X6_15 : tb_FL RX6 15 6 5 true := ⟨RX6, TX6, 9, cl_6, by decide, (tb_mm tw_2_6.2.2.1 rfl), rfl⟩
theorem ff_X6_15 : tb_FF RX6 15 6 5 := ⟨RX6, TX6, 9, cl_6, by decide, (tb_mm tw_2_6.2.2.1 rfl), rfl, rfl⟩
theorem fl_X6_18 : tb_FL RX6 18 6 6 true := ⟨RX6, TX6, 9, cl_6, by decide, (tb_mm tw_2_6.2.2.2.1 rfl), rfl⟩
theorem ff_X6_18 : tb_FF RX6 18 6 6 := ⟨RX6, TX6, 9, cl_6, by decide, (tb_mm tw_2_6.2.2.2.1 rfl), rfl, rfl⟩
theorem fl_X6_21 : tb_FL RX6 21 6 7 false := ⟨RX6, TX6, 9, cl_6, by decide, (tb_mm tw_2_6.2.2.2.2.1 rfl), rfl⟩
theorem fl_X6_25 : tb_FL RX6 25 6 8 false := ⟨RX6, TX6, 9, cl_6, by decide, (tb_mm tw_2_6.2.2.2.2.2.1 rfl), rfl⟩
theorem fl_X6_28 : tb_FL RX6 28 6 0 true := ⟨RX6, TX6, 9, cl_6, by decide, (tb_mm tw_2_5.2.2.2.2.2.2.2.2.2.1 rfl), rfl⟩
theorem ff_X6_28 : tb_FF RX6 28 6 0 := ⟨RX6, TX6, 9, cl_6, by decide, (tb_mm tw_2_5.2.2.2.2.2.2.2.2.2.1 rfl), rfl, rfl⟩
theorem fl_X6_32 : tb_FL RX6 32 0 0 true := ⟨RX0, TX0, 7, cl_0, by decide, (tb_mm tw_1_10.2.2.2.2.2.2.2.1 rfl), rfl⟩
theorem fl_X6_38 : tb_FL RX6 38 6 1 true := ⟨RX6, TX6, 9, cl_6, by decide, (tb_mm tw_2_5.2.2.2.2.2.2.2.2.2.2.1 rfl), rfl⟩
theorem ff_X6_38 : tb_FF RX6 38 6 1 := ⟨RX6, TX6, 9, cl_6, by decide, (tb_mm tw_2_5.2.2.2.2.2.2.2.2.2.2.1 rfl), rfl, rfl⟩
theorem fl_X6_39 : tb_FL RX6 39 6 2 true := ⟨RX6, TX6, 9, cl_6, by decide, (tb_mm tw_2_5.2.2.2.2.2.2.2.2.2.2.2 rfl), rfl⟩
theorem ff_X6_39 : tb_FF RX6 39 6 2 := ⟨RX6, TX6, 9, cl_6, by decide, (tb_mm tw_2_5.2.2.2.2.2.2.2.2.2.2.2 rfl), rfl, rfl⟩
theorem fl_X6_43 : tb_FL RX6 43 6 3 true := ⟨RX6, TX6, 9, cl_6, by decide, (tb_mm tw_2_6.1 rfl), rfl⟩
theorem ff_X6_43 : tb_FF RX6 43 6 3 := ⟨RX6, TX6, 9, cl_6, by decide, (tb_mm tw_2_6.1 rfl), rfl, rfl⟩
theorem fl_X6_65 : tb_FL RX6 65 0 1 true := ⟨RX0, TX0, 7, cl_0, by decide, (tb_mm tw_1_10.2.2.2.2.2.2.2.2.2.2.2.1 rfl), rfl⟩
theorem fl_X6_74 : tb_FL RX6 74 9 2 true := ⟨RX9, TX9, 13, cl_9, by decide, (tb_mm tw_1_5.2.2.2.2.2.2.2.2.2.2.1 rfl), rfl⟩
theorem fl_X6_80 : tb_FL RX6 80 9 1 true := ⟨RX9, TX9, 13, cl_9, by decide, (tb_mm tw_1_5.2.2.2.2.1 rfl), rfl⟩
theorem fl_X6_100 : tb_FL RX6 100 1 0 true := ⟨RX1, TX1, 1, cl_1, by decide, (tb_mm tw_1_9.2.2.2.2.2.2.2.2.2.1 rfl), rfl⟩
theorem fl_X6_103 : tb_FL RX6 103 3 1 true := ⟨RX3, TX3, 2, cl_3, by decide, (tb_mm tw_1_12.2.2.2.2.2.2.2.2.2.2.2 rfl), rfl⟩
theorem fl_X7_9 : tb_FL RX7 9 7 0 true := ⟨RX7, TX7, 5, cl_7, by decide, (tb_mm tw_2_4.2.2.2.2.2.1 rfl), rfl⟩
theorem ff_X7_9 : tb_FF RX7 9 7 0 := ⟨RX7, TX7, 5, cl_7, by decide, (tb_mm tw_2_4.2.2.2.2.2.1 rfl), rfl, rfl⟩
theorem fl_X7_15 : tb_FL RX7 15 0 0 true := ⟨RX0, TX0, 7, cl_0, by decide, (tb_mm tw_1_10.2.2.2.2.2.1 rfl), rfl⟩
theorem fl_X7_21 : tb_FL RX7 21 7 1 true := ⟨RX7, TX7, 5, cl_7, by decide, (tb_mm tw_2_4.2.2.2.2.2.2.1 rfl), rfl⟩
theorem ff_X7_21 : tb_FF RX7 21 7 1 := ⟨RX7, TX7, 5, cl_7, by decide, (tb_mm tw_2_4.2.2.2.2.2.2.1 rfl), rfl, rfl⟩
theorem fl_X7_22 : tb_FL RX7 22 7 2 true := ⟨RX7, TX7, 5, cl_7, by decide, (tb_mm tw_2_4.2.2.2.2.2.2.2.1 rfl), rfl⟩
theorem ff_X7_22 : tb_FF RX7 22 7 2 := ⟨RX7, TX7, 5, cl_7, by decide, (tb_mm tw_2_4.2.2.2.2.2.2.2.1 rfl), rfl, rfl⟩
theorem fl_X7_26 : tb_FL RX7 26 7 3 true := ⟨RX7, TX7, 5, cl_7, by decide, (tb_mm tw_2_4.2.2.2.2.2.2.2.2.1 rfl), rfl⟩
theorem ff_X7_26 : tb_FF RX7 26 7 3 := ⟨RX7, TX7, 5, cl_7, by decide, (tb_mm tw_2_4.2.2.2.2.2.2.2.2.1 rfl), rfl, rfl⟩
theorem fl_X7_30 : tb_FL RX7 30 7 4 true := ⟨RX7, TX7, 5, cl_7, by decide, (tb_mm tw_2_4.2.2.2.2.2.2.2.2.2.1 rfl), rfl⟩
theorem ff_X7_30 : tb_FF RX7 30 7 4 := ⟨RX7, TX7, 5, cl_7, by decide, (tb_mm tw_2_4.2.2.2.2.2.2.2.2.2.1 rfl), rfl, rfl⟩
theorem fl_X7_49 : tb_FL RX7 49 9 4 true := ⟨RX9, TX9, 13, cl_9, by decide, (tb_mm tw_1_6.1 rfl), rfl⟩
theorem fl_X7_56 : tb_FL RX7 56 0 1 true := ⟨RX0, TX0, 7, cl_0, by decide, (tb_mm tw_1_10.2.2.2.2.2.2.2.2.2.2.2.2.2.1 rfl), rfl⟩
theorem fl_X7_60 : tb_FL RX7 60 1 0 true := ⟨RX1, TX1, 1, cl_1, by decide, (tb_mm tw_1_9.2.2.2.2.2.2.2.2.2.2.1 rfl), rfl⟩
theorem fl_X7_101 : tb_FL RX7 101 9 8 true := ⟨RX9, TX9, 13, cl_9, by decide, (tb_mm tw_1_6.2.2.2.2.2.2.2.2.2.2.1 rfl), rfl⟩
theorem fl_X7_108 : tb_FL RX7 108 9 11 true := ⟨RX9, TX9, 13, cl_9, by decide, (tb_mm tw_1_6.2.2.2.2.2.2.2.2.2.2.2.2.2.2.1 rfl), rfl⟩
theorem fl_X8_9 : tb_FL RX8 9 8 0 true := ⟨RX8, TX8, 4, cl_8, by decide, (tb_mm tw_1_2.2.2.2.2.2.2.2.1 rfl), rfl⟩
theorem ff_X8_9 : tb_FF RX8 9 8 0 := ⟨RX8, TX8, 4, cl_8, by decide, (tb_mm tw_1_2.2.2.2.2.2.2.2.1 rfl), rfl, rfl⟩
theorem fl_X8_15 : tb_FL RX8 15 8 1 true := ⟨RX8, TX8, 4, cl_8, by decide, (tb_mm tw_1_2.2.2.2.2.2.2.2.2.2.1 rfl), rfl⟩
theorem ff_X8_15 : tb_FF RX8 15 8 1 := ⟨RX8, TX8, 4, cl_8, by decide, (tb_mm tw_1_2.2.2.2.2.2.2.2.2.2.1 rfl), rfl, rfl⟩
theorem fl_X8_18 : tb_FL RX8 18 8 2 true := ⟨RX8, TX8, 4, cl_8, by decide, (tb_mm tw_1_2.2.2.2.2.2.2.2.2.2.2.2.2.2.2 rfl), rfl⟩
theorem ff_X8_18 : tb_FF RX8 18 8 2 := ⟨RX8, TX8, 4, cl_8, by decide, (tb_mm tw_1_2.2.2.2.2.2.2.2.2.2.2.2.2.2.2 rfl), rfl, rfl⟩
theorem fl_X8_21 : tb_FL RX8 21 8 3 false := ⟨RX8, TX8, 4, cl_8, by decide, (tb_mm tw_1_3.2.2.2.1 rfl), rfl⟩
theorem fl_X9_11 : tb_FL RX9 11 9 1 true := ⟨RX9, TX9, 13, cl_9, by decide, (tb_mm tw_1_5.1 rfl), rfl⟩
theorem ff_X9_11 : tb_FF RX9 11 9 1 := ⟨RX9, TX9, 13, cl_9, by decide, (tb_mm tw_1_5.1 rfl), rfl, rfl⟩
theorem fl_X9_15 : tb_FL RX9 15 9 2 true := ⟨RX9, TX9, 13, cl_9, by decide, (tb_mm tw_1_5.2.2.2.2.2.2.2.1 rfl), rfl⟩
theorem ff_X9_15 : tb_FF RX9 15 9 2 := ⟨RX9, TX9, 13, cl_9, by decide, (tb_mm tw_1_5.2.2.2.2.2.2.2.1 rfl), rfl, rfl⟩
theorem fl_X9_18 : tb_FL RX9 18 9 3 true := ⟨RX9, TX9, 13, cl_9, by decide, (tb_mm tw_1_5.2.2.2.2.2.2.2.2.2.2.2.2.2.2.1 rfl), rfl⟩
theorem ff_X9_18 : tb_FF RX9 18 9 3 := ⟨RX9, TX9, 13, cl_9, by decide, (tb_mm tw_1_5.2.2.2.2.2.2.2.2.2.2.2.2.2.2.1 rfl), rfl, rfl⟩
theorem fl_X9_21 : tb_FL RX9 21 9 4 true := ⟨RX9, TX9, 13, cl_9, by decide, (tb_mm tw_1_5.2.2.2.2.2.2.2.2.2.2.2.2.2.2.2 rfl), rfl⟩
theorem ff_X9_21 : tb_FF RX9 21 9 4 := ⟨RX9, TX9, 13, cl_9, by decide, (tb_mm tw_1_5.2.2.2.2.2.2.2.2.2.2.2.2.2.2.2 rfl), rfl, rfl⟩
theorem fl_X9_24 : tb_FL RX9 24 9 5 true := ⟨RX9, TX9, 13, cl_9, by decide, (tb_mm tw_1_6.2.2.1 rfl), rfl⟩
theorem ff_X9_24 : tb_FF RX9 24 9 5 := ⟨RX9, TX9, 13, cl_9, by decide, (tb_mm tw_1_6.2.2.1 rfl), rfl, rfl⟩
theorem fl_X9_27 : tb_FL RX9 27 9 6 true := ⟨RX9, TX9, 13, cl_9, by decide, (tb_mm tw_1_6.2.2.2.2.1 rfl), rfl⟩
theorem ff_X9_27 : tb_FF RX9 27 9 6 := ⟨RX9, TX9, 13, cl_9, by decide, (tb_mm tw_1_6.2.2.2.2.1 rfl), rfl, rfl⟩
theorem fl_X9_30 : tb_FL RX9 30 9 7 true := ⟨RX9, TX9, 13, cl_9, by decide, (tb_mm tw_1_6.2.2.2.2.2.2.1 rfl), rfl⟩
theorem ff_X9_30 : tb_FF RX9 30 9 7 := ⟨RX9, TX9, 13, cl_9, by decide, (tb_mm tw_1_6.2.2.2.2.2.2.1 rfl), rfl, rfl⟩
theorem fl_X9_33 : tb_FL RX9 33 9 8 true := ⟨RX9, TX9, 13, cl_9, by decide, (tb_mm tw_1_6.2.2.2.2.2.2.2.2.2.1 rfl), rfl⟩
theorem ff_X9_33 : tb_FF RX9 33 9 8 := ⟨RX9, TX9, 13, cl_9, by decide, (tb_mm tw_1_6.2.2.2.2.2.2.2.2.2.1 rfl), rfl, rfl⟩
theorem fl_X9_36 : tb_FL RX9 36 9 9 true := ⟨RX9, TX9, 13, cl_9, by decide, (tb_mm tw_1_6.2.2.2.2.2.2.2.2.2.2.2.1 rfl), rfl⟩
theorem ff_X9_36 : tb_FF RX9 36 9 9 := ⟨RX9, TX9, 13, cl_9, by decide, (tb_mm tw_1_6.2.2.2.2.2.2.2.2.2.2.2.1 rfl), rfl, rfl⟩
theorem fl_X9_39 : tb_FL RX9 39 9 10 true := ⟨RX9, TX9, 13, cl_9, by decide, (tb_mm tw_1_6.2.2.2.2.2.2.2.2.2.2.2.2.1 rfl), rfl⟩
theorem ff_X9_39 : tb_FF RX9 39 9 10 := ⟨RX9, TX9, 13, cl_9, by decide, (tb_mm tw_1_6.2.2.2.2.2.2.2.2.2.2.2.2.1 rfl), rfl, rfl⟩
theorem fl_X9_42 : tb_FL RX9 42 9 11 true := ⟨RX9, TX9, 13, cl_9, by decide, (tb_mm tw_1_6.2.2.2.2.2.2.2.2.2.2.2.2.2.1 rfl), rfl⟩
theorem ff_X9_42 : tb_FF RX9 42 9 11 := ⟨RX9, TX9, 13, cl_9, by decide, (tb_mm tw_1_6.2.2.2.2.2.2.2.2.2.2.2.2.2.1 rfl), rfl, rfl⟩
theorem fl_X9_45 : tb_FL RX9 45 9 12 false := ⟨RX9, TX9, 13, cl_9, by decide, (tb_mm tw_1_6.2.2.2.2.2.2.2.2.2.2.2.2.2.2.2 rfl), rfl⟩
theorem fl_X9_49 : tb_FL RX9 49 9 0 true := ⟨RX9, TX9, 13, cl_9, by decide, (tb_mm tw_1_4.2.2.2.2.2.2.2.2.2.2.2.2.2.1 rfl), rfl⟩
theorem ff_X9_49 : tb_FF RX9 49 9 0 := ⟨RX9, TX9, 13, cl_9, by decide, (tb_mm tw_1_4.2.2.2.2.2.2.2.2.2.2.2.2.2.1 rfl), rfl, rfl⟩
theorem fl_X9_69 : tb_FL RX9 69 8 1 true := ⟨RX8, TX8, 4, cl_8, by decide, (tb_mm tw_1_2.2.2.2.2.2.2.2.2.2.2.1 rfl), rfl⟩
theorem fl_X9_70 : tb_FL RX9 70 8 2 true := ⟨RX8, TX8, 4, cl_8, by decide, (tb_mm tw_1_3.2.1 rfl), rfl⟩
theorem fl_X10_11 : tb_FL RX10 11 10 1 true := ⟨RX10, TX10, 12, cl_10, by decide, (tb_mm tw_2_0.2.2.2.2.2.2.2.1 rfl), rfl⟩
theorem ff_X10_11 : tb_FF RX10 11 10 1 := ⟨RX10, TX10, 12, cl_10, by decide, (tb_mm tw_2_0.2.2.2.2.2.2.2.1 rfl), rfl, rfl⟩
theorem fl_X10_15 : tb_FL RX10 15 10 2 true := ⟨RX10, TX10, 12, cl_10, by decide, (tb_mm tw_2_0.2.2.2.2.2.2.2.2.1 rfl), rfl⟩
theorem ff_X10_15 : tb_FF RX10 15 10 2 := ⟨RX10, TX10, 12, cl_10, by decide, (tb_mm tw_2_0.2.2.2.2.2.2.2.2.1 rfl), rfl, rfl⟩
theorem fl_X10_18 : tb_FL RX10 18 10 3 true := ⟨RX10, TX10, 12, cl_10, by decide, (tb_mm tw_2_0.2.2.2.2.2.2.2.2.2.1 rfl), rfl⟩
theorem ff_X10_18 : tb_FF RX10 18 10 3 := ⟨RX10, TX10, 12, cl_10, by decide, (tb_mm tw_2_0.2.2.2.2.2.2.2.2.2.1 rfl), rfl, rfl⟩
theorem fl_X10_21 : tb_FL RX10 21 10 4 true := ⟨RX10, TX10, 12, cl_10, by decide, (tb_mm tw_2_0.2.2.2.2.2.2.2.2.2.2.1 rfl), rfl⟩
theorem ff_X10_21 : tb_FF RX10 21 10 4 := ⟨RX10, TX10, 12, cl_10, by decide, (tb_mm tw_2_0.2.2.2.2.2.2.2.2.2.2.1 rfl), rfl, rfl⟩
theorem fl_X10_24 : tb_FL RX10 24 10 5 true := ⟨RX10, TX10, 12, cl_10, by decide, (tb_mm tw_2_0.2.2.2.2.2.2.2.2.2.2.2.1 rfl), rfl⟩
theorem ff_X10_24 : tb_FF RX10 24 10 5 := ⟨RX10, TX10, 12, cl_10, by decide, (tb_mm tw_2_0.2.2.2.2.2.2.2.2.2.2.2.1 rfl), rfl, rfl⟩
theorem fl_X10_27 : tb_FL RX10 27 10 6 true := ⟨RX10, TX10, 12, cl_10, by decide, (tb_mm tw_2_0.2.2.2.2.2.2.2.2.2.2.2.2.1 rfl), rfl⟩
theorem ff_X10_27 : tb_FF RX10 27 10 6 := ⟨RX10, TX10, 12, cl_10, by decide, (tb_mm tw_2_0.2.2.2.2.2.2.2.2.2.2.2.2.1 rfl), rfl, rfl⟩
theorem fl_X10_30 : tb_FL RX10 30 10 7 true := ⟨RX10, TX10, 12, cl_10, by decide, (tb_mm tw_2_0.2.2.2.2.2.2.2.2.2.2.2.2.2.1 rfl), rfl⟩
theorem ff_X10_30 : tb_FF RX10 30 10 7 := ⟨RX10, TX10, 12, cl_10, by decide, (tb_mm tw_2_0.2.2.2.2.2.2.2.2.2.2.2.2.2.1 rfl), rfl, rfl⟩
theorem fl_X10_33 : tb_FL RX10 33 10 8 true := ⟨RX10, TX10, 12, cl_10, by decide, (tb_mm tw_2_0.2.2.2.2.2.2.2.2.2.2.2.2.2.2.1 rfl), rfl⟩
theorem ff_X10_33 : tb_FF RX10 33 10 8 := ⟨RX10, TX10, 12, cl_10, by decide, (tb_mm tw_2_0.2.2.2.2.2.2.2.2.2.2.2.2.2.2.1 rfl), rfl, rfl⟩
theorem fl_X10_36 : tb_FL RX10 36 10 9 true := ⟨RX10, TX10, 12, cl_10, by decide, (tb_mm tw_2_0.2.2.2.2.2.2.2.2.2.2.2.2.2.2.2 rfl), rfl⟩
theorem ff_X10_36 : tb_FF RX10 36 10 9 := ⟨RX10, TX10, 12, cl_10, by decide, (tb_mm tw_2_0.2.2.2.2.2.2.2.2.2.2.2.2.2.2.2 rfl), rfl, rfl⟩
theorem fl_X10_39 : tb_FL RX10 39 10 10 false := ⟨RX10, TX10, 12, cl_10, by decide, (tb_mm tw_2_1.1 rfl), rfl⟩
theorem fl_X10_43 : tb_FL RX10 43 10 11 false := ⟨RX10, TX10, 12, cl_10, by decide, (tb_mm tw_2_1.2.1 rfl), rfl⟩
theorem fl_X10_46 : tb_FL RX10 46 10 0 true := ⟨RX10, TX10, 12, cl_10, by decide, (tb_mm tw_2_0.2.2.2.2.2.2.1 rfl), rfl⟩
theorem ff_X10_46 : tb_FF RX10 46 10 0 := ⟨RX10, TX10, 12, cl_10, by decide, (tb_mm tw_2_0.2.2.2.2.2.2.1 rfl), rfl, rfl⟩
theorem fl_X10_84 : tb_FL RX10 84 9 1 true := ⟨RX9, TX9, 13, cl_9, by decide, (tb_mm tw_1_5.2.2.2.2.2.1 rfl), rfl⟩
theorem fl_X10_90 : tb_FL RX10 90 9 2 true := ⟨RX9, TX9, 13, cl_9, by decide, (tb_mm tw_1_5.2.2.2.2.2.2.2.2.2.2.2.2.1 rfl), rfl⟩
theorem fl_X12_9 : tb_FL RX12 9 12 0 true := ⟨RX12, TX12, 47, cl_12, by decide, (tb_mm tw_6_11.2.2.2.2.2.1 rfl), rfl⟩
theorem ff_X12_9 : tb_FF RX12 9 12 0 := ⟨RX12, TX12, 47, cl_12, by decide, (tb_mm tw_6_11.2.2.2.2.2.1 rfl), rfl, rfl⟩
theorem fl_X12_13 : tb_FL RX12 13 12 1 true := ⟨RX12, TX12, 47, cl_12, by decide, (tb_mm tw_6_11.2.2.2.2.2.2.1 rfl), rfl⟩
theorem ff_X12_13 : tb_FF RX12 13 12 1 := ⟨RX12, TX12, 47, cl_12, by decide, (tb_mm tw_6_11.2.2.2.2.2.2.1 rfl), rfl, rfl⟩
theorem fl_X12_16 : tb_FL RX12 16 12 2 true := ⟨RX12, TX12, 47, cl_12, by decide, (tb_mm tw_6_11.2.2.2.2.2.2.2.1 rfl), rfl⟩
theorem ff_X12_16 : tb_FF RX12 16 12 2 := ⟨RX12, TX12, 47, cl_12, by decide, (tb_mm tw_6_11.2.2.2.2.2.2.2.1 rfl), rfl, rfl⟩
theorem fl_X12_19 : tb_FL RX12 19 12 3 true := ⟨RX12, TX12, 47, cl_12, by decide, (tb_mm tw_6_11.2.2.2.2.2.2.2.2.1 rfl), rfl⟩
theorem ff_X12_19 : tb_FF RX12 19 12 3 := ⟨RX12, TX12, 47, cl_12, by decide, (tb_mm tw_6_11.2.2.2.2.2.2.2.2.1 rfl), rfl, rfl⟩
theorem fl_X12_22 : tb_FL RX12 22 12 4 true := ⟨RX12, TX12, 47, cl_12, by decide, (tb_mm tw_6_11.2.2.2.2.2.2.2.2.2.1 rfl), rfl⟩
theorem ff_X12_22 : tb_FF RX12 22 12 4 := ⟨RX12, TX12, 47, cl_12, by decide, (tb_mm tw_6_11.2.2.2.2.2.2.2.2.2.1 rfl), rfl, rfl⟩
theorem fl_X12_25 : tb_FL RX12 25 12 5 true := ⟨RX12, TX12, 47, cl_12, by decide, (tb_mm tw_6_11.2.2.2.2.2.2.2.2.2.2.1 rfl), rfl⟩
theorem ff_X12_25 : tb_FF RX12 25 12 5 := ⟨RX12, TX12, 47, cl_12, by decide, (tb_mm tw_6_11.2.2.2.2.2.2.2.2.2.2.1 rfl), rfl, rfl⟩
theorem fl_X12_28 : tb_FL RX12 28 12 6 true := ⟨RX12, TX12, 47, cl_12, by decide, (tb_mm tw_6_11.2.2.2.2.2.2.2.2.2.2.2.1 rfl), rfl⟩
theorem ff_X12_28 : tb_FF RX12 28 12 6 := ⟨RX12, TX12, 47, cl_12, by decide, (tb_mm tw_6_11.2.2.2.2.2.2.2.2.2.2.2.1 rfl), rfl, rfl⟩
theorem fl_X12_31 : tb_FL RX12 31 12 7 true := ⟨RX12, TX12, 47, cl_12, by decide, (tb_mm tw_6_11.2.2.2.2.2.2.2.2.2.2.2.2.1 rfl), rfl⟩
theorem ff_X12_31 : tb_FF RX12 31 12 7 := ⟨RX12, TX12, 47, cl_12, by decide, (tb_mm tw_6_11.2.2.2.2.2.2.2.2.2.2.2.2.1 rfl), rfl, rfl⟩
theorem fl_X12_34 : tb_FL RX12 34 12 18 true := ⟨RX12, TX12, 47, cl_12, by decide, (tb_mm tw_6_12.2.2.2.2.2.2.2.1 rfl), rfl⟩
theorem ff_X12_34 : tb_FF RX12 34 12 18 := ⟨RX12, TX12, 47, cl_12, by decide, (tb_mm tw_6_12.2.2.2.2.2.2.2.1 rfl), rfl, rfl⟩
theorem fl_X12_37 : tb_FL RX12 37 12 20 false := ⟨RX12, TX12, 47, cl_12, by decide, (tb_mm tw_6_12.2.2.2.2.2.2.2.2.2.1 rfl), rfl⟩
theorem fl_X12_41 : tb_FL RX12 41 12 22 true := ⟨RX12, TX12, 47, cl_12, by decide, (tb_mm tw_6_12.2.2.2.2.2.2.2.2.2.2.2.1 rfl), rfl⟩
theorem ff_X12_41 : tb_FF RX12 41 12 22 := ⟨RX12, TX12, 47, cl_12, by decide, (tb_mm tw_6_12.2.2.2.2.2.2.2.2.2.2.2.1 rfl), rfl, rfl⟩
theorem fl_X12_44 : tb_FL RX12 44 12 23 true := ⟨RX12, TX12, 47, cl_12, by decide, (tb_mm tw_6_12.2.2.2.2.2.2.2.2.2.2.2.2.1 rfl), rfl⟩
theorem ff_X12_44 : tb_FF RX12 44 12 23 := ⟨RX12, TX12, 47, cl_12, by decide, (tb_mm tw_6_12.2.2.2.2.2.2.2.2.2.2.2.2.1 rfl), rfl, rfl⟩
theorem fl_X12_47 : tb_FL RX12 47 12 24 true := ⟨RX12, TX12, 47, cl_12, by decide, (tb_mm tw_6_12.2.2.2.2.2.2.2.2.2.2.2.2.2.1 rfl), rfl⟩
theorem ff_X12_47 : tb_FF RX12 47 12 24 := ⟨RX12, TX12, 47, cl_12, by decide, (tb_mm tw_6_12.2.2.2.2.2.2.2.2.2.2.2.2.2.1 rfl), rfl, rfl⟩
theorem fl_X12_50 : tb_FL RX12 50 12 25 true := ⟨RX12, TX12, 47, cl_12, by decide, (tb_mm tw_6_12.2.2.2.2.2.2.2.2.2.2.2.2.2.2.1 rfl), rfl⟩
end
section
theorem ff_X12_50 : tb_FF RX12 50 12 25 := ⟨RX12, TX12, 47, cl_12, by decide, (tb_mm tw_6_12.2.2.2.2.2.2.2.2.2.2.2.2.2.2.1 rfl), rfl, rfl⟩
theorem fl_X12_53 : tb_FL RX12 53 12 26 true := ⟨RX12, TX12, 47, cl_12, by decide, (tb_mm tw_6_12.2.2.2.2.2.2.2.2.2.2.2.2.2.2.2 rfl), rfl⟩
theorem ff_X12_53 : tb_FF RX12 53 12 26 := ⟨RX12, TX12, 47, cl_12, by decide, (tb_mm tw_6_12.2.2.2.2.2.2.2.2.2.2.2.2.2.2.2 rfl), rfl, rfl⟩
theorem fl_X12_56 : tb_FL RX12 56 12 27 true := ⟨RX12, TX12, 47, cl_12, by decide, (tb_mm tw_6_13.1 rfl), rfl⟩
theorem ff_X12_56 : tb_FF RX12 56 12 27 := ⟨RX12, TX12, 47, cl_12, by decide, (tb_mm tw_6_13.1 rfl), rfl, rfl⟩
theorem fl_X12_59 : tb_FL RX12 59 12 28 true := ⟨RX12, TX12, 47, cl_12, by decide, (tb_mm tw_6_13.2.1 rfl), rfl⟩
theorem ff_X12_59 : tb_FF RX12 59 12 28 := ⟨RX12, TX12, 47, cl_12, by decide, (tb_mm tw_6_13.2.1 rfl), rfl, rfl⟩
theorem ff_X12_62 : tb_FF RX12 62 12 29 := ⟨RX12, TX12, 47, cl_12, by decide, (tb_mm tw_6_13.2.2.1 rfl), rfl, rfl⟩
theorem fl_X12_65 : tb_FL RX12 65 12 31 true := ⟨RX12, TX12, 47, cl_12, by decide, (tb_mm tw_6_13.2.2.2.2.1 rfl), rfl⟩
theorem ff_X12_65 : tb_FF RX12 65 12 31 := ⟨RX12, TX12, 47, cl_12, by decide, (tb_mm tw_6_13.2.2.2.2.1 rfl), rfl, rfl⟩
theorem fl_X12_68 : tb_FL RX12 68 12 8 false := ⟨RX12, TX12, 47, cl_12, by decide, (tb_mm tw_6_11.2.2.2.2.2.2.2.2.2.2.2.2.2.1 rfl), rfl⟩
theorem fl_X12_71 : tb_FL RX12 71 12 15 false := ⟨RX12, TX12, 47, cl_12, by decide, (tb_mm tw_6_12.2.2.2.2.1 rfl), rfl⟩
theorem fl_X12_82 : tb_FL RX12 82 12 17 false := ⟨RX12, TX12, 47, cl_12, by decide, (tb_mm tw_6_12.2.2.2.2.2.2.1 rfl), rfl⟩
theorem fl_X12_85 : tb_FL RX12 85 12 16 false := ⟨RX12, TX12, 47, cl_12, by decide, (tb_mm tw_6_12.2.2.2.2.2.1 rfl), rfl⟩
theorem fl_X12_92 : tb_FL RX12 92 12 21 false := ⟨RX12, TX12, 47, cl_12, by decide, (tb_mm tw_6_12.2.2.2.2.2.2.2.2.2.2.1 rfl), rfl⟩
theorem fl_X12_161 : tb_FL RX12 161 12 30 false := ⟨RX12, TX12, 47, cl_12, by decide, (tb_mm tw_6_13.2.2.2.1 rfl), rfl⟩
theorem fl_X12_192 : tb_FL RX12 192 12 32 false := ⟨RX12, TX12, 47, cl_12, by decide, (tb_mm tw_6_13.2.2.2.2.2.1 rfl), rfl⟩
theorem fl_X12_195 : tb_FL RX12 195 12 33 false := ⟨RX12, TX12, 47, cl_12, by decide, (tb_mm tw_6_13.2.2.2.2.2.2.1 rfl), rfl⟩
theorem fl_X12_208 : tb_FL RX12 208 12 34 false := ⟨RX12, TX12, 47, cl_12, by decide, (tb_mm tw_6_13.2.2.2.2.2.2.2.1 rfl), rfl⟩
theorem fl_X12_233 : tb_FL RX12 233 12 37 false := ⟨RX12, TX12, 47, cl_12, by decide, (tb_mm tw_6_13.2.2.2.2.2.2.2.2.2.2.1 rfl), rfl⟩
theorem fl_X12_243 : tb_FL RX12 243 12 35 false := ⟨RX12, TX12, 47, cl_12, by decide, (tb_mm tw_6_13.2.2.2.2.2.2.2.2.1 rfl), rfl⟩
theorem fl_X12_246 : tb_FL RX12 246 12 36 false := ⟨RX12, TX12, 47, cl_12, by decide, (tb_mm tw_6_13.2.2.2.2.2.2.2.2.2.1 rfl), rfl⟩
theorem fl_X12_249 : tb_FL RX12 249 12 40 false := ⟨RX12, TX12, 47, cl_12, by decide, (tb_mm tw_6_13.2.2.2.2.2.2.2.2.2.2.2.2.2.1 rfl), rfl⟩
theorem fl_X12_252 : tb_FL RX12 252 12 41 false := ⟨RX12, TX12, 47, cl_12, by decide, (tb_mm tw_6_13.2.2.2.2.2.2.2.2.2.2.2.2.2.2.1 rfl), rfl⟩
theorem fl_X12_255 : tb_FL RX12 255 12 39 false := ⟨RX12, TX12, 47, cl_12, by decide, (tb_mm tw_6_13.2.2.2.2.2.2.2.2.2.2.2.2.1 rfl), rfl⟩
theorem fl_X12_258 : tb_FL RX12 258 12 42 false := ⟨RX12, TX12, 47, cl_12, by decide, (tb_mm tw_6_13.2.2.2.2.2.2.2.2.2.2.2.2.2.2.2 rfl), rfl⟩
theorem fl_X12_261 : tb_FL RX12 261 12 38 false := ⟨RX12, TX12, 47, cl_12, by decide, (tb_mm tw_6_13.2.2.2.2.2.2.2.2.2.2.2.1 rfl), rfl⟩
theorem fl_X12_273 : tb_FL RX12 273 12 43 false := ⟨RX12, TX12, 47, cl_12, by decide, (tb_mm tw_6_14.1 rfl), rfl⟩
theorem fl_X12_287 : tb_FL RX12 287 12 44 false := ⟨RX12, TX12, 47, cl_12, by decide, (tb_mm tw_6_14.2.1 rfl), rfl⟩
theorem fl_X12_313 : tb_FL RX12 313 12 45 false := ⟨RX12, TX12, 47, cl_12, by decide, (tb_mm tw_6_14.2.2.1 rfl), rfl⟩
theorem fl_X12_328 : tb_FL RX12 328 12 19 false := ⟨RX12, TX12, 47, cl_12, by decide, (tb_mm tw_6_12.2.2.2.2.2.2.2.2.1 rfl), rfl⟩
theorem fl_X12_347 : tb_FL RX12 347 12 9 false := ⟨RX12, TX12, 47, cl_12, by decide, (tb_mm tw_6_11.2.2.2.2.2.2.2.2.2.2.2.2.2.2.1 rfl), rfl⟩
theorem fl_X12_350 : tb_FL RX12 350 12 14 false := ⟨RX12, TX12, 47, cl_12, by decide, (tb_mm tw_6_12.2.2.2.1 rfl), rfl⟩
theorem fl_X12_353 : tb_FL RX12 353 12 11 false := ⟨RX12, TX12, 47, cl_12, by decide, (tb_mm tw_6_12.1 rfl), rfl⟩
theorem fl_X12_356 : tb_FL RX12 356 12 10 false := ⟨RX12, TX12, 47, cl_12, by decide, (tb_mm tw_6_11.2.2.2.2.2.2.2.2.2.2.2.2.2.2.2 rfl), rfl⟩
theorem fl_X12_423 : tb_FL RX12 423 12 46 false := ⟨RX12, TX12, 47, cl_12, by decide, (tb_mm tw_6_14.2.2.2.1 rfl), rfl⟩
theorem fl_X12_433 : tb_FL RX12 433 12 12 false := ⟨RX12, TX12, 47, cl_12, by decide, (tb_mm tw_6_12.2.1 rfl), rfl⟩
theorem fl_X12_436 : tb_FL RX12 436 12 13 false := ⟨RX12, TX12, 47, cl_12, by decide, (tb_mm tw_6_12.2.2.1 rfl), rfl⟩
theorem nw_X11_7 : tb_NW RX11 7 8 4 := ⟨RX8, TX8, cl_8, (tb_mm tw_1_2.2.2.1 rfl), (tb_mm tw_1_2.2.2.2.1 rfl), (tb_mm tw_1_0.2.1 rfl)⟩
theorem nw_X11_16 : tb_NW RX11 16 0 7 := ⟨RX0, TX0, cl_0, (tb_mm tw_1_4.2.1 rfl), (tb_mm tw_1_4.2.2.1 rfl), (tb_mm tw_1_0.2.2.1 rfl)⟩
theorem nw_X11_18 : tb_NW RX11 18 9 13 := ⟨RX9, TX9, cl_9, (tb_mm tw_1_4.2.2.2.1 rfl), (tb_mm tw_1_4.2.2.2.2.1 rfl), (tb_mm tw_1_0.2.2.2.1 rfl)⟩
theorem nw_X11_23 : tb_NW RX11 23 1 1 := ⟨RX1, TX1, cl_1, (tb_mm tw_1_8.2.2.2.2.2.2.1 rfl), (tb_mm tw_1_8.2.2.2.2.2.2.2.1 rfl), (tb_mm tw_1_0.2.2.2.2.2.1 rfl)⟩
theorem nw_X11_47 : tb_NW RX11 47 3 2 := ⟨RX3, TX3, cl_3, (tb_mm tw_1_12.2.2.2.1 rfl), (tb_mm tw_1_12.2.2.2.2.1 rfl), (tb_mm tw_1_0.2.2.2.2.2.2.1 rfl)⟩
theorem nw_X11_59 : tb_NW RX11 59 2 6 := ⟨RX2, TX2, cl_2, (tb_mm tw_1_13.2.2.2.1 rfl), (tb_mm tw_1_13.2.2.2.2.1 rfl), (tb_mm tw_1_0.2.2.2.2.2.2.2.1 rfl)⟩
theorem nw_X11_66 : tb_NW RX11 66 10 12 := ⟨RX10, TX10, cl_10, (tb_mm tw_2_0.1 rfl), (tb_mm tw_2_0.2.1 rfl), (tb_mm tw_1_0.2.2.2.2.2.2.2.2.1 rfl)⟩
theorem nw_X11_73 : tb_NW RX11 73 7 5 := ⟨RX7, TX7, cl_7, (tb_mm tw_2_2.2.2.2.2.2.1 rfl), (tb_mm tw_2_2.2.2.2.2.2.2.1 rfl), (tb_mm tw_1_0.2.2.2.2.2.2.2.2.2.1 rfl)⟩
theorem nw_X11_75 : tb_NW RX11 75 4 5 := ⟨RX4, TX4, cl_4, (tb_mm tw_2_2.2.2.2.2.2.2.2.1 rfl), (tb_mm tw_2_2.2.2.2.2.2.2.2.2.1 rfl), (tb_mm tw_1_0.2.2.2.2.2.2.2.2.2.2.1 rfl)⟩
theorem nw_X11_85 : tb_NW RX11 85 6 9 := ⟨RX6, TX6, cl_6, (tb_mm tw_2_5.2.2.2.1 rfl), (tb_mm tw_2_5.2.2.2.2.1 rfl), (tb_mm tw_1_0.2.2.2.2.2.2.2.2.2.2.2.1 rfl)⟩
theorem nw_X11_98 : tb_NW RX11 98 5 11 := ⟨RX5, TX5, cl_5, (tb_mm tw_2_7.2.2.2.2.1 rfl), (tb_mm tw_2_7.2.2.2.2.2.1 rfl), (tb_mm tw_1_0.2.2.2.2.2.2.2.2.2.2.2.2.1 rfl)⟩
theorem cw_X11_122 : Cond.classLink RX11 122 "java/lang/IllegalArgumentException" ∈ tb_W := (tb_mm tw_4_12.2.2.2.2.2 rfl)
theorem cw_X11_188 : Cond.classLink RX11 188 "java/util/NoSuchElementException" ∈ tb_W := (tb_mm tw_6_0.2.2.2 rfl)
theorem cw_X0_11 : Cond.classLink RX0 11 "[[I" ∈ tb_W := (tb_mm tw_1_10.2.2.2.2.1 rfl)
theorem nw_L_8 : tb_NW RL 8 11 16 := ⟨RX11, TX11, cl_11, (tb_mm tw_1_1.2.2.2.2.2.2.1 rfl), (tb_mm tw_1_1.2.2.2.2.2.2.2.1 rfl), (tb_mm tw_1_0.1 rfl)⟩
theorem cw_L_13 : Cond.classLink RL 13 "java/lang/IllegalArgumentException" ∈ tb_W := (tb_mm tw_4_12.1 rfl)
theorem cw_L_18 : Cond.classLink RL 18 "java/util/NoSuchElementException" ∈ tb_W := (tb_mm tw_5_13.2.2.2.1 rfl)
theorem nw_L_56 : tb_NW RL 56 12 47 := ⟨RX12, TX12, cl_12, (tb_mm tw_6_10.2.2.2.2.2.2.2.2.2.2.2.2.2 rfl), (tb_mm tw_6_11.1 rfl), (tb_mm tw_1_0.2.2.2.2.2.2.2.2.2.2.2.2.2 rfl)⟩
theorem wk_max2 : Cond.static Lib.Math.max.name ∈ tb_W := (tb_mm tw_3_1.2.1 rfl)
theorem wk_min2 : Cond.static Lib.Math.min.name ∈ tb_W := (tb_mm tw_4_9.2.2.2.2.1 rfl)
theorem wk_math : Cond.initialized "java/lang/Math" ∈ tb_W := (tb_mm tw_1_1.2.1 rfl)
theorem wk_max4 : Cond.code Lib.Math.max.name Lib.Math.max.code 2 (some .int) ∈ tb_W := (tb_mm tw_3_1.2.2.1 rfl)
theorem wk_min4 : Cond.code Lib.Math.min.name Lib.Math.min.code 2 (some .int) ∈ tb_W := (tb_mm tw_4_9.2.2.2.2.2.1 rfl)
theorem wk_copy2 : Cond.native arraycopyName ∈ tb_W := (tb_mm tw_2_14.2.2.2.2.2.2.2.2.2.2.2.2.2.2.2 rfl)
theorem wk_copy3 : Cond.static arraycopyName ∈ tb_W := (tb_mm tw_2_14.2.2.2.2.2.2.2.2.2.2.2.2.2.2.1 rfl)
theorem wk_copy4 : Cond.initialized "java/lang/System" ∈ tb_W := (tb_mm tw_1_1.1 rfl)
theorem wk_obj2 : Cond.instanceMethod Lib.objectInit ∈ tb_W := (tb_mm tw_1_2.1 rfl)
theorem wk_obj3 : Cond.code Lib.objectInit ⟨#[0xb1]⟩ 1 none ∈ tb_W := (tb_mm tw_1_2.2.1 rfl)
theorem wk_arr_int : Cond.arrayClass .int ∈ tb_W := (tb_mm tw_1_4.1 rfl)
theorem wk_arr_long : Cond.arrayClass .long ∈ tb_W := (tb_mm tw_9_5.2.2.2.2.2.2.2.2.2.2 rfl)
theorem ml_X11_1 : Cond.methodLink RX11 1 Lib.objectInit ∈ tb_W := (tb_mm tw_1_1.2.2.2.2.2.2.2.2.2.2.2 rfl)
theorem il_X11_20 : tb_IL RX11 20 M_X9_init 1 := ⟨(tb_mm tw_1_4.2.2.2.2.2.1 rfl), (tb_mm tw_1_4.2.2.2.2.2.2.1 rfl), rfl, rfl, cd_X9_init⟩
theorem il_X11_25 : tb_IL RX11 25 M_X1_init 0 := ⟨(tb_mm tw_1_8.2.2.2.2.2.2.2.2 rfl), (tb_mm tw_1_9.1 rfl), rfl, rfl, cd_X1_init⟩
theorem il_X11_26 : tb_IL RX11 26 M_X0_init 2 := ⟨(tb_mm tw_1_10.1 rfl), (tb_mm tw_1_10.2.1 rfl), rfl, rfl, cd_X0_init⟩
theorem il_X11_52 : tb_IL RX11 52 M_X3_init 1 := ⟨(tb_mm tw_1_12.2.2.2.2.2.1 rfl), (tb_mm tw_1_12.2.2.2.2.2.2.1 rfl), rfl, rfl, cd_X3_init⟩
theorem il_X11_61 : tb_IL RX11 61 M_X2_init 1 := ⟨(tb_mm tw_1_13.2.2.2.2.2.1 rfl), (tb_mm tw_1_13.2.2.2.2.2.2.1 rfl), rfl, rfl, cd_X2_init⟩
theorem il_X11_68 : tb_IL RX11 68 M_X10_init 1 := ⟨(tb_mm tw_2_0.2.2.1 rfl), (tb_mm tw_2_0.2.2.2.1 rfl), rfl, rfl, cd_X10_init⟩
theorem il_X11_77 : tb_IL RX11 77 M_X4_init 1 := ⟨(tb_mm tw_2_2.2.2.2.2.2.2.2.2.2 rfl), (tb_mm tw_2_3.1 rfl), rfl, rfl, cd_X4_init⟩
theorem il_X11_78 : tb_IL RX11 78 M_X7_init 4 := ⟨(tb_mm tw_2_4.2.1 rfl), (tb_mm tw_2_4.2.2.1 rfl), rfl, rfl, cd_X7_init⟩
theorem il_X11_87 : tb_IL RX11 87 M_X6_init 3 := ⟨(tb_mm tw_2_5.2.2.2.2.2.1 rfl), (tb_mm tw_2_5.2.2.2.2.2.2.1 rfl), rfl, rfl, cd_X6_init⟩
theorem il_X11_100 : tb_IL RX11 100 M_X5_init 3 := ⟨(tb_mm tw_2_7.2.2.2.2.2.2.1 rfl), (tb_mm tw_2_7.2.2.2.2.2.2.2.1 rfl), rfl, rfl, cd_X5_init⟩
theorem vl_X11_118 : tb_VL RX11 118 M_X11_tapeNumber 1 11 := ⟨(tb_mm tw_2_13.2.2.2.2.1 rfl), (tb_mm tw_2_13.2.2.2.2.2.2.1 rfl), (tb_mp tp_1 (.head _) rfl), cd_X11_tapeNumber, by decide, TX11, 16, rfl⟩
theorem vl_X11_129 : tb_VL RX11 129 M_X11_setAside 0 11 := ⟨(tb_mm tw_5_1.2.1 rfl), (tb_mm tw_5_1.2.2.2.1 rfl), (tb_mp tp_3 (.tail _ (.tail _ (.tail _ (.tail _ (.tail _ (.tail _ (.tail _ (.tail _ (.tail _ (.tail _ (.tail _ (.tail _ (.tail _ (.tail _ (.tail _ (.head _)))))))))))))))) rfl), cd_X11_setAside, by decide, TX11, 16, rfl⟩
theorem vl_X11_132 : tb_VL RX11 132 M_X11_startAnew 0 11 := ⟨(tb_mm tw_5_2.2.2.2.1 rfl), (tb_mm tw_5_2.2.2.2.2.2.1 rfl), (tb_mp tp_4 (.head _) rfl), cd_X11_startAnew, by decide, TX11, 16, rfl⟩
theorem vl_X11_135 : tb_VL RX11 135 M_X5_readBank 1 5 := ⟨(tb_mm tw_5_3.2.2.2.1 rfl), (tb_mm tw_5_3.2.2.2.2.1 rfl), (tb_mm tw_5_3.2.2.2.2.2.1 rfl), cd_X5_readBank, by decide, TX5, 11, rfl⟩
theorem vl_X11_139 : tb_VL RX11 139 M_X11_takeBack 0 11 := ⟨(tb_mm tw_5_12.2.2.2.2.1 rfl), (tb_mm tw_5_12.2.2.2.2.2.2.1 rfl), (tb_mp tp_5 (.tail _ (.tail _ (.head _))) rfl), cd_X11_takeBack, by decide, TX11, 16, rfl⟩
theorem vl_X11_145 : tb_VL RX11 145 M_X5_faultPlace 0 5 := ⟨(tb_mm tw_5_12.2.2.2.2.2.2.2.2.1 rfl), (tb_mm tw_5_12.2.2.2.2.2.2.2.2.2.1 rfl), (tb_mm tw_5_12.2.2.2.2.2.2.2.2.2.2.1 rfl), cd_X5_faultPlace, by decide, TX5, 11, rfl⟩
theorem vl_X11_148 : tb_VL RX11 148 M_X0_forgetActs 0 0 := ⟨(tb_mm tw_5_12.2.2.2.2.2.2.2.2.2.2.2.2.1 rfl), (tb_mm tw_5_12.2.2.2.2.2.2.2.2.2.2.2.2.2.1 rfl), (tb_mm tw_5_12.2.2.2.2.2.2.2.2.2.2.2.2.2.2.1 rfl), cd_X0_forgetActs, by decide, TX0, 7, rfl⟩
theorem vl_X11_151 : tb_VL RX11 151 M_X8_takeFrom 1 8 := ⟨(tb_mm tw_5_1.2.2.2.2.2.1 rfl), (tb_mm tw_5_1.2.2.2.2.2.2.1 rfl), (tb_mm tw_5_1.2.2.2.2.2.2.2.1 rfl), cd_X8_takeFrom, by decide, TX8, 4, rfl⟩
theorem vl_X11_154 : tb_VL RX11 154 M_X9_takeFrom 1 9 := ⟨(tb_mm tw_5_2.2.1 rfl), (tb_mm tw_4_11.1 rfl), (tb_mm tw_4_11.2.1 rfl), cd_X9_takeFrom, by decide, TX9, 13, rfl⟩
theorem vl_X11_159 : tb_VL RX11 159 M_X1_takeFrom 1 1 := ⟨(tb_mm tw_5_2.2.2.1 rfl), (tb_mm tw_4_11.2.2.2.2.2.1 rfl), (tb_mm tw_4_11.2.2.2.2.2.2.1 rfl), cd_X1_takeFrom, by decide, TX1, 1, rfl⟩
theorem vl_X11_162 : tb_VL RX11 162 M_X8_empty 0 8 := ⟨(tb_mm tw_5_2.2.2.2.2.2.2.2.1 rfl), (tb_mm tw_5_2.2.2.2.2.2.2.2.2.1 rfl), (tb_mm tw_5_2.2.2.2.2.2.2.2.2.2.1 rfl), cd_X8_empty, by decide, TX8, 4, rfl⟩
theorem vl_X11_165 : tb_VL RX11 165 M_X9_empty 0 9 := ⟨(tb_mm tw_5_2.2.2.2.2.2.2.2.2.2.2.2.1 rfl), (tb_mm tw_5_2.2.2.2.2.2.2.2.2.2.2.2.2.1 rfl), (tb_mm tw_5_2.2.2.2.2.2.2.2.2.2.2.2.2.2.1 rfl), cd_X9_empty, by decide, TX9, 13, rfl⟩
theorem vl_X11_166 : tb_VL RX11 166 M_X1_empty 0 1 := ⟨(tb_mm tw_5_2.2.2.2.2.2.2.2.2.2.2.2.2.2.2.2 rfl), (tb_mm tw_5_3.1 rfl), (tb_mm tw_5_3.2.1 rfl), cd_X1_empty, by decide, TX1, 1, rfl⟩
theorem vl_X11_176 : tb_VL RX11 176 M_X9_unlikeShapes 0 9 := ⟨(tb_mm tw_5_13.2.2.2.2.2.2.2.2.1 rfl), (tb_mm tw_5_13.2.2.2.2.2.2.2.2.2.1 rfl), (tb_mm tw_5_13.2.2.2.2.2.2.2.2.2.2.1 rfl), cd_X9_unlikeShapes, by decide, TX9, 13, rfl⟩
theorem vl_X11_179 : tb_VL RX11 179 M_X7_meetings 0 7 := ⟨(tb_mm tw_5_13.2.2.2.2.2.2.2.2.2.2.2.2.1 rfl), (tb_mm tw_5_13.2.2.2.2.2.2.2.2.2.2.2.2.2.1 rfl), (tb_mm tw_5_13.2.2.2.2.2.2.2.2.2.2.2.2.2.2.1 rfl), cd_X7_meetings, by decide, TX7, 5, rfl⟩
theorem vl_X11_182 : tb_VL RX11 182 M_X7_firstMeeting 0 7 := ⟨(tb_mm tw_5_14.2.2.2.2.2.2.2.2.2.2.2.2.2.2.2 rfl), (tb_mm tw_6_0.1 rfl), (tb_mm tw_6_0.2.1 rfl), cd_X7_firstMeeting, by decide, TX7, 5, rfl⟩
theorem vl_X11_193 : tb_VL RX11 193 M_X8_has 1 8 := ⟨(tb_mm tw_3_3.2.2.2.2.2.2.2.1 rfl), (tb_mm tw_3_0.2.2.2.2.2.2.2.2.2.1 rfl), (tb_mm tw_3_0.2.2.2.2.2.2.2.2.2.2.1 rfl), cd_X8_has, by decide, TX8, 4, rfl⟩
theorem vl_X11_208 : tb_VL RX11 208 M_X7_fits 1 7 := ⟨(tb_mm tw_6_1.2.2.2.2.2.2.2.1 rfl), (tb_mm tw_6_1.2.2.2.2.2.2.2.2.1 rfl), (tb_mm tw_6_1.2.2.2.2.2.2.2.2.2.1 rfl), cd_X7_fits, by decide, TX7, 5, rfl⟩
theorem vl_X11_211 : tb_VL RX11 211 M_X7_leastFit 1 7 := ⟨(tb_mm tw_6_2.2.2.2.2.2.2.2.2.2.2.2.2.1 rfl), (tb_mm tw_6_2.2.2.2.2.2.2.2.2.2.2.2.2.2.1 rfl), (tb_mm tw_6_2.2.2.2.2.2.2.2.2.2.2.2.2.2.2.1 rfl), cd_X7_leastFit, by decide, TX7, 5, rfl⟩
theorem vl_X11_216 : tb_VL RX11 216 M_X11_needTerm 1 11 := ⟨(tb_mm tw_6_3.2.2.2.2.2.2.2.1 rfl), (tb_mm tw_6_3.2.2.2.2.2.2.2.2.2.1 rfl), (tb_mp tp_5 (.tail _ (.tail _ (.tail _ (.tail _ (.tail _ (.tail _ (.head _))))))) rfl), cd_X11_needTerm, by decide, TX11, 16, rfl⟩
theorem vl_X11_219 : tb_VL RX11 219 M_X9_isVariable 1 9 := ⟨(tb_mm tw_6_3.2.2.2.2.2.2.2.2.2.2.2.1 rfl), (tb_mm tw_3_5.2.2.1 rfl), (tb_mm tw_3_5.2.2.2.1 rfl), cd_X9_isVariable, by decide, TX9, 13, rfl⟩
theorem vl_X11_228 : tb_VL RX11 228 M_X9_shared 1 9 := ⟨(tb_mm tw_6_3.2.2.2.2.2.2.2.2.2.2.2.2.1 rfl), (tb_mm tw_6_3.2.2.2.2.2.2.2.2.2.2.2.2.2 rfl), (tb_mm tw_6_4.1 rfl), cd_X9_shared, by decide, TX9, 13, rfl⟩
theorem vl_X11_238 : tb_VL RX11 238 M_X9_users 1 9 := ⟨(tb_mm tw_6_4.2.2.2.2.2.2.1 rfl), (tb_mm tw_6_4.2.2.2.2.2.2.2.1 rfl), (tb_mm tw_6_4.2.2.2.2.2.2.2.2.1 rfl), cd_X9_users, by decide, TX9, 13, rfl⟩
theorem vl_X11_241 : tb_VL RX11 241 M_X1_entryOf 1 1 := ⟨(tb_mm tw_4_7.2.2.2.1 rfl), (tb_mm tw_4_7.2.2.2.2.1 rfl), (tb_mm tw_4_7.2.2.2.2.2.1 rfl), cd_X1_entryOf, by decide, TX1, 1, rfl⟩
theorem vl_X11_244 : tb_VL RX11 244 M_X7_isReduced 1 7 := ⟨(tb_mm tw_6_4.2.2.2.2.2.2.2.2.2.2.1 rfl), (tb_mm tw_6_4.2.2.2.2.2.2.2.2.2.2.2.1 rfl), (tb_mm tw_6_4.2.2.2.2.2.2.2.2.2.2.2.2.1 rfl), cd_X7_isReduced, by decide, TX7, 5, rfl⟩
theorem vl_X11_252 : tb_VL RX11 252 M_X9_argumentOf 2 9 := ⟨(tb_mm tw_6_5.2.2.2.2.2.2.2.1 rfl), (tb_mm tw_3_5.2.2.2.2.2.2.1 rfl), (tb_mm tw_3_5.2.2.2.2.2.2.2.1 rfl), cd_X9_argumentOf, by decide, TX9, 13, rfl⟩
theorem vl_X11_256 : tb_VL RX11 256 M_X9_hasPlace 2 9 := ⟨(tb_mm tw_4_3.2.2.2.2.1 rfl), (tb_mm tw_4_3.2.2.2.2.2.1 rfl), (tb_mm tw_4_3.2.2.2.2.2.2.1 rfl), cd_X9_hasPlace, by decide, TX9, 13, rfl⟩
theorem vl_X11_262 : tb_VL RX11 262 M_X9_inPlace 2 9 := ⟨(tb_mm tw_6_6.2.1 rfl), (tb_mm tw_5_14.2.2.2.2.2.2.2.2.2.1 rfl), (tb_mm tw_5_14.2.2.2.2.2.2.2.2.2.2.1 rfl), cd_X9_inPlace, by decide, TX9, 13, rfl⟩
theorem vl_X11_265 : tb_VL RX11 265 M_X7_compared 2 7 := ⟨(tb_mm tw_6_6.2.2.2.2.2.2.2.2.2.1 rfl), (tb_mm tw_6_6.2.2.2.2.2.2.2.2.2.2.1 rfl), (tb_mm tw_6_6.2.2.2.2.2.2.2.2.2.2.2.1 rfl), cd_X7_compared, by decide, TX7, 5, rfl⟩
theorem vl_X11_270 : tb_VL RX11 270 M_X7_found 2 7 := ⟨(tb_mm tw_6_7.2.2.2.2.2.1 rfl), (tb_mm tw_6_7.2.2.2.2.2.2.1 rfl), (tb_mm tw_6_7.2.2.2.2.2.2.2.1 rfl), cd_X7_found, by decide, TX7, 5, rfl⟩
theorem sl_X11_279 : tb_SL RX11 279 M_X11_isVariableNumber 1 := ⟨(tb_mm tw_2_14.2.2.1 rfl), (tb_mm tw_2_14.2.2.2.1 rfl), cd_X11_isVariableNumber⟩
theorem vl_X11_284 : tb_VL RX11 284 M_X11_refused 2 11 := ⟨(tb_mm tw_2_14.2.2.2.2.2.1 rfl), (tb_mm tw_2_14.2.2.2.2.2.2.2.1 rfl), (tb_mp tp_1 (.tail _ (.head _)) rfl), cd_X11_refused, by decide, TX11, 16, rfl⟩
theorem vl_X11_287 : tb_VL RX11 287 M_X0_begin 0 0 := ⟨(tb_mm tw_2_14.2.2.2.2.2.2.2.2.2.1 rfl), (tb_mm tw_2_14.2.2.2.2.2.2.2.2.2.2.1 rfl), (tb_mm tw_2_14.2.2.2.2.2.2.2.2.2.2.2.1 rfl), cd_X0_begin, by decide, TX0, 7, rfl⟩
theorem vl_X11_290 : tb_VL RX11 290 M_X9_variableTerm 1 9 := ⟨(tb_mm tw_3_0.1 rfl), (tb_mm tw_3_0.2.1 rfl), (tb_mm tw_3_0.2.2.1 rfl), cd_X9_variableTerm, by decide, TX9, 13, rfl⟩
theorem vl_X11_293 : tb_VL RX11 293 M_X11_settled 1 11 := ⟨(tb_mm tw_3_1.2.2.2.2.2.2.2.2.2.2.2.2.2.2.2 rfl), (tb_mm tw_3_2.2.1 rfl), (tb_mp tp_1 (.tail _ (.tail _ (.tail _ (.tail _ (.tail _ (.tail _ (.head _))))))) rfl), cd_X11_settled, by decide, TX11, 16, rfl⟩
theorem vl_X11_296 : tb_VL RX11 296 M_X11_haveArguments 4 11 := ⟨(tb_mm tw_3_3.2.2.2.2.2.2.2.2.1 rfl), (tb_mm tw_3_3.2.2.2.2.2.2.2.2.2.2.1 rfl), (tb_mp tp_1 (.tail _ (.tail _ (.tail _ (.tail _ (.tail _ (.tail _ (.tail _ (.tail _ (.head _))))))))) rfl), cd_X11_haveArguments, by decide, TX11, 16, rfl⟩
theorem vl_X11_300 : tb_VL RX11 300 M_X9_made 4 9 := ⟨(tb_mm tw_3_4.1 rfl), (tb_mm tw_3_0.2.2.2.2.2.1 rfl), (tb_mm tw_3_0.2.2.2.2.2.2.1 rfl), cd_X9_made, by decide, TX9, 13, rfl⟩
theorem vl_X11_304 : tb_VL RX11 304 M_X9_has 1 9 := ⟨(tb_mm tw_3_3.2.2.2.2.2.2.2.2.2.2.2.2.1 rfl), (tb_mm tw_3_3.2.2.2.2.2.2.2.2.2.2.2.2.2.1 rfl), (tb_mm tw_3_3.2.2.2.2.2.2.2.2.2.2.2.2.2.2.1 rfl), cd_X9_has, by decide, TX9, 13, rfl⟩
theorem vl_X11_305 : tb_VL RX11 305 M_X0_keep 0 0 := ⟨(tb_mm tw_3_2.2.2.2.2.2.2.2.2.2.2.2.2.2.2.2 rfl), (tb_mm tw_3_3.1 rfl), (tb_mm tw_3_3.2.1 rfl), cd_X0_keep, by decide, TX0, 7, rfl⟩
theorem vl_X11_308 : tb_VL RX11 308 M_X2_applied 3 2 := ⟨(tb_mm tw_3_4.2.2.2.2.2.2.2.2.2.1 rfl), (tb_mm tw_3_4.2.2.2.2.2.2.2.2.2.2.1 rfl), (tb_mm tw_3_4.2.2.2.2.2.2.2.2.2.2.2.1 rfl), cd_X2_applied, by decide, TX2, 6, rfl⟩
theorem vl_X11_312 : tb_VL RX11 312 M_X2_hasRing 3 2 := ⟨(tb_mm tw_3_5.2.2.2.2.2.2.2.2.2.2.2.2.2.2.1 rfl), (tb_mm tw_3_5.2.2.2.2.2.2.2.2.2.2.2.2.2.2.2 rfl), (tb_mm tw_3_6.1 rfl), cd_X2_hasRing, by decide, TX2, 6, rfl⟩
theorem vl_X11_316 : tb_VL RX11 316 M_X2_closed 3 2 := ⟨(tb_mm tw_3_6.2.2.2.2.2.2.1 rfl), (tb_mm tw_3_6.2.2.2.2.2.2.2.1 rfl), (tb_mm tw_3_6.2.2.2.2.2.2.2.2.1 rfl), cd_X2_closed, by decide, TX2, 6, rfl⟩
theorem vl_X11_319 : tb_VL RX11 319 M_X10_wayOf 3 10 := ⟨(tb_mm tw_3_7.2.2.2.2.2.2.2.1 rfl), (tb_mm tw_3_7.2.2.2.2.2.2.2.2.1 rfl), (tb_mm tw_3_7.2.2.2.2.2.2.2.2.2.1 rfl), cd_X10_wayOf, by decide, TX10, 12, rfl⟩
theorem vl_X11_323 : tb_VL RX11 323 M_X10_bindAll 3 10 := ⟨(tb_mm tw_3_10.2.2.2.2.1 rfl), (tb_mm tw_3_10.2.2.2.2.2.1 rfl), (tb_mm tw_3_10.2.2.2.2.2.2.1 rfl), cd_X10_bindAll, by decide, TX10, 12, rfl⟩
theorem vl_X11_326 : tb_VL RX11 326 M_X3_matches 2 3 := ⟨(tb_mm tw_3_11.2.2.2.2.2.2.2.2.2.2.1 rfl), (tb_mm tw_3_11.2.2.2.2.2.2.2.2.2.2.2.1 rfl), (tb_mm tw_3_11.2.2.2.2.2.2.2.2.2.2.2.2.1 rfl), cd_X3_matches, by decide, TX3, 2, rfl⟩
theorem ml_X11_332 : Cond.methodLink RX11 332 arraycopyName ∈ tb_W := (tb_mm tw_3_12.2.2.2.2.2.2.2.2.2.1 rfl)
theorem vl_X11_338 : tb_VL RX11 338 M_X2_haveCommon 2 2 := ⟨(tb_mm tw_3_12.2.2.2.2.2.2.2.2.2.2.2.2.2.2.1 rfl), (tb_mm tw_3_12.2.2.2.2.2.2.2.2.2.2.2.2.2.2.2 rfl), (tb_mm tw_3_13.1 rfl), cd_X2_haveCommon, by decide, TX2, 6, rfl⟩
theorem vl_X11_341 : tb_VL RX11 341 M_X2_commonOf 2 2 := ⟨(tb_mm tw_3_13.2.2.2.2.2.2.2.2.2.2.2.2.2.2.1 rfl), (tb_mm tw_3_13.2.2.2.2.2.2.2.2.2.2.2.2.2.2.2 rfl), (tb_mm tw_3_14.1 rfl), cd_X2_commonOf, by decide, TX2, 6, rfl⟩
theorem vl_X11_344 : tb_VL RX11 344 M_X6_allowSteps 0 6 := ⟨(tb_mm tw_3_14.2.2.2.2.2.2.2.2.2.2.2.1 rfl), (tb_mm tw_3_14.2.2.2.2.2.2.2.2.2.2.2.2.1 rfl), (tb_mm tw_3_14.2.2.2.2.2.2.2.2.2.2.2.2.2.1 rfl), cd_X6_allowSteps, by decide, TX6, 9, rfl⟩
theorem vl_X11_347 : tb_VL RX11 347 M_X6_normalOf 1 6 := ⟨(tb_mm tw_3_14.2.2.2.2.2.2.2.2.2.2.2.2.2.2.2 rfl), (tb_mm tw_4_0.1 rfl), (tb_mm tw_4_0.2.1 rfl), cd_X6_normalOf, by decide, TX6, 9, rfl⟩
theorem vl_X11_350 : tb_VL RX11 350 M_X2_replaced 3 2 := ⟨(tb_mm tw_4_3.2.2.2.2.2.2.2.2.1 rfl), (tb_mm tw_4_3.2.2.2.2.2.2.2.2.2.1 rfl), (tb_mm tw_4_3.2.2.2.2.2.2.2.2.2.2.1 rfl), cd_X2_replaced, by decide, TX2, 6, rfl⟩
theorem vl_X11_353 : tb_VL RX11 353 M_X7_isRule 2 7 := ⟨(tb_mm tw_4_4.2.2.2.2.2.2.2.2.2.2.2.2.2.1 rfl), (tb_mm tw_4_4.2.2.2.2.2.2.2.2.2.2.2.2.2.2.1 rfl), (tb_mm tw_4_4.2.2.2.2.2.2.2.2.2.2.2.2.2.2.2 rfl), cd_X7_isRule, by decide, TX7, 5, rfl⟩
theorem vl_X11_356 : tb_VL RX11 356 M_X1_addRule 2 1 := ⟨(tb_mm tw_4_6.2.2.2.2.2.2.2.2.2.2.2.1 rfl), (tb_mm tw_4_6.2.2.2.2.2.2.2.2.2.2.2.2.1 rfl), (tb_mm tw_4_6.2.2.2.2.2.2.2.2.2.2.2.2.2.1 rfl), cd_X1_addRule, by decide, TX1, 1, rfl⟩
theorem vl_X11_360 : tb_VL RX11 360 M_X1_addEntry 1 1 := ⟨(tb_mm tw_4_7.2.2.2.2.2.2.2.1 rfl), (tb_mm tw_4_7.2.2.2.2.2.2.2.2.1 rfl), (tb_mm tw_4_7.2.2.2.2.2.2.2.2.2.1 rfl), cd_X1_addEntry, by decide, TX1, 1, rfl⟩
theorem vl_X11_363 : tb_VL RX11 363 M_X1_dropEntry 1 1 := ⟨(tb_mm tw_4_7.2.2.2.2.2.2.2.2.2.2.2.2.2.2.2 rfl), (tb_mm tw_4_8.1 rfl), (tb_mm tw_4_8.2.1 rfl), cd_X1_dropEntry, by decide, TX1, 1, rfl⟩
theorem vl_X11_366 : tb_VL RX11 366 M_X1_tellRoom 1 1 := ⟨(tb_mm tw_4_8.2.2.2.2.2.2.2.1 rfl), (tb_mm tw_4_8.2.2.2.2.2.2.2.2.1 rfl), (tb_mm tw_4_8.2.2.2.2.2.2.2.2.2.1 rfl), cd_X1_tellRoom, by decide, TX1, 1, rfl⟩
theorem vl_X11_372 : tb_VL RX11 372 M_X2_drawn 1 2 := ⟨(tb_mm tw_4_8.2.2.2.2.2.2.2.2.2.2.2.2.2.2.2 rfl), (tb_mm tw_4_9.1 rfl), (tb_mm tw_4_9.2.1 rfl), cd_X2_drawn, by decide, TX2, 6, rfl⟩
theorem vl_X11_375 : tb_VL RX11 375 M_X0_undoLast 0 0 := ⟨(tb_mm tw_4_10.2.2.2.1 rfl), (tb_mm tw_4_10.2.2.2.2.1 rfl), (tb_mm tw_4_10.2.2.2.2.2.1 rfl), cd_X0_undoLast, by decide, TX0, 7, rfl⟩
theorem vl_X11_382 : tb_VL RX11 382 M_X11_lostBy 2 11 := ⟨(tb_mm tw_6_10.2.2.2.2.2.1 rfl), (tb_mm tw_6_10.2.2.2.2.2.2.2.1 rfl), (tb_mp tp_5 (.tail _ (.tail _ (.tail _ (.tail _ (.tail _ (.tail _ (.tail _ (.tail _ (.head _))))))))) rfl), cd_X11_lostBy, by decide, TX11, 16, rfl⟩
theorem vl_X11_385 : tb_VL RX11 385 M_X11_yearsAnswer 2 11 := ⟨(tb_mm tw_6_10.2.2.2.2.2.2.2.2.2.1 rfl), (tb_mm tw_6_10.2.2.2.2.2.2.2.2.2.2.2.1 rfl), (tb_mp tp_5 (.tail _ (.tail _ (.tail _ (.tail _ (.tail _ (.tail _ (.tail _ (.tail _ (.tail _ (.head _)))))))))) rfl), cd_X11_yearsAnswer, by decide, TX11, 16, rfl⟩
theorem vl_X11_388 : tb_VL RX11 388 M_X0_rollBack 0 0 := ⟨(tb_mm tw_3_2.2.2.2.1 rfl), (tb_mm tw_3_2.2.2.2.2.1 rfl), (tb_mm tw_3_2.2.2.2.2.2.1 rfl), cd_X0_rollBack, by decide, TX0, 7, rfl⟩
theorem vl_X11_394 : tb_VL RX11 394 M_X0_takeFrom 1 0 := ⟨(tb_mm tw_4_10.2.2.2.2.2.2.2.2.2.2.2.1 rfl), (tb_mm tw_4_10.2.2.2.2.2.2.2.2.2.2.2.2.1 rfl), (tb_mm tw_4_10.2.2.2.2.2.2.2.2.2.2.2.2.2.1 rfl), cd_X0_takeFrom, by decide, TX0, 7, rfl⟩
theorem ml_X0_3 : Cond.methodLink RX0 3 Lib.objectInit ∈ tb_W := (tb_mm tw_1_10.2.2.2.1 rfl)
theorem ml_X0_48 : Cond.methodLink RX0 48 arraycopyName ∈ tb_W := (tb_mm tw_2_14.2.2.2.2.2.2.2.2.2.2.2.2.2.1 rfl)
theorem vl_X0_54 : tb_VL RX0 54 M_X0_takeBack 1 0 := ⟨(tb_mm tw_3_2.2.2.2.2.2.2.2.1 rfl), (tb_mm tw_3_2.2.2.2.2.2.2.2.2.2.1 rfl), (tb_mp tp_1 (.tail _ (.tail _ (.tail _ (.tail _ (.tail _ (.tail _ (.tail _ (.head _)))))))) rfl), cd_X0_takeBack, by decide, TX0, 7, rfl⟩
theorem vl_X0_58 : tb_VL RX0 58 M_X9_cutTo 1 9 := ⟨(tb_mm tw_3_2.2.2.2.2.2.2.2.2.2.2.2.1 rfl), (tb_mm tw_3_2.2.2.2.2.2.2.2.2.2.2.2.2.1 rfl), (tb_mm tw_3_2.2.2.2.2.2.2.2.2.2.2.2.2.2.1 rfl), cd_X9_cutTo, by decide, TX9, 13, rfl⟩
theorem vl_X0_62 : tb_VL RX0 62 M_X9_takeFrom 1 9 := ⟨(tb_mm tw_4_10.2.2.2.2.2.2.2.2.2.2.2.2.2.2.2 rfl), (tb_mm tw_4_11.1 rfl), (tb_mm tw_4_11.2.1 rfl), cd_X9_takeFrom, by decide, TX9, 13, rfl⟩
theorem vl_X0_66 : tb_VL RX0 66 M_X1_takeFrom 1 1 := ⟨(tb_mm tw_4_11.2.2.2.2.1 rfl), (tb_mm tw_4_11.2.2.2.2.2.1 rfl), (tb_mm tw_4_11.2.2.2.2.2.2.1 rfl), cd_X1_takeFrom, by decide, TX1, 1, rfl⟩
theorem ml_X1_5 : Cond.methodLink RX1 5 Lib.objectInit ∈ tb_W := (tb_mm tw_1_9.2.2.1 rfl)
theorem sl_X1_15 : tb_SL RX1 15 M_X1_fillAnew 1 := ⟨(tb_mm tw_1_9.2.2.2.1 rfl), (tb_mm tw_1_9.2.2.2.2.1 rfl), cd_X1_fillAnew⟩
theorem sl_X1_19 : tb_SL RX1 19 M_J7_fill_53178 2 := ⟨(tb_mm tw_1_9.2.2.2.2.2.2.1 rfl), (tb_mm tw_1_4.2.2.2.2.2.2.2.2.2.2.1 rfl), cd_J7_fill_53178⟩
theorem ml_X1_25 : Cond.methodLink RX1 25 arraycopyName ∈ tb_W := (tb_mm tw_4_11.2.2.2.2.2.2.2.2.1 rfl)
theorem vl_X1_31 : tb_VL RX1 31 M_X1_dropMemo 1 1 := ⟨(tb_mm tw_4_0.2.2.2.2.2.2.2.2.2.2.2.2.1 rfl), (tb_mm tw_4_0.2.2.2.2.2.2.2.2.2.2.2.2.2.2.1 rfl), (tb_mp tp_3 (.tail _ (.head _)) rfl), cd_X1_dropMemo, by decide, TX1, 1, rfl⟩
theorem vl_X1_35 : tb_VL RX1 35 M_X1_addMemo 2 1 := ⟨(tb_mm tw_4_1.1 rfl), (tb_mm tw_4_1.2.2.1 rfl), (tb_mp tp_3 (.tail _ (.tail _ (.head _))) rfl), cd_X1_addMemo, by decide, TX1, 1, rfl⟩
theorem ml_X2_3 : Cond.methodLink RX2 3 Lib.objectInit ∈ tb_W := (tb_mm tw_1_13.2.2.2.2.2.2.2.2.1 rfl)
theorem vl_X2_32 : tb_VL RX2 32 M_X2_appliedPart 4 2 := ⟨(tb_mm tw_3_4.2.2.2.2.2.2.2.2.2.2.2.2.2.1 rfl), (tb_mm tw_3_4.2.2.2.2.2.2.2.2.2.2.2.2.2.2.2 rfl), (tb_mp tp_1 (.tail _ (.tail _ (.tail _ (.tail _ (.tail _ (.tail _ (.tail _ (.tail _ (.tail _ (.head _)))))))))) rfl), cd_X2_appliedPart, by decide, TX2, 6, rfl⟩
theorem vl_X2_36 : tb_VL RX2 36 M_X9_isVariable 1 9 := ⟨(tb_mm tw_3_5.2.1 rfl), (tb_mm tw_3_5.2.2.1 rfl), (tb_mm tw_3_5.2.2.2.1 rfl), cd_X9_isVariable, by decide, TX9, 13, rfl⟩
theorem vl_X2_48 : tb_VL RX2 48 M_X9_argumentOf 2 9 := ⟨(tb_mm tw_3_5.2.2.2.2.2.1 rfl), (tb_mm tw_3_5.2.2.2.2.2.2.1 rfl), (tb_mm tw_3_5.2.2.2.2.2.2.2.1 rfl), cd_X9_argumentOf, by decide, TX9, 13, rfl⟩
theorem vl_X2_52 : tb_VL RX2 52 M_X9_made 4 9 := ⟨(tb_mm tw_3_5.2.2.2.2.2.2.2.2.2.1 rfl), (tb_mm tw_3_0.2.2.2.2.2.1 rfl), (tb_mm tw_3_0.2.2.2.2.2.2.1 rfl), cd_X9_made, by decide, TX9, 13, rfl⟩
theorem vl_X2_59 : tb_VL RX2 59 M_X2_reachedFrom 3 2 := ⟨(tb_mm tw_3_6.2.2.1 rfl), (tb_mm tw_3_6.2.2.2.2.1 rfl), (tb_mp tp_1 (.tail _ (.tail _ (.tail _ (.tail _ (.tail _ (.tail _ (.tail _ (.tail _ (.tail _ (.tail _ (.head _))))))))))) rfl), cd_X2_reachedFrom, by decide, TX2, 6, rfl⟩
theorem sl_X2_63 : tb_SL RX2 63 M_J7_fill_53178 2 := ⟨(tb_mm tw_3_6.2.2.2.2.2.2.2.2.2.2.1 rfl), (tb_mm tw_1_4.2.2.2.2.2.2.2.2.2.2.1 rfl), cd_J7_fill_53178⟩
theorem vl_X2_69 : tb_VL RX2 69 M_X2_closedPart 4 2 := ⟨(tb_mm tw_3_6.2.2.2.2.2.2.2.2.2.2.2.1 rfl), (tb_mm tw_3_6.2.2.2.2.2.2.2.2.2.2.2.2.2.1 rfl), (tb_mp tp_1 (.tail _ (.tail _ (.tail _ (.tail _ (.tail _ (.tail _ (.tail _ (.tail _ (.tail _ (.tail _ (.tail _ (.head _)))))))))))) rfl), cd_X2_closedPart, by decide, TX2, 6, rfl⟩
theorem vl_X2_72 : tb_VL RX2 72 M_X2_closedVariable 4 2 := ⟨(tb_mm tw_3_6.2.2.2.2.2.2.2.2.2.2.2.2.2.2.2 rfl), (tb_mm tw_3_7.2.1 rfl), (tb_mp tp_1 (.tail _ (.tail _ (.tail _ (.tail _ (.tail _ (.tail _ (.tail _ (.tail _ (.tail _ (.tail _ (.tail _ (.tail _ (.head _))))))))))))) rfl), cd_X2_closedVariable, by decide, TX2, 6, rfl⟩
theorem vl_X2_75 : tb_VL RX2 75 M_X2_replacedPart 4 2 := ⟨(tb_mm tw_4_3.2.2.2.2.2.2.2.2.2.2.2.2.1 rfl), (tb_mm tw_4_3.2.2.2.2.2.2.2.2.2.2.2.2.2.2.1 rfl), (tb_mp tp_3 (.tail _ (.tail _ (.tail _ (.tail _ (.tail _ (.tail _ (.tail _ (.head _)))))))) rfl), cd_X2_replacedPart, by decide, TX2, 6, rfl⟩
theorem vl_X2_78 : tb_VL RX2 78 M_X9_argumentAtPlace 2 9 := ⟨(tb_mm tw_4_4.1 rfl), (tb_mm tw_4_4.2.1 rfl), (tb_mm tw_4_4.2.2.1 rfl), cd_X9_argumentAtPlace, by decide, TX9, 13, rfl⟩
theorem vl_X2_81 : tb_VL RX2 81 M_X9_placeInArgument 3 9 := ⟨(tb_mm tw_4_4.2.2.2.2.2.1 rfl), (tb_mm tw_4_4.2.2.2.2.2.2.1 rfl), (tb_mm tw_4_4.2.2.2.2.2.2.2.1 rfl), cd_X9_placeInArgument, by decide, TX9, 13, rfl⟩
theorem vl_X2_85 : tb_VL RX2 85 M_X2_couple 3 2 := ⟨(tb_mm tw_3_13.2.2.1 rfl), (tb_mm tw_3_13.2.2.2.2.1 rfl), (tb_mp tp_2 (.tail _ (.tail _ (.tail _ (.tail _ (.tail _ (.tail _ (.tail _ (.tail _ (.tail _ (.tail _ (.tail _ (.tail _ (.head _))))))))))))) rfl), cd_X2_couple, by decide, TX2, 6, rfl⟩
theorem vl_X2_89 : tb_VL RX2 89 M_X2_addCouple 2 2 := ⟨(tb_mm tw_3_13.2.2.2.2.2.2.1 rfl), (tb_mm tw_3_13.2.2.2.2.2.2.2.2.1 rfl), (tb_mp tp_2 (.tail _ (.tail _ (.tail _ (.tail _ (.tail _ (.tail _ (.tail _ (.tail _ (.tail _ (.tail _ (.tail _ (.tail _ (.tail _ (.head _)))))))))))))) rfl), cd_X2_addCouple, by decide, TX2, 6, rfl⟩
theorem vl_X2_93 : tb_VL RX2 93 M_X2_coupleOf 2 2 := ⟨(tb_mm tw_3_13.2.2.2.2.2.2.2.2.2.2.1 rfl), (tb_mm tw_3_13.2.2.2.2.2.2.2.2.2.2.2.2.1 rfl), (tb_mp tp_2 (.tail _ (.tail _ (.tail _ (.tail _ (.tail _ (.tail _ (.tail _ (.tail _ (.tail _ (.tail _ (.tail _ (.tail _ (.tail _ (.tail _ (.head _))))))))))))))) rfl), cd_X2_coupleOf, by decide, TX2, 6, rfl⟩
theorem vl_X2_96 : tb_VL RX2 96 M_X2_commonPart 3 2 := ⟨(tb_mm tw_3_14.2.2.1 rfl), (tb_mm tw_3_14.2.2.2.2.1 rfl), (tb_mp tp_2 (.tail _ (.tail _ (.tail _ (.tail _ (.tail _ (.tail _ (.tail _ (.tail _ (.tail _ (.tail _ (.tail _ (.tail _ (.tail _ (.tail _ (.tail _ (.head _)))))))))))))))) rfl), cd_X2_commonPart, by decide, TX2, 6, rfl⟩
theorem vl_X2_99 : tb_VL RX2 99 M_X9_variableTerm 1 9 := ⟨(tb_mm tw_3_14.2.2.2.2.2.2.1 rfl), (tb_mm tw_3_0.2.1 rfl), (tb_mm tw_3_0.2.2.1 rfl), cd_X9_variableTerm, by decide, TX9, 13, rfl⟩
theorem ml_X2_103 : Cond.methodLink RX2 103 Lib.Math.min.name ∈ tb_W := (tb_mm tw_4_9.2.2.2.1 rfl)
theorem vl_X2_108 : tb_VL RX2 108 M_X2_drawnPart 1 2 := ⟨(tb_mm tw_4_9.2.2.2.2.2.2.1 rfl), (tb_mm tw_4_9.2.2.2.2.2.2.2.2.1 rfl), (tb_mp tp_3 (.tail _ (.tail _ (.tail _ (.tail _ (.tail _ (.tail _ (.tail _ (.tail _ (.tail _ (.tail _ (.tail _ (.tail _ (.head _))))))))))))) rfl), cd_X2_drawnPart, by decide, TX2, 6, rfl⟩
theorem vl_X2_111 : tb_VL RX2 111 M_X2_drawOf 1 2 := ⟨(tb_mm tw_4_9.2.2.2.2.2.2.2.2.2.2.1 rfl), (tb_mm tw_4_9.2.2.2.2.2.2.2.2.2.2.2.2.1 rfl), (tb_mp tp_3 (.tail _ (.tail _ (.tail _ (.tail _ (.tail _ (.tail _ (.tail _ (.tail _ (.tail _ (.tail _ (.tail _ (.tail _ (.tail _ (.head _)))))))))))))) rfl), cd_X2_drawOf, by decide, TX2, 6, rfl⟩
theorem ml_X3_3 : Cond.methodLink RX3 3 Lib.objectInit ∈ tb_W := (tb_mm tw_1_12.2.2.2.2.2.2.2.2.1 rfl)
theorem sl_X3_19 : tb_SL RX3 19 M_J7_fill_53178 2 := ⟨(tb_mm tw_3_11.2.2.2.2.2.2.2.2.2.2.2.2.2.2.1 rfl), (tb_mm tw_1_4.2.2.2.2.2.2.2.2.2.2.1 rfl), cd_J7_fill_53178⟩
theorem vl_X3_25 : tb_VL RX3 25 M_X3_fitsPart 3 3 := ⟨(tb_mm tw_3_11.2.2.2.2.2.2.2.2.2.2.2.2.2.2.2 rfl), (tb_mm tw_3_12.2.1 rfl), (tb_mp tp_2 (.tail _ (.tail _ (.tail _ (.tail _ (.tail _ (.tail _ (.tail _ (.tail _ (.tail _ (.tail _ (.head _))))))))))) rfl), cd_X3_fitsPart, by decide, TX3, 2, rfl⟩
theorem vl_X3_29 : tb_VL RX3 29 M_X9_isVariable 1 9 := ⟨(tb_mm tw_3_12.2.2.2.1 rfl), (tb_mm tw_3_5.2.2.1 rfl), (tb_mm tw_3_5.2.2.2.1 rfl), cd_X9_isVariable, by decide, TX9, 13, rfl⟩
theorem vl_X3_38 : tb_VL RX3 38 M_X3_takes 2 3 := ⟨(tb_mm tw_3_12.2.2.2.2.1 rfl), (tb_mm tw_3_12.2.2.2.2.2.2.1 rfl), (tb_mp tp_2 (.tail _ (.tail _ (.tail _ (.tail _ (.tail _ (.tail _ (.tail _ (.tail _ (.tail _ (.tail _ (.tail _ (.head _)))))))))))) rfl), cd_X3_takes, by decide, TX3, 2, rfl⟩
theorem vl_X3_45 : tb_VL RX3 45 M_X9_argumentOf 2 9 := ⟨(tb_mm tw_3_12.2.2.2.2.2.2.2.2.1 rfl), (tb_mm tw_3_5.2.2.2.2.2.2.1 rfl), (tb_mm tw_3_5.2.2.2.2.2.2.2.1 rfl), cd_X9_argumentOf, by decide, TX9, 13, rfl⟩
theorem ml_X4_3 : Cond.methodLink RX4 3 Lib.objectInit ∈ tb_W := (tb_mm tw_2_3.2.2.1 rfl)
theorem vl_X4_29 : tb_VL RX4 29 M_X4_weighBoth 2 4 := ⟨(tb_mm tw_4_5.2.2.2.2.2.2.2.1 rfl), (tb_mm tw_4_5.2.2.2.2.2.2.2.2.2.1 rfl), (tb_mp tp_3 (.tail _ (.tail _ (.tail _ (.tail _ (.tail _ (.tail _ (.tail _ (.tail _ (.head _))))))))) rfl), cd_X4_weighBoth, by decide, TX4, 5, rfl⟩
theorem vl_X4_33 : tb_VL RX4 33 M_X4_lacksVariable 0 4 := ⟨(tb_mm tw_4_6.2.1 rfl), (tb_mm tw_4_6.2.2.2.1 rfl), (tb_mp tp_3 (.tail _ (.tail _ (.tail _ (.tail _ (.tail _ (.tail _ (.tail _ (.tail _ (.tail _ (.tail _ (.head _))))))))))) rfl), cd_X4_lacksVariable, by decide, TX4, 5, rfl⟩
theorem vl_X4_37 : tb_VL RX4 37 M_X9_isVariable 1 9 := ⟨(tb_mm tw_4_6.2.2.2.2.2.1 rfl), (tb_mm tw_3_5.2.2.1 rfl), (tb_mm tw_3_5.2.2.2.1 rfl), cd_X9_isVariable, by decide, TX9, 13, rfl⟩
theorem vl_X4_46 : tb_VL RX4 46 M_X4_firstUnlike 2 4 := ⟨(tb_mm tw_4_6.2.2.2.2.2.2.1 rfl), (tb_mm tw_4_6.2.2.2.2.2.2.2.2.1 rfl), (tb_mp tp_3 (.tail _ (.tail _ (.tail _ (.tail _ (.tail _ (.tail _ (.tail _ (.tail _ (.tail _ (.tail _ (.tail _ (.head _)))))))))))) rfl), cd_X4_firstUnlike, by decide, TX4, 5, rfl⟩
theorem vl_X4_50 : tb_VL RX4 50 M_X9_argumentOf 2 9 := ⟨(tb_mm tw_4_6.1 rfl), (tb_mm tw_3_5.2.2.2.2.2.2.1 rfl), (tb_mm tw_3_5.2.2.2.2.2.2.2.1 rfl), cd_X9_argumentOf, by decide, TX9, 13, rfl⟩
theorem sl_X4_53 : tb_SL RX4 53 M_J7_fill_53178 2 := ⟨(tb_mm tw_4_5.2.2.2.2.2.2.2.2.2.2.2.1 rfl), (tb_mm tw_1_4.2.2.2.2.2.2.2.2.2.2.1 rfl), cd_J7_fill_53178⟩
theorem vl_X4_59 : tb_VL RX4 59 M_X4_weigh 3 4 := ⟨(tb_mm tw_4_5.2.2.2.2.2.2.2.2.2.2.2.2.1 rfl), (tb_mm tw_4_5.2.2.2.2.2.2.2.2.2.2.2.2.2.2.1 rfl), (tb_mp tp_3 (.tail _ (.tail _ (.tail _ (.tail _ (.tail _ (.tail _ (.tail _ (.tail _ (.tail _ (.head _)))))))))) rfl), cd_X4_weigh, by decide, TX4, 5, rfl⟩
theorem ml_X4_75 : Cond.methodLink RX4 75 Lib.Math.max.name ∈ tb_W := (tb_mm tw_4_6.2.2.2.2.2.2.2.2.2.2.1 rfl)
theorem ml_X5_3 : Cond.methodLink RX5 3 Lib.objectInit ∈ tb_W := (tb_mm tw_2_7.2.2.2.2.2.2.2.2.2.1 rfl)
theorem ml_X5_59 : Cond.methodLink RX5 59 Lib.Math.min.name ∈ tb_W := (tb_mm tw_5_3.2.2.2.2.2.2.2.1 rfl)
theorem vl_X5_65 : tb_VL RX5 65 M_X5_next 0 5 := ⟨(tb_mm tw_5_3.2.2.2.2.2.2.2.2.1 rfl), (tb_mm tw_5_3.2.2.2.2.2.2.2.2.2.2.1 rfl), (tb_mp tp_4 (.tail _ (.head _)) rfl), cd_X5_next, by decide, TX5, 11, rfl⟩
theorem vl_X5_70 : tb_VL RX5 70 M_X5_isWord 1 5 := ⟨(tb_mm tw_5_4.1 rfl), (tb_mm tw_5_4.2.2.1 rfl), (tb_mp tp_4 (.tail _ (.tail _ (.head _))) rfl), cd_X5_isWord, by decide, TX5, 11, rfl⟩
theorem vl_X5_74 : tb_VL RX5 74 M_X5_readSymbol 0 5 := ⟨(tb_mm tw_5_7.1 rfl), (tb_mm tw_5_7.2.2.1 rfl), (tb_mp tp_4 (.tail _ (.tail _ (.tail _ (.head _)))) rfl), cd_X5_readSymbol, by decide, TX5, 11, rfl⟩
theorem vl_X5_79 : tb_VL RX5 79 M_X5_readLoneTerm 0 5 := ⟨(tb_mm tw_5_9.1 rfl), (tb_mm tw_5_9.2.2.1 rfl), (tb_mp tp_4 (.tail _ (.tail _ (.tail _ (.tail _ (.tail _ (.tail _ (.tail _ (.tail _ (.head _))))))))) rfl), cd_X5_readLoneTerm, by decide, TX5, 11, rfl⟩
theorem vl_X5_84 : tb_VL RX5 84 M_X5_readRule 0 5 := ⟨(tb_mm tw_5_10.2.2.2.2.2.2.2.2.2.2.2.1 rfl), (tb_mm tw_5_10.2.2.2.2.2.2.2.2.2.2.2.2.2.1 rfl), (tb_mp tp_4 (.tail _ (.tail _ (.tail _ (.tail _ (.tail _ (.tail _ (.tail _ (.tail _ (.tail _ (.tail _ (.tail _ (.tail _ (.tail _ (.tail _ (.head _))))))))))))))) rfl), cd_X5_readRule, by decide, TX5, 11, rfl⟩
theorem vl_X5_89 : tb_VL RX5 89 M_X5_readEntry 0 5 := ⟨(tb_mm tw_5_11.2.2.2.2.2.2.1 rfl), (tb_mm tw_5_11.2.2.2.2.2.2.2.2.1 rfl), (tb_mp tp_5 (.head _) rfl), cd_X5_readEntry, by decide, TX5, 11, rfl⟩
theorem vl_X5_94 : tb_VL RX5 94 M_X5_readRoom 0 5 := ⟨(tb_mm tw_5_11.2.2.2.2.2.2.2.2.2.2.2.2 rfl), (tb_mm tw_5_12.2.1 rfl), (tb_mp tp_5 (.tail _ (.head _)) rfl), cd_X5_readRoom, by decide, TX5, 11, rfl⟩
theorem vl_X5_97 : tb_VL RX5 97 M_X5_fail 1 5 := ⟨(tb_mm tw_5_7.2.2.2.2.1 rfl), (tb_mm tw_5_7.2.2.2.2.2.2.1 rfl), (tb_mp tp_4 (.tail _ (.tail _ (.tail _ (.tail _ (.head _))))) rfl), cd_X5_fail, by decide, TX5, 11, rfl⟩
theorem sl_X5_101 : tb_SL RX5 101 M_X5_kindOf 1 := ⟨(tb_mm tw_5_3.2.2.2.2.2.2.2.2.2.2.2.2.1 rfl), (tb_mm tw_5_3.2.2.2.2.2.2.2.2.2.2.2.2.2.1 rfl), cd_X5_kindOf⟩
theorem vl_X5_113 : tb_VL RX5 113 M_X5_readTerm 1 5 := ⟨(tb_mm tw_5_9.2.2.2.2.1 rfl), (tb_mm tw_5_9.2.2.2.2.2.2.1 rfl), (tb_mp tp_4 (.tail _ (.tail _ (.tail _ (.tail _ (.tail _ (.tail _ (.tail _ (.tail _ (.tail _ (.head _)))))))))) rfl), cd_X5_readTerm, by decide, TX5, 11, rfl⟩
theorem vl_X5_116 : tb_VL RX5 116 M_X5_pass 1 5 := ⟨(tb_mm tw_5_8.2.2.2.2.2.2.2.2.1 rfl), (tb_mm tw_5_8.2.2.2.2.2.2.2.2.2.2.1 rfl), (tb_mp tp_4 (.tail _ (.tail _ (.tail _ (.tail _ (.tail _ (.tail _ (.tail _ (.head _)))))))) rfl), cd_X5_pass, by decide, TX5, 11, rfl⟩
theorem vl_X5_125 : tb_VL RX5 125 M_X5_readNewName 0 5 := ⟨(tb_mm tw_5_7.2.2.2.2.2.2.2.2.1 rfl), (tb_mm tw_5_7.2.2.2.2.2.2.2.2.2.2.1 rfl), (tb_mp tp_4 (.tail _ (.tail _ (.tail _ (.tail _ (.tail _ (.head _)))))) rfl), cd_X5_readNewName, by decide, TX5, 11, rfl⟩
theorem vl_X5_128 : tb_VL RX5 128 M_X5_readNumber 2 5 := ⟨(tb_mm tw_5_8.2.2.2.2.1 rfl), (tb_mm tw_5_8.2.2.2.2.2.2.1 rfl), (tb_mp tp_4 (.tail _ (.tail _ (.tail _ (.tail _ (.tail _ (.tail _ (.head _))))))) rfl), cd_X5_readNumber, by decide, TX5, 11, rfl⟩
theorem vl_X5_131 : tb_VL RX5 131 M_X8_add 3 8 := ⟨(tb_mm tw_5_8.2.2.2.2.2.2.2.2.2.2.2.2.1 rfl), (tb_mm tw_5_8.2.2.2.2.2.2.2.2.2.2.2.2.2.1 rfl), (tb_mm tw_5_8.2.2.2.2.2.2.2.2.2.2.2.2.2.2.1 rfl), cd_X8_add, by decide, TX8, 4, rfl⟩
theorem vl_X5_135 : tb_VL RX5 135 M_X8_named 1 8 := ⟨(tb_mm tw_5_8.1 rfl), (tb_mm tw_5_8.2.1 rfl), (tb_mm tw_5_8.2.2.1 rfl), cd_X8_named, by decide, TX8, 4, rfl⟩
theorem vl_X5_147 : tb_VL RX5 147 M_X5_passTo 0 5 := ⟨(tb_mm tw_5_11.1 rfl), (tb_mm tw_5_11.2.2.1 rfl), (tb_mp tp_4 (.tail _ (.tail _ (.tail _ (.tail _ (.tail _ (.tail _ (.tail _ (.tail _ (.tail _ (.tail _ (.tail _ (.tail _ (.tail _ (.tail _ (.tail _ (.head _)))))))))))))))) rfl), cd_X5_passTo, by decide, TX5, 11, rfl⟩
theorem vl_X5_150 : tb_VL RX5 150 M_X7_isRule 2 7 := ⟨(tb_mm tw_5_11.2.2.2.2.1 rfl), (tb_mm tw_4_4.2.2.2.2.2.2.2.2.2.2.2.2.2.2.1 rfl), (tb_mm tw_4_4.2.2.2.2.2.2.2.2.2.2.2.2.2.2.2 rfl), cd_X7_isRule, by decide, TX7, 5, rfl⟩
theorem vl_X5_156 : tb_VL RX5 156 M_X1_addRule 2 1 := ⟨(tb_mm tw_5_11.2.2.2.2.2.1 rfl), (tb_mm tw_4_6.2.2.2.2.2.2.2.2.2.2.2.2.1 rfl), (tb_mm tw_4_6.2.2.2.2.2.2.2.2.2.2.2.2.2.1 rfl), cd_X1_addRule, by decide, TX1, 1, rfl⟩
theorem vl_X5_162 : tb_VL RX5 162 M_X1_entryOf 1 1 := ⟨(tb_mm tw_5_11.2.2.2.2.2.2.2.2.2.2.1 rfl), (tb_mm tw_4_7.2.2.2.2.1 rfl), (tb_mm tw_4_7.2.2.2.2.2.1 rfl), cd_X1_entryOf, by decide, TX1, 1, rfl⟩
theorem vl_X5_165 : tb_VL RX5 165 M_X1_addEntry 1 1 := ⟨(tb_mm tw_5_11.2.2.2.2.2.2.2.2.2.2.2.1 rfl), (tb_mm tw_4_7.2.2.2.2.2.2.2.2.1 rfl), (tb_mm tw_4_7.2.2.2.2.2.2.2.2.2.1 rfl), cd_X1_addEntry, by decide, TX1, 1, rfl⟩
theorem vl_X5_168 : tb_VL RX5 168 M_X1_tellRoom 1 1 := ⟨(tb_mm tw_5_12.2.2.2.1 rfl), (tb_mm tw_4_8.2.2.2.2.2.2.2.2.1 rfl), (tb_mm tw_4_8.2.2.2.2.2.2.2.2.2.1 rfl), cd_X1_tellRoom, by decide, TX1, 1, rfl⟩
theorem vl_X5_171 : tb_VL RX5 171 M_X5_readVariable 0 5 := ⟨(tb_mm tw_5_9.2.2.2.2.2.2.2.2.1 rfl), (tb_mm tw_5_9.2.2.2.2.2.2.2.2.2.2.1 rfl), (tb_mp tp_4 (.tail _ (.tail _ (.tail _ (.tail _ (.tail _ (.tail _ (.tail _ (.tail _ (.tail _ (.tail _ (.head _))))))))))) rfl), cd_X5_readVariable, by decide, TX5, 11, rfl⟩
theorem vl_X5_174 : tb_VL RX5 174 M_X5_readCompound 1 5 := ⟨(tb_mm tw_5_10.2.2.1 rfl), (tb_mm tw_5_10.2.2.2.2.1 rfl), (tb_mp tp_4 (.tail _ (.tail _ (.tail _ (.tail _ (.tail _ (.tail _ (.tail _ (.tail _ (.tail _ (.tail _ (.tail _ (.tail _ (.head _))))))))))))) rfl), cd_X5_readCompound, by decide, TX5, 11, rfl⟩
theorem vl_X5_177 : tb_VL RX5 177 M_X9_variableTerm 1 9 := ⟨(tb_mm tw_5_9.2.2.2.2.2.2.2.2.2.2.2.2.1 rfl), (tb_mm tw_3_0.2.1 rfl), (tb_mm tw_3_0.2.2.1 rfl), cd_X9_variableTerm, by decide, TX9, 13, rfl⟩
theorem vl_X5_180 : tb_VL RX5 180 M_X5_held 1 5 := ⟨(tb_mm tw_5_9.2.2.2.2.2.2.2.2.2.2.2.2.2.1 rfl), (tb_mm tw_5_10.1 rfl), (tb_mp tp_4 (.tail _ (.tail _ (.tail _ (.tail _ (.tail _ (.tail _ (.tail _ (.tail _ (.tail _ (.tail _ (.tail _ (.head _)))))))))))) rfl), cd_X5_held, by decide, TX5, 11, rfl⟩
theorem vl_X5_186 : tb_VL RX5 186 M_X5_readArgument 2 5 := ⟨(tb_mm tw_5_10.2.2.2.2.2.2.1 rfl), (tb_mm tw_5_10.2.2.2.2.2.2.2.2.1 rfl), (tb_mp tp_4 (.tail _ (.tail _ (.tail _ (.tail _ (.tail _ (.tail _ (.tail _ (.tail _ (.tail _ (.tail _ (.tail _ (.tail _ (.tail _ (.head _)))))))))))))) rfl), cd_X5_readArgument, by decide, TX5, 11, rfl⟩
theorem vl_X5_189 : tb_VL RX5 189 M_X9_made 4 9 := ⟨(tb_mm tw_5_10.2.2.2.2.2.2.2.2.2.2.1 rfl), (tb_mm tw_3_0.2.2.2.2.2.1 rfl), (tb_mm tw_3_0.2.2.2.2.2.2.1 rfl), cd_X9_made, by decide, TX9, 13, rfl⟩
theorem ml_X6_3 : Cond.methodLink RX6 3 Lib.objectInit ∈ tb_W := (tb_mm tw_2_5.2.2.2.2.2.2.2.2.1 rfl)
theorem vl_X6_47 : tb_VL RX6 47 M_X6_opened 1 6 := ⟨(tb_mm tw_4_0.2.2.2.1 rfl), (tb_mm tw_4_0.2.2.2.2.2.1 rfl), (tb_mp tp_3 (.head _) rfl), cd_X6_opened, by decide, TX6, 9, rfl⟩
theorem vl_X6_52 : tb_VL RX6 52 M_X6_wentOn 1 6 := ⟨(tb_mm tw_4_1.2.2.2.2.2.1 rfl), (tb_mm tw_4_1.2.2.2.2.2.2.2.1 rfl), (tb_mp tp_3 (.tail _ (.tail _ (.tail _ (.head _)))) rfl), cd_X6_wentOn, by decide, TX6, 9, rfl⟩
theorem vl_X6_55 : tb_VL RX6 55 M_X6_handed 2 6 := ⟨(tb_mm tw_4_2.2.2.2.2.2.2.2.2.2.2.2.2.1 rfl), (tb_mm tw_4_2.2.2.2.2.2.2.2.2.2.2.2.2.2.2.1 rfl), (tb_mp tp_3 (.tail _ (.tail _ (.tail _ (.tail _ (.tail _ (.tail _ (.head _))))))) rfl), cd_X6_handed, by decide, TX6, 9, rfl⟩
theorem vl_X6_59 : tb_VL RX6 59 M_X9_isVariable 1 9 := ⟨(tb_mm tw_4_0.2.2.2.2.2.2.2.1 rfl), (tb_mm tw_3_5.2.2.1 rfl), (tb_mm tw_3_5.2.2.2.1 rfl), cd_X9_isVariable, by decide, TX9, 13, rfl⟩
theorem vl_X6_69 : tb_VL RX6 69 M_X1_recalled 1 1 := ⟨(tb_mm tw_4_0.2.2.2.2.2.2.2.2.1 rfl), (tb_mm tw_4_0.2.2.2.2.2.2.2.2.2.1 rfl), (tb_mm tw_4_0.2.2.2.2.2.2.2.2.2.2.1 rfl), cd_X1_recalled, by decide, TX1, 1, rfl⟩
theorem vl_X6_77 : tb_VL RX6 77 M_X9_argumentOf 2 9 := ⟨(tb_mm tw_4_1.2.2.2.2.2.2.2.2.2.1 rfl), (tb_mm tw_3_5.2.2.2.2.2.2.1 rfl), (tb_mm tw_3_5.2.2.2.2.2.2.2.1 rfl), cd_X9_argumentOf, by decide, TX9, 13, rfl⟩
theorem vl_X6_83 : tb_VL RX6 83 M_X9_made 4 9 := ⟨(tb_mm tw_4_1.2.2.2.2.2.2.2.2.2.2.1 rfl), (tb_mm tw_3_0.2.2.2.2.2.1 rfl), (tb_mm tw_3_0.2.2.2.2.2.2.1 rfl), cd_X9_made, by decide, TX9, 13, rfl⟩
theorem sl_X6_87 : tb_SL RX6 87 M_X7_firstRule 3 := ⟨(tb_mm tw_4_1.2.2.2.2.2.2.2.2.2.2.2.1 rfl), (tb_mm tw_4_1.2.2.2.2.2.2.2.2.2.2.2.2.1 rfl), cd_X7_firstRule⟩
theorem vl_X6_93 : tb_VL RX6 93 M_X6_closedWith 2 6 := ⟨(tb_mm tw_4_1.2.2.2.2.2.2.2.2.2.2.2.2.2.2.2 rfl), (tb_mm tw_4_2.2.1 rfl), (tb_mp tp_3 (.tail _ (.tail _ (.tail _ (.tail _ (.head _))))) rfl), cd_X6_closedWith, by decide, TX6, 9, rfl⟩
theorem vl_X6_96 : tb_VL RX6 96 M_X6_countStep 1 6 := ⟨(tb_mm tw_4_2.2.2.2.2.2.2.2.1 rfl), (tb_mm tw_4_2.2.2.2.2.2.2.2.2.2.1 rfl), (tb_mp tp_3 (.tail _ (.tail _ (.tail _ (.tail _ (.tail _ (.head _)))))) rfl), cd_X6_countStep, by decide, TX6, 9, rfl⟩
theorem vl_X6_108 : tb_VL RX6 108 M_X2_applied 3 2 := ⟨(tb_mm tw_4_2.2.2.2.2.2.2.2.2.2.2.2.1 rfl), (tb_mm tw_3_4.2.2.2.2.2.2.2.2.2.2.1 rfl), (tb_mm tw_3_4.2.2.2.2.2.2.2.2.2.2.2.1 rfl), cd_X2_applied, by decide, TX2, 6, rfl⟩
theorem vl_X6_114 : tb_VL RX6 114 M_X1_remember 2 1 := ⟨(tb_mm tw_4_2.2.2.2.1 rfl), (tb_mm tw_4_2.2.2.2.2.1 rfl), (tb_mm tw_4_2.2.2.2.2.2.1 rfl), cd_X1_remember, by decide, TX1, 1, rfl⟩
theorem ml_X7_3 : Cond.methodLink RX7 3 Lib.objectInit ∈ tb_W := (tb_mm tw_2_4.2.2.2.2.1 rfl)
theorem vl_X7_34 : tb_VL RX7 34 M_X4_isGreater 2 4 := ⟨(tb_mm tw_4_5.2.2.2.1 rfl), (tb_mm tw_4_5.2.2.2.2.1 rfl), (tb_mm tw_4_5.2.2.2.2.2.1 rfl), cd_X4_isGreater, by decide, TX4, 5, rfl⟩
theorem vl_X7_40 : tb_VL RX7 40 M_X9_has 1 9 := ⟨(tb_mm tw_4_5.2.1 rfl), (tb_mm tw_3_3.2.2.2.2.2.2.2.2.2.2.2.2.2.1 rfl), (tb_mm tw_3_3.2.2.2.2.2.2.2.2.2.2.2.2.2.2.1 rfl), cd_X9_has, by decide, TX9, 13, rfl⟩
theorem vl_X7_46 : tb_VL RX7 46 M_X9_isVariable 1 9 := ⟨(tb_mm tw_4_5.2.2.1 rfl), (tb_mm tw_3_5.2.2.1 rfl), (tb_mm tw_3_5.2.2.2.1 rfl), cd_X9_isVariable, by decide, TX9, 13, rfl⟩
theorem vl_X7_53 : tb_VL RX7 53 M_X7_fitsBy 2 7 := ⟨(tb_mm tw_6_1.2.2.2.2.2.2.2.2.2.2.2 rfl), (tb_mm tw_6_2.2.1 rfl), (tb_mp tp_5 (.tail _ (.tail _ (.tail _ (.tail _ (.tail _ (.head _)))))) rfl), cd_X7_fitsBy, by decide, TX7, 5, rfl⟩
theorem vl_X7_65 : tb_VL RX7 65 M_X4_tryWeight 2 4 := ⟨(tb_mm tw_6_2.2.2.2.1 rfl), (tb_mm tw_6_2.2.2.2.2.1 rfl), (tb_mm tw_6_2.2.2.2.2.2.1 rfl), cd_X4_tryWeight, by decide, TX4, 5, rfl⟩
theorem vl_X7_69 : tb_VL RX7 69 M_X7_isRule 2 7 := ⟨(tb_mm tw_6_2.2.2.2.2.2.2.2.1 rfl), (tb_mm tw_4_4.2.2.2.2.2.2.2.2.2.2.2.2.2.2.1 rfl), (tb_mm tw_4_4.2.2.2.2.2.2.2.2.2.2.2.2.2.2.2 rfl), cd_X7_isRule, by decide, TX7, 5, rfl⟩
theorem vl_X7_72 : tb_VL RX7 72 M_X4_tryNothing 0 4 := ⟨(tb_mm tw_6_2.2.2.2.2.2.2.2.2.1 rfl), (tb_mm tw_6_2.2.2.2.2.2.2.2.2.2.1 rfl), (tb_mm tw_6_2.2.2.2.2.2.2.2.2.2.2.1 rfl), cd_X4_tryNothing, by decide, TX4, 5, rfl⟩
theorem vl_X7_75 : tb_VL RX7 75 M_X7_leftOf 1 7 := ⟨(tb_mm tw_5_14.1 rfl), (tb_mm tw_5_14.2.2.1 rfl), (tb_mp tp_5 (.tail _ (.tail _ (.tail _ (.head _)))) rfl), cd_X7_leftOf, by decide, TX7, 5, rfl⟩
theorem vl_X7_79 : tb_VL RX7 79 M_X7_meet 3 7 := ⟨(tb_mm tw_5_14.2.2.2.2.1 rfl), (tb_mm tw_5_14.2.2.2.2.2.2.1 rfl), (tb_mp tp_5 (.tail _ (.tail _ (.tail _ (.tail _ (.head _))))) rfl), cd_X7_meet, by decide, TX7, 5, rfl⟩
theorem vl_X7_83 : tb_VL RX7 83 M_X9_inPlace 2 9 := ⟨(tb_mm tw_5_14.2.2.2.2.2.2.2.2.1 rfl), (tb_mm tw_5_14.2.2.2.2.2.2.2.2.2.1 rfl), (tb_mm tw_5_14.2.2.2.2.2.2.2.2.2.2.1 rfl), cd_X9_inPlace, by decide, TX9, 13, rfl⟩
theorem vl_X7_89 : tb_VL RX7 89 M_X10_wayOf 3 10 := ⟨(tb_mm tw_5_14.2.2.2.2.2.2.2.2.2.2.2.2.2.2.1 rfl), (tb_mm tw_3_7.2.2.2.2.2.2.2.2.1 rfl), (tb_mm tw_3_7.2.2.2.2.2.2.2.2.2.1 rfl), cd_X10_wayOf, by decide, TX10, 12, rfl⟩
theorem vl_X7_93 : tb_VL RX7 93 M_X7_isFound 3 7 := ⟨(tb_mm tw_6_7.2.2.2.2.2.2.2.2.2.1 rfl), (tb_mm tw_6_7.2.2.2.2.2.2.2.2.2.2.2.1 rfl), (tb_mp tp_5 (.tail _ (.tail _ (.tail _ (.tail _ (.tail _ (.tail _ (.tail _ (.head _)))))))) rfl), cd_X7_isFound, by decide, TX7, 5, rfl⟩
theorem vl_X7_96 : tb_VL RX7 96 M_X3_matches 2 3 := ⟨(tb_mm tw_4_1.2.2.2.2.2.2.2.2.2.2.2.2.2.2.1 rfl), (tb_mm tw_3_11.2.2.2.2.2.2.2.2.2.2.2.1 rfl), (tb_mm tw_3_11.2.2.2.2.2.2.2.2.2.2.2.2.1 rfl), cd_X3_matches, by decide, TX3, 2, rfl⟩
theorem vl_X7_104 : tb_VL RX7 104 M_X9_markParts 1 9 := ⟨(tb_mm tw_6_4.2.2.2.2.2.2.2.2.2.2.2.2.2.2.1 rfl), (tb_mm tw_6_4.2.2.2.1 rfl), (tb_mm tw_6_4.2.2.2.2.1 rfl), cd_X9_markParts, by decide, TX9, 13, rfl⟩
theorem sl_X7_111 : tb_SL RX7 111 M_X7_firstRule 3 := ⟨(tb_mm tw_6_4.2.2.2.2.2.2.2.2.2.2.2.2.2.2.2 rfl), (tb_mm tw_4_1.2.2.2.2.2.2.2.2.2.2.2.2.1 rfl), cd_X7_firstRule⟩
theorem ml_X8_3 : Cond.methodLink RX8 3 Lib.objectInit ∈ tb_W := (tb_mm tw_1_2.2.2.2.2.2.2.1 rfl)
theorem ml_X8_25 : Cond.methodLink RX8 25 arraycopyName ∈ tb_W := (tb_mm tw_5_2.1 rfl)
theorem ml_X9_3 : Cond.methodLink RX9 3 Lib.objectInit ∈ tb_W := (tb_mm tw_1_4.2.2.2.2.2.2.2.2.1 rfl)
theorem sl_X9_53 : tb_SL RX9 53 M_J7_fill_53178 2 := ⟨(tb_mm tw_1_4.2.2.2.2.2.2.2.2.2.1 rfl), (tb_mm tw_1_4.2.2.2.2.2.2.2.2.2.2.1 rfl), cd_J7_fill_53178⟩
theorem vl_X9_59 : tb_VL RX9 59 M_X9_made 4 9 := ⟨(tb_mm tw_3_0.2.2.2.2.1 rfl), (tb_mm tw_3_0.2.2.2.2.2.1 rfl), (tb_mm tw_3_0.2.2.2.2.2.2.1 rfl), cd_X9_made, by decide, TX9, 13, rfl⟩
theorem vl_X9_63 : tb_VL RX9 63 M_X8_has 1 8 := ⟨(tb_mm tw_3_0.2.2.2.2.2.2.2.2.1 rfl), (tb_mm tw_3_0.2.2.2.2.2.2.2.2.2.1 rfl), (tb_mm tw_3_0.2.2.2.2.2.2.2.2.2.2.1 rfl), cd_X8_has, by decide, TX8, 4, rfl⟩
theorem vl_X9_71 : tb_VL RX9 71 M_X9_bucketOf 1 9 := ⟨(tb_mm tw_3_0.2.2.2.2.2.2.2.2.2.2.2.2.1 rfl), (tb_mm tw_3_0.2.2.2.2.2.2.2.2.2.2.2.2.2.2.1 rfl), (tb_mp tp_1 (.tail _ (.tail _ (.head _))) rfl), cd_X9_bucketOf, by decide, TX9, 13, rfl⟩
theorem vl_X9_75 : tb_VL RX9 75 M_X9_isSame 2 9 := ⟨(tb_mm tw_3_1.2.2.2.1 rfl), (tb_mm tw_3_1.2.2.2.2.2.1 rfl), (tb_mp tp_1 (.tail _ (.tail _ (.tail _ (.head _)))) rfl), cd_X9_isSame, by decide, TX9, 13, rfl⟩
theorem vl_X9_79 : tb_VL RX9 79 M_X9_hasShapeOf 2 9 := ⟨(tb_mm tw_3_1.2.2.2.2.2.2.2.1 rfl), (tb_mm tw_3_1.2.2.2.2.2.2.2.2.2.1 rfl), (tb_mp tp_1 (.tail _ (.tail _ (.tail _ (.tail _ (.head _))))) rfl), cd_X9_hasShapeOf, by decide, TX9, 13, rfl⟩
theorem vl_X9_82 : tb_VL RX9 82 M_X9_measure 1 9 := ⟨(tb_mm tw_3_1.2.2.2.2.2.2.2.2.2.2.2.1 rfl), (tb_mm tw_3_1.2.2.2.2.2.2.2.2.2.2.2.2.2.1 rfl), (tb_mp tp_1 (.tail _ (.tail _ (.tail _ (.tail _ (.tail _ (.head _)))))) rfl), cd_X9_measure, by decide, TX9, 13, rfl⟩
theorem ml_X9_86 : Cond.methodLink RX9 86 Lib.Math.max.name ∈ tb_W := (tb_mm tw_3_1.1 rfl)
theorem vl_X9_92 : tb_VL RX9 92 M_X9_argumentAtPlace 2 9 := ⟨(tb_mm tw_5_14.2.2.2.2.2.2.2.2.2.2.2.2.1 rfl), (tb_mm tw_4_4.2.1 rfl), (tb_mm tw_4_4.2.2.1 rfl), cd_X9_argumentAtPlace, by decide, TX9, 13, rfl⟩
theorem vl_X9_95 : tb_VL RX9 95 M_X9_placeInArgument 3 9 := ⟨(tb_mm tw_5_14.2.2.2.2.2.2.2.2.2.2.2.2.2.1 rfl), (tb_mm tw_4_4.2.2.2.2.2.2.1 rfl), (tb_mm tw_4_4.2.2.2.2.2.2.2.1 rfl), cd_X9_placeInArgument, by decide, TX9, 13, rfl⟩
theorem vl_X9_99 : tb_VL RX9 99 M_X9_argumentOf 2 9 := ⟨(tb_mm tw_4_4.2.2.2.2.1 rfl), (tb_mm tw_3_5.2.2.2.2.2.2.1 rfl), (tb_mm tw_3_5.2.2.2.2.2.2.2.1 rfl), cd_X9_argumentOf, by decide, TX9, 13, rfl⟩
theorem vl_X9_102 : tb_VL RX9 102 M_X9_markParts 1 9 := ⟨(tb_mm tw_6_4.2.2.1 rfl), (tb_mm tw_6_4.2.2.2.1 rfl), (tb_mm tw_6_4.2.2.2.2.1 rfl), cd_X9_markParts, by decide, TX9, 13, rfl⟩
theorem ml_X9_105 : Cond.methodLink RX9 105 arraycopyName ∈ tb_W := (tb_mm tw_4_11.2.2.2.1 rfl)
theorem ml_X10_3 : Cond.methodLink RX10 3 Lib.objectInit ∈ tb_W := (tb_mm tw_2_0.2.2.2.2.2.1 rfl)
theorem vl_X10_50 : tb_VL RX10 50 M_X10_addPair 2 10 := ⟨(tb_mm tw_3_7.2.2.2.2.2.2.2.2.2.2.2.1 rfl), (tb_mm tw_3_7.2.2.2.2.2.2.2.2.2.2.2.2.2.1 rfl), (tb_mp tp_1 (.tail _ (.tail _ (.tail _ (.tail _ (.tail _ (.tail _ (.tail _ (.tail _ (.tail _ (.tail _ (.tail _ (.tail _ (.tail _ (.head _)))))))))))))) rfl), cd_X10_addPair, by decide, TX10, 12, rfl⟩
theorem vl_X10_54 : tb_VL RX10 54 M_X10_topOf 1 10 := ⟨(tb_mm tw_3_7.2.2.2.2.2.2.2.2.2.2.2.2.2.2.2 rfl), (tb_mm tw_3_8.2.1 rfl), (tb_mp tp_1 (.tail _ (.tail _ (.tail _ (.tail _ (.tail _ (.tail _ (.tail _ (.tail _ (.tail _ (.tail _ (.tail _ (.tail _ (.tail _ (.tail _ (.head _))))))))))))))) rfl), cd_X10_topOf, by decide, TX10, 12, rfl⟩
theorem vl_X10_58 : tb_VL RX10 58 M_X10_joined 2 10 := ⟨(tb_mm tw_3_8.2.2.2.2.2.2.2.2.2.2.2.1 rfl), (tb_mm tw_3_8.2.2.2.2.2.2.2.2.2.2.2.2.2.1 rfl), (tb_mp tp_2 (.tail _ (.head _)) rfl), cd_X10_joined, by decide, TX10, 12, rfl⟩
theorem vl_X10_62 : tb_VL RX10 62 M_X10_listAll 1 10 := ⟨(tb_mm tw_3_9.2.2.2.2.2.2.2.2.2.2.2.2.1 rfl), (tb_mm tw_3_9.2.2.2.2.2.2.2.2.2.2.2.2.2.2.1 rfl), (tb_mp tp_2 (.tail _ (.tail _ (.tail _ (.tail _ (.tail _ (.head _)))))) rfl), cd_X10_listAll, by decide, TX10, 12, rfl⟩
theorem vl_X10_65 : tb_VL RX10 65 M_X10_takenAway 1 10 := ⟨(tb_mm tw_3_10.1 rfl), (tb_mm tw_3_10.2.2.1 rfl), (tb_mp tp_2 (.tail _ (.tail _ (.tail _ (.tail _ (.tail _ (.tail _ (.head _))))))) rfl), cd_X10_takenAway, by decide, TX10, 12, rfl⟩
theorem vl_X10_68 : tb_VL RX10 68 M_X10_termOf 1 10 := ⟨(tb_mm tw_3_8.2.2.2.2.2.2.2.1 rfl), (tb_mm tw_3_8.2.2.2.2.2.2.2.2.2.1 rfl), (tb_mp tp_2 (.head _) rfl), cd_X10_termOf, by decide, TX10, 12, rfl⟩
theorem vl_X10_71 : tb_VL RX10 71 M_X9_argumentOf 2 9 := ⟨(tb_mm tw_3_9.2.2.2.2.2.2.2.1 rfl), (tb_mm tw_3_5.2.2.2.2.2.2.1 rfl), (tb_mm tw_3_5.2.2.2.2.2.2.2.1 rfl), cd_X9_argumentOf, by decide, TX9, 13, rfl⟩
theorem vl_X10_77 : tb_VL RX10 77 M_X10_sideOf 1 10 := ⟨(tb_mm tw_3_9.2.2.2.2.2.2.2.2.1 rfl), (tb_mm tw_3_9.2.2.2.2.2.2.2.2.2.2.1 rfl), (tb_mp tp_2 (.tail _ (.tail _ (.tail _ (.tail _ (.head _))))) rfl), cd_X10_sideOf, by decide, TX10, 12, rfl⟩
theorem vl_X10_80 : tb_VL RX10 80 M_X10_wake 1 10 := ⟨(tb_mm tw_3_8.2.2.2.1 rfl), (tb_mm tw_3_8.2.2.2.2.2.1 rfl), (tb_mp tp_1 (.tail _ (.tail _ (.tail _ (.tail _ (.tail _ (.tail _ (.tail _ (.tail _ (.tail _ (.tail _ (.tail _ (.tail _ (.tail _ (.tail _ (.tail _ (.head _)))))))))))))))) rfl), cd_X10_wake, by decide, TX10, 12, rfl⟩
theorem vl_X10_87 : tb_VL RX10 87 M_X10_lesser 2 10 := ⟨(tb_mm tw_3_8.2.2.2.2.2.2.2.2.2.2.2.2.2.2.2 rfl), (tb_mm tw_3_9.2.1 rfl), (tb_mp tp_2 (.tail _ (.tail _ (.head _))) rfl), cd_X10_lesser, by decide, TX10, 12, rfl⟩
theorem vl_X10_93 : tb_VL RX10 93 M_X10_partOf 2 10 := ⟨(tb_mm tw_3_9.2.2.2.1 rfl), (tb_mm tw_3_9.2.2.2.2.2.1 rfl), (tb_mp tp_2 (.tail _ (.tail _ (.tail _ (.head _)))) rfl), cd_X10_partOf, by decide, TX10, 12, rfl⟩
theorem vl_X10_96 : tb_VL RX10 96 M_X9_variableTerm 1 9 := ⟨(tb_mm tw_3_10.2.2.2.2.2.2.2.2.1 rfl), (tb_mm tw_3_0.2.1 rfl), (tb_mm tw_3_0.2.2.1 rfl), cd_X9_variableTerm, by decide, TX9, 13, rfl⟩
theorem vl_X10_99 : tb_VL RX10 99 M_X10_boundOf 1 10 := ⟨(tb_mm tw_3_10.2.2.2.2.2.2.2.2.2.1 rfl), (tb_mm tw_3_10.2.2.2.2.2.2.2.2.2.2.2.1 rfl), (tb_mp tp_2 (.tail _ (.tail _ (.tail _ (.tail _ (.tail _ (.tail _ (.tail _ (.head _)))))))) rfl), cd_X10_boundOf, by decide, TX10, 12, rfl⟩
theorem vl_X10_102 : tb_VL RX10 102 M_X10_solvedClass 2 10 := ⟨(tb_mm tw_3_10.2.2.2.2.2.2.2.2.2.2.2.2.2.1 rfl), (tb_mm tw_3_10.2.2.2.2.2.2.2.2.2.2.2.2.2.2.2 rfl), (tb_mp tp_2 (.tail _ (.tail _ (.tail _ (.tail _ (.tail _ (.tail _ (.tail _ (.tail _ (.head _))))))))) rfl), cd_X10_solvedClass, by decide, TX10, 12, rfl⟩
theorem vl_X10_105 : tb_VL RX10 105 M_X10_solvedTerm 2 10 := ⟨(tb_mm tw_3_11.2.1 rfl), (tb_mm tw_3_11.2.2.2.1 rfl), (tb_mp tp_2 (.tail _ (.tail _ (.tail _ (.tail _ (.tail _ (.tail _ (.tail _ (.tail _ (.tail _ (.head _)))))))))) rfl), cd_X10_solvedTerm, by decide, TX10, 12, rfl⟩
theorem vl_X10_108 : tb_VL RX10 108 M_X9_made 4 9 := ⟨(tb_mm tw_3_11.2.2.2.2.2.1 rfl), (tb_mm tw_3_0.2.2.2.2.2.1 rfl), (tb_mm tw_3_0.2.2.2.2.2.2.1 rfl), cd_X9_made, by decide, TX9, 13, rfl⟩
theorem vl_L_7 : tb_VL RL 7 M_X11_bank 1 11 := ⟨(tb_mm tw_4_12.2.1 rfl), (tb_mm tw_4_12.2.2.1 rfl), (tb_mm tw_4_12.2.2.2.1 rfl), cd_X11_bank, by decide, TX11, 16, rfl⟩
theorem vl_L_15 : tb_VL RL 15 M_X11_count 1 11 := ⟨(tb_mm tw_5_13.2.2.2.2.1 rfl), (tb_mm tw_5_13.2.2.2.2.2.1 rfl), (tb_mm tw_5_13.2.2.2.2.2.2.1 rfl), cd_X11_count, by decide, TX11, 16, rfl⟩
theorem vl_L_20 : tb_VL RL 20 M_X11_symbol 2 11 := ⟨(tb_mm tw_6_1.2.2.2.1 rfl), (tb_mm tw_6_1.2.2.2.2.1 rfl), (tb_mm tw_6_1.2.2.2.2.2.1 rfl), cd_X11_symbol, by decide, TX11, 16, rfl⟩
theorem vl_L_24 : tb_VL RL 24 M_X11_term 2 11 := ⟨(tb_mm tw_6_3.2.2.2.1 rfl), (tb_mm tw_6_3.2.2.2.2.1 rfl), (tb_mm tw_6_3.2.2.2.2.2.1 rfl), cd_X11_term, by decide, TX11, 16, rfl⟩
theorem vl_L_27 : tb_VL RL 27 M_X11_argument 2 11 := ⟨(tb_mm tw_6_5.2.2.2.1 rfl), (tb_mm tw_6_5.2.2.2.2.1 rfl), (tb_mm tw_6_5.2.2.2.2.2.1 rfl), cd_X11_argument, by decide, TX11, 16, rfl⟩
theorem vl_L_30 : tb_VL RL 30 M_X11_place 2 11 := ⟨(tb_mm tw_6_5.2.2.2.2.2.2.2.2.2.2.2.1 rfl), (tb_mm tw_6_5.2.2.2.2.2.2.2.2.2.2.2.2.1 rfl), (tb_mm tw_6_5.2.2.2.2.2.2.2.2.2.2.2.2.2 rfl), cd_X11_place, by decide, TX11, 16, rfl⟩
theorem vl_L_33 : tb_VL RL 33 M_X11_order 2 11 := ⟨(tb_mm tw_6_6.2.2.2.2.2.1 rfl), (tb_mm tw_6_6.2.2.2.2.2.2.1 rfl), (tb_mm tw_6_6.2.2.2.2.2.2.2.1 rfl), cd_X11_order, by decide, TX11, 16, rfl⟩
theorem vl_L_36 : tb_VL RL 36 M_X11_find 2 11 := ⟨(tb_mm tw_6_7.2.1 rfl), (tb_mm tw_6_7.2.2.1 rfl), (tb_mm tw_6_7.2.2.2.1 rfl), cd_X11_find, by decide, TX11, 16, rfl⟩
theorem vl_L_39 : tb_VL RL 39 M_X11_rule 2 11 := ⟨(tb_mm tw_6_8.2.1 rfl), (tb_mm tw_6_8.2.2.1 rfl), (tb_mm tw_6_8.2.2.2.1 rfl), cd_X11_rule, by decide, TX11, 16, rfl⟩
theorem vl_L_42 : tb_VL RL 42 M_X11_entry 1 11 := ⟨(tb_mm tw_6_8.2.2.2.2.2.2.2.2.1 rfl), (tb_mm tw_6_8.2.2.2.2.2.2.2.2.2.1 rfl), (tb_mm tw_6_8.2.2.2.2.2.2.2.2.2.2.1 rfl), cd_X11_entry, by decide, TX11, 16, rfl⟩
theorem vl_L_45 : tb_VL RL 45 M_X11_memo 2 11 := ⟨(tb_mm tw_6_9.2.1 rfl), (tb_mm tw_6_9.2.2.1 rfl), (tb_mm tw_6_9.2.2.2.1 rfl), cd_X11_memo, by decide, TX11, 16, rfl⟩
theorem vl_L_48 : tb_VL RL 48 M_X11_bound 1 11 := ⟨(tb_mm tw_6_9.2.2.2.2.2.2.2.2.1 rfl), (tb_mm tw_6_9.2.2.2.2.2.2.2.2.2.1 rfl), (tb_mm tw_6_9.2.2.2.2.2.2.2.2.2.2.1 rfl), cd_X11_bound, by decide, TX11, 16, rfl⟩
theorem vl_L_51 : tb_VL RL 51 M_X11_years 3 11 := ⟨(tb_mm tw_6_10.2.1 rfl), (tb_mm tw_6_10.2.2.1 rfl), (tb_mm tw_6_10.2.2.2.1 rfl), cd_X11_years, by decide, TX11, 16, rfl⟩
theorem il_L_55 : tb_IL RL 55 M_X11_init 0 := ⟨(tb_mm tw_1_1.2.2.2.2.2.2.2.2.1 rfl), (tb_mm tw_1_1.2.2.2.2.2.2.2.2.2.1 rfl), rfl, rfl, cd_X11_init⟩
theorem il_L_58 : tb_IL RL 58 M_X12_init 0 := ⟨(tb_mm tw_6_11.2.1 rfl), (tb_mm tw_6_11.2.2.1 rfl), rfl, rfl, cd_X12_init⟩
theorem vl_L_59 : tb_VL RL 59 M_X11_feed 5 11 := ⟨(tb_mm tw_2_13.1 rfl), (tb_mm tw_2_13.2.1 rfl), (tb_mm tw_2_13.2.2.1 rfl), cd_X11_feed, by decide, TX11, 16, rfl⟩
theorem vl_L_63 : tb_VL RL 63 M_X12_feed 5 12 := ⟨(tb_mm tw_7_5.2.2.2.2.2.1 rfl), (tb_mm tw_7_5.2.2.2.2.2.2.1 rfl), (tb_mm tw_7_5.2.2.2.2.2.2.2.1 rfl), cd_X12_feed, by decide, TX12, 47, rfl⟩
theorem ml_L_64 : Cond.methodLink RL 64 M_L_bank.1 ∈ tb_W := (tb_mm tw_4_11.2.2.2.2.2.2.2.2.2.2.2.2.2.1 rfl)
theorem ms_L_bank : Cond.static M_L_bank.1 ∈ tb_W := (tb_mm tw_4_11.2.2.2.2.2.2.2.2.2.2.2.2.2.2.1 rfl)
theorem vl_L_69 : tb_VL RL 69 M_X12_bank 1 12 := ⟨(tb_mm tw_7_5.2.2.2.2.2.2.2.2.2.1 rfl), (tb_mm tw_7_5.2.2.2.2.2.2.2.2.2.2.1 rfl), (tb_mm tw_7_5.2.2.2.2.2.2.2.2.2.2.2.1 rfl), cd_X12_bank, by decide, TX12, 47, rfl⟩
theorem vl_L_70 : tb_VL RL 70 M_X11_fault 0 11 := ⟨(tb_mm tw_2_13.2.2.2.2.2.2.2.2.1 rfl), (tb_mm tw_2_13.2.2.2.2.2.2.2.2.2.1 rfl), (tb_mm tw_2_13.2.2.2.2.2.2.2.2.2.2.1 rfl), cd_X11_fault, by decide, TX11, 16, rfl⟩
theorem vl_L_74 : tb_VL RL 74 M_X12_fault 0 12 := ⟨(tb_mm tw_8_0.2.2.2.2.2.2.2.2.2.2.1 rfl), (tb_mm tw_8_0.2.2.2.2.2.2.2.2.2.2.2.1 rfl), (tb_mm tw_8_0.2.2.2.2.2.2.2.2.2.2.2.2.1 rfl), cd_X12_fault, by decide, TX12, 47, rfl⟩
theorem ml_L_75 : Cond.methodLink RL 75 M_L_count.1 ∈ tb_W := (tb_mm tw_5_13.1 rfl)
theorem ms_L_count : Cond.static M_L_count.1 ∈ tb_W := (tb_mm tw_5_13.2.1 rfl)
theorem vl_L_77 : tb_VL RL 77 M_X12_count 1 12 := ⟨(tb_mm tw_8_0.2.2.2.2.2.2.2.2.2.2.2.2.2.2.1 rfl), (tb_mm tw_8_0.2.2.2.2.2.2.2.2.2.2.2.2.2.2.2 rfl), (tb_mm tw_8_1.1 rfl), cd_X12_count, by decide, TX12, 47, rfl⟩
theorem ml_L_78 : Cond.methodLink RL 78 M_L_symbol.1 ∈ tb_W := (tb_mm tw_6_1.1 rfl)
theorem ms_L_symbol : Cond.static M_L_symbol.1 ∈ tb_W := (tb_mm tw_6_1.2.1 rfl)
theorem vl_L_81 : tb_VL RL 81 M_X12_symbol 2 12 := ⟨(tb_mm tw_8_3.2.2.2.2.2.2.2.2.2.2.2.2.2.2.1 rfl), (tb_mm tw_8_3.2.2.2.2.2.2.2.2.2.2.2.2.2.2.2 rfl), (tb_mm tw_8_4.1 rfl), cd_X12_symbol, by decide, TX12, 47, rfl⟩
theorem ml_L_82 : Cond.methodLink RL 82 M_L_term.1 ∈ tb_W := (tb_mm tw_6_3.1 rfl)
theorem ms_L_term : Cond.static M_L_term.1 ∈ tb_W := (tb_mm tw_6_3.2.1 rfl)
theorem vl_L_84 : tb_VL RL 84 M_X12_term 2 12 := ⟨(tb_mm tw_8_4.2.2.2.2.2.2.2.2.2.2.1 rfl), (tb_mm tw_8_4.2.2.2.2.2.2.2.2.2.2.2.1 rfl), (tb_mm tw_8_4.2.2.2.2.2.2.2.2.2.2.2.2.1 rfl), cd_X12_term, by decide, TX12, 47, rfl⟩
theorem ml_L_85 : Cond.methodLink RL 85 M_L_argument.1 ∈ tb_W := (tb_mm tw_6_5.1 rfl)
theorem ms_L_argument : Cond.static M_L_argument.1 ∈ tb_W := (tb_mm tw_6_5.2.1 rfl)
theorem vl_L_87 : tb_VL RL 87 M_X12_argument 2 12 := ⟨(tb_mm tw_8_7.2.2.1 rfl), (tb_mm tw_8_7.2.2.2.1 rfl), (tb_mm tw_8_7.2.2.2.2.1 rfl), cd_X12_argument, by decide, TX12, 47, rfl⟩
theorem ml_L_88 : Cond.methodLink RL 88 M_L_place.1 ∈ tb_W := (tb_mm tw_6_5.2.2.2.2.2.2.2.2.1 rfl)
theorem ms_L_place : Cond.static M_L_place.1 ∈ tb_W := (tb_mm tw_6_5.2.2.2.2.2.2.2.2.2.1 rfl)
theorem vl_L_90 : tb_VL RL 90 M_X12_place 2 12 := ⟨(tb_mm tw_8_7.2.2.2.2.2.2.1 rfl), (tb_mm tw_8_7.2.2.2.2.2.2.2.1 rfl), (tb_mm tw_8_7.2.2.2.2.2.2.2.2.1 rfl), cd_X12_place, by decide, TX12, 47, rfl⟩
theorem ml_L_91 : Cond.methodLink RL 91 M_L_order.1 ∈ tb_W := (tb_mm tw_6_6.2.2.1 rfl)
theorem ms_L_order : Cond.static M_L_order.1 ∈ tb_W := (tb_mm tw_6_6.2.2.2.1 rfl)
theorem vl_L_93 : tb_VL RL 93 M_X12_order 2 12 := ⟨(tb_mm tw_8_7.2.2.2.2.2.2.2.2.2.2.1 rfl), (tb_mm tw_8_7.2.2.2.2.2.2.2.2.2.2.2.1 rfl), (tb_mm tw_8_7.2.2.2.2.2.2.2.2.2.2.2.2.1 rfl), cd_X12_order, by decide, TX12, 47, rfl⟩
theorem ml_L_94 : Cond.methodLink RL 94 M_L_find.1 ∈ tb_W := (tb_mm tw_6_6.2.2.2.2.2.2.2.2.2.2.2.2.2.1 rfl)
theorem ms_L_find : Cond.static M_L_find.1 ∈ tb_W := (tb_mm tw_6_6.2.2.2.2.2.2.2.2.2.2.2.2.2.2 rfl)
theorem vl_L_96 : tb_VL RL 96 M_X12_find 2 12 := ⟨(tb_mm tw_8_7.2.2.2.2.2.2.2.2.2.2.2.2.2.2.1 rfl), (tb_mm tw_8_7.2.2.2.2.2.2.2.2.2.2.2.2.2.2.2 rfl), (tb_mm tw_8_8.1 rfl), cd_X12_find, by decide, TX12, 47, rfl⟩
theorem ml_L_97 : Cond.methodLink RL 97 M_L_rule.1 ∈ tb_W := (tb_mm tw_6_7.2.2.2.2.2.2.2.2.2.2.2.2.2.1 rfl)
theorem ms_L_rule : Cond.static M_L_rule.1 ∈ tb_W := (tb_mm tw_6_7.2.2.2.2.2.2.2.2.2.2.2.2.2.2 rfl)
theorem vl_L_99 : tb_VL RL 99 M_X12_rule 2 12 := ⟨(tb_mm tw_8_8.2.2.2.2.2.2.1 rfl), (tb_mm tw_8_8.2.2.2.2.2.2.2.1 rfl), (tb_mm tw_8_8.2.2.2.2.2.2.2.2.1 rfl), cd_X12_rule, by decide, TX12, 47, rfl⟩
theorem ml_L_100 : Cond.methodLink RL 100 M_L_entry.1 ∈ tb_W := (tb_mm tw_6_8.2.2.2.2.2.1 rfl)
theorem ms_L_entry : Cond.static M_L_entry.1 ∈ tb_W := (tb_mm tw_6_8.2.2.2.2.2.2.1 rfl)
theorem vl_L_102 : tb_VL RL 102 M_X12_entry 1 12 := ⟨(tb_mm tw_8_8.2.2.2.2.2.2.2.2.2.2.1 rfl), (tb_mm tw_8_8.2.2.2.2.2.2.2.2.2.2.2.1 rfl), (tb_mm tw_8_8.2.2.2.2.2.2.2.2.2.2.2.2.1 rfl), cd_X12_entry, by decide, TX12, 47, rfl⟩
end
section
theorem ml_L_103 : Cond.methodLink RL 103 M_L_memo.1 ∈ tb_W := (tb_mm tw_6_8.2.2.2.2.2.2.2.2.2.2.2.2.1 rfl)
theorem ms_L_memo : Cond.static M_L_memo.1 ∈ tb_W := (tb_mm tw_6_8.2.2.2.2.2.2.2.2.2.2.2.2.2 rfl)
theorem vl_L_105 : tb_VL RL 105 M_X12_memo 2 12 := ⟨(tb_mm tw_8_8.2.2.2.2.2.2.2.2.2.2.2.2.2.2.1 rfl), (tb_mm tw_8_8.2.2.2.2.2.2.2.2.2.2.2.2.2.2.2 rfl), (tb_mm tw_8_9.1 rfl), cd_X12_memo, by decide, TX12, 47, rfl⟩
theorem ml_L_106 : Cond.methodLink RL 106 M_L_bound.1 ∈ tb_W := (tb_mm tw_6_9.2.2.2.2.2.1 rfl)
theorem ms_L_bound : Cond.static M_L_bound.1 ∈ tb_W := (tb_mm tw_6_9.2.2.2.2.2.2.1 rfl)
theorem vl_L_108 : tb_VL RL 108 M_X12_bound 1 12 := ⟨(tb_mm tw_8_9.2.2.1 rfl), (tb_mm tw_8_9.2.2.2.1 rfl), (tb_mm tw_8_9.2.2.2.2.1 rfl), cd_X12_bound, by decide, TX12, 47, rfl⟩
theorem vl_L_109 : tb_VL RL 109 M_X11_variable 1 11 := ⟨(tb_mm tw_2_13.2.2.2.2.2.2.2.2.2.2.2.2.1 rfl), (tb_mm tw_2_13.2.2.2.2.2.2.2.2.2.2.2.2.2 rfl), (tb_mm tw_2_14.1 rfl), cd_X11_variable, by decide, TX11, 16, rfl⟩
theorem vl_L_112 : tb_VL RL 112 M_X12_variable 1 12 := ⟨(tb_mm tw_8_9.2.2.2.2.2.2.1 rfl), (tb_mm tw_8_9.2.2.2.2.2.2.2.1 rfl), (tb_mm tw_8_9.2.2.2.2.2.2.2.2.1 rfl), cd_X12_variable, by decide, TX12, 47, rfl⟩
theorem vl_L_113 : tb_VL RL 113 M_X11_make 4 11 := ⟨(tb_mm tw_3_3.2.2.2.1 rfl), (tb_mm tw_3_3.2.2.2.2.1 rfl), (tb_mm tw_3_3.2.2.2.2.2.1 rfl), cd_X11_make, by decide, TX11, 16, rfl⟩
theorem vl_L_117 : tb_VL RL 117 M_X12_make 4 12 := ⟨(tb_mm tw_8_10.2.2.2.2.2.2.2.2.2.2.2.2.2.1 rfl), (tb_mm tw_8_10.2.2.2.2.2.2.2.2.2.2.2.2.2.2.1 rfl), (tb_mm tw_8_10.2.2.2.2.2.2.2.2.2.2.2.2.2.2.2 rfl), cd_X12_make, by decide, TX12, 47, rfl⟩
theorem vl_L_118 : tb_VL RL 118 M_X11_bind 2 11 := ⟨(tb_mm tw_3_4.2.1 rfl), (tb_mm tw_3_4.2.2.1 rfl), (tb_mm tw_3_4.2.2.2.1 rfl), cd_X11_bind, by decide, TX11, 16, rfl⟩
theorem vl_L_121 : tb_VL RL 121 M_X12_bind 2 12 := ⟨(tb_mm tw_8_11.2.1 rfl), (tb_mm tw_8_11.2.2.1 rfl), (tb_mm tw_8_11.2.2.2.1 rfl), cd_X12_bind, by decide, TX12, 47, rfl⟩
theorem vl_L_122 : tb_VL RL 122 M_X11_apply 1 11 := ⟨(tb_mm tw_3_4.2.2.2.2.2.1 rfl), (tb_mm tw_3_4.2.2.2.2.2.2.1 rfl), (tb_mm tw_3_4.2.2.2.2.2.2.2.1 rfl), cd_X11_apply, by decide, TX11, 16, rfl⟩
theorem vl_L_125 : tb_VL RL 125 M_X12_apply 1 12 := ⟨(tb_mm tw_8_11.2.2.2.2.2.1 rfl), (tb_mm tw_8_11.2.2.2.2.2.2.1 rfl), (tb_mm tw_8_11.2.2.2.2.2.2.2.1 rfl), cd_X12_apply, by decide, TX12, 47, rfl⟩
theorem vl_L_126 : tb_VL RL 126 M_X11_close 1 11 := ⟨(tb_mm tw_3_5.2.2.2.2.2.2.2.2.2.2.1 rfl), (tb_mm tw_3_5.2.2.2.2.2.2.2.2.2.2.2.1 rfl), (tb_mm tw_3_5.2.2.2.2.2.2.2.2.2.2.2.2.1 rfl), cd_X11_close, by decide, TX11, 16, rfl⟩
theorem vl_L_129 : tb_VL RL 129 M_X12_close 1 12 := ⟨(tb_mm tw_8_12.2.2.2.2.2.1 rfl), (tb_mm tw_8_12.2.2.2.2.2.2.1 rfl), (tb_mm tw_8_12.2.2.2.2.2.2.2.1 rfl), cd_X12_close, by decide, TX12, 47, rfl⟩
theorem vl_L_130 : tb_VL RL 130 M_X11_unify 2 11 := ⟨(tb_mm tw_3_7.2.2.2.1 rfl), (tb_mm tw_3_7.2.2.2.2.1 rfl), (tb_mm tw_3_7.2.2.2.2.2.1 rfl), cd_X11_unify, by decide, TX11, 16, rfl⟩
theorem vl_L_133 : tb_VL RL 133 M_X12_unify 2 12 := ⟨(tb_mm tw_8_13.2.2.2.2.2.1 rfl), (tb_mm tw_8_13.2.2.2.2.2.2.1 rfl), (tb_mm tw_8_13.2.2.2.2.2.2.2.1 rfl), cd_X12_unify, by decide, TX12, 47, rfl⟩
theorem vl_L_134 : tb_VL RL 134 M_X11_match 2 11 := ⟨(tb_mm tw_3_11.2.2.2.2.2.2.1 rfl), (tb_mm tw_3_11.2.2.2.2.2.2.2.1 rfl), (tb_mm tw_3_11.2.2.2.2.2.2.2.2.1 rfl), cd_X11_match, by decide, TX11, 16, rfl⟩
theorem vl_L_137 : tb_VL RL 137 M_X12_match 2 12 := ⟨(tb_mm tw_8_14.2.2.2.2.2.1 rfl), (tb_mm tw_8_14.2.2.2.2.2.2.1 rfl), (tb_mm tw_8_14.2.2.2.2.2.2.2.1 rfl), cd_X12_match, by decide, TX12, 47, rfl⟩
theorem vl_L_138 : tb_VL RL 138 M_X11_common 2 11 := ⟨(tb_mm tw_3_12.2.2.2.2.2.2.2.2.2.2.1 rfl), (tb_mm tw_3_12.2.2.2.2.2.2.2.2.2.2.2.1 rfl), (tb_mm tw_3_12.2.2.2.2.2.2.2.2.2.2.2.2.1 rfl), cd_X11_common, by decide, TX11, 16, rfl⟩
theorem vl_L_141 : tb_VL RL 141 M_X12_common 2 12 := ⟨(tb_mm tw_8_14.2.2.2.2.2.2.2.2.2.1 rfl), (tb_mm tw_8_14.2.2.2.2.2.2.2.2.2.2.1 rfl), (tb_mm tw_8_14.2.2.2.2.2.2.2.2.2.2.2.1 rfl), cd_X12_common, by decide, TX12, 47, rfl⟩
theorem vl_L_142 : tb_VL RL 142 M_X11_normal 1 11 := ⟨(tb_mm tw_3_14.2.2.2.2.2.2.2.1 rfl), (tb_mm tw_3_14.2.2.2.2.2.2.2.2.1 rfl), (tb_mm tw_3_14.2.2.2.2.2.2.2.2.2.1 rfl), cd_X11_normal, by decide, TX11, 16, rfl⟩
theorem vl_L_145 : tb_VL RL 145 M_X12_normal 1 12 := ⟨(tb_mm tw_9_0.2.2.2.2.2.1 rfl), (tb_mm tw_9_0.2.2.2.2.2.2.1 rfl), (tb_mm tw_9_0.2.2.2.2.2.2.2.1 rfl), cd_X12_normal, by decide, TX12, 47, rfl⟩
theorem vl_L_146 : tb_VL RL 146 M_X11_put 3 11 := ⟨(tb_mm tw_4_3.1 rfl), (tb_mm tw_4_3.2.1 rfl), (tb_mm tw_4_3.2.2.1 rfl), cd_X11_put, by decide, TX11, 16, rfl⟩
theorem vl_L_149 : tb_VL RL 149 M_X12_put 3 12 := ⟨(tb_mm tw_9_2.2.1 rfl), (tb_mm tw_9_2.2.2.1 rfl), (tb_mm tw_9_2.2.2.2.1 rfl), cd_X12_put, by decide, TX12, 47, rfl⟩
theorem vl_L_150 : tb_VL RL 150 M_X11_rules 2 11 := ⟨(tb_mm tw_4_4.2.2.2.2.2.2.2.2.2.1 rfl), (tb_mm tw_4_4.2.2.2.2.2.2.2.2.2.2.1 rfl), (tb_mm tw_4_4.2.2.2.2.2.2.2.2.2.2.2.1 rfl), cd_X11_rules, by decide, TX11, 16, rfl⟩
theorem vl_L_153 : tb_VL RL 153 M_X12_rules 2 12 := ⟨(tb_mm tw_9_2.2.2.2.2.2.2.2.2.2.2.2.2.2.1 rfl), (tb_mm tw_9_2.2.2.2.2.2.2.2.2.2.2.2.2.2.2.1 rfl), (tb_mm tw_9_2.2.2.2.2.2.2.2.2.2.2.2.2.2.2.2 rfl), cd_X12_rules, by decide, TX12, 47, rfl⟩
theorem vl_L_154 : tb_VL RL 154 M_X11_enter 1 11 := ⟨(tb_mm tw_4_6.2.2.2.2.2.2.2.2.2.2.2.2.2.2.2 rfl), (tb_mm tw_4_7.1 rfl), (tb_mm tw_4_7.2.1 rfl), cd_X11_enter, by decide, TX11, 16, rfl⟩
theorem vl_L_157 : tb_VL RL 157 M_X12_enter 1 12 := ⟨(tb_mm tw_9_3.2.1 rfl), (tb_mm tw_9_3.2.2.1 rfl), (tb_mm tw_9_3.2.2.2.1 rfl), cd_X12_enter, by decide, TX12, 47, rfl⟩
theorem vl_L_158 : tb_VL RL 158 M_X11_leave 1 11 := ⟨(tb_mm tw_4_7.2.2.2.2.2.2.2.2.2.2.2.1 rfl), (tb_mm tw_4_7.2.2.2.2.2.2.2.2.2.2.2.2.1 rfl), (tb_mm tw_4_7.2.2.2.2.2.2.2.2.2.2.2.2.2.1 rfl), cd_X11_leave, by decide, TX11, 16, rfl⟩
theorem vl_L_161 : tb_VL RL 161 M_X12_leave 1 12 := ⟨(tb_mm tw_9_3.2.2.2.2.2.1 rfl), (tb_mm tw_9_3.2.2.2.2.2.2.1 rfl), (tb_mm tw_9_3.2.2.2.2.2.2.2.1 rfl), cd_X12_leave, by decide, TX12, 47, rfl⟩
theorem vl_L_162 : tb_VL RL 162 M_X11_room 1 11 := ⟨(tb_mm tw_4_8.2.2.2.1 rfl), (tb_mm tw_4_8.2.2.2.2.1 rfl), (tb_mm tw_4_8.2.2.2.2.2.1 rfl), cd_X11_room, by decide, TX11, 16, rfl⟩
theorem vl_L_165 : tb_VL RL 165 M_X12_room 1 12 := ⟨(tb_mm tw_9_3.2.2.2.2.2.2.2.2.2.1 rfl), (tb_mm tw_9_3.2.2.2.2.2.2.2.2.2.2.1 rfl), (tb_mm tw_9_3.2.2.2.2.2.2.2.2.2.2.2.1 rfl), cd_X12_room, by decide, TX12, 47, rfl⟩
theorem vl_L_166 : tb_VL RL 166 M_X11_draw 2 11 := ⟨(tb_mm tw_4_8.2.2.2.2.2.2.2.2.2.2.2.1 rfl), (tb_mm tw_4_8.2.2.2.2.2.2.2.2.2.2.2.2.1 rfl), (tb_mm tw_4_8.2.2.2.2.2.2.2.2.2.2.2.2.2.1 rfl), cd_X11_draw, by decide, TX11, 16, rfl⟩
theorem vl_L_169 : tb_VL RL 169 M_X12_draw 2 12 := ⟨(tb_mm tw_9_3.2.2.2.2.2.2.2.2.2.2.2.2.2.1 rfl), (tb_mm tw_9_3.2.2.2.2.2.2.2.2.2.2.2.2.2.2.1 rfl), (tb_mm tw_9_3.2.2.2.2.2.2.2.2.2.2.2.2.2.2.2 rfl), cd_X12_draw, by decide, TX12, 47, rfl⟩
theorem vl_L_170 : tb_VL RL 170 M_X11_undo 0 11 := ⟨(tb_mm tw_4_9.2.2.2.2.2.2.2.2.2.2.2.2.2.2.2 rfl), (tb_mm tw_4_10.1 rfl), (tb_mm tw_4_10.2.1 rfl), cd_X11_undo, by decide, TX11, 16, rfl⟩
theorem vl_L_173 : tb_VL RL 173 M_X12_undo 0 12 := ⟨(tb_mm tw_9_4.2.2.2.2.2.2.2.2.2.2.1 rfl), (tb_mm tw_9_4.2.2.2.2.2.2.2.2.2.2.2.1 rfl), (tb_mm tw_9_4.2.2.2.2.2.2.2.2.2.2.2.2.1 rfl), cd_X12_undo, by decide, TX12, 47, rfl⟩
theorem ml_L_174 : Cond.methodLink RL 174 M_L_years.1 ∈ tb_W := (tb_mm tw_6_9.2.2.2.2.2.2.2.2.2.2.2.2.1 rfl)
theorem ms_L_years : Cond.static M_L_years.1 ∈ tb_W := (tb_mm tw_6_9.2.2.2.2.2.2.2.2.2.2.2.2.2 rfl)
theorem vl_L_177 : tb_VL RL 177 M_X12_years 3 12 := ⟨(tb_mm tw_9_4.2.2.2.2.2.2.2.2.2.2.2.2.2.2.1 rfl), (tb_mm tw_9_4.2.2.2.2.2.2.2.2.2.2.2.2.2.2.2 rfl), (tb_mm tw_9_5.1 rfl), cd_X12_years, by decide, TX12, 47, rfl⟩
theorem vl_L_178 : tb_VL RL 178 M_X12_thrown 0 12 := ⟨(tb_mm tw_7_5.2.1 rfl), (tb_mm tw_7_5.2.2.1 rfl), (tb_mm tw_7_5.2.2.2.1 rfl), cd_X12_thrown, by decide, TX12, 47, rfl⟩
theorem vl_L_181 : tb_VL RL 181 M_X11_image 0 11 := ⟨(tb_mm tw_4_10.2.2.2.2.2.2.2.1 rfl), (tb_mm tw_4_10.2.2.2.2.2.2.2.2.1 rfl), (tb_mm tw_4_10.2.2.2.2.2.2.2.2.2.1 rfl), cd_X11_image, by decide, TX11, 16, rfl⟩
theorem vl_L_184 : tb_VL RL 184 M_X12_image 0 12 := ⟨(tb_mm tw_9_5.2.2.1 rfl), (tb_mm tw_9_5.2.2.2.1 rfl), (tb_mm tw_9_5.2.2.2.2.1 rfl), cd_X12_image, by decide, TX12, 47, rfl⟩
theorem vl_L_185 : tb_VL RL 185 M_X11_restore 0 11 := ⟨(tb_mm tw_4_11.2.2.2.2.2.2.2.2.2.1 rfl), (tb_mm tw_4_11.2.2.2.2.2.2.2.2.2.2.1 rfl), (tb_mm tw_4_11.2.2.2.2.2.2.2.2.2.2.2.1 rfl), cd_X11_restore, by decide, TX11, 16, rfl⟩
theorem vl_L_189 : tb_VL RL 189 M_X12_restore 0 12 := ⟨(tb_mm tw_9_5.2.2.2.2.2.2.1 rfl), (tb_mm tw_9_5.2.2.2.2.2.2.2.1 rfl), (tb_mm tw_9_5.2.2.2.2.2.2.2.2.1 rfl), cd_X12_restore, by decide, TX12, 47, rfl⟩
theorem ml_X12_3 : Cond.methodLink RX12 3 Lib.objectInit ∈ tb_W := (tb_mm tw_6_11.2.2.2.2.1 rfl)
theorem vl_X12_74 : tb_VL RX12 74 M_X12_head 1 12 := ⟨(tb_mm tw_7_10.2.2.2.2.2.2.2.1 rfl), (tb_mm tw_7_10.2.2.2.2.2.2.2.2.2.1 rfl), (tb_mp tp_6 (.tail _ (.tail _ (.tail _ (.tail _ (.tail _ (.tail _ (.tail _ (.tail _ (.tail _ (.tail _ (.head _))))))))))) rfl), cd_X12_head, by decide, TX12, 47, rfl⟩
theorem vl_X12_78 : tb_VL RX12 78 M_X12_isVariable 1 12 := ⟨(tb_mm tw_7_11.2.2.2.2.2.2.2.2.2.2.2.2.2.2.1 rfl), (tb_mm tw_7_12.1 rfl), (tb_mp tp_6 (.tail _ (.tail _ (.tail _ (.tail _ (.tail _ (.tail _ (.tail _ (.tail _ (.tail _ (.tail _ (.tail _ (.tail _ (.tail _ (.tail _ (.tail _ (.head _)))))))))))))))) rfl), cd_X12_isVariable, by decide, TX12, 47, rfl⟩
theorem vl_X12_88 : tb_VL RX12 88 M_X12_argument1 2 12 := ⟨(tb_mm tw_7_10.2.2.2.2.2.2.2.2.2.2.2.1 rfl), (tb_mm tw_7_10.2.2.2.2.2.2.2.2.2.2.2.2.2.1 rfl), (tb_mp tp_6 (.tail _ (.tail _ (.tail _ (.tail _ (.tail _ (.tail _ (.tail _ (.tail _ (.tail _ (.tail _ (.tail _ (.head _)))))))))))) rfl), cd_X12_argument1, by decide, TX12, 47, rfl⟩
theorem vl_X12_96 : tb_VL RX12 96 M_X12_many 0 12 := ⟨(tb_mm tw_7_9.2.2.2.2.2.2.2.2.2.2.2.2.2.2.2 rfl), (tb_mm tw_7_10.2.1 rfl), (tb_mp tp_6 (.tail _ (.tail _ (.tail _ (.tail _ (.tail _ (.tail _ (.tail _ (.tail _ (.head _))))))))) rfl), cd_X12_many, by decide, TX12, 47, rfl⟩
theorem vl_X12_100 : tb_VL RX12 100 M_X12_isThat 6 12 := ⟨(tb_mm tw_7_10.2.2.2.1 rfl), (tb_mm tw_7_10.2.2.2.2.2.1 rfl), (tb_mp tp_6 (.tail _ (.tail _ (.tail _ (.tail _ (.tail _ (.tail _ (.tail _ (.tail _ (.tail _ (.head _)))))))))) rfl), cd_X12_isThat, by decide, TX12, 47, rfl⟩
theorem sl_X12_104 : tb_SL RX12 104 M_X12_greater 2 := ⟨(tb_mm tw_7_10.2.2.2.2.2.2.2.2.2.2.2.2.2.2.2 rfl), (tb_mm tw_7_11.1 rfl), cd_X12_greater⟩
theorem vl_X12_107 : tb_VL RX12 107 M_X12_termOf 4 12 := ⟨(tb_mm tw_7_9.2.2.2.2.2.2.2.2.2.2.2.1 rfl), (tb_mm tw_7_9.2.2.2.2.2.2.2.2.2.2.2.2.2.1 rfl), (tb_mp tp_6 (.tail _ (.tail _ (.tail _ (.tail _ (.tail _ (.tail _ (.tail _ (.head _)))))))) rfl), cd_X12_termOf, by decide, TX12, 47, rfl⟩
theorem vl_X12_111 : tb_VL RX12 111 M_X12_arityOf 1 12 := ⟨(tb_mm tw_7_12.2.2.2.2.2.2.2.2.2.2.2.2.2.2.1 rfl), (tb_mm tw_7_13.1 rfl), (tb_mp tp_7 (.tail _ (.tail _ (.tail _ (.head _)))) rfl), cd_X12_arityOf, by decide, TX12, 47, rfl⟩
theorem vl_X12_114 : tb_VL RX12 114 M_X12_sizeOf 1 12 := ⟨(tb_mm tw_7_13.2.2.2.2.2.2.2.2.2.2.1 rfl), (tb_mm tw_7_13.2.2.2.2.2.2.2.2.2.2.2.2.1 rfl), (tb_mp tp_7 (.tail _ (.tail _ (.tail _ (.tail _ (.tail _ (.tail _ (.head _))))))) rfl), cd_X12_sizeOf, by decide, TX12, 47, rfl⟩
theorem vl_X12_117 : tb_VL RX12 117 M_X12_weightOfHead 1 12 := ⟨(tb_mm tw_7_13.2.2.2.2.2.2.1 rfl), (tb_mm tw_7_13.2.2.2.2.2.2.2.2.1 rfl), (tb_mp tp_7 (.tail _ (.tail _ (.tail _ (.tail _ (.tail _ (.head _)))))) rfl), cd_X12_weightOfHead, by decide, TX12, 47, rfl⟩
theorem vl_X12_120 : tb_VL RX12 120 M_X12_weightOf 1 12 := ⟨(tb_mm tw_7_13.2.2.1 rfl), (tb_mm tw_7_13.2.2.2.2.1 rfl), (tb_mp tp_7 (.tail _ (.tail _ (.tail _ (.tail _ (.head _))))) rfl), cd_X12_weightOf, by decide, TX12, 47, rfl⟩
theorem vl_X12_123 : tb_VL RX12 123 M_X12_variableOf 1 12 := ⟨(tb_mm tw_7_12.2.2.2.2.2.2.2.2.2.2.1 rfl), (tb_mm tw_7_12.2.2.2.2.2.2.2.2.2.2.2.2.1 rfl), (tb_mp tp_7 (.tail _ (.tail _ (.head _))) rfl), cd_X12_variableOf, by decide, TX12, 47, rfl⟩
theorem vl_X12_126 : tb_VL RX12 126 M_X12_variablesIn 1 12 := ⟨(tb_mm tw_8_5.2.2.2.2.2.2.2.2.2.2.2.2.2.2.1 rfl), (tb_mm tw_8_6.1 rfl), (tb_mp tp_8 (.tail _ (.tail _ (.tail _ (.tail _ (.tail _ (.tail _ (.tail _ (.tail _ (.tail _ (.tail _ (.tail _ (.tail _ (.tail _ (.tail _ (.tail _ (.head _)))))))))))))))) rfl), cd_X12_variablesIn, by decide, TX12, 47, rfl⟩
theorem vl_X12_129 : tb_VL RX12 129 M_X12_timesOf 2 12 := ⟨(tb_mm tw_7_12.2.2.2.2.2.2.1 rfl), (tb_mm tw_7_12.2.2.2.2.2.2.2.2.1 rfl), (tb_mp tp_7 (.tail _ (.head _)) rfl), cd_X12_timesOf, by decide, TX12, 47, rfl⟩
theorem vl_X12_132 : tb_VL RX12 132 M_X12_isIn 2 12 := ⟨(tb_mm tw_8_5.2.2.2.2.2.2.2.2.2.2.1 rfl), (tb_mm tw_8_5.2.2.2.2.2.2.2.2.2.2.2.2.1 rfl), (tb_mp tp_8 (.tail _ (.tail _ (.tail _ (.tail _ (.tail _ (.tail _ (.tail _ (.tail _ (.tail _ (.tail _ (.tail _ (.tail _ (.tail _ (.tail _ (.head _))))))))))))))) rfl), cd_X12_isIn, by decide, TX12, 47, rfl⟩
theorem vl_X12_136 : tb_VL RX12 136 M_X12_isShape 2 12 := ⟨(tb_mm tw_8_1.2.2.2.2.2.2.1 rfl), (tb_mm tw_8_1.2.2.2.2.2.2.2.2.1 rfl), (tb_mp tp_7 (.tail _ (.tail _ (.tail _ (.tail _ (.tail _ (.tail _ (.tail _ (.tail _ (.tail _ (.tail _ (.tail _ (.tail _ (.tail _ (.tail _ (.tail _ (.head _)))))))))))))))) rfl), cd_X12_isShape, by decide, TX12, 47, rfl⟩
theorem vl_X12_139 : tb_VL RX12 139 M_X12_placeOf 2 12 := ⟨(tb_mm tw_8_1.2.2.2.2.2.2.2.2.2.2.2.2.2.2.1 rfl), (tb_mm tw_8_2.1 rfl), (tb_mp tp_8 (.tail _ (.head _)) rfl), cd_X12_placeOf, by decide, TX12, 47, rfl⟩
theorem vl_X12_142 : tb_VL RX12 142 M_X12_isGreater 2 12 := ⟨(tb_mm tw_7_12.2.2.1 rfl), (tb_mm tw_7_12.2.2.2.2.1 rfl), (tb_mp tp_7 (.head _) rfl), cd_X12_isGreater, by decide, TX12, 47, rfl⟩
theorem vl_X12_145 : tb_VL RX12 145 M_X12_matches 2 12 := ⟨(tb_mm tw_8_6.2.2.2.2.2.2.2.2.2.2.2.2.2.2.1 rfl), (tb_mm tw_8_7.1 rfl), (tb_mp tp_9 (.tail _ (.tail _ (.tail _ (.head _)))) rfl), cd_X12_matches, by decide, TX12, 47, rfl⟩
theorem vl_X12_148 : tb_VL RX12 148 M_X12_appliedBy 2 12 := ⟨(tb_mm tw_8_11.2.2.2.2.2.2.2.2.2.2.2.2.2.1 rfl), (tb_mm tw_8_11.2.2.2.2.2.2.2.2.2.2.2.2.2.2.2 rfl), (tb_mp tp_9 (.tail _ (.tail _ (.tail _ (.tail _ (.tail _ (.tail _ (.tail _ (.tail _ (.tail _ (.tail _ (.head _))))))))))) rfl), cd_X12_appliedBy, by decide, TX12, 47, rfl⟩
theorem vl_X12_152 : tb_VL RX12 152 M_X12_remade 4 12 := ⟨(tb_mm tw_8_12.2.1 rfl), (tb_mm tw_8_12.2.2.2.1 rfl), (tb_mp tp_9 (.tail _ (.tail _ (.tail _ (.tail _ (.tail _ (.tail _ (.tail _ (.tail _ (.tail _ (.tail _ (.tail _ (.head _)))))))))))) rfl), cd_X12_remade, by decide, TX12, 47, rfl⟩
theorem vl_X12_155 : tb_VL RX12 155 M_X12_isTooDeep 1 12 := ⟨(tb_mm tw_8_13.2.1 rfl), (tb_mm tw_8_13.2.2.2.1 rfl), (tb_mp tp_9 (.tail _ (.tail _ (.tail _ (.tail _ (.tail _ (.tail _ (.tail _ (.tail _ (.tail _ (.tail _ (.tail _ (.tail _ (.tail _ (.tail _ (.head _))))))))))))))) rfl), cd_X12_isTooDeep, by decide, TX12, 47, rfl⟩
theorem vl_X12_158 : tb_VL RX12 158 M_X12_closedOf 2 12 := ⟨(tb_mm tw_8_12.2.2.2.2.2.2.2.2.2.2.2.2.2.1 rfl), (tb_mm tw_8_12.2.2.2.2.2.2.2.2.2.2.2.2.2.2.2 rfl), (tb_mp tp_9 (.tail _ (.tail _ (.tail _ (.tail _ (.tail _ (.tail _ (.tail _ (.tail _ (.tail _ (.tail _ (.tail _ (.tail _ (.tail _ (.head _)))))))))))))) rfl), cd_X12_closedOf, by decide, TX12, 47, rfl⟩
theorem vl_X12_164 : tb_VL RX12 164 M_X12_top 1 12 := ⟨(tb_mm tw_8_3.2.2.1 rfl), (tb_mm tw_8_3.2.2.2.2.1 rfl), (tb_mp tp_8 (.tail _ (.tail _ (.tail _ (.tail _ (.tail _ (.tail _ (.head _))))))) rfl), cd_X12_top, by decide, TX12, 47, rfl⟩
theorem vl_X12_167 : tb_VL RX12 167 M_X12_argumentOf 2 12 := ⟨(tb_mm tw_8_3.2.2.2.2.2.2.1 rfl), (tb_mm tw_8_3.2.2.2.2.2.2.2.2.1 rfl), (tb_mp tp_8 (.tail _ (.tail _ (.tail _ (.tail _ (.tail _ (.tail _ (.tail _ (.head _)))))))) rfl), cd_X12_argumentOf, by decide, TX12, 47, rfl⟩
theorem vl_X12_170 : tb_VL RX12 170 M_X12_joins 2 12 := ⟨(tb_mm tw_8_2.2.2.2.2.2.2.2.2.2.2.2.2.2.2.1 rfl), (tb_mm tw_8_3.1 rfl), (tb_mp tp_8 (.tail _ (.tail _ (.tail _ (.tail _ (.tail _ (.head _)))))) rfl), cd_X12_joins, by decide, TX12, 47, rfl⟩
theorem vl_X12_174 : tb_VL RX12 174 M_X12_turns 1 12 := ⟨(tb_mm tw_8_3.2.2.2.2.2.2.2.2.2.2.1 rfl), (tb_mm tw_8_3.2.2.2.2.2.2.2.2.2.2.2.2.1 rfl), (tb_mp tp_8 (.tail _ (.tail _ (.tail _ (.tail _ (.tail _ (.tail _ (.tail _ (.tail _ (.head _))))))))) rfl), cd_X12_turns, by decide, TX12, 47, rfl⟩
theorem vl_X12_177 : tb_VL RX12 177 M_X12_beginsClasses 0 12 := ⟨(tb_mm tw_8_2.2.2.2.2.2.2.2.2.2.2.1 rfl), (tb_mm tw_8_2.2.2.2.2.2.2.2.2.2.2.2.2.1 rfl), (tb_mp tp_8 (.tail _ (.tail _ (.tail _ (.tail _ (.head _))))) rfl), cd_X12_beginsClasses, by decide, TX12, 47, rfl⟩
theorem vl_X12_180 : tb_VL RX12 180 M_X12_variableTerm 1 12 := ⟨(tb_mm tw_7_9.2.2.2.2.2.2.2.1 rfl), (tb_mm tw_7_9.2.2.2.2.2.2.2.2.2.1 rfl), (tb_mp tp_6 (.tail _ (.tail _ (.tail _ (.tail _ (.tail _ (.tail _ (.head _))))))) rfl), cd_X12_variableTerm, by decide, TX12, 47, rfl⟩
theorem vl_X12_183 : tb_VL RX12 183 M_X12_solved 2 12 := ⟨(tb_mm tw_8_14.2.1 rfl), (tb_mm tw_8_14.2.2.2.1 rfl), (tb_mp tp_10 (.tail _ (.head _)) rfl), cd_X12_solved, by decide, TX12, 47, rfl⟩
theorem vl_X12_186 : tb_VL RX12 186 M_X12_thereOf 1 12 := ⟨(tb_mm tw_8_13.2.2.2.2.2.2.2.2.2.2.2.2.2.1 rfl), (tb_mm tw_8_13.2.2.2.2.2.2.2.2.2.2.2.2.2.2.2 rfl), (tb_mp tp_10 (.head _) rfl), cd_X12_thereOf, by decide, TX12, 47, rfl⟩
theorem vl_X12_189 : tb_VL RX12 189 M_X12_unifies 2 12 := ⟨(tb_mm tw_8_2.2.2.2.2.2.2.1 rfl), (tb_mm tw_8_2.2.2.2.2.2.2.2.2.1 rfl), (tb_mp tp_8 (.tail _ (.tail _ (.tail _ (.head _)))) rfl), cd_X12_unifies, by decide, TX12, 47, rfl⟩
theorem vl_X12_198 : tb_VL RX12 198 M_X12_coupleOf 2 12 := ⟨(tb_mm tw_9_0.2.1 rfl), (tb_mm tw_9_0.2.2.2.1 rfl), (tb_mp tp_10 (.tail _ (.tail _ (.tail _ (.head _)))) rfl), cd_X12_coupleOf, by decide, TX12, 47, rfl⟩
theorem vl_X12_201 : tb_VL RX12 201 M_X12_commonOf 2 12 := ⟨(tb_mm tw_8_14.2.2.2.2.2.2.2.2.2.2.2.2.2.1 rfl), (tb_mm tw_8_14.2.2.2.2.2.2.2.2.2.2.2.2.2.2.2 rfl), (tb_mp tp_10 (.tail _ (.tail _ (.head _))) rfl), cd_X12_commonOf, by decide, TX12, 47, rfl⟩
theorem vl_X12_204 : tb_VL RX12 204 M_X12_memoLoses 1 12 := ⟨(tb_mm tw_9_1.2.2.2.2.2.1 rfl), (tb_mm tw_9_1.2.2.2.2.2.2.2.1 rfl), (tb_mp tp_10 (.tail _ (.tail _ (.tail _ (.tail _ (.tail _ (.tail _ (.tail _ (.head _)))))))) rfl), cd_X12_memoLoses, by decide, TX12, 47, rfl⟩
theorem vl_X12_211 : tb_VL RX12 211 M_X12_isStopped 0 12 := ⟨(tb_mm tw_9_0.2.2.2.2.2.2.2.2.2.2.2.2.2.1 rfl), (tb_mm tw_9_0.2.2.2.2.2.2.2.2.2.2.2.2.2.2.2 rfl), (tb_mp tp_10 (.tail _ (.tail _ (.tail _ (.tail _ (.tail _ (.head _)))))) rfl), cd_X12_isStopped, by decide, TX12, 47, rfl⟩
theorem vl_X12_215 : tb_VL RX12 215 M_X12_memoAt 1 12 := ⟨(tb_mm tw_9_1.2.1 rfl), (tb_mm tw_9_1.2.2.2.1 rfl), (tb_mp tp_10 (.tail _ (.tail _ (.tail _ (.tail _ (.tail _ (.tail _ (.head _))))))) rfl), cd_X12_memoAt, by decide, TX12, 47, rfl⟩
theorem vl_X12_218 : tb_VL RX12 218 M_X12_memoGets 2 12 := ⟨(tb_mm tw_9_1.2.2.2.2.2.2.2.2.2.1 rfl), (tb_mm tw_9_1.2.2.2.2.2.2.2.2.2.2.2.1 rfl), (tb_mp tp_10 (.tail _ (.tail _ (.tail _ (.tail _ (.tail _ (.tail _ (.tail _ (.tail _ (.head _))))))))) rfl), cd_X12_memoGets, by decide, TX12, 47, rfl⟩
theorem vl_X12_221 : tb_VL RX12 221 M_X12_normalOf 1 12 := ⟨(tb_mm tw_9_0.2.2.2.2.2.2.2.2.2.1 rfl), (tb_mm tw_9_0.2.2.2.2.2.2.2.2.2.2.2.1 rfl), (tb_mp tp_10 (.tail _ (.tail _ (.tail _ (.tail _ (.head _))))) rfl), cd_X12_normalOf, by decide, TX12, 47, rfl⟩
theorem vl_X12_224 : tb_VL RX12 224 M_X12_lessened 1 12 := ⟨(tb_mm tw_9_1.2.2.2.2.2.2.2.2.2.2.2.2.2.1 rfl), (tb_mm tw_9_1.2.2.2.2.2.2.2.2.2.2.2.2.2.2.2 rfl), (tb_mp tp_10 (.tail _ (.tail _ (.tail _ (.tail _ (.tail _ (.tail _ (.tail _ (.tail _ (.tail _ (.head _)))))))))) rfl), cd_X12_lessened, by decide, TX12, 47, rfl⟩
theorem vl_X12_227 : tb_VL RX12 227 M_X12_doesMatch 2 12 := ⟨(tb_mm tw_8_6.2.2.2.2.2.2.2.2.2.2.1 rfl), (tb_mm tw_8_6.2.2.2.2.2.2.2.2.2.2.2.2.1 rfl), (tb_mp tp_9 (.tail _ (.tail _ (.head _))) rfl), cd_X12_doesMatch, by decide, TX12, 47, rfl⟩
theorem vl_X12_230 : tb_VL RX12 230 M_X12_isSettled 1 12 := ⟨(tb_mm tw_8_6.2.2.2.2.2.2.1 rfl), (tb_mm tw_8_6.2.2.2.2.2.2.2.2.1 rfl), (tb_mp tp_9 (.tail _ (.head _)) rfl), cd_X12_isSettled, by decide, TX12, 47, rfl⟩
theorem vl_X12_240 : tb_VL RX12 240 M_X12_byteAt 1 12 := ⟨(tb_mm tw_7_6.2.2.2.2.2.2.2.2.2.2.2.1 rfl), (tb_mm tw_7_6.2.2.2.2.2.2.2.2.2.2.2.2.2.1 rfl), (tb_mp tp_5 (.tail _ (.tail _ (.tail _ (.tail _ (.tail _ (.tail _ (.tail _ (.tail _ (.tail _ (.tail _ (.tail _ (.tail _ (.tail _ (.head _)))))))))))))) rfl), cd_X12_byteAt, by decide, TX12, 47, rfl⟩
theorem sl_X12_264 : tb_SL RX12 264 M_X12_isLetter 1 := ⟨(tb_mm tw_7_6.2.2.2.2.2.2.2.2.2.2.2.2.2.2.2 rfl), (tb_mm tw_7_7.1 rfl), cd_X12_isLetter⟩
theorem vl_X12_267 : tb_VL RX12 267 M_X12_wordFrom 2 12 := ⟨(tb_mm tw_7_7.2.2.1 rfl), (tb_mm tw_7_7.2.2.2.2.1 rfl), (tb_mp tp_5 (.tail _ (.tail _ (.tail _ (.tail _ (.tail _ (.tail _ (.tail _ (.tail _ (.tail _ (.tail _ (.tail _ (.tail _ (.tail _ (.tail _ (.head _))))))))))))))) rfl), cd_X12_wordFrom, by decide, TX12, 47, rfl⟩
theorem vl_X12_270 : tb_VL RX12 270 M_X12_isSignByte 1 12 := ⟨(tb_mm tw_7_7.2.2.2.2.2.2.1 rfl), (tb_mm tw_7_7.2.2.2.2.2.2.2.2.1 rfl), (tb_mp tp_5 (.tail _ (.tail _ (.tail _ (.tail _ (.tail _ (.tail _ (.tail _ (.tail _ (.tail _ (.tail _ (.tail _ (.tail _ (.tail _ (.tail _ (.tail _ (.head _)))))))))))))))) rfl), cd_X12_isSignByte, by decide, TX12, 47, rfl⟩
theorem vl_X12_276 : tb_VL RX12 276 M_X12_wants 2 12 := ⟨(tb_mm tw_7_8.2.2.2.2.1 rfl), (tb_mm tw_7_8.2.2.2.2.2.2.1 rfl), (tb_mp tp_6 (.tail _ (.tail _ (.head _))) rfl), cd_X12_wants, by decide, TX12, 47, rfl⟩
theorem vl_X12_280 : tb_VL RX12 280 M_X12_go 0 12 := ⟨(tb_mm tw_7_6.2.2.2.2.2.2.2.1 rfl), (tb_mm tw_7_6.2.2.2.2.2.2.2.2.2.1 rfl), (tb_mp tp_5 (.tail _ (.tail _ (.tail _ (.tail _ (.tail _ (.tail _ (.tail _ (.tail _ (.tail _ (.tail _ (.tail _ (.tail _ (.head _))))))))))))) rfl), cd_X12_go, by decide, TX12, 47, rfl⟩
theorem sl_X12_283 : tb_SL RX12 283 M_X12_within 3 := ⟨(tb_mm tw_7_9.1 rfl), (tb_mm tw_7_9.2.1 rfl), cd_X12_within⟩
theorem vl_X12_290 : tb_VL RX12 290 M_X12_number 2 12 := ⟨(tb_mm tw_7_8.2.2.2.2.2.2.2.2.2.2.2.2.1 rfl), (tb_mm tw_7_8.2.2.2.2.2.2.2.2.2.2.2.2.2.2.1 rfl), (tb_mp tp_6 (.tail _ (.tail _ (.tail _ (.tail _ (.head _))))) rfl), cd_X12_number, by decide, TX12, 47, rfl⟩
theorem vl_X12_293 : tb_VL RX12 293 M_X12_symbolOf 1 12 := ⟨(tb_mm tw_7_8.2.2.2.2.2.2.2.2.1 rfl), (tb_mm tw_7_8.2.2.2.2.2.2.2.2.2.2.1 rfl), (tb_mp tp_6 (.tail _ (.tail _ (.tail _ (.head _)))) rfl), cd_X12_symbolOf, by decide, TX12, 47, rfl⟩
theorem vl_X12_296 : tb_VL RX12 296 M_X12_sign 1 12 := ⟨(tb_mm tw_7_11.2.2.1 rfl), (tb_mm tw_7_11.2.2.2.2.1 rfl), (tb_mp tp_6 (.tail _ (.tail _ (.tail _ (.tail _ (.tail _ (.tail _ (.tail _ (.tail _ (.tail _ (.tail _ (.tail _ (.tail _ (.head _))))))))))))) rfl), cd_X12_sign, by decide, TX12, 47, rfl⟩
theorem vl_X12_298 : tb_VL RX12 298 M_X12_term1 1 12 := ⟨(tb_mm tw_7_9.2.2.2.1 rfl), (tb_mm tw_7_9.2.2.2.2.2.1 rfl), (tb_mp tp_6 (.tail _ (.tail _ (.tail _ (.tail _ (.tail _ (.head _)))))) rfl), cd_X12_term1, by decide, TX12, 47, rfl⟩
theorem vl_X12_301 : tb_VL RX12 301 M_X12_isRule 2 12 := ⟨(tb_mm tw_7_11.2.2.2.2.2.2.2.2.2.2.1 rfl), (tb_mm tw_7_11.2.2.2.2.2.2.2.2.2.2.2.2.1 rfl), (tb_mp tp_6 (.tail _ (.tail _ (.tail _ (.tail _ (.tail _ (.tail _ (.tail _ (.tail _ (.tail _ (.tail _ (.tail _ (.tail _ (.tail _ (.tail _ (.head _))))))))))))))) rfl), cd_X12_isRule, by decide, TX12, 47, rfl⟩
theorem vl_X12_304 : tb_VL RX12 304 M_X12_rules1 2 12 := ⟨(tb_mm tw_7_13.2.2.2.2.2.2.2.2.2.2.2.2.2.2.1 rfl), (tb_mm tw_7_14.1 rfl), (tb_mp tp_7 (.tail _ (.tail _ (.tail _ (.tail _ (.tail _ (.tail _ (.tail _ (.head _)))))))) rfl), cd_X12_rules1, by decide, TX12, 47, rfl⟩
theorem vl_X12_307 : tb_VL RX12 307 M_X12_entryOf 1 12 := ⟨(tb_mm tw_7_14.2.2.2.2.2.2.1 rfl), (tb_mm tw_7_14.2.2.2.2.2.2.2.2.1 rfl), (tb_mp tp_7 (.tail _ (.tail _ (.tail _ (.tail _ (.tail _ (.tail _ (.tail _ (.tail _ (.tail _ (.head _)))))))))) rfl), cd_X12_entryOf, by decide, TX12, 47, rfl⟩
theorem vl_X12_310 : tb_VL RX12 310 M_X12_enters1 1 12 := ⟨(tb_mm tw_7_14.2.2.2.2.2.2.2.2.2.2.1 rfl), (tb_mm tw_7_14.2.2.2.2.2.2.2.2.2.2.2.2.1 rfl), (tb_mp tp_7 (.tail _ (.tail _ (.tail _ (.tail _ (.tail _ (.tail _ (.tail _ (.tail _ (.tail _ (.tail _ (.head _))))))))))) rfl), cd_X12_enters1, by decide, TX12, 47, rfl⟩
theorem vl_X12_316 : tb_VL RX12 316 M_X12_symbol1 0 12 := ⟨(tb_mm tw_7_8.1 rfl), (tb_mm tw_7_8.2.2.1 rfl), (tb_mp tp_6 (.tail _ (.head _)) rfl), cd_X12_symbol1, by decide, TX12, 47, rfl⟩
theorem vl_X12_319 : tb_VL RX12 319 M_X12_rule1 0 12 := ⟨(tb_mm tw_7_11.2.2.2.2.2.2.1 rfl), (tb_mm tw_7_11.2.2.2.2.2.2.2.2.1 rfl), (tb_mp tp_6 (.tail _ (.tail _ (.tail _ (.tail _ (.tail _ (.tail _ (.tail _ (.tail _ (.tail _ (.tail _ (.tail _ (.tail _ (.tail _ (.head _)))))))))))))) rfl), cd_X12_rule1, by decide, TX12, 47, rfl⟩
theorem vl_X12_322 : tb_VL RX12 322 M_X12_entry1 0 12 := ⟨(tb_mm tw_7_14.2.2.1 rfl), (tb_mm tw_7_14.2.2.2.2.1 rfl), (tb_mp tp_7 (.tail _ (.tail _ (.tail _ (.tail _ (.tail _ (.tail _ (.tail _ (.tail _ (.head _))))))))) rfl), cd_X12_entry1, by decide, TX12, 47, rfl⟩
theorem vl_X12_325 : tb_VL RX12 325 M_X12_room1 0 12 := ⟨(tb_mm tw_7_14.2.2.2.2.2.2.2.2.2.2.2.2.2.2.1 rfl), (tb_mm tw_8_0.1 rfl), (tb_mp tp_7 (.tail _ (.tail _ (.tail _ (.tail _ (.tail _ (.tail _ (.tail _ (.tail _ (.tail _ (.tail _ (.tail _ (.head _)))))))))))) rfl), cd_X12_room1, by decide, TX12, 47, rfl⟩
theorem vl_X12_331 : tb_VL RX12 331 M_X12_clause1 0 12 := ⟨(tb_mm tw_7_7.2.2.2.2.2.2.2.2.2.2.1 rfl), (tb_mm tw_7_7.2.2.2.2.2.2.2.2.2.2.2.2.1 rfl), (tb_mp tp_6 (.head _) rfl), cd_X12_clause1, by decide, TX12, 47, rfl⟩
theorem vl_X12_334 : tb_VL RX12 334 M_X12_right 2 12 := ⟨(tb_mm tw_7_5.2.2.2.2.2.2.2.2.2.2.2.2.2 rfl), (tb_mm tw_7_6.2.1 rfl), (tb_mp tp_5 (.tail _ (.tail _ (.tail _ (.tail _ (.tail _ (.tail _ (.tail _ (.tail _ (.tail _ (.tail _ (.head _))))))))))) rfl), cd_X12_right, by decide, TX12, 47, rfl⟩
theorem vl_X12_337 : tb_VL RX12 337 M_X12_readsAll 1 12 := ⟨(tb_mm tw_7_6.2.2.2.1 rfl), (tb_mm tw_7_6.2.2.2.2.2.1 rfl), (tb_mp tp_5 (.tail _ (.tail _ (.tail _ (.tail _ (.tail _ (.tail _ (.tail _ (.tail _ (.tail _ (.tail _ (.tail _ (.head _)))))))))))) rfl), cd_X12_readsAll, by decide, TX12, 47, rfl⟩
theorem vl_X12_340 : tb_VL RX12 340 M_X12_movesTerms 2 12 := ⟨(tb_mm tw_8_0.2.2.1 rfl), (tb_mm tw_8_0.2.2.2.2.1 rfl), (tb_mp tp_7 (.tail _ (.tail _ (.tail _ (.tail _ (.tail _ (.tail _ (.tail _ (.tail _ (.tail _ (.tail _ (.tail _ (.tail _ (.head _))))))))))))) rfl), cd_X12_movesTerms, by decide, TX12, 47, rfl⟩
theorem vl_X12_343 : tb_VL RX12 343 M_X12_copies 3 12 := ⟨(tb_mm tw_8_0.2.2.2.2.2.2.1 rfl), (tb_mm tw_8_0.2.2.2.2.2.2.2.2.1 rfl), (tb_mp tp_7 (.tail _ (.tail _ (.tail _ (.tail _ (.tail _ (.tail _ (.tail _ (.tail _ (.tail _ (.tail _ (.tail _ (.tail _ (.tail _ (.head _)))))))))))))) rfl), cd_X12_copies, by decide, TX12, 47, rfl⟩
theorem vl_X12_359 : tb_VL RX12 359 M_X12_canBeAlike 2 12 := ⟨(tb_mm tw_8_2.2.2.1 rfl), (tb_mm tw_8_2.2.2.2.2.1 rfl), (tb_mp tp_8 (.tail _ (.tail _ (.head _))) rfl), cd_X12_canBeAlike, by decide, TX12, 47, rfl⟩
theorem vl_X12_362 : tb_VL RX12 362 M_X12_shapes 0 12 := ⟨(tb_mm tw_8_1.2.2.1 rfl), (tb_mm tw_8_1.2.2.2.2.1 rfl), (tb_mp tp_7 (.tail _ (.tail _ (.tail _ (.tail _ (.tail _ (.tail _ (.tail _ (.tail _ (.tail _ (.tail _ (.tail _ (.tail _ (.tail _ (.tail _ (.head _))))))))))))))) rfl), cd_X12_shapes, by decide, TX12, 47, rfl⟩
theorem vl_X12_365 : tb_VL RX12 365 M_X12_meetings 1 12 := ⟨(tb_mm tw_8_1.2.2.2.2.2.2.2.2.2.2.1 rfl), (tb_mm tw_8_1.2.2.2.2.2.2.2.2.2.2.2.2.1 rfl), (tb_mp tp_8 (.head _) rfl), cd_X12_meetings, by decide, TX12, 47, rfl⟩
theorem vl_X12_369 : tb_VL RX12 369 M_X12_isSymbol 1 12 := ⟨(tb_mm tw_8_4.2.2.1 rfl), (tb_mm tw_8_4.2.2.2.2.1 rfl), (tb_mp tp_8 (.tail _ (.tail _ (.tail _ (.tail _ (.tail _ (.tail _ (.tail _ (.tail _ (.tail _ (.head _)))))))))) rfl), cd_X12_isSymbol, by decide, TX12, 47, rfl⟩
theorem vl_X12_372 : tb_VL RX12 372 M_X12_fits 2 12 := ⟨(tb_mm tw_8_4.2.2.2.2.2.2.1 rfl), (tb_mm tw_8_4.2.2.2.2.2.2.2.2.1 rfl), (tb_mp tp_8 (.tail _ (.tail _ (.tail _ (.tail _ (.tail _ (.tail _ (.tail _ (.tail _ (.tail _ (.tail _ (.head _))))))))))) rfl), cd_X12_fits, by decide, TX12, 47, rfl⟩
theorem vl_X12_376 : tb_VL RX12 376 M_X12_isTerm 1 12 := ⟨(tb_mm tw_8_5.2.2.1 rfl), (tb_mm tw_8_5.2.2.2.2.1 rfl), (tb_mp tp_8 (.tail _ (.tail _ (.tail _ (.tail _ (.tail _ (.tail _ (.tail _ (.tail _ (.tail _ (.tail _ (.tail _ (.tail _ (.head _))))))))))))) rfl), cd_X12_isTerm, by decide, TX12, 47, rfl⟩
theorem vl_X12_379 : tb_VL RX12 379 M_X12_isTermNow 1 12 := ⟨(tb_mm tw_8_4.2.2.2.2.2.2.2.2.2.2.2.2.2.2.1 rfl), (tb_mm tw_8_5.1 rfl), (tb_mp tp_8 (.tail _ (.tail _ (.tail _ (.tail _ (.tail _ (.tail _ (.tail _ (.tail _ (.tail _ (.tail _ (.tail _ (.head _)))))))))))) rfl), cd_X12_isTermNow, by decide, TX12, 47, rfl⟩
theorem vl_X12_382 : tb_VL RX12 382 M_X12_sharedOf 1 12 := ⟨(tb_mm tw_8_5.2.2.2.2.2.2.1 rfl), (tb_mm tw_8_5.2.2.2.2.2.2.2.2.1 rfl), (tb_mp tp_8 (.tail _ (.tail _ (.tail _ (.tail _ (.tail _ (.tail _ (.tail _ (.tail _ (.tail _ (.tail _ (.tail _ (.tail _ (.tail _ (.head _)))))))))))))) rfl), cd_X12_sharedOf, by decide, TX12, 47, rfl⟩
theorem vl_X12_385 : tb_VL RX12 385 M_X12_usesOf 1 12 := ⟨(tb_mm tw_8_6.2.2.1 rfl), (tb_mm tw_8_6.2.2.2.2.1 rfl), (tb_mp tp_9 (.head _) rfl), cd_X12_usesOf, by decide, TX12, 47, rfl⟩
theorem vl_X12_388 : tb_VL RX12 388 M_X12_isFound 3 12 := ⟨(tb_mm tw_8_8.2.2.1 rfl), (tb_mm tw_8_8.2.2.2.2.1 rfl), (tb_mp tp_9 (.tail _ (.tail _ (.tail _ (.tail _ (.head _))))) rfl), cd_X12_isFound, by decide, TX12, 47, rfl⟩
theorem vl_X12_391 : tb_VL RX12 391 M_X12_refuses 2 12 := ⟨(tb_mm tw_8_9.2.2.2.2.2.2.2.2.2.2.1 rfl), (tb_mm tw_8_9.2.2.2.2.2.2.2.2.2.2.2.2.1 rfl), (tb_mp tp_9 (.tail _ (.tail _ (.tail _ (.tail _ (.tail _ (.head _)))))) rfl), cd_X12_refuses, by decide, TX12, 47, rfl⟩
theorem vl_X12_394 : tb_VL RX12 394 M_X12_fails 2 12 := ⟨(tb_mm tw_8_10.2.2.2.2.2.2.1 rfl), (tb_mm tw_8_10.2.2.2.2.2.2.2.2.1 rfl), (tb_mp tp_9 (.tail _ (.tail _ (.tail _ (.tail _ (.tail _ (.tail _ (.tail _ (.tail _ (.head _))))))))) rfl), cd_X12_fails, by decide, TX12, 47, rfl⟩
theorem sl_X12_397 : tb_SL RX12 397 M_X12_keptAt 2 := ⟨(tb_mm tw_8_10.2.2.2.2.2.2.2.2.2.2.1 rfl), (tb_mm tw_8_10.2.2.2.2.2.2.2.2.2.2.2.1 rfl), cd_X12_keptAt⟩
theorem vl_X12_400 : tb_VL RX12 400 M_X12_begins 0 12 := ⟨(tb_mm tw_8_9.2.2.2.2.2.2.2.2.2.2.2.2.2.2.1 rfl), (tb_mm tw_8_10.1 rfl), (tb_mp tp_9 (.tail _ (.tail _ (.tail _ (.tail _ (.tail _ (.tail _ (.head _))))))) rfl), cd_X12_begins, by decide, TX12, 47, rfl⟩
theorem vl_X12_403 : tb_VL RX12 403 M_X12_keeps 1 12 := ⟨(tb_mm tw_8_10.2.2.1 rfl), (tb_mm tw_8_10.2.2.2.2.1 rfl), (tb_mp tp_9 (.tail _ (.tail _ (.tail _ (.tail _ (.tail _ (.tail _ (.tail _ (.head _)))))))) rfl), cd_X12_keeps, by decide, TX12, 47, rfl⟩
theorem vl_X12_406 : tb_VL RX12 406 M_X12_laysBound 0 12 := ⟨(tb_mm tw_8_11.2.2.2.2.2.2.2.2.2.1 rfl), (tb_mm tw_8_11.2.2.2.2.2.2.2.2.2.2.2.1 rfl), (tb_mp tp_9 (.tail _ (.tail _ (.tail _ (.tail _ (.tail _ (.tail _ (.tail _ (.tail _ (.tail _ (.head _)))))))))) rfl), cd_X12_laysBound, by decide, TX12, 47, rfl⟩
theorem vl_X12_409 : tb_VL RX12 409 M_X12_isRing 1 12 := ⟨(tb_mm tw_8_12.2.2.2.2.2.2.2.2.2.1 rfl), (tb_mm tw_8_12.2.2.2.2.2.2.2.2.2.2.2.1 rfl), (tb_mp tp_9 (.tail _ (.tail _ (.tail _ (.tail _ (.tail _ (.tail _ (.tail _ (.tail _ (.tail _ (.tail _ (.tail _ (.tail _ (.head _))))))))))))) rfl), cd_X12_isRing, by decide, TX12, 47, rfl⟩
theorem vl_X12_412 : tb_VL RX12 412 M_X12_bindsSolved 1 12 := ⟨(tb_mm tw_8_13.2.2.2.2.2.2.2.2.2.1 rfl), (tb_mm tw_8_13.2.2.2.2.2.2.2.2.2.2.2.1 rfl), (tb_mp tp_9 (.tail _ (.tail _ (.tail _ (.tail _ (.tail _ (.tail _ (.tail _ (.tail _ (.tail _ (.tail _ (.tail _ (.tail _ (.tail _ (.tail _ (.tail _ (.head _)))))))))))))))) rfl), cd_X12_bindsSolved, by decide, TX12, 47, rfl⟩
theorem vl_X12_415 : tb_VL RX12 415 M_X12_parts 1 12 := ⟨(tb_mm tw_9_2.2.2.2.2.2.2.2.2.2.1 rfl), (tb_mm tw_9_2.2.2.2.2.2.2.2.2.2.2.2.1 rfl), (tb_mp tp_10 (.tail _ (.tail _ (.tail _ (.tail _ (.tail _ (.tail _ (.tail _ (.tail _ (.tail _ (.tail _ (.tail _ (.head _)))))))))))) rfl), cd_X12_parts, by decide, TX12, 47, rfl⟩
theorem vl_X12_419 : tb_VL RX12 419 M_X12_withPut 3 12 := ⟨(tb_mm tw_9_2.2.2.2.2.2.1 rfl), (tb_mm tw_9_2.2.2.2.2.2.2.2.1 rfl), (tb_mp tp_10 (.tail _ (.tail _ (.tail _ (.tail _ (.tail _ (.tail _ (.tail _ (.tail _ (.tail _ (.tail _ (.head _))))))))))) rfl), cd_X12_withPut, by decide, TX12, 47, rfl⟩
theorem vl_X12_427 : tb_VL RX12 427 M_X12_drawOf 1 12 := ⟨(tb_mm tw_9_4.2.2.2.2.2.1 rfl), (tb_mm tw_9_4.2.2.2.2.2.2.2.1 rfl), (tb_mp tp_10 (.tail _ (.tail _ (.tail _ (.tail _ (.tail _ (.tail _ (.tail _ (.tail _ (.tail _ (.tail _ (.tail _ (.tail _ (.tail _ (.head _)))))))))))))) rfl), cd_X12_drawOf, by decide, TX12, 47, rfl⟩
theorem vl_X12_430 : tb_VL RX12 430 M_X12_drawn 1 12 := ⟨(tb_mm tw_9_4.2.1 rfl), (tb_mm tw_9_4.2.2.2.1 rfl), (tb_mp tp_10 (.tail _ (.tail _ (.tail _ (.tail _ (.tail _ (.tail _ (.tail _ (.tail _ (.tail _ (.tail _ (.tail _ (.tail _ (.head _))))))))))))) rfl), cd_X12_drawn, by decide, TX12, 47, rfl⟩
theorem sl_J0_495 : tb_SL RJ0 495 M_J1_charAt_3b067 2 := ⟨(tb_mm tw_5_5.2.2.1 rfl), (tb_mm tw_5_5.2.2.2.1 rfl), cd_J1_charAt_3b067⟩
theorem sl_J0_1059 : tb_SL RJ0 1059 M_J3_checkIndex_8e157 3 := ⟨(tb_mm tw_5_5.2.2.2.2.2.2.2.2.1 rfl), (tb_mm tw_5_5.2.2.2.2.2.2.2.2.2 rfl), cd_J3_checkIndex_8e157⟩
theorem sl_J1_9 : tb_SL RJ1 9 M_J0_checkIndex_df160 2 := ⟨(tb_mm tw_5_5.2.2.2.2.2.1 rfl), (tb_mm tw_5_5.2.2.2.2.2.2.1 rfl), cd_J0_checkIndex_df160⟩
theorem ct_X2_124 : Cond.constant RX2 124 (1103515245) ∈ tb_W := (tb_mm tw_4_9.2.2.2.2.2.2.2.2.2.2.2.2.2.2.1 rfl)
theorem ct_X6_51 : Cond.constant RX6 51 (1000000) ∈ tb_W := (tb_mm tw_4_1.2.2.2.2.1 rfl)
theorem ct_X12_426 : Cond.constant RX12 426 (1103515245) ∈ tb_W := (tb_mm tw_9_4.2.2.2.2.2.2.2.2.2.1 rfl)
theorem wk_sym : Cond.instanceMethod M_X8_init.1 ∈ tb_W := (tb_mm tw_1_2.2.2.2.2.1 rfl)
end
