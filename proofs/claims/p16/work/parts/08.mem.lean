/-! ===== fields, arrays, new cells ===== -/
def tb_okf (ty : FieldType) : Bool := match ty with
  | .int => true
  | .boolean => true
  | .object _ => true
  | .array _ => true
  | _ => false
/-- a class of the tables -/
def tb_CL (ci : Nat) (C : String) (T : u_T) (N : Nat) : Prop := vwCl[ci]? = some (C, T, N) ∧ (∀ w ∈ u_ws C T N, w ∈ tb_W) ∧ (∀ k, k < N → parseFieldDescriptor (T k).2.2.1 = some (tb_ft ci k)) ∧ (∀ a, a < N → ∀ b, b < N → a ≠ b → (T a).2.1 ≠ (T b).2.1) ∧ ci < 100 ∧ (∀ k, k < N → tb_okf (tb_ft ci k) = true)
def tb_FL (own : String) (idx ci k : Nat) (fin : Bool) : Prop := ∃ (C : String) (T : u_T) (N : Nat), tb_CL ci C T N ∧ k < N ∧ Cond.fieldLink own idx (T k).1 (T k).2.1 (T k).2.2.1 ∈ tb_W ∧ (T k).2.2.2 = fin
def tb_FF (own : String) (idx ci k : Nat) : Prop := ∃ (C : String) (T : u_T) (N : Nat), tb_CL ci C T N ∧ k < N ∧ Cond.fieldLink own idx (T k).1 (T k).2.1 (T k).2.2.1 ∈ tb_W ∧ (T k).2.2.2 = true ∧ (T k).1 = own
def tb_NW (own : String) (idx ci N : Nat) : Prop := ∃ (C : String) (T : u_T), tb_CL ci C T N ∧ Cond.classLink own idx C ∈ tb_W ∧ Cond.instantiable C N ∈ tb_W ∧ Cond.initialized C ∈ tb_W
theorem tb_en_obj {G : tb_G} {adr : Nat → Nat} {ci N : Nat} {rs : List (Option Nat)} {f : Nat → Int32} (h : ci < 100) : tb_en G adr (ci, N, rs) f = .inr (ci, tb_fs adr ci N rs f) := by
  unfold tb_en
  rw [if_neg (show ¬ ci = 100 by omega), if_neg (show ¬ ci = 101 by omega), if_neg (show ¬ ci = 102 by omega)]
theorem tb_en_row {G : tb_G} {adr : Nat → Nat} {N : Nat} {rs : List (Option Nat)} {f : Nat → Int32} : tb_en G adr (101, N, rs) f = .inl (G.2.2.1, N, .inr (.inr (.inr (.inr fun i => (rs.getD i none).map adr)))) := rfl
theorem tb_en_long {G : tb_G} {adr : Nat → Nat} {N : Nat} {rs : List (Option Nat)} {f : Nat → Int32} : tb_en G adr (102, N, rs) f = .inl (G.2.2.2, N, .inr (.inl fun i => (f i).toInt64)) := rfl
theorem tb_isr_f {ty : FieldType} (h : ty = .int ∨ ty = .boolean) : refKind ty = false := by rcases h with rfl | rfl <;> rfl
theorem tb_ref_ok {ty : FieldType} (h : refKind ty = true) (a : Nat) : narrow ty (.ref a) = .ref a ∧ fits ty (.ref a) = true := by
  cases ty <;> first | exact ⟨rfl, rfl⟩ | cases h
theorem tb_z {x : Int32} (h : x = 0 ∨ x = 1) : narrow .boolean (.int x) = .int x ∧ fits .boolean (.int x) = true := by
  rcases h with rfl | rfl <;> exact ⟨by decide, by decide⟩
theorem tb_cl.sup {n : Nat} {sh : Nat → tb_Sh} {c : Nat} {s : tb_Sh} (h : tb_cl n sh) (hs : ∀ r, some r ∈ s.2.2 → r < n) : tb_cl n (tb_sup sh c s) := by
  intro k hk r hr
  by_cases hc : k = c
  · subst hc
    simp only [tb_sup, if_true] at hr
    exact hs r hr
  · simp only [tb_sup, hc, if_false] at hr
    exact h k hk r hr
theorem tb_cl.push {n m : Nat} {sh : Nat → tb_Sh} {s : tb_Sh} (h : tb_cl n sh) (hm : n + 1 = m) (hs : ∀ r, some r ∈ s.2.2 → r < m) : tb_cl m (tb_sup sh n s) := by
  subst hm
  intro k hk r hr
  by_cases hc : k = n
  · subst hc
    simp only [tb_sup, if_true] at hr
    exact hs r hr
  · simp only [tb_sup, hc, if_false] at hr
    exact Nat.lt_succ_of_lt (h k (by omega) r hr)
theorem tb_en_ad {G : tb_G} {adr adr' : Nat → Nat} {s : tb_Sh} {f : Nat → Int32} (h : ∀ r, some r ∈ s.2.2 → adr' r = adr r) : tb_en G adr' s f = tb_en G adr s f := by
  have e : ∀ i : Nat, (s.2.2.getD i none).map adr' = (s.2.2.getD i none).map adr := by
    intro i
    cases hi : s.2.2.getD i none with
    | none => rfl
    | some r =>
      have hm : some r ∈ s.2.2 := by
        rw [List.getD_eq_getElem?_getD] at hi
        cases hj : s.2.2[i]? with
        | none => rw [hj] at hi; cases hi
        | some z =>
          rw [hj] at hi
          have hz : z = some r := hi
          rw [hz] at hj
          exact List.mem_of_getElem? hj
      rw [Option.map_some, Option.map_some, h r hm]
  unfold tb_en
  split
  · rfl
  · split
    · simp only [e]
    · split
      · rfl
      · simp only [tb_fs, tb_fv, e]
theorem tb_ws_ad {G : tb_G} {adr adr' : Nat → Nat} {n : Nat} {sh : Nat → tb_Sh} {I : tb_I} (hc : tb_cl n sh) (h : ∀ k, k < n → adr' k = adr k) : tb_ws G adr' n sh I = tb_ws G adr n sh I := by
  apply List.map_congr_left
  intro k hk
  have hk := List.mem_range.mp hk
  rw [h k hk, tb_en_ad (fun r hr => h r (hc k hk r hr))]
theorem tb_ws_push {G : tb_G} {adr : Nat → Nat} {n q : Nat} {sh : Nat → tb_Sh} {I : tb_I} {s : tb_Sh} {f : Nat → Int32} (hc : tb_cl n sh) : tb_ws G (tb_ad adr n q) (n + 1) (tb_sup sh n s) (tb_row I n f) = tb_ws G adr n sh I ++ [(q, tb_en G (tb_ad adr n q) s f)] := by
  have e1 : tb_ws G (tb_ad adr n q) (n + 1) (tb_sup sh n s) (tb_row I n f) = tb_ws G (tb_ad adr n q) n (tb_sup sh n s) (tb_row I n f) ++ [(q, tb_en G (tb_ad adr n q) s f)] := by
    unfold tb_ws
    rw [List.range_succ, List.map_append]
    simp [tb_ad, tb_sup, tb_row]
  rw [e1]
  congr 1
  apply List.map_congr_left
  intro k hk
  have hk := List.mem_range.mp hk
  have hne : ¬ k = n := by omega
  have h1 : tb_sup sh n s k = sh k := by simp [tb_sup, hne]
  have h2 : tb_row I n f k = I k := by simp [tb_row, hne]
  have h3 : tb_ad adr n q k = adr k := by simp [tb_ad, hne]
  rw [h1, h2, h3, tb_en_ad (fun r hr => ?_)]
  have := hc k hk r hr
  have hr2 : ¬ r = n := by omega
  simp [tb_ad, hr2]
theorem tb_LL.ad {n : Nat} {adr adr' : Nat → Nat} {ls : Array Slot} {nL : Nat} {L : List (Option Value)} (h : tb_LL adr ls nL L) (hlo : tb_lo n L) (ha : ∀ k, k < n → adr' k = adr k) (hx : adr' tb_sc = adr tb_sc) : tb_LL adr' ls nL L := by
  refine ⟨h.1, h.2.1, h.2.2.1, fun i v hv => ?_⟩
  rw [tb_rn_eq ha hx (hlo.at hv)]
  exact h.2.2.2 i v hv
theorem tb_lo.mono {n n' : Nat} {L : List (Option Value)} (h : tb_lo n L) (hn : n ≤ n') : tb_lo n' L := fun v hv => ⟨(h v hv).1.mono hn, (h v hv).2⟩
theorem tb_so.mono {n n' : Nat} {S : List Value} (h : tb_so n S) (hn : n ≤ n') : tb_so n' S := fun v hv => (h v hv).mono hn
theorem tb_dflt {ty : FieldType} (h : tb_okf ty = true) (adr : Nat → Nat) : defaultValue ty = tb_fv adr (refKind ty) none 0 := by
  cases ty <;> first | rfl | cases h
section TBM
variable {l : Launch} {G : tb_G} {y : tb_Mt} {R : Room} {xt : Option (Nat × (Nat → Int32))} {Z : tb_CT → State → Prop} {k1 k2 n : Nat} {sh : Nat → tb_Sh} {I : tb_I} {pc : Nat} {L : List (Option Value)} {S : List Value}
theorem tb_getI {idx ci k c9 N : Nat} {fin : Bool} {rs : List (Option Nat)} (hd : decode y.2.1 pc = .ok (.getfield idx, 3)) (hf : tb_FL y.1.cls idx ci k fin) (hs : sh c9 = (ci, N, rs)) (hc : c9 ≠ tb_sc) (hk : k < N) (hr : tb_isr ci k = false)
    (kk : tb_At l G y R xt Z k1 k2 n sh I (pc + 3) L (.int (I c9 k) :: S)) : tb_At l G y R xt Z k1 k2 n sh I pc L (.ref c9 :: S) := by
  intro ok p e s m args below meth c A adr0 n0 bx C H locs adr ls ha hP hD hS hl
  obtain ⟨C', T, N', hCL, hkN, hw, hfin⟩ := hf
  have hcn : c9 < n := ok.2.2.head.resolve_right hc
  have he : (tb_ws G adr n sh I)[c9]? = some (adr c9, .inr (ci, tb_fs adr ci N rs (I c9))) := by rw [tb_ws_at hcn, hs, tb_en_obj hCL.2.2.2.2.1]
  exact va_get (D := G.1) (ci := ci) (v := .int (I c9 k)) (C := C') (T := T) (N := N') C.1 C.2.1 C.2.2.2.2.2.2.2.2.1 hCL.2.1 C.2.2.2.2.2.1 C.2.2.2.2.2.2.2.2.2.2.1 hP c9 he hCL.1 k hkN (C.2.2.2.2.2.2.2.2.1 _ hw) (fun _ h9 => h9) (by rw [tb_fs_at hk]; simp [tb_fv, hr]) hd (kk ⟨ok.1, ok.2.1, .cons trivial ok.2.2.tail⟩ p e s m args below meth c A adr0 n0 bx C H locs adr ls ha hP hD hS hl)
theorem tb_getR {idx ci k c9 N r : Nat} {fin : Bool} {rs : List (Option Nat)} (hd : decode y.2.1 pc = .ok (.getfield idx, 3)) (hf : tb_FL y.1.cls idx ci k fin) (hs : sh c9 = (ci, N, rs)) (hc : c9 ≠ tb_sc) (hk : k < N) (hr : tb_isr ci k = true) (hrk : rs[k]? = some (some r))
    (kk : tb_At l G y R xt Z k1 k2 n sh I (pc + 3) L (.ref r :: S)) : tb_At l G y R xt Z k1 k2 n sh I pc L (.ref c9 :: S) := by
  intro ok p e s m args below meth c A adr0 n0 bx C H locs adr ls ha hP hD hS hl
  obtain ⟨C', T, N', hCL, hkN, hw, hfin⟩ := hf
  have hcn : c9 < n := ok.2.2.head.resolve_right hc
  have he : (tb_ws G adr n sh I)[c9]? = some (adr c9, .inr (ci, tb_fs adr ci N rs (I c9))) := by rw [tb_ws_at hcn, hs, tb_en_obj hCL.2.2.2.2.1]
  have hrn : r < n := ok.1 c9 hcn r (by rw [hs]; exact List.mem_of_getElem? hrk)
  exact va_get (D := G.1) (ci := ci) (v := .ref (adr r)) (C := C') (T := T) (N := N') C.1 C.2.1 C.2.2.2.2.2.2.2.2.1 hCL.2.1 C.2.2.2.2.2.1 C.2.2.2.2.2.2.2.2.2.2.1 hP c9 he hCL.1 k hkN (C.2.2.2.2.2.2.2.2.1 _ hw) (fun _ h9 => h9) (by rw [tb_fs_at hk]; simp [tb_fv, hr, List.getD, hrk, va_rf]) hd (kk ⟨ok.1, ok.2.1, .cons (Or.inl hrn) ok.2.2.tail⟩ p e s m args below meth c A adr0 n0 bx C H locs adr ls ha hP hD hS hl)
theorem tb_putT {idx ci k c9 N : Nat} {rs : List (Option Nat)} {x : Int32} {ty : FieldType} (hd : decode y.2.1 pc = .ok (.putfield idx, 3)) (hf : tb_FL y.1.cls idx ci k false) (hs : sh c9 = (ci, N, rs)) (hc : c9 ≠ tb_sc) (hk : k < N) (ht : tb_ft ci k = ty) (hty : ty = .int ∨ ty = .boolean) (hx : narrow ty (.int x) = .int x ∧ fits ty (.int x) = true)
    (kk : tb_At l G y R xt Z k1 k2 n sh (tb_up I c9 k x) (pc + 3) L S) : tb_At l G y R xt Z k1 k2 n sh I pc L (.int x :: .ref c9 :: S) := by
  intro ok p e s m args below meth c A adr0 n0 bx C H locs adr ls ha hP hD hS hl
  obtain ⟨C', T, N', hCL, hkN, hw, hfin⟩ := hf
  have hcn : c9 < n := ok.2.2.tail.head.resolve_right hc
  have hisr : tb_isr ci k = false := by unfold tb_isr; rw [ht]; exact tb_isr_f hty
  have he : (tb_ws G adr n sh I)[c9]? = some (adr c9, .inr (ci, tb_fs adr ci N rs (I c9))) := by rw [tb_ws_at hcn, hs, tb_en_obj hCL.2.2.2.2.1]
  have ew : (tb_ws G adr n sh I).set c9 (adr c9, .inr (ci, (tb_fs adr ci N rs (I c9)).set k (.int x))) = tb_ws G adr n sh (tb_up I c9 k x) := by
    rw [tb_fs_setI hisr, ← tb_en_obj (G := G) hCL.2.2.2.2.1, ← hs]
    exact tb_ws_row _
  refine va_put (D := G.1) (ci := ci) (v := .int x) (ty := ty) (C := C') (T := T) (N := N') C.1 C.2.1 C.2.2.2.2.2.2.2.2.1 hCL.2.1 (tb_ft ci) hCL.2.2.1 hCL.2.2.2.1 C.2.2.2.2.2.1 C.2.2.2.2.2.2.2.2.2.2.1 hP hD hS c9 he hCL.1 k hkN (C.2.2.2.2.2.2.2.2.1 _ hw) (fun _ h9 => h9) hfin (by rw [hCL.2.2.1 k hkN, ht]) hx.1 hx.2 (by rw [tb_fs_len]; exact hk) hd (fun H1 locs1 hP1 hD1 hS1 => ?_)
  rw [ew] at hP1 hD1
  exact kk ⟨ok.1, ok.2.1, ok.2.2.tail.tail⟩ p e s m args below meth c A adr0 n0 bx C H1 locs1 adr ls ha hP1 hD1 hS1 hl
theorem tb_putI {idx ci k c9 N : Nat} {rs : List (Option Nat)} {x : Int32} (hd : decode y.2.1 pc = .ok (.putfield idx, 3)) (hf : tb_FL y.1.cls idx ci k false) (hs : sh c9 = (ci, N, rs)) (hc : c9 ≠ tb_sc) (hk : k < N) (ht : tb_ft ci k = .int)
    (kk : tb_At l G y R xt Z k1 k2 n sh (tb_up I c9 k x) (pc + 3) L S) : tb_At l G y R xt Z k1 k2 n sh I pc L (.int x :: .ref c9 :: S) := tb_putT hd hf hs hc hk ht (Or.inl rfl) ⟨rfl, rfl⟩ kk
theorem tb_putZ {idx ci k c9 N : Nat} {rs : List (Option Nat)} {x : Int32} (hd : decode y.2.1 pc = .ok (.putfield idx, 3)) (hf : tb_FL y.1.cls idx ci k false) (hs : sh c9 = (ci, N, rs)) (hc : c9 ≠ tb_sc) (hk : k < N) (ht : tb_ft ci k = .boolean) (hx : x = 0 ∨ x = 1)
    (kk : tb_At l G y R xt Z k1 k2 n sh (tb_up I c9 k x) (pc + 3) L S) : tb_At l G y R xt Z k1 k2 n sh I pc L (.int x :: .ref c9 :: S) := tb_putT hd hf hs hc hk ht (Or.inr rfl) (tb_z hx) kk
theorem tb_putR {idx ci k c9 N r : Nat} {rs rs2 : List (Option Nat)} (hd : decode y.2.1 pc = .ok (.putfield idx, 3)) (hi : y.1.name = "<init>") (hf : tb_FF y.1.cls idx ci k) (hs : sh c9 = (ci, N, rs)) (hc : c9 ≠ tb_sc) (hr0 : r ≠ tb_sc) (hk : k < N) (hkl : k < rs.length) (hr : tb_isr ci k = true) (hrs : rs.set k (some r) = rs2)
    (kk : tb_At l G y R xt Z k1 k2 n (tb_sup sh c9 (ci, N, rs2)) I (pc + 3) L S) : tb_At l G y R xt Z k1 k2 n sh I pc L (.ref r :: .ref c9 :: S) := by
  intro ok p e s m args below meth c A adr0 n0 bx C H locs adr ls ha hP hD hS hl
  subst hrs
  obtain ⟨C', T, N', hCL, hkN, hw, hfin, hown⟩ := hf
  have hcn : c9 < n := ok.2.2.tail.head.resolve_right hc
  have hrn : r < n := ok.2.2.head.resolve_right hr0
  have he : (tb_ws G adr n sh I)[c9]? = some (adr c9, .inr (ci, tb_fs adr ci N rs (I c9))) := by rw [tb_ws_at hcn, hs, tb_en_obj hCL.2.2.2.2.1]
  have ew : (tb_ws G adr n sh I).set c9 (adr c9, .inr (ci, (tb_fs adr ci N rs (I c9)).set k (.ref (adr r)))) = tb_ws G adr n (tb_sup sh c9 (ci, N, rs.set k (some r))) I := by
    rw [tb_fs_setR hr hkl, ← tb_en_obj (G := G) hCL.2.2.2.2.1]
    exact tb_ws_sup _
  have hx := tb_ref_ok (ty := tb_ft ci k) hr (adr r)
  refine va_putF (D := G.1) (ci := ci) (v := .ref (adr r)) (ty := tb_ft ci k) (C := C') (T := T) (N := N') C.1 C.2.1 C.2.2.2.2.2.2.2.2.1 hCL.2.1 (tb_ft ci) hCL.2.2.1 hCL.2.2.2.1 C.2.2.2.2.2.1 C.2.2.2.2.2.2.2.2.2.2.1 hP hD hS c9 he hCL.1 k hkN (C.2.2.2.2.2.2.2.2.1 _ hw) (fun _ h9 => h9) hfin (C.2.2.2.2.2.2.1.trans hi) hown (hCL.2.2.1 k hkN) hx.1 hx.2 (by rw [tb_fs_len]; exact hk) hd (fun H1 locs1 hP1 hD1 hS1 => ?_)
  rw [ew] at hP1 hD1
  refine kk ⟨ok.1.sup (fun z hz => ?_), ok.2.1, ok.2.2.tail.tail⟩ p e s m args below meth c A adr0 n0 bx C H1 locs1 adr ls ha hP1 hD1 hS1 hl
  rcases List.mem_or_eq_of_mem_set hz with h1 | h1
  · exact ok.1 c9 hcn z (by rw [hs]; exact h1)
  · cases h1
    exact hrn
theorem tb_iald {i : Int32} {j len c9 : Nat} {rs : List (Option Nat)} (hd : decode y.2.1 pc = .ok (.iaload, 1)) (hs : sh c9 = (100, len, rs)) (hc : c9 ≠ tb_sc) (hi : i = nI j) (hj : j < len) (hb : len ≤ 2147483647)
    (kk : tb_At l G y R xt Z k1 k2 n sh I (pc + 1) L (.int (I c9 j) :: S)) : tb_At l G y R xt Z k1 k2 n sh I pc L (.int i :: .ref c9 :: S) := by
  intro ok p e s m args below meth c A adr0 n0 bx C H locs adr ls ha hP hD hS hl
  subst hi
  have hcn : c9 < n := ok.2.2.tail.head.resolve_right hc
  have he : (tb_ws G adr n sh I)[c9]? = some (adr c9, .inl (G.2.1, len, .inl (I c9))) := by rw [tb_ws_at hcn, hs]; rfl
  refine va_iald (D := G.1) C.1 C.2.1 C.2.2.2.2.2.2.2.2.2.2.1 hP c9 0 he rfl (vp_in_nI hj (by omega)) hd ?_
  rw [nI_clamp (by omega)]
  exact kk ⟨ok.1, ok.2.1, .cons trivial ok.2.2.tail.tail⟩ p e s m args below meth c A adr0 n0 bx C H locs adr ls ha hP hD hS hl
theorem tb_iast {i x : Int32} {j len c9 : Nat} {rs : List (Option Nat)} (hd : decode y.2.1 pc = .ok (.iastore, 1)) (hs : sh c9 = (100, len, rs)) (hc : c9 ≠ tb_sc) (hi : i = nI j) (hj : j < len) (hb : len ≤ 2147483647)
    (kk : tb_At l G y R xt Z k1 k2 n sh (tb_up I c9 j x) (pc + 1) L S) : tb_At l G y R xt Z k1 k2 n sh I pc L (.int x :: .int i :: .ref c9 :: S) := by
  intro ok p e s m args below meth c A adr0 n0 bx C H locs adr ls ha hP hD hS hl
  subst hi
  have hcn : c9 < n := ok.2.2.tail.tail.head.resolve_right hc
  have he : (tb_ws G adr n sh I)[c9]? = some (adr c9, .inl (G.2.1, len, .inl (I c9))) := by rw [tb_ws_at hcn, hs]; rfl
  have ew : (tb_ws G adr n sh I).set c9 (adr c9, .inl (G.2.1, len, .inl (upd (I c9) j x))) = tb_ws G adr n sh (tb_up I c9 j x) := by
    have e2 : (Sum.inl (G.2.1, len, .inl (upd (I c9) j x)) : va_E) = tb_en G adr (sh c9) (upd (I c9) j x) := by rw [hs]; rfl
    rw [e2]
    exact tb_ws_row _
  refine va_iast (D := G.1) C.1 C.2.1 C.2.2.2.2.2.2.2.2.2.2.1 hP hD hS c9 0 he rfl (vp_in_nI hj (by omega)) hd (fun H1 locs1 hP1 hD1 hS1 => ?_)
  rw [nI_clamp (by omega), ew] at hP1 hD1
  exact kk ⟨ok.1, ok.2.1, ok.2.2.tail.tail.tail⟩ p e s m args below meth c A adr0 n0 bx C H1 locs1 adr ls ha hP1 hD1 hS1 hl
theorem tb_alen {len c9 : Nat} {rs : List (Option Nat)} (hd : decode y.2.1 pc = .ok (.arraylength, 1)) (hs : sh c9 = (100, len, rs)) (hc : c9 ≠ tb_sc)
    (kk : tb_At l G y R xt Z k1 k2 n sh I (pc + 1) L (.int (nI len) :: S)) : tb_At l G y R xt Z k1 k2 n sh I pc L (.ref c9 :: S) := by
  intro ok p e s m args below meth c A adr0 n0 bx C H locs adr ls ha hP hD hS hl
  have hcn : c9 < n := ok.2.2.head.resolve_right hc
  have he : (tb_ws G adr n sh I)[c9]? = some (adr c9, .inl (G.2.1, len, .inl (I c9))) := by rw [tb_ws_at hcn, hs]; rfl
  exact va_alen (D := G.1) C.1 C.2.1 C.2.2.2.2.2.2.2.2.2.2.1 hP c9 0 he (ty := .int) rfl rfl hd (kk ⟨ok.1, ok.2.1, .cons trivial ok.2.2.tail⟩ p e s m args below meth c A adr0 n0 bx C H locs adr ls ha hP hD hS hl)
theorem tb_aald {i : Int32} {j len c9 r : Nat} {rs : List (Option Nat)} (hd : decode y.2.1 pc = .ok (.aaload, 1)) (hs : sh c9 = (101, len, rs)) (hc : c9 ≠ tb_sc) (hi : i = nI j) (hj : j < len) (hb : len ≤ 2147483647) (hr : rs[j]? = some (some r))
    (kk : tb_At l G y R xt Z k1 k2 n sh I (pc + 1) L (.ref r :: S)) : tb_At l G y R xt Z k1 k2 n sh I pc L (.int i :: .ref c9 :: S) := by
  intro ok p e s m args below meth c A adr0 n0 bx C H locs adr ls ha hP hD hS hl
  subst hi
  have hcn : c9 < n := ok.2.2.tail.head.resolve_right hc
  have hrn : r < n := ok.1 c9 hcn r (by rw [hs]; exact List.mem_of_getElem? hr)
  have he : (tb_ws G adr n sh I)[c9]? = some (adr c9, .inl (G.2.2.1, len, .inr (.inr (.inr (.inr fun i => (rs.getD i none).map adr))))) := by rw [tb_ws_at hcn, hs]; rfl
  have hcl : (nI j).toNatClampNeg = j := nI_clamp (by omega)
  have hin : vp_in (nI j) len := vp_in_nI hj (by omega)
  have hval : va_rf ((rs.getD (nI j).toNatClampNeg none).map adr) = .ref (adr r) := by rw [hcl, List.getD_eq_getElem?_getD, hr]; rfl
  have hlt : (nI j).toNatClampNeg < len := by rw [hcl]; exact hj
  have hK := C.2.2.2.2.2.2.2.2.2.2.1
  exact W.aald (v := .ref (adr r)) (ty := .array .int) C.1 C.2.1 (hP c9 _ he) ((hK.2 1 _ rfl).1 len (fun j => va_rf ((rs.getD j none).map adr))) rfl (fun q => by cases q) (by show ¬ (nI j < 0 ∨ (arrV _ _ _).slots.size ≤ _); rw [arrV_size]; exact hin) (by show (arrV _ _ _).slots[_]? = _; rw [arrV_read _ _ hlt, hval]) rfl rfl hd (kk ⟨ok.1, ok.2.1, .cons (Or.inl hrn) ok.2.2.tail.tail⟩ p e s m args below meth c A adr0 n0 bx C H locs adr ls ha hP hD hS hl)
theorem tb_last {i x : Int32} {j len c9 : Nat} {rs : List (Option Nat)} (hd : decode y.2.1 pc = .ok (.lastore, 1)) (hs : sh c9 = (102, len, rs)) (hc : c9 ≠ tb_sc) (hi : i = nI j) (hj : j < len) (hb : len ≤ 2147483647)
    (kk : tb_At l G y R xt Z k1 k2 n sh (tb_up I c9 j x) (pc + 1) L S) : tb_At l G y R xt Z k1 k2 n sh I pc L (.long x.toInt64 :: .int i :: .ref c9 :: S) := by
  intro ok p e s m args below meth c A adr0 n0 bx C H locs adr ls ha hP hD hS hl
  subst hi
  have hcn : c9 < n := ok.2.2.tail.tail.head.resolve_right hc
  have he : (tb_ws G adr n sh I)[c9]? = some (adr c9, .inl (G.2.2.2, len, .inr (.inl fun i => (I c9 i).toInt64))) := by rw [tb_ws_at hcn, hs]; rfl
  have ew : (tb_ws G adr n sh I).set c9 (adr c9, .inl (G.2.2.2, len, .inr (.inl (vp_updL (fun i => (I c9 i).toInt64) j x.toInt64)))) = tb_ws G adr n sh (tb_up I c9 j x) := by
    have e2 : (Sum.inl (G.2.2.2, len, .inr (.inl (vp_updL (fun i => (I c9 i).toInt64) j x.toInt64))) : va_E) = tb_en G adr (sh c9) (upd (I c9) j x) := by
      rw [hs, tb_en_long]
      have e3 : vp_updL (fun i => (I c9 i).toInt64) j x.toInt64 = fun i => (upd (I c9) j x i).toInt64 := by
        funext i
        unfold vp_updL upd
        split <;> rfl
      rw [e3]
    rw [e2]
    exact tb_ws_row _
  refine va_last (D := G.1) C.1 C.2.1 C.2.2.2.2.2.2.2.2.2.2.1 hP hD hS c9 2 he rfl (vp_in_nI hj (by omega)) hd (fun H1 locs1 hP1 hD1 hS1 => ?_)
  rw [nI_clamp (by omega), ew] at hP1 hD1
  exact kk ⟨ok.1, ok.2.1, ok.2.2.tail.tail.tail⟩ p e s m args below meth c A adr0 n0 bx C H1 locs1 adr ls ha hP1 hD1 hS1 hl
theorem tb_sld {i : Int32} {j Lx : Nat} {xs : Nat → Int32} (hx : xt = some (Lx, xs)) (hd : decode y.2.1 pc = .ok (.iaload, 1)) (hi : i = nI j) (hj : j < Lx) (hb : Lx ≤ 2147483647)
    (kk : tb_At l G y R xt Z k1 k2 n sh I (pc + 1) L (.int (xs j) :: S)) : tb_At l G y R xt Z k1 k2 n sh I pc L (.int i :: .ref tb_sc :: S) := by
  intro ok p e s m args below meth c A adr0 n0 bx C H locs adr ls ha hP hD hS hl
  subst hi
  have hX := C.2.2.2.2.2.2.2.2.2.2.2.2.2
  rw [hx] at hX
  have hbx : adr tb_sc = bx := ha.2.1.trans ha.2.2.2
  obtain ⟨h1, h2, h3⟩ := hX
  show W p l e R s m args below meth c H locs k1 k2 _ (F0 m pc ls (.int (nI j) :: .ref (adr tb_sc) :: S.map (tb_rn adr)))
  rw [hbx]
  refine va_sld C.1 C.2.1 h1 h3 h2 hS (vp_in_nI hj (by omega)) hd ?_
  rw [nI_clamp (by omega)]
  exact kk ⟨ok.1, ok.2.1, .cons trivial ok.2.2.tail.tail⟩ p e s m args below meth c A adr0 n0 bx C H locs adr ls ha hP hD hS hl
theorem tb_slen {Lx : Nat} {xs : Nat → Int32} (hx : xt = some (Lx, xs)) (hd : decode y.2.1 pc = .ok (.arraylength, 1))
    (kk : tb_At l G y R xt Z k1 k2 n sh I (pc + 1) L (.int (nI Lx) :: S)) : tb_At l G y R xt Z k1 k2 n sh I pc L (.ref tb_sc :: S) := by
  intro ok p e s m args below meth c A adr0 n0 bx C H locs adr ls ha hP hD hS hl
  have hX := C.2.2.2.2.2.2.2.2.2.2.2.2.2
  rw [hx] at hX
  have hbx : adr tb_sc = bx := ha.2.1.trans ha.2.2.2
  obtain ⟨h1, h2, h3⟩ := hX
  show W p l e R s m args below meth c H locs k1 k2 _ (F0 m pc ls (.ref (adr tb_sc) :: S.map (tb_rn adr)))
  rw [hbx]
  exact va_slen C.1 C.2.1 h1 h3 h2 hS hd (kk ⟨ok.1, ok.2.1, .cons trivial ok.2.2.tail⟩ p e s m args below meth c A adr0 n0 bx C H locs adr ls ha hP hD hS hl)
/-- a new cell, in the words of the world by numbers -/
theorem tb_pushed {A : Nat → Prop} {adr0 adr : Nat → Nat} {n0 bx q : Nat} {H1 : Heap} {s9 : tb_Sh} {f : Nat → Int32} {e9 : va_E} (hcl : tb_cl n sh) (hns : n < tb_sc) (hs9 : ∀ r, some r ∉ s9.2.2) (he9 : tb_en G adr s9 f = e9) (ha : (∀ k, k < n0 → adr k = adr0 k) ∧ adr tb_sc = adr0 tb_sc ∧ n0 ≤ n ∧ adr0 tb_sc = bx)
    (hP : va_P G.1 vwCl (tb_ws G adr n sh I ++ [(q, e9)]) H1) (hD : va_D A (tb_ws G adr n sh I ++ [(q, e9)])) :
    (va_P G.1 vwCl (tb_ws G (tb_ad adr n q) (n + 1) (tb_sup sh n s9) (tb_row I n f)) H1 ∧ va_D A (tb_ws G (tb_ad adr n q) (n + 1) (tb_sup sh n s9) (tb_row I n f))) ∧ ((∀ k, k < n0 → tb_ad adr n q k = adr0 k) ∧ tb_ad adr n q tb_sc = adr0 tb_sc ∧ n0 ≤ n + 1 ∧ adr0 tb_sc = bx) ∧ (∀ k, k < n → tb_ad adr n q k = adr k) ∧ tb_ad adr n q tb_sc = adr tb_sc := by
  have e1 : tb_en G (tb_ad adr n q) s9 f = e9 := by rw [← he9]; exact tb_en_ad (fun r hr => absurd hr (hs9 r))
  have h1 : ∀ k, k < n → tb_ad adr n q k = adr k := fun k hk => by
    have : ¬ k = n := by omega
    simp [tb_ad, this]
  have h2 : tb_ad adr n q tb_sc = adr tb_sc := by
    have : ¬ tb_sc = n := by omega
    simp [tb_ad, this]
  rw [tb_ws_push hcl, e1]
  refine ⟨⟨hP, hD⟩, ⟨fun k hk => (h1 k (by omega)).trans (ha.1 k hk), h2.trans ha.2.1, by omega, ha.2.2.2⟩, h1, h2⟩
theorem tb_new {idx ci N m1 m2 n' : Nat} (hd : decode y.2.1 pc = .ok (.new idx, 3)) (hf : tb_NW y.1.cls idx ci N) (hns : n < tb_sc) (h1 : k1 + 1 = m1) (h2 : k2 + N = m2) (h3 : n + 1 = n') (hcells : m1 ≤ R.cells) (hslots : m2 ≤ R.slots)
    (kk : tb_At l G y R xt Z m1 m2 n' (tb_sup sh n (ci, N, List.replicate N none)) (tb_row I n (fun _ => 0)) (pc + 3) L (.ref n :: S)) : tb_At l G y R xt Z k1 k2 n sh I pc L S := by
  subst h1
  subst h2
  subst h3
  intro ok p e s m args below meth c A adr0 n0 bx C H locs adr ls ha hP hD hS hl
  obtain ⟨C', T, hCL, hw1, hw2, hw3⟩ := hf
  have hts := C.2.2.2.2.2.2.2.2.1
  have hdv : ∀ j, j < N → defaultValue (tb_ft ci j) = vp_V (tb_fs adr ci N (List.replicate N none) (fun _ => 0)) j := by
    intro j hj
    have e1 : vp_V (tb_fs adr ci N (List.replicate N none) (fun _ => 0)) j = tb_fv adr (tb_isr ci j) none 0 := by
      unfold vp_V
      rw [List.getD_eq_getElem?_getD, tb_fs_at hj]
      simp [List.getD_eq_getElem?_getD, hj]
    rw [e1]
    exact tb_dflt (hCL.2.2.2.2.2 j hj) adr
  refine va_new (D := G.1) (ci := ci) (fs := tb_fs adr ci N (List.replicate N none) (fun _ => 0)) (C := C') (T := T) (N := N) C.1 C.2.1 hts hCL.2.1 (tb_ft ci) hCL.2.2.1 C.2.2.2.2.2.1 (hts _ hw1) (hts _ hw2) (hts _ hw3) C.2.2.2.2.2.2.2.2.2.2.1 hP hD hS C.2.2.2.2.2.2.2.2.2.1 hCL.1 hdv hcells hslots hd (fun q H1 hP1 hD1 hS1 => ?_)
  have hno : ∀ r, some r ∉ ((ci, N, List.replicate N none) : tb_Sh).2.2 := fun r hr => by
    have := (List.mem_replicate.mp hr).2
    cases this
  obtain ⟨⟨hP2, hD2⟩, ha2, hk1, hk2⟩ := tb_pushed (s9 := (ci, N, List.replicate N none)) (f := fun _ => 0) ok.1 hns hno (tb_en_obj hCL.2.2.2.2.1) ha hP1 hD1
  have hmap := tb_rn_map hk1 hk2 ok.2.2
  have hq : tb_rn (tb_ad adr n q) (.ref n) = .ref q := by simp [tb_rn, tb_ad]
  have h9 := kk ⟨ok.1.push rfl (fun r hr => absurd hr (hno r)), ok.2.1.mono (Nat.le_succ n), .cons (Or.inl (Nat.lt_succ_self n)) (ok.2.2.mono (Nat.le_succ n))⟩ p e s m args below meth c A adr0 n0 bx C H1 locs (tb_ad adr n q) ls ha2 hP2 hD2 hS1 (hl.ad ok.2.1 hk1 hk2)
  rw [List.map_cons, hmap, hq] at h9
  exact h9
theorem tb_newa {v : Int32} {len m1 m2 n' : Nat} (hd : decode y.2.1 pc = .ok (.newarray .int, 2)) (hw : Cond.arrayClass .int ∈ tb_W) (hns : n < tb_sc) (hv : v = nI len) (hb : len ≤ 100000) (h1 : k1 + 1 = m1) (h2 : k2 + len = m2) (h3 : n + 1 = n') (hcells : m1 ≤ R.cells) (hslots : m2 ≤ R.slots)
    (kk : tb_At l G y R xt Z m1 m2 n' (tb_sup sh n (100, len, [])) (tb_row I n (fun _ => 0)) (pc + 2) L (.ref n :: S)) : tb_At l G y R xt Z k1 k2 n sh I pc L (.int v :: S) := by
  subst h1
  subst h2
  subst h3
  subst hv
  intro ok p e s m args below meth c A adr0 n0 bx C H locs adr ls ha hP hD hS hl
  have hts := C.2.2.2.2.2.2.2.2.1
  have hK := C.2.2.2.2.2.2.2.2.2.2.1
  refine va_newa (D := G.1) (atype := .int) (ty := .int) (a0 := (len, .inl (fun _ => 0))) C.1 C.2.1 (hts _ hw) rfl hK hP hD hS C.2.2.2.2.2.2.2.2.2.1 (fun cA => rfl) (nI_pos (by omega)) (nI_clamp (by omega)) (by show len * 4 ≤ _; omega) hcells hslots hd (fun q cA H1 hK1 hP1 hD1 hS1 => ?_)
  have hcA : cA = G.2.1 := by
    have e1 := (hK1.2 3 _ rfl).2
    have e2 := (hK.2 0 _ rfl).2
    exact Option.some.inj (e1.symm.trans e2)
  subst hcA
  obtain ⟨⟨hP2, hD2⟩, ha2, hk1, hk2⟩ := tb_pushed (s9 := (100, len, [])) (f := fun _ => 0) ok.1 hns (fun r hr => nomatch hr) rfl ha hP1 hD1
  have hmap := tb_rn_map hk1 hk2 ok.2.2.tail
  have hq : tb_rn (tb_ad adr n q) (.ref n) = .ref q := by simp [tb_rn, tb_ad]
  have h9 := kk ⟨ok.1.push rfl (fun r hr => nomatch hr), ok.2.1.mono (Nat.le_succ n), .cons (Or.inl (Nat.lt_succ_self n)) (ok.2.2.tail.mono (Nat.le_succ n))⟩ p e s m args below meth c A adr0 n0 bx C H1 locs (tb_ad adr n q) ls ha2 hP2 hD2 hS1 (hl.ad ok.2.1 hk1 hk2)
  rw [List.map_cons, hmap, hq] at h9
  exact h9
theorem tb_newl {v : Int32} {len m1 m2 n' : Nat} (hd : decode y.2.1 pc = .ok (.newarray .long, 2)) (hw : Cond.arrayClass .long ∈ tb_W) (hns : n < tb_sc) (hv : v = nI len) (hb : len ≤ 100000) (h1 : k1 + 1 = m1) (h2 : k2 + len = m2) (h3 : n + 1 = n') (hcells : m1 ≤ R.cells) (hslots : m2 ≤ R.slots)
    (kk : tb_At l G y R xt Z m1 m2 n' (tb_sup sh n (102, len, [])) (tb_row I n (fun _ => 0)) (pc + 2) L (.ref n :: S)) : tb_At l G y R xt Z k1 k2 n sh I pc L (.int v :: S) := by
  subst h1
  subst h2
  subst h3
  subst hv
  intro ok p e s m args below meth c A adr0 n0 bx C H locs adr ls ha hP hD hS hl
  have hts := C.2.2.2.2.2.2.2.2.1
  have hK := C.2.2.2.2.2.2.2.2.2.2.1
  refine va_newa (D := G.1) (atype := .long) (ty := .long) (a0 := (len, .inr (.inl (fun _ => 0)))) C.1 C.2.1 (hts _ hw) rfl hK hP hD hS C.2.2.2.2.2.2.2.2.2.1 (fun cA => rfl) (nI_pos (by omega)) (nI_clamp (by omega)) (by show len * 8 ≤ _; omega) hcells hslots hd (fun q cA H1 hK1 hP1 hD1 hS1 => ?_)
  have hcA : cA = G.2.2.2 := by
    have e1 := (hK1.2 3 _ rfl).2
    have e2 := (hK.2 2 _ rfl).2
    exact Option.some.inj (e1.symm.trans e2)
  subst hcA
  obtain ⟨⟨hP2, hD2⟩, ha2, hk1, hk2⟩ := tb_pushed (s9 := (102, len, [])) (f := fun _ => 0) ok.1 hns (fun r hr => nomatch hr) rfl ha hP1 hD1
  have hmap := tb_rn_map hk1 hk2 ok.2.2.tail
  have hq : tb_rn (tb_ad adr n q) (.ref n) = .ref q := by simp [tb_rn, tb_ad]
  have h9 := kk ⟨ok.1.push rfl (fun r hr => nomatch hr), ok.2.1.mono (Nat.le_succ n), .cons (Or.inl (Nat.lt_succ_self n)) (ok.2.2.tail.mono (Nat.le_succ n))⟩ p e s m args below meth c A adr0 n0 bx C H1 locs (tb_ad adr n q) ls ha2 hP2 hD2 hS1 (hl.ad ok.2.1 hk1 hk2)
  rw [List.map_cons, hmap, hq] at h9
  exact h9
end TBM
