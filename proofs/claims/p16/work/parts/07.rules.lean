/-! ===== one row an instruction, over the world by numbers ===== -/
theorem tb_LL.stored {adr : Nat → Nat} {ls ls' : Array Slot} {nL : Nat} {L : List (Option Value)} (h : tb_LL adr ls nL L) (hc1 : ∀ v, some v ∈ L → v.category = 1) {i : Nat} {v : Value} (hi : i < nL)
    (h' : lv_has ls' nL ((i, tb_rn adr v) :: (L.zipIdx.filterMap fun q => q.1.map fun v => (q.2, tb_rn adr v)).filter (fun q => !(q.1 == i) && !(q.1 + 1 == i && q.2.category == 2)))) : tb_LL adr ls' nL (L.set i (some v)) := by
  obtain ⟨h2, h3, h4⟩ := h'
  refine ⟨h2, h3, by rw [List.length_set]; exact h.2.2.1, fun j w hj => ?_⟩
  by_cases hij : j = i
  · subst hij
    rw [List.getElem?_set_self (by rw [h.2.2.1]; exact hi)] at hj
    cases hj
    exact h4 (j, tb_rn adr v) List.mem_cons_self
  · rw [List.getElem?_set_ne (Ne.symm hij)] at hj
    refine h4 (j, tb_rn adr w) (List.mem_cons_of_mem _ (List.mem_filter.mpr ⟨?_, ?_⟩))
    · exact List.mem_filterMap.mpr ⟨(some w, j), List.mem_zipIdx_iff_getElem?.mpr hj, rfl⟩
    · have : w.category = 1 := hc1 w (List.mem_of_getElem? hj)
      simp [hij, tb_cat, this]
theorem tb_lo.set {n : Nat} {L : List (Option Value)} {i : Nat} {v : Value} (h : tb_lo n L) (hv : tb_vk n v) (hc : v.category = 1) : tb_lo n (L.set i (some v)) := by
  intro w hw
  rcases List.mem_or_eq_of_mem_set hw with h1 | h1
  · exact h w h1
  · cases h1
    exact ⟨hv, hc⟩
theorem tb_lo.at {n : Nat} {L : List (Option Value)} {i : Nat} {v : Value} (h : tb_lo n L) (hv : L[i]? = some (some v)) : tb_vk n v := (h v (List.mem_of_getElem? hv)).1
section TBR
variable {l : Launch} {G : tb_G} {y : tb_Mt} {R : Room} {xt : Option (Nat × (Nat → Int32))} {Z : tb_CT → State → Prop} {k1 k2 n : Nat} {sh : Nat → tb_Sh} {I : tb_I} {pc : Nat} {L : List (Option Value)} {S : List Value}

theorem tb_iconst {i : Int} {v : Int32} (hd : decode y.2.1 pc = .ok (.iconst i, 1)) (hv : Int32.ofInt i = v)
    (k : tb_At l G y R xt Z k1 k2 n sh I (pc + 1) L (.int v :: S)) : tb_At l G y R xt Z k1 k2 n sh I pc L S := by
  intro ok p e s m args below meth c A adr0 n0 bx C H locs adr ls ha hP hD hS hl
  exact lv_iconst C.1 C.2.1 hd hv (k ⟨ok.1, ok.2.1, .cons trivial ok.2.2⟩ p e s m args below meth c A adr0 n0 bx C H locs adr ls ha hP hD hS hl)
theorem tb_bipush {i : Int} {v : Int32} (hd : decode y.2.1 pc = .ok (.bipush i, 2)) (hv : (Int8.ofInt i).toInt32 = v)
    (k : tb_At l G y R xt Z k1 k2 n sh I (pc + 2) L (.int v :: S)) : tb_At l G y R xt Z k1 k2 n sh I pc L S := by
  intro ok p e s m args below meth c A adr0 n0 bx C H locs adr ls ha hP hD hS hl
  exact lv_bipush C.1 C.2.1 hd hv (k ⟨ok.1, ok.2.1, .cons trivial ok.2.2⟩ p e s m args below meth c A adr0 n0 bx C H locs adr ls ha hP hD hS hl)
theorem tb_sipush {i : Int} {v : Int32} (hd : decode y.2.1 pc = .ok (.sipush i, 3)) (hv : (Int16.ofInt i).toInt32 = v)
    (k : tb_At l G y R xt Z k1 k2 n sh I (pc + 3) L (.int v :: S)) : tb_At l G y R xt Z k1 k2 n sh I pc L S := by
  intro ok p e s m args below meth c A adr0 n0 bx C H locs adr ls ha hP hD hS hl
  exact lv_sipush C.1 C.2.1 hd hv (k ⟨ok.1, ok.2.1, .cons trivial ok.2.2⟩ p e s m args below meth c A adr0 n0 bx C H locs adr ls ha hP hD hS hl)
theorem tb_ldc {i : Nat} {v : Int32} (hd : decode y.2.1 pc = .ok (.ldc i, 2)) (hw : Cond.constant y.1.cls i v ∈ tb_W)
    (k : tb_At l G y R xt Z k1 k2 n sh I (pc + 2) L (.int v :: S)) : tb_At l G y R xt Z k1 k2 n sh I pc L S := by
  intro ok p e s m args below meth c A adr0 n0 bx C H locs adr ls ha hP hD hS hl
  exact lv_ldc C.1 C.2.1 C.2.2.2.2.2.1 (C.2.2.2.2.2.2.2.2.1 _ hw) hd (k ⟨ok.1, ok.2.1, .cons trivial ok.2.2⟩ p e s m args below meth c A adr0 n0 bx C H locs adr ls ha hP hD hS hl)
theorem tb_iload_n {q : Fin 4} {i : Nat} {x : Int32} (hd : decode y.2.1 pc = .ok (.iload_n q, 1)) (hq : (q : Nat) = i) (hL : L[i]? = some (some (.int x)))
    (k : tb_At l G y R xt Z k1 k2 n sh I (pc + 1) L (.int x :: S)) : tb_At l G y R xt Z k1 k2 n sh I pc L S := by
  intro ok p e s m args below meth c A adr0 n0 bx C H locs adr ls ha hP hD hS hl
  exact lv_iload_n C.1 C.2.1 hd hq (hl.2.2.2 i _ hL) (k ⟨ok.1, ok.2.1, .cons trivial ok.2.2⟩ p e s m args below meth c A adr0 n0 bx C H locs adr ls ha hP hD hS hl)
theorem tb_iload {i : Nat} {x : Int32} (hd : decode y.2.1 pc = .ok (.iload i, 2)) (hL : L[i]? = some (some (.int x)))
    (k : tb_At l G y R xt Z k1 k2 n sh I (pc + 2) L (.int x :: S)) : tb_At l G y R xt Z k1 k2 n sh I pc L S := by
  intro ok p e s m args below meth c A adr0 n0 bx C H locs adr ls ha hP hD hS hl
  exact lv_iload C.1 C.2.1 hd (hl.2.2.2 i _ hL) (k ⟨ok.1, ok.2.1, .cons trivial ok.2.2⟩ p e s m args below meth c A adr0 n0 bx C H locs adr ls ha hP hD hS hl)
theorem tb_aload_n {q : Fin 4} {i x : Nat} (hd : decode y.2.1 pc = .ok (.aload_n q, 1)) (hq : (q : Nat) = i) (hL : L[i]? = some (some (.ref x)))
    (k : tb_At l G y R xt Z k1 k2 n sh I (pc + 1) L (.ref x :: S)) : tb_At l G y R xt Z k1 k2 n sh I pc L S := by
  intro ok p e s m args below meth c A adr0 n0 bx C H locs adr ls ha hP hD hS hl
  exact lv_aload_n C.1 C.2.1 hd hq (hl.2.2.2 i _ hL) (k ⟨ok.1, ok.2.1, .cons (ok.2.1.at hL) ok.2.2⟩ p e s m args below meth c A adr0 n0 bx C H locs adr ls ha hP hD hS hl)
theorem tb_aload {i x : Nat} (hd : decode y.2.1 pc = .ok (.aload i, 2)) (hL : L[i]? = some (some (.ref x)))
    (k : tb_At l G y R xt Z k1 k2 n sh I (pc + 2) L (.ref x :: S)) : tb_At l G y R xt Z k1 k2 n sh I pc L S := by
  intro ok p e s m args below meth c A adr0 n0 bx C H locs adr ls ha hP hD hS hl
  exact lv_aload C.1 C.2.1 hd (hl.2.2.2 i _ hL) (k ⟨ok.1, ok.2.1, .cons (ok.2.1.at hL) ok.2.2⟩ p e s m args below meth c A adr0 n0 bx C H locs adr ls ha hP hD hS hl)
theorem tb_iadd {a b : Int32} (hd : decode y.2.1 pc = .ok (.iadd, 1)) 
    (k : tb_At l G y R xt Z k1 k2 n sh I (pc + 1) L (.int (a + b) :: S)) : tb_At l G y R xt Z k1 k2 n sh I pc L (.int b :: .int a :: S) := by
  intro ok p e s m args below meth c A adr0 n0 bx C H locs adr ls ha hP hD hS hl
  exact lv_iadd C.1 C.2.1 hd (k ⟨ok.1, ok.2.1, .cons trivial ok.2.2.tail.tail⟩ p e s m args below meth c A adr0 n0 bx C H locs adr ls ha hP hD hS hl)
theorem tb_isub {a b : Int32} (hd : decode y.2.1 pc = .ok (.isub, 1)) 
    (k : tb_At l G y R xt Z k1 k2 n sh I (pc + 1) L (.int (a - b) :: S)) : tb_At l G y R xt Z k1 k2 n sh I pc L (.int b :: .int a :: S) := by
  intro ok p e s m args below meth c A adr0 n0 bx C H locs adr ls ha hP hD hS hl
  exact lv_isub C.1 C.2.1 hd (k ⟨ok.1, ok.2.1, .cons trivial ok.2.2.tail.tail⟩ p e s m args below meth c A adr0 n0 bx C H locs adr ls ha hP hD hS hl)
theorem tb_imul {a b : Int32} (hd : decode y.2.1 pc = .ok (.imul, 1)) 
    (k : tb_At l G y R xt Z k1 k2 n sh I (pc + 1) L (.int (a * b) :: S)) : tb_At l G y R xt Z k1 k2 n sh I pc L (.int b :: .int a :: S) := by
  intro ok p e s m args below meth c A adr0 n0 bx C H locs adr ls ha hP hD hS hl
  exact lv_imul C.1 C.2.1 hd (k ⟨ok.1, ok.2.1, .cons trivial ok.2.2.tail.tail⟩ p e s m args below meth c A adr0 n0 bx C H locs adr ls ha hP hD hS hl)
theorem tb_iand {a b : Int32} (hd : decode y.2.1 pc = .ok (.iand, 1)) 
    (k : tb_At l G y R xt Z k1 k2 n sh I (pc + 1) L (.int (a &&& b) :: S)) : tb_At l G y R xt Z k1 k2 n sh I pc L (.int b :: .int a :: S) := by
  intro ok p e s m args below meth c A adr0 n0 bx C H locs adr ls ha hP hD hS hl
  exact lv_iand C.1 C.2.1 hd (k ⟨ok.1, ok.2.1, .cons trivial ok.2.2.tail.tail⟩ p e s m args below meth c A adr0 n0 bx C H locs adr ls ha hP hD hS hl)
theorem tb_ior {a b : Int32} (hd : decode y.2.1 pc = .ok (.ior, 1)) 
    (k : tb_At l G y R xt Z k1 k2 n sh I (pc + 1) L (.int (a ||| b) :: S)) : tb_At l G y R xt Z k1 k2 n sh I pc L (.int b :: .int a :: S) := by
  intro ok p e s m args below meth c A adr0 n0 bx C H locs adr ls ha hP hD hS hl
  exact lv_ior C.1 C.2.1 hd (k ⟨ok.1, ok.2.1, .cons trivial ok.2.2.tail.tail⟩ p e s m args below meth c A adr0 n0 bx C H locs adr ls ha hP hD hS hl)
theorem tb_ixor {a b : Int32} (hd : decode y.2.1 pc = .ok (.ixor, 1)) 
    (k : tb_At l G y R xt Z k1 k2 n sh I (pc + 1) L (.int (a ^^^ b) :: S)) : tb_At l G y R xt Z k1 k2 n sh I pc L (.int b :: .int a :: S) := by
  intro ok p e s m args below meth c A adr0 n0 bx C H locs adr ls ha hP hD hS hl
  exact lv_ixor C.1 C.2.1 hd (k ⟨ok.1, ok.2.1, .cons trivial ok.2.2.tail.tail⟩ p e s m args below meth c A adr0 n0 bx C H locs adr ls ha hP hD hS hl)
theorem tb_ishl {a b : Int32} (hd : decode y.2.1 pc = .ok (.ishl, 1)) 
    (k : tb_At l G y R xt Z k1 k2 n sh I (pc + 1) L (.int (a <<< (b &&& 31)) :: S)) : tb_At l G y R xt Z k1 k2 n sh I pc L (.int b :: .int a :: S) := by
  intro ok p e s m args below meth c A adr0 n0 bx C H locs adr ls ha hP hD hS hl
  exact lv_ishl C.1 C.2.1 hd (k ⟨ok.1, ok.2.1, .cons trivial ok.2.2.tail.tail⟩ p e s m args below meth c A adr0 n0 bx C H locs adr ls ha hP hD hS hl)
theorem tb_ishr {a b : Int32} (hd : decode y.2.1 pc = .ok (.ishr, 1)) 
    (k : tb_At l G y R xt Z k1 k2 n sh I (pc + 1) L (.int (a >>> (b &&& 31)) :: S)) : tb_At l G y R xt Z k1 k2 n sh I pc L (.int b :: .int a :: S) := by
  intro ok p e s m args below meth c A adr0 n0 bx C H locs adr ls ha hP hD hS hl
  exact lv_ishr C.1 C.2.1 hd (k ⟨ok.1, ok.2.1, .cons trivial ok.2.2.tail.tail⟩ p e s m args below meth c A adr0 n0 bx C H locs adr ls ha hP hD hS hl)
theorem tb_iushr {a b v : Int32} (hd : decode y.2.1 pc = .ok (.iushr, 1)) (hv : (a.toUInt32 >>> (b.toUInt32 &&& Int32.toUInt32 31)).toInt32 = v)
    (k : tb_At l G y R xt Z k1 k2 n sh I (pc + 1) L (.int v :: S)) : tb_At l G y R xt Z k1 k2 n sh I pc L (.int b :: .int a :: S) := by
  intro ok p e s m args below meth c A adr0 n0 bx C H locs adr ls ha hP hD hS hl
  exact lv_iushr C.1 C.2.1 hd hv (k ⟨ok.1, ok.2.1, .cons trivial ok.2.2.tail.tail⟩ p e s m args below meth c A adr0 n0 bx C H locs adr ls ha hP hD hS hl)
theorem tb_idiv {a b : Int32} (hd : decode y.2.1 pc = .ok (.idiv, 1)) (h0 : ¬ b = 0)
    (k : tb_At l G y R xt Z k1 k2 n sh I (pc + 1) L (.int (a / b) :: S)) : tb_At l G y R xt Z k1 k2 n sh I pc L (.int b :: .int a :: S) := by
  intro ok p e s m args below meth c A adr0 n0 bx C H locs adr ls ha hP hD hS hl
  exact lv_idiv C.1 C.2.1 hd h0 (k ⟨ok.1, ok.2.1, .cons trivial ok.2.2.tail.tail⟩ p e s m args below meth c A adr0 n0 bx C H locs adr ls ha hP hD hS hl)
theorem tb_irem {a b : Int32} (hd : decode y.2.1 pc = .ok (.irem, 1)) (h0 : ¬ b = 0)
    (k : tb_At l G y R xt Z k1 k2 n sh I (pc + 1) L (.int (a - a / b * b) :: S)) : tb_At l G y R xt Z k1 k2 n sh I pc L (.int b :: .int a :: S) := by
  intro ok p e s m args below meth c A adr0 n0 bx C H locs adr ls ha hP hD hS hl
  exact lv_irem C.1 C.2.1 hd h0 (k ⟨ok.1, ok.2.1, .cons trivial ok.2.2.tail.tail⟩ p e s m args below meth c A adr0 n0 bx C H locs adr ls ha hP hD hS hl)
theorem tb_i2l {a : Int32} (hd : decode y.2.1 pc = .ok (.i2l, 1)) 
    (k : tb_At l G y R xt Z k1 k2 n sh I (pc + 1) L (.long a.toInt64 :: S)) : tb_At l G y R xt Z k1 k2 n sh I pc L (.int a :: S) := by
  intro ok p e s m args below meth c A adr0 n0 bx C H locs adr ls ha hP hD hS hl
  exact lv_i2l C.1 C.2.1 hd rfl (k ⟨ok.1, ok.2.1, .cons trivial ok.2.2.tail⟩ p e s m args below meth c A adr0 n0 bx C H locs adr ls ha hP hD hS hl)
theorem tb_pop {v : Value} (hd : decode y.2.1 pc = .ok (.pop, 1)) (hv : v.category = 1)
    (k : tb_At l G y R xt Z k1 k2 n sh I (pc + 1) L S) : tb_At l G y R xt Z k1 k2 n sh I pc L (v :: S) := by
  intro ok p e s m args below meth c A adr0 n0 bx C H locs adr ls ha hP hD hS hl
  exact lv_pop C.1 C.2.1 hd ((tb_cat adr v).trans hv) (k ⟨ok.1, ok.2.1, ok.2.2.tail⟩ p e s m args below meth c A adr0 n0 bx C H locs adr ls ha hP hD hS hl)
theorem tb_dup {v : Value} (hd : decode y.2.1 pc = .ok (.dup, 1)) (hv : v.category = 1)
    (k : tb_At l G y R xt Z k1 k2 n sh I (pc + 1) L (v :: v :: S)) : tb_At l G y R xt Z k1 k2 n sh I pc L (v :: S) := by
  intro ok p e s m args below meth c A adr0 n0 bx C H locs adr ls ha hP hD hS hl
  exact lv_dup C.1 C.2.1 hd ((tb_cat adr v).trans hv) (k ⟨ok.1, ok.2.1, .cons ok.2.2.head ok.2.2⟩ p e s m args below meth c A adr0 n0 bx C H locs adr ls ha hP hD hS hl)
theorem tb_dup_x1 {v w : Value} (hd : decode y.2.1 pc = .ok (.dup_x1, 1)) (hv : v.category = 1) (hw : w.category = 1)
    (k : tb_At l G y R xt Z k1 k2 n sh I (pc + 1) L (v :: w :: v :: S)) : tb_At l G y R xt Z k1 k2 n sh I pc L (v :: w :: S) := by
  intro ok p e s m args below meth c A adr0 n0 bx C H locs adr ls ha hP hD hS hl
  exact lv_dup_x1 C.1 C.2.1 hd ((tb_cat adr v).trans hv) ((tb_cat adr w).trans hw) (k ⟨ok.1, ok.2.1, .cons ok.2.2.head (.cons ok.2.2.tail.head (.cons ok.2.2.head ok.2.2.tail.tail))⟩ p e s m args below meth c A adr0 n0 bx C H locs adr ls ha hP hD hS hl)
theorem tb_dup2 {v w : Value} (hd : decode y.2.1 pc = .ok (.dup2, 1)) (hv : v.category = 1) (hw : w.category = 1)
    (k : tb_At l G y R xt Z k1 k2 n sh I (pc + 1) L (v :: w :: v :: w :: S)) : tb_At l G y R xt Z k1 k2 n sh I pc L (v :: w :: S) := by
  intro ok p e s m args below meth c A adr0 n0 bx C H locs adr ls ha hP hD hS hl
  exact lv_dup2_11 C.1 C.2.1 hd ((tb_cat adr v).trans hv) ((tb_cat adr w).trans hw) (k ⟨ok.1, ok.2.1, .cons ok.2.2.head (.cons ok.2.2.tail.head ok.2.2)⟩ p e s m args below meth c A adr0 n0 bx C H locs adr ls ha hP hD hS hl)
theorem tb_goto {off : Int} {tgt : Nat} (hd : decode y.2.1 pc = .ok (.goto off, 3)) (ht : (pc : Int) + off = (tgt : Int)) (k : tb_At l G y R xt Z k1 k2 n sh I tgt L S) : tb_At l G y R xt Z k1 k2 n sh I pc L S := by
  intro ok p e s m args below meth c A adr0 n0 bx C H locs adr ls ha hP hD hS hl
  exact lv_goto C.1 C.2.1 hd ht (k ok p e s m args below meth c A adr0 n0 bx C H locs adr ls ha hP hD hS hl)
theorem tb_istore_n {q : Fin 4} {i : Nat} {x : Int32} {L2 : List (Option Value)} (hd : decode y.2.1 pc = .ok (.istore_n q, 1)) (hq : (q : Nat) = i) (hi : i < y.2.2.1) (hL : L.set i (some (.int x)) = L2)
    (k : tb_At l G y R xt Z k1 k2 n sh I (pc + 1) L2 S) : tb_At l G y R xt Z k1 k2 n sh I pc L (.int x :: S) := by
  intro ok p e s m args below meth c A adr0 n0 bx C H locs adr ls ha hP hD hS hl
  subst hL
  exact lv_istore_n C.1 C.2.1 hd hq hl.has hi rfl (fun ls' h' => k ⟨ok.1, ok.2.1.set ok.2.2.head rfl, ok.2.2.tail⟩ p e s m args below meth c A adr0 n0 bx C H locs adr ls' ha hP hD hS (hl.stored (fun v hv => (ok.2.1 v hv).2) (v := .int x) hi h'))
theorem tb_istore {i : Nat} {x : Int32} {L2 : List (Option Value)} (hd : decode y.2.1 pc = .ok (.istore i, 2)) (hi : i < y.2.2.1) (hL : L.set i (some (.int x)) = L2)
    (k : tb_At l G y R xt Z k1 k2 n sh I (pc + 2) L2 S) : tb_At l G y R xt Z k1 k2 n sh I pc L (.int x :: S) := by
  intro ok p e s m args below meth c A adr0 n0 bx C H locs adr ls ha hP hD hS hl
  subst hL
  exact lv_istore C.1 C.2.1 hd hl.has hi rfl (fun ls' h' => k ⟨ok.1, ok.2.1.set ok.2.2.head rfl, ok.2.2.tail⟩ p e s m args below meth c A adr0 n0 bx C H locs adr ls' ha hP hD hS (hl.stored (fun v hv => (ok.2.1 v hv).2) (v := .int x) hi h'))
theorem tb_astore_n {q : Fin 4} {i : Nat} {x : Nat} {L2 : List (Option Value)} (hd : decode y.2.1 pc = .ok (.astore_n q, 1)) (hq : (q : Nat) = i) (hi : i < y.2.2.1) (hL : L.set i (some (.ref x)) = L2)
    (k : tb_At l G y R xt Z k1 k2 n sh I (pc + 1) L2 S) : tb_At l G y R xt Z k1 k2 n sh I pc L (.ref x :: S) := by
  intro ok p e s m args below meth c A adr0 n0 bx C H locs adr ls ha hP hD hS hl
  subst hL
  exact lv_astore_n C.1 C.2.1 hd hq hl.has hi rfl (fun ls' h' => k ⟨ok.1, ok.2.1.set ok.2.2.head rfl, ok.2.2.tail⟩ p e s m args below meth c A adr0 n0 bx C H locs adr ls' ha hP hD hS (hl.stored (fun v hv => (ok.2.1 v hv).2) (v := .ref x) hi h'))
theorem tb_astore {i : Nat} {x : Nat} {L2 : List (Option Value)} (hd : decode y.2.1 pc = .ok (.astore i, 2)) (hi : i < y.2.2.1) (hL : L.set i (some (.ref x)) = L2)
    (k : tb_At l G y R xt Z k1 k2 n sh I (pc + 2) L2 S) : tb_At l G y R xt Z k1 k2 n sh I pc L (.ref x :: S) := by
  intro ok p e s m args below meth c A adr0 n0 bx C H locs adr ls ha hP hD hS hl
  subst hL
  exact lv_astore C.1 C.2.1 hd hl.has hi rfl (fun ls' h' => k ⟨ok.1, ok.2.1.set ok.2.2.head rfl, ok.2.2.tail⟩ p e s m args below meth c A adr0 n0 bx C H locs adr ls' ha hP hD hS (hl.stored (fun v hv => (ok.2.1 v hv).2) (v := .ref x) hi h'))
theorem tb_iinc {i : Nat} {cn : Int} {x v : Int32} {L2 : List (Option Value)} (hd : decode y.2.1 pc = .ok (.iinc i cn, 3)) (hx : L[i]? = some (some (.int x))) (hv : x + Int32.ofInt cn = v) (hL : L.set i (some (.int v)) = L2)
    (k : tb_At l G y R xt Z k1 k2 n sh I (pc + 3) L2 S) : tb_At l G y R xt Z k1 k2 n sh I pc L S := by
  intro ok p e s m args below meth c A adr0 n0 bx C H locs adr ls ha hP hD hS hl
  subst hL
  have hi : i < y.2.2.1 := by rw [← hl.2.2.1]; exact (List.getElem?_eq_some_iff.mp hx).1
  have hm : (i, tb_rn adr (.int x)) ∈ (L.zipIdx.filterMap fun q => q.1.map fun v => (q.2, tb_rn adr v)) := List.mem_filterMap.mpr ⟨(some (.int x), i), List.mem_zipIdx_iff_getElem?.mpr hx, rfl⟩
  obtain ⟨j, hj⟩ := List.getElem?_of_mem hm
  exact lv_iinc C.1 C.2.1 hd hl.has hj hv hi rfl (fun ls' h' => k ⟨ok.1, ok.2.1.set (v := .int v) trivial rfl, ok.2.2⟩ p e s m args below meth c A adr0 n0 bx C H locs adr ls' ha hP hD hS (hl.stored (fun v hv => (ok.2.1 v hv).2) (v := .int v) hi h'))
theorem tb_icmp_eq {a b : Int32} {off : Int} {tgt : Nat} (hd : decode y.2.1 pc = .ok (.if_icmp .eq off, 3)) (ht : (pc : Int) + off = (tgt : Int))
    (kt : a = b → tb_At l G y R xt Z k1 k2 n sh I tgt L S) (kf : ¬ a = b → tb_At l G y R xt Z k1 k2 n sh I (pc + 3) L S) : tb_At l G y R xt Z k1 k2 n sh I pc L (.int b :: .int a :: S) := by
  intro ok p e s m args below meth c A adr0 n0 bx C H locs adr ls ha hP hD hS hl
  have ok' : tb_ok n sh L S := ⟨ok.1, ok.2.1, ok.2.2.tail.tail⟩
  exact lv_icmp_eq C.1 C.2.1 hd ht (fun h => kt h ok' p e s m args below meth c A adr0 n0 bx C H locs adr ls ha hP hD hS hl) (fun h => kf h ok' p e s m args below meth c A adr0 n0 bx C H locs adr ls ha hP hD hS hl)
theorem tb_icmp_ne {a b : Int32} {off : Int} {tgt : Nat} (hd : decode y.2.1 pc = .ok (.if_icmp .ne off, 3)) (ht : (pc : Int) + off = (tgt : Int))
    (kt : ¬ a = b → tb_At l G y R xt Z k1 k2 n sh I tgt L S) (kf : a = b → tb_At l G y R xt Z k1 k2 n sh I (pc + 3) L S) : tb_At l G y R xt Z k1 k2 n sh I pc L (.int b :: .int a :: S) := by
  intro ok p e s m args below meth c A adr0 n0 bx C H locs adr ls ha hP hD hS hl
  have ok' : tb_ok n sh L S := ⟨ok.1, ok.2.1, ok.2.2.tail.tail⟩
  exact lv_icmp_ne C.1 C.2.1 hd ht (fun h => kt h ok' p e s m args below meth c A adr0 n0 bx C H locs adr ls ha hP hD hS hl) (fun h => kf h ok' p e s m args below meth c A adr0 n0 bx C H locs adr ls ha hP hD hS hl)
theorem tb_icmp_lt {a b : Int32} {off : Int} {tgt : Nat} (hd : decode y.2.1 pc = .ok (.if_icmp .lt off, 3)) (ht : (pc : Int) + off = (tgt : Int))
    (kt : a < b → tb_At l G y R xt Z k1 k2 n sh I tgt L S) (kf : ¬ a < b → tb_At l G y R xt Z k1 k2 n sh I (pc + 3) L S) : tb_At l G y R xt Z k1 k2 n sh I pc L (.int b :: .int a :: S) := by
  intro ok p e s m args below meth c A adr0 n0 bx C H locs adr ls ha hP hD hS hl
  have ok' : tb_ok n sh L S := ⟨ok.1, ok.2.1, ok.2.2.tail.tail⟩
  exact lv_icmp_lt C.1 C.2.1 hd ht (fun h => kt h ok' p e s m args below meth c A adr0 n0 bx C H locs adr ls ha hP hD hS hl) (fun h => kf h ok' p e s m args below meth c A adr0 n0 bx C H locs adr ls ha hP hD hS hl)
theorem tb_icmp_ge {a b : Int32} {off : Int} {tgt : Nat} (hd : decode y.2.1 pc = .ok (.if_icmp .ge off, 3)) (ht : (pc : Int) + off = (tgt : Int))
    (kt : b ≤ a → tb_At l G y R xt Z k1 k2 n sh I tgt L S) (kf : ¬ b ≤ a → tb_At l G y R xt Z k1 k2 n sh I (pc + 3) L S) : tb_At l G y R xt Z k1 k2 n sh I pc L (.int b :: .int a :: S) := by
  intro ok p e s m args below meth c A adr0 n0 bx C H locs adr ls ha hP hD hS hl
  have ok' : tb_ok n sh L S := ⟨ok.1, ok.2.1, ok.2.2.tail.tail⟩
  exact lv_icmp_ge C.1 C.2.1 hd ht (fun h => kt h ok' p e s m args below meth c A adr0 n0 bx C H locs adr ls ha hP hD hS hl) (fun h => kf h ok' p e s m args below meth c A adr0 n0 bx C H locs adr ls ha hP hD hS hl)
theorem tb_icmp_geT {a b : Int32} {off : Int} {tgt : Nat} (h : b ≤ a) (hd : decode y.2.1 pc = .ok (.if_icmp .ge off, 3)) (ht : (pc : Int) + off = (tgt : Int))
    (kt : tb_At l G y R xt Z k1 k2 n sh I tgt L S) : tb_At l G y R xt Z k1 k2 n sh I pc L (.int b :: .int a :: S) := tb_icmp_ge hd ht (fun _ => kt) (fun h' => absurd h h')
theorem tb_icmp_geF {a b : Int32} {off : Int} {tgt : Nat} (h : ¬ b ≤ a) (hd : decode y.2.1 pc = .ok (.if_icmp .ge off, 3)) (ht : (pc : Int) + off = (tgt : Int))
    (kf : tb_At l G y R xt Z k1 k2 n sh I (pc + 3) L S) : tb_At l G y R xt Z k1 k2 n sh I pc L (.int b :: .int a :: S) := tb_icmp_ge hd ht (fun h' => absurd h' h) (fun _ => kf)
theorem tb_icmp_gt {a b : Int32} {off : Int} {tgt : Nat} (hd : decode y.2.1 pc = .ok (.if_icmp .gt off, 3)) (ht : (pc : Int) + off = (tgt : Int))
    (kt : b < a → tb_At l G y R xt Z k1 k2 n sh I tgt L S) (kf : ¬ b < a → tb_At l G y R xt Z k1 k2 n sh I (pc + 3) L S) : tb_At l G y R xt Z k1 k2 n sh I pc L (.int b :: .int a :: S) := by
  intro ok p e s m args below meth c A adr0 n0 bx C H locs adr ls ha hP hD hS hl
  have ok' : tb_ok n sh L S := ⟨ok.1, ok.2.1, ok.2.2.tail.tail⟩
  exact lv_icmp_gt C.1 C.2.1 hd ht (fun h => kt h ok' p e s m args below meth c A adr0 n0 bx C H locs adr ls ha hP hD hS hl) (fun h => kf h ok' p e s m args below meth c A adr0 n0 bx C H locs adr ls ha hP hD hS hl)
theorem tb_icmp_le {a b : Int32} {off : Int} {tgt : Nat} (hd : decode y.2.1 pc = .ok (.if_icmp .le off, 3)) (ht : (pc : Int) + off = (tgt : Int))
    (kt : a ≤ b → tb_At l G y R xt Z k1 k2 n sh I tgt L S) (kf : ¬ a ≤ b → tb_At l G y R xt Z k1 k2 n sh I (pc + 3) L S) : tb_At l G y R xt Z k1 k2 n sh I pc L (.int b :: .int a :: S) := by
  intro ok p e s m args below meth c A adr0 n0 bx C H locs adr ls ha hP hD hS hl
  have ok' : tb_ok n sh L S := ⟨ok.1, ok.2.1, ok.2.2.tail.tail⟩
  exact lv_icmp_le C.1 C.2.1 hd ht (fun h => kt h ok' p e s m args below meth c A adr0 n0 bx C H locs adr ls ha hP hD hS hl) (fun h => kf h ok' p e s m args below meth c A adr0 n0 bx C H locs adr ls ha hP hD hS hl)
theorem tb_if_eq {a : Int32} {off : Int} {tgt : Nat} (hd : decode y.2.1 pc = .ok (.ifCond .eq off, 3)) (ht : (pc : Int) + off = (tgt : Int))
    (kt : a = 0 → tb_At l G y R xt Z k1 k2 n sh I tgt L S) (kf : ¬ a = 0 → tb_At l G y R xt Z k1 k2 n sh I (pc + 3) L S) : tb_At l G y R xt Z k1 k2 n sh I pc L (.int a :: S) := by
  intro ok p e s m args below meth c A adr0 n0 bx C H locs adr ls ha hP hD hS hl
  have ok' : tb_ok n sh L S := ⟨ok.1, ok.2.1, ok.2.2.tail⟩
  exact lv_if_eq C.1 C.2.1 hd ht (fun h => kt h ok' p e s m args below meth c A adr0 n0 bx C H locs adr ls ha hP hD hS hl) (fun h => kf h ok' p e s m args below meth c A adr0 n0 bx C H locs adr ls ha hP hD hS hl)
theorem tb_if_ne {a : Int32} {off : Int} {tgt : Nat} (hd : decode y.2.1 pc = .ok (.ifCond .ne off, 3)) (ht : (pc : Int) + off = (tgt : Int))
    (kt : ¬ a = 0 → tb_At l G y R xt Z k1 k2 n sh I tgt L S) (kf : a = 0 → tb_At l G y R xt Z k1 k2 n sh I (pc + 3) L S) : tb_At l G y R xt Z k1 k2 n sh I pc L (.int a :: S) := by
  intro ok p e s m args below meth c A adr0 n0 bx C H locs adr ls ha hP hD hS hl
  have ok' : tb_ok n sh L S := ⟨ok.1, ok.2.1, ok.2.2.tail⟩
  exact lv_if_ne C.1 C.2.1 hd ht (fun h => kt h ok' p e s m args below meth c A adr0 n0 bx C H locs adr ls ha hP hD hS hl) (fun h => kf h ok' p e s m args below meth c A adr0 n0 bx C H locs adr ls ha hP hD hS hl)
theorem tb_if_lt {a : Int32} {off : Int} {tgt : Nat} (hd : decode y.2.1 pc = .ok (.ifCond .lt off, 3)) (ht : (pc : Int) + off = (tgt : Int))
    (kt : a < 0 → tb_At l G y R xt Z k1 k2 n sh I tgt L S) (kf : ¬ a < 0 → tb_At l G y R xt Z k1 k2 n sh I (pc + 3) L S) : tb_At l G y R xt Z k1 k2 n sh I pc L (.int a :: S) := by
  intro ok p e s m args below meth c A adr0 n0 bx C H locs adr ls ha hP hD hS hl
  have ok' : tb_ok n sh L S := ⟨ok.1, ok.2.1, ok.2.2.tail⟩
  exact lv_if_lt C.1 C.2.1 hd ht (fun h => kt h ok' p e s m args below meth c A adr0 n0 bx C H locs adr ls ha hP hD hS hl) (fun h => kf h ok' p e s m args below meth c A adr0 n0 bx C H locs adr ls ha hP hD hS hl)
theorem tb_if_ge {a : Int32} {off : Int} {tgt : Nat} (hd : decode y.2.1 pc = .ok (.ifCond .ge off, 3)) (ht : (pc : Int) + off = (tgt : Int))
    (kt : 0 ≤ a → tb_At l G y R xt Z k1 k2 n sh I tgt L S) (kf : ¬ 0 ≤ a → tb_At l G y R xt Z k1 k2 n sh I (pc + 3) L S) : tb_At l G y R xt Z k1 k2 n sh I pc L (.int a :: S) := by
  intro ok p e s m args below meth c A adr0 n0 bx C H locs adr ls ha hP hD hS hl
  have ok' : tb_ok n sh L S := ⟨ok.1, ok.2.1, ok.2.2.tail⟩
  exact lv_if_ge C.1 C.2.1 hd ht (fun h => kt h ok' p e s m args below meth c A adr0 n0 bx C H locs adr ls ha hP hD hS hl) (fun h => kf h ok' p e s m args below meth c A adr0 n0 bx C H locs adr ls ha hP hD hS hl)
theorem tb_if_gt {a : Int32} {off : Int} {tgt : Nat} (hd : decode y.2.1 pc = .ok (.ifCond .gt off, 3)) (ht : (pc : Int) + off = (tgt : Int))
    (kt : 0 < a → tb_At l G y R xt Z k1 k2 n sh I tgt L S) (kf : ¬ 0 < a → tb_At l G y R xt Z k1 k2 n sh I (pc + 3) L S) : tb_At l G y R xt Z k1 k2 n sh I pc L (.int a :: S) := by
  intro ok p e s m args below meth c A adr0 n0 bx C H locs adr ls ha hP hD hS hl
  have ok' : tb_ok n sh L S := ⟨ok.1, ok.2.1, ok.2.2.tail⟩
  exact lv_if_gt C.1 C.2.1 hd ht (fun h => kt h ok' p e s m args below meth c A adr0 n0 bx C H locs adr ls ha hP hD hS hl) (fun h => kf h ok' p e s m args below meth c A adr0 n0 bx C H locs adr ls ha hP hD hS hl)
theorem tb_if_le {a : Int32} {off : Int} {tgt : Nat} (hd : decode y.2.1 pc = .ok (.ifCond .le off, 3)) (ht : (pc : Int) + off = (tgt : Int))
    (kt : a ≤ 0 → tb_At l G y R xt Z k1 k2 n sh I tgt L S) (kf : ¬ a ≤ 0 → tb_At l G y R xt Z k1 k2 n sh I (pc + 3) L S) : tb_At l G y R xt Z k1 k2 n sh I pc L (.int a :: S) := by
  intro ok p e s m args below meth c A adr0 n0 bx C H locs adr ls ha hP hD hS hl
  have ok' : tb_ok n sh L S := ⟨ok.1, ok.2.1, ok.2.2.tail⟩
  exact lv_if_le C.1 C.2.1 hd ht (fun h => kt h ok' p e s m args below meth c A adr0 n0 bx C H locs adr ls ha hP hD hS hl) (fun h => kf h ok' p e s m args below meth c A adr0 n0 bx C H locs adr ls ha hP hD hS hl)
theorem tb_tabOut {dflt lo hi : Int} {offs : Array Int} {len : Nat} {x : Int32} {tgt : Nat} (hd : decode y.2.1 pc = .ok (.tableswitch dflt lo hi offs, len)) (h : x.toInt < lo ∨ hi < x.toInt) (ht : (pc : Int) + dflt = (tgt : Int))
    (k : tb_At l G y R xt Z k1 k2 n sh I tgt L S) : tb_At l G y R xt Z k1 k2 n sh I pc L (.int x :: S) := by
  intro ok p e s m args below meth c A adr0 n0 bx C H locs adr ls ha hP hD hS hl
  exact lv_tableOut C.1 C.2.1 hd h ht (k ⟨ok.1, ok.2.1, ok.2.2.tail⟩ p e s m args below meth c A adr0 n0 bx C H locs adr ls ha hP hD hS hl)
theorem tb_tabIn {dflt lo hi off : Int} {offs : Array Int} {len : Nat} {x : Int32} {tgt : Nat} (hd : decode y.2.1 pc = .ok (.tableswitch dflt lo hi offs, len)) (h1 : ¬ x.toInt < lo) (h2 : ¬ hi < x.toInt) (ho : offs[(x.toInt - lo).toNat]? = some off) (ht : (pc : Int) + off = (tgt : Int))
    (k : tb_At l G y R xt Z k1 k2 n sh I tgt L S) : tb_At l G y R xt Z k1 k2 n sh I pc L (.int x :: S) := by
  intro ok p e s m args below meth c A adr0 n0 bx C H locs adr ls ha hP hD hS hl
  exact lv_tableIn C.1 C.2.1 hd h1 h2 ho ht (k ⟨ok.1, ok.2.1, ok.2.2.tail⟩ p e s m args below meth c A adr0 n0 bx C H locs adr ls ha hP hD hS hl)
theorem tb_shcong {sh2 : Nat → tb_Sh} (h : ∀ c, c < n → sh c = sh2 c) (k : tb_At l G y R xt Z k1 k2 n sh2 I pc L S) : tb_At l G y R xt Z k1 k2 n sh I pc L S := by
  intro ok p e s m args below meth c A adr0 n0 bx C H locs adr ls ha hP hD hS hl
  have ew : tb_ws G adr n sh I = tb_ws G adr n sh2 I := by
    apply List.map_congr_left
    intro c9 hc
    rw [h c9 (List.mem_range.mp hc)]
  rw [ew] at hP hD
  exact k ⟨fun k9 h9 r hr => ok.1 k9 h9 r (by rw [h k9 h9]; exact hr), ok.2⟩ p e s m args below meth c A adr0 n0 bx C H locs adr ls ha hP hD hS hl
end TBR
