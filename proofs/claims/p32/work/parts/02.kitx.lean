section
/-! va_AOA is named by the printed row va_mna and defined nowhere in the kit: here it is, as va_AO has it for objects -/
def va_AOA (ty : FieldType) (U : State) : Prop := (Cond.arrayOver (.array ty)).before #[] U = true
theorem va_AOA.of {ty : FieldType} {A : Array Value} {U : State} (h : (Cond.arrayOver (.array ty)).before A U = true) : va_AOA ty U := h
theorem va_AOA.use {ty : FieldType} {A : Array Value} {U : State} (h : va_AOA ty U) : (Cond.arrayOver (.array ty)).before A U = true := h

/-! ===== BEGIN new T[n][m]: the outer array a place, the inner ones among the pooled ===== -/
/-- f, but v at every address of l -/
def vr_up {α : Type} (f : Nat → α) (l : List Nat) (v : α) : Nat → α := fun a => if a ∈ l then v else f a
theorem vr_up_in {α : Type} {f : Nat → α} {l : List Nat} {v : α} {a : Nat} (h : a ∈ l) : vr_up f l v a = v := if_pos h
theorem vr_up_ne {α : Type} {f : Nat → α} {l : List Nat} {v : α} {a : Nat} (h : a ∉ l) : vr_up f l v a = f a := if_neg h
theorem vr_rows {L l : List Nat} {f : Nat → va_E} {e : va_E} (h : ∀ a, a ∈ l → a ∉ L) : va_pl L f ++ l.map (fun a => (a, e)) = va_pl (L ++ l) (vr_up f l e) := by
  unfold va_pl
  rw [List.map_append]
  congr 1
  · apply List.map_congr_left
    intro a ha
    rw [vr_up_ne (fun q => h a q ha)]
  · apply List.map_congr_left
    intro a ha
    rw [vr_up_in ha]
theorem vr_lay {X rows : va_W} {x : Nat × va_E} {pl : va_W} {D : va_G} {cl : List vw_C} {H : Heap} (hP : va_P D cl (((X ++ pl) ++ [x]) ++ rows) H) : va_P D cl ((X ++ [x]) ++ (pl ++ rows)) H := by
  rw [List.append_assoc (X ++ pl)] at hP
  have h := va_P.swap hP
  rw [← List.append_assoc X] at h
  have h2 := va_P.swap h
  rw [List.append_assoc (X ++ [x])] at h2
  exact h2
theorem vr_layD {X rows : va_W} {x : Nat × va_E} {pl : va_W} {A : Nat → Prop} (hD : va_D A (((X ++ pl) ++ [x]) ++ rows)) : va_D A ((X ++ [x]) ++ (pl ++ rows)) := by
  rw [List.append_assoc (X ++ pl)] at hD
  have h := va_D.swap hD
  rw [← List.append_assoc X] at h
  have h2 := va_D.swap h
  rw [List.append_assoc (X ++ [x])] at h2
  exact h2
theorem vr_outer (c : ClassId) (N h0 : Nat) : ∀ i : Nat, Jvm.Free.Multi.outerC c N h0 i = arrV c N (fun j => va_rf (if j < i then some (h0 + 1 + j) else none))
  | 0 => by
    show ({ cls := c, slots := Array.replicate N .null, vm := .none } : Cell) = _
    rw [arrV_new]
    refine congrArg (arrV c N) (funext fun j => ?_)
    simp [va_rf]
  | i + 1 => by
    show (Jvm.Free.Multi.outerC c N h0 i).setSlot i (.ref (h0 + 1 + i)) = _
    rw [vr_outer c N h0 i, arrV_store]
    refine congrArg (arrV c N) (funext fun j => ?_)
    by_cases e : j = i
    · subst e
      simp [updV, va_rf]
    · by_cases h : j < i
      · simp [updV, e, h, Nat.lt_succ_of_lt h]
      · simp [updV, e, h, show ¬ j < i + 1 by omega]
section VGM
variable {p : Program} {l : Launch} {e : Env} {R : Room} {s : State} {m : MethodId} {args : Array Value} {below : List Frame} {meth : Method} {c : Code} {H : Heap} {locs : List Loc} {cells slots : Nat} {Q : State → Prop}
variable {cc : ByteArray} {pc : Nat} {ls : Array Slot} {rest : List Value} {D : va_G} {cl : List vw_C} {A : Nat → Prop} {a : Nat} {tys : List (ClassId × FieldType)} {ws : va_W} {H0 : Heap}
theorem va_mna {X : va_W} {L : List Nat} {f : Nat → va_E} {cc : ByteArray} (hexec : p.tables.exec = Jvm.exec) (hb : c.code = cc) {own : String} {index : Nat} {ty : FieldType} {cy : ClassId} (hown : s.vm.findClass own = some m.cls) (hclink : (Cond.classLink own index ("[" ++ (FieldType.array ty).toString)).before args s = true) (hover : va_AOA ty s) (harr : (Cond.arrayClass ty).before args s = true) (hcy : s.vm.findClass (FieldType.array ty).toString = some cy)
    (hK : va_K D cl tys s) (hP : va_P D cl (X ++ va_pl L f) H) (hD : va_D A (X ++ va_pl L f)) (hS : va_S A H0 H locs) (hA : ∀ q, H0.size ≤ q → A q) {n k : Int32} {N' K' : Nat} {z : vp_A} (hn : ¬ n < 0) (hk : ¬ k < 0) (hN : n.toNatClampNeg = N') (hM : k.toNatClampNeg = K')
    (hb1 : N' * 4 ≤ 536870912) (hb2 : K' * componentBytes ty ≤ 536870912) (hb3 : K' ≤ 536870912) (hdf : fits ty (defaultValue ty) = true) (hdd : (defaultValue ty).isDefault = true) (hcells : cells + (1 + N') ≤ R.cells) (hslots : slots + (N' + N' * K') ≤ R.slots) (hz : ∀ c : ClassId, Jvm.Free.Multi.innerC c K' (defaultValue ty) = vp_cell c z) (hdg : decode cc pc = .ok (.multianewarray index 2, 4))
    (kk : ∀ (q : Nat) (r : Nat → Nat) (cA : ClassId) (H1 : Heap), (∀ i j : Nat, i < N' → j < N' → r i = r j → i = j) → (∀ i : Nat, i < N' → r i ∉ L) → va_K D cl (tys ++ [(cA, .array ty)]) s →
      va_P D cl ((X ++ [(q, .inl (cA, N', .inr (.inr (.inr (.inr (fun i => if i < N' then some (r i) else none))))))]) ++ va_pl (L ++ (List.range N').map r) (vr_up f ((List.range N').map r) (.inl (cy, z)))) H1 → va_D A ((X ++ [(q, .inl (cA, N', .inr (.inr (.inr (.inr (fun i => if i < N' then some (r i) else none))))))]) ++ va_pl (L ++ (List.range N').map r) (vr_up f ((List.range N').map r) (.inl (cy, z)))) → va_S A H0 H1 locs →
      W p l e R s m args below meth c H1 locs (cells + 1 + N') (slots + N' + N' * K') Q (F0 m (pc + 4) ls (.ref q :: rest))) : W p l e R s m args below meth c H locs cells slots Q (F0 m pc ls (.int k :: .int n :: rest)) := by
  subst hN
  subst hM
  intro T hT Xs
  obtain ⟨vm₁, cA, comp, -, fA, fC, hO, -, X', step⟩ := Xs.multianewarray2F hexec hown hclink (va_AOA.use hover) harr (g := F0 m pc ls (.int k :: .int n :: rest)) rfl (by rw [hb]; exact hdg) rfl hn hk hb1 hb2 hb3 hdf hdd hcells hslots
  have ec : some cy = some comp := hcy.symm.trans fC
  cases ec
  generalize hF : Jvm.Free.Multi.fill (T.setVm vm₁) cA cy n.toNatClampNeg k.toNatClampNeg (defaultValue ty) n.toNatClampNeg = F at X' step
  have hTh : (T.setVm vm₁).heap = H := hT
  obtain ⟨f1, f2, -, -⟩ := Jvm.Free.Multi.fill_facts (T.setVm vm₁) cA cy n.toNatClampNeg k.toNatClampNeg (defaultValue ty) n.toNatClampNeg
  rw [hF, hTh] at f1 f2
  have hold : ∀ x : Nat, x < H.size → F.heap[x]? = H[x]? := fun x hx => by
    have := Jvm.Free.Multi.fill_old (T.setVm vm₁) cA cy n.toNatClampNeg k.toNatClampNeg (defaultValue ty) (a := x) (by rw [hTh]; exact hx) n.toNatClampNeg
    rw [hF, hTh] at this
    exact this
  have hrow : ∀ j : Nat, j < n.toNatClampNeg → F.heap[H.size + 1 + j]? = some (vp_cell cy z) := fun j hj => by
    have := Jvm.Free.Multi.fill_inner (T.setVm vm₁) cA cy n.toNatClampNeg k.toNatClampNeg (defaultValue ty) n.toNatClampNeg j hj
    rw [hF, hTh, hz] at this
    exact this
  have hout : Jvm.Free.Multi.outerC cA n.toNatClampNeg H.size n.toNatClampNeg = vp_cell cA (n.toNatClampNeg, .inr (.inr (.inr (.inr (fun i => if i < n.toNatClampNeg then some (H.size + 1 + i) else none))))) := by
    rw [vp_cell_q]
    exact vr_outer cA n.toNatClampNeg H.size n.toNatClampNeg
  rw [hout] at f2
  have hlt : ∀ a, a ∈ L → a < H.size := fun a ha => by
    obtain ⟨k9, hk9⟩ := va_pl_get (X := X) (f := f) ha
    exact (hP k9 _ hk9).lt
  have hnl : ∀ i : Nat, i < n.toNatClampNeg → H.size + 1 + i ∉ L := fun i _ h => by
    have := hlt _ h
    omega
  have hnm : ∀ a, a ∈ (List.range n.toNatClampNeg).map (fun i => H.size + 1 + i) → a ∉ L := fun a ha h => by
    obtain ⟨i, -, rfl⟩ := List.mem_map.mp ha
    have := hlt _ h
    omega
  have hP0 : va_P D cl (X ++ va_pl L f) F.heap := hP.kept (fun k9 x hx => hold x.1 ((hP k9 x hx).lt))
  have hP1 : va_P D cl ((X ++ va_pl L f) ++ [(H.size, .inl (cA, n.toNatClampNeg, .inr (.inr (.inr (.inr (fun i => if i < n.toNatClampNeg then some (H.size + 1 + i) else none))))))]) F.heap := hP0.app (fun k9 x hx => by
    have h0 : k9 < 1 := (List.getElem?_eq_some_iff.mp hx).1
    rw [show k9 = 0 by omega] at hx
    cases hx
    exact f2)
  have hP2 : va_P D cl (((X ++ va_pl L f) ++ [(H.size, .inl (cA, n.toNatClampNeg, .inr (.inr (.inr (.inr (fun i => if i < n.toNatClampNeg then some (H.size + 1 + i) else none))))))]) ++ ((List.range n.toNatClampNeg).map (fun i => H.size + 1 + i)).map (fun a => (a, .inl (cy, z)))) F.heap := hP1.app (fun k9 x hx => by
    obtain ⟨a, ha, rfl⟩ := List.mem_map.mp (List.mem_of_getElem? hx)
    obtain ⟨i, hi, rfl⟩ := List.mem_map.mp ha
    exact hrow i (List.mem_range.mp hi))
  have hD2 : va_D A (((X ++ va_pl L f) ++ [(H.size, .inl (cA, n.toNatClampNeg, .inr (.inr (.inr (.inr (fun i => if i < n.toNatClampNeg then some (H.size + 1 + i) else none))))))]) ++ ((List.range n.toNatClampNeg).map (fun i => H.size + 1 + i)).map (fun a => (a, .inl (cy, z)))) := by
    have hD1 := hD.push (e := .inl (cA, n.toNatClampNeg, .inr (.inr (.inr (.inr (fun i => if i < n.toNatClampNeg then some (H.size + 1 + i) else none)))))) hP rfl (hA _ hS.1)
    generalize hW1 : (X ++ va_pl L f) ++ [(H.size, .inl (cA, n.toNatClampNeg, .inr (.inr (.inr (.inr (fun i => if i < n.toNatClampNeg then some (H.size + 1 + i) else none))))))] = W1 at hD1 hP1 ⊢
    have hle : ∀ (k9 : Nat) (x : Nat × va_E), W1[k9]? = some x → x.1 ≤ H.size := fun k9 x hx => by
      rw [← hW1] at hx
      by_cases hl : k9 < (X ++ va_pl L f).length
      · rw [List.getElem?_append_left hl] at hx
        exact Nat.le_of_lt ((hP k9 x hx).lt)
      · rw [List.getElem?_append_right (by omega)] at hx
        have h0 : k9 - (X ++ va_pl L f).length < 1 := (List.getElem?_eq_some_iff.mp hx).1
        rw [show k9 - (X ++ va_pl L f).length = 0 by omega] at hx
        cases hx
        exact Nat.le_refl _
    have hr : ∀ (k9 : Nat) (x : Nat × va_E), (((List.range n.toNatClampNeg).map (fun i => H.size + 1 + i)).map (fun a => ((a, .inl (cy, z)) : Nat × va_E)))[k9]? = some x → x.1 = H.size + 1 + k9 := fun k9 x hx => by
      rw [List.getElem?_map, List.getElem?_map] at hx
      by_cases h9 : k9 < n.toNatClampNeg
      · rw [List.getElem?_range h9] at hx
        cases hx
        rfl
      · have hn0 : (List.range n.toNatClampNeg)[k9]? = none := List.getElem?_eq_none (by rw [List.length_range]; omega)
        rw [hn0] at hx
        cases hx
    refine ⟨fun i j x y hi hj hxy => ?_, fun k9 x hx => ?_⟩
    · by_cases h1 : i < W1.length <;> by_cases h2 : j < W1.length
      · rw [List.getElem?_append_left h1] at hi
        rw [List.getElem?_append_left h2] at hj
        exact hD1.1 i j x y hi hj hxy
      · rw [List.getElem?_append_left h1] at hi
        rw [List.getElem?_append_right (by omega)] at hj
        have := hle _ _ hi
        have := hr _ _ hj
        omega
      · rw [List.getElem?_append_right (by omega)] at hi
        rw [List.getElem?_append_left h2] at hj
        have := hle _ _ hj
        have := hr _ _ hi
        omega
      · rw [List.getElem?_append_right (by omega)] at hi hj
        have := hr _ _ hi
        have := hr _ _ hj
        omega
    · by_cases h1 : k9 < W1.length
      · rw [List.getElem?_append_left h1] at hx
        exact hD1.2 k9 x hx
      · rw [List.getElem?_append_right (by omega)] at hx
        have := hr _ _ hx
        exact hA _ (by have := hS.1; omega)
  have hAr : ArrOfT s cA (.array ty) := fun N9 z9 => by
    obtain ⟨-, k9, hk9, cm9, hkk9⟩ := (hO 0 0 0).1
    exact ⟨(fun q hq => by cases hq), k9, hk9, cm9, hkk9⟩
  have hK2 : va_K D cl (tys ++ [(cA, .array ty)]) s := ⟨hK.1, fun k9 x hx => by
    by_cases hl : k9 < tys.length
    · rw [List.getElem?_append_left hl] at hx
      exact hK.2 k9 x hx
    · rw [List.getElem?_append_right (by omega)] at hx
      have h0 : k9 - tys.length < 1 := (List.getElem?_eq_some_iff.mp hx).1
      rw [show k9 - tys.length = 0 by omega] at hx
      cases hx
      exact ⟨hAr, fA⟩⟩
  obtain ⟨t, a1, b1⟩ := kk H.size (fun i => H.size + 1 + i) cA F.heap (fun i j _ _ h => by have h9 : H.size + 1 + i = H.size + 1 + j := h; omega) hnl hK2 (by rw [← vr_rows hnm]; exact vr_lay hP2) (by rw [← vr_rows hnm]; exact vr_layD hD2) ⟨by rw [f1]; have := hS.1; omega, fun x h1 h2 => (hold x (Nat.lt_of_lt_of_le h1 hS.1)).trans (hS.2.1 x h1 h2), hS.2.2⟩ F rfl X'
  refine ⟨t, step t ?_, b1⟩
  have e : T.heap.size = H.size := by rw [hT]
  rw [e]
  exact a1
end VGM
/-! ===== END ===== -/

/-! ===== BEGIN exceptions that leave a method, and their catching by the caller (launches without stack traces) ===== -/
section VXA
/-! The laws vx_back, vx_callV, vx_callS, vx_callSW, vx_throw0, vx_throwS follow proofs of the library, with one case more: JvmDerived/Free/Laws.lean (Back.of_free), Shelf42/LK1.lean (callV, callS), Shelf/KitTraced.lean (throwNew0V, throwNewS). -/
/-- where a method has thrown q: the class by its name, the cell, what was written, the world -/
def vx_T (XC : String → State → State → Prop) (st : State) (q : Addr) (t : State) (mc ms : Nat) (free : Addr → Prop) : Prop :=
  ∃ (E : String) (ce : Cell) (L : List Loc), XC E st t ∧ t.heap[q]? = some ce ∧ ce.vm = .none ∧ st.vm.findClass E = some ce.cls ∧ st.WarmedH t.vm ∧ st.sameButNew ({ t with vm := st.vm } : State) L mc ms ∧ ∀ z ∈ L, free z.base
def vx_Q (Qc : Array Value → State → Outcome → State → Prop) (XC : String → State → State → Prop) (mc ms : Nat) (free : Addr → Prop) : Array Value → State → Outcome → State → Prop := fun a st o t =>
  (Qc a st o t ∧ ∃ L, FrameEnd st o t L mc ms ∧ ∀ q ∈ L, free q.base) ∨ ∃ q, o = .threw q ∧ vx_T XC st q t mc ms free
/-- a callee that returns or throws -/
def vx_Met (l : Launch) (y : MethodName) (ws : List Cond) (rm : Room) (Pc : Array Value → State → Prop) (Qc : Array Value → State → Outcome → State → Prop) (XC : String → State → State → Prop) (mc ms : Nat) (free : Addr → Prop) : Prop :=
  MetFree l y (headSpec ws rm) Pc (fun _ _ _ _ _ => True) (vx_Q Qc XC mc ms free)
def vx_Post (XC : String → State → State → Prop) (mc ms : Nat) (free : Addr → Prop) : Pt → Array Value → Addr → Pt → Prop := fun A a q B =>
  ∃ (g : JFrame) (mk : MethodId) (t : State) (L : List Loc) (E : String) (ce : Cell), B.U.heap = t.heap ∧ B.U.vm = t.vm ∧ XC E (A.U.calling g mk a) t ∧ t.heap[q]? = some ce ∧ ce.vm = .none ∧ A.U.vm.findClass E = some ce.cls ∧ B.locs = A.locs ++ L ∧ (∀ z ∈ L, free z.base) ∧ B.cells = A.cells + mc ∧ B.slots = A.slots + ms
def vx_Back (l : Launch) (R : Room) (p : Program) (e : Env) (below : List Frame) (s : State) (sargs : Array Value) (y : MethodName) (len W9 : Nat)
    (Pre : Pt → Array Value → Prop) (Post : Pt → Array Value → Option Value → Pt → Prop) (PostX : Pt → Array Value → Addr → Pt → Prop) : Prop :=
  ∀ (m : MethodId) (meth : Method) (c : Code) (A : Pt) (g : JFrame) (ig : Instr) (mk : MethodId) (a : Array Value),
    Stand p l e R s m sargs below meth c A.U A.locs A.cells A.slots → g.method = m → g.locals.size = c.maxLocals → decode c.code g.pc = .ok (ig, len) →
    2 * g.monitorRoom + (g.stack.map fun v => v.category).sum ≤ W9 → A.U.methodNamed? y = some mk → Pre A a →
    (∃ (v : Option Value) (B : Pt), Stand p l e R s m sargs below meth c B.U B.locs B.cells B.slots ∧ Post A a v B ∧
      Steps p.tables e below (doInvoke e (A.U.setTop g) [] mk a).1 (B.U.setTop { g with pc := g.pc + len, stack := v.toList ++ g.stack })) ∨
    (∃ (q : Addr) (B : Pt), Stand p l e R s m sargs below meth c B.U B.locs B.cells B.slots ∧ PostX A a q B ∧
      Steps p.tables e below (doInvoke e (A.U.setTop g) [] mk a).1 ((B.U.setTop g).pushFrame (.throwing q)))
section Payer
variable {l : Launch} {R : Room} {p : Program} {e : Env} {below : List Frame} {s : State} {sargs : Array Value} {y : MethodName} {len W9 : Nat}
theorem vx_back {ws : List Cond} {rm : Room} {Pc : Array Value → State → Prop} {Qc : Array Value → State → Outcome → State → Prop} {XC : String → State → State → Prop} {mc ms : Nat} {free : Addr → Prop} {bytes : ByteArray} {maxL : Nat} {ret : Option FieldType}
    (hM : vx_Met l y ws rm Pc Qc XC mc ms free) (hblind : FrameBlind Pc) (hrc : rm.cells = mc) (hrs : rm.slots = ms)
    (hframes : rm.frames + 1 ≤ R.frames) (hlocals : W9 + (maxL + 11) + rm.locals ≤ R.locals)
    (hws : ∀ w ∈ ws, ∀ a' U, s.WarmedH U.vm → w.before a' U = true) (hcode : Cond.code y bytes maxL ret ∈ ws) (hinit : ∀ a' U, s.WarmedH U.vm → (Cond.initialized y.cls).before a' U = true) :
    vx_Back l R p e below s sargs y len W9 (PreOf R mc ms Pc) (PostOf Qc mc ms free) (vx_Post XC mc ms free) := by
  intro m meth c A g ig mk a X hg hsize hdg hW hn hp
  have h1 : (headSpec ws rm).pre.before a A.U = true := atoms_intro fun w hw => hws w hw _ _ X.warmed
  have h2 : (Cond.code y bytes maxL ret).before a A.U = true := hws _ hcode _ _ X.warmed
  have h3 : (Cond.initialized y.cls).before a A.U = true := hinit _ _ X.warmed
  have h4 : A.cells + (headSpec ws rm).room.cells ≤ R.cells := by rw [show (headSpec ws rm).room.cells = mc from hrc]; exact hp.1
  have h5 : A.slots + (headSpec ws rm).room.slots ≤ R.slots := by rw [show (headSpec ws rm).room.slots = ms from hrs]; exact hp.2.1
  have hPc : Pc a (A.U.calling g mk a) := hblind _ _ _ _ hp.2.2
  obtain ⟨U, Ls, c0, s0⟩ := A
  dsimp only [Pt.U, Pt.locs, Pt.cells, Pt.slots] at h1 h2 h3 h4 h5 X hn hPc ⊢
  obtain ⟨methY, cY, hmY, hcY, -, hlY, -, -, -, -⟩ := Cond.code_spec hn h2
  obtain ⟨kY, hkY, -⟩ := className_of_methodNamed hn
  have hinitY : kY.init = .initialized := Cond.initialized_spec (findClass_of_methodNamed hn) hkY h3
  have h : At U g.method c below := by rw [hg]; exact X.here
  have hlocals9 : W9 + (maxL + 11) + (headSpec ws rm).room.locals ≤ R.locals := hlocals
  have happ : (headSpec ws rm).appliesLoose y e.platform (U.calling g mk a) = true :=
    Spec.appliesLoose_calling (g := g) h hdg hn hkY hinitY
      (X.room_calling (g := g) (R' := (headSpec ws rm).room) hsize hmY hcY hframes (by rw [hlY]; omega) h4 h5) h1
  obtain ⟨mid, hmid⟩ := h.above
  have hfr : (U.setTop g).frames = (.java g :: mid) ++ below := by rw [State.frames_setTop' g h.top, hmid]; rfl
  obtain ⟨o, s₂, hsteps, -, hend, hq⟩ := Steps.callFree hM p X.admits X.cas X.clock (acts := []) hfr happ hPc trivial
  have hq' : vx_Q Qc XC mc ms free a (U.calling g mk a) o s₂ := hq
  rw [State.frames_setTop' g h.top] at hend
  obtain ⟨g₀, hg0⟩ := Option.isSome_iff_exists.mp h.top
  obtain ⟨r, hr⟩ := State.topJava?_eq_some.mp hg0
  have hr' : (({ U with heap := s₂.heap, slotsUsed := s₂.slotsUsed } : State).setVm s₂.vm).frames = .java g₀ :: r := hr
  rcases hq' with ⟨hqc, L, hfe, hL⟩ | ⟨q, rfl, E, ce, L, hx, hce, hcv, hcl, hW₂, hsm, hL⟩
  · obtain ⟨⟨v, rfl⟩, hW₂, e2, q2, q3, q4, q5, q6⟩ := id hfe
    have e3 : s₂ = ({ (U.calling g mk a).setFrames s₂.frames with heap := s₂.heap, slotsUsed := s₂.slotsUsed } : State).setVm s₂.vm := by
      have : s₂ = ({ s₂ with vm := (U.calling g mk a).vm } : State).setVm s₂.vm := rfl
      rw [e2] at this
      exact this
    obtain ⟨c₂, i₂, len₂, hc₂, hd₂, hf₂⟩ := hend
    have hW' : U.WarmedH s₂.vm := hW₂
    have hcc : c₂ = c := by
      have h1 : s₂.code? g.method = U.code? g.method := by
        rw [State.code?_eq, State.code?_eq, hW'.alike.method?]
      exact Option.some.inj (hc₂.symm.trans (h1.trans h.code))
    subst hcc
    have hlen : len₂ = len := by rw [hdg] at hd₂; cases hd₂; rfl
    subst hlen
    have hs₂ : s₂ = (({ U with heap := s₂.heap, slotsUsed := s₂.slotsUsed } : State).setVm s₂.vm).setTop { g with pc := g.pc + len₂, stack := v.toList ++ g.stack } := by
      refine e3.trans ?_
      rw [hf₂, State.calling_eq h.top, State.setFrames_setFrames, State.setTop_of_frames _ hr', hr]
      rfl
    have hsame : U.sameButNew ({ U with heap := s₂.heap, slotsUsed := s₂.slotsUsed } : State) L mc ms := by
      refine ⟨?_, q2, q3, q4, q5, q6⟩
      obtain ⟨t, ht, -⟩ := State.frames_cons hr
      show ({ U with heap := s₂.heap, slotsUsed := s₂.slotsUsed } : State) = { U.setFrames U.frames with heap := s₂.heap, slotsUsed := s₂.slotsUsed }
      rw [State.setFrames_self ht]
    subst hg
    refine Or.inl ⟨v, ⟨(({ U with heap := s₂.heap, slotsUsed := s₂.slotsUsed } : State).setVm s₂.vm), Ls ++ L, c0 + mc, s0 + ms⟩,
      ⟨X.admits, X.cas, X.clock, X.frames, X.room, X.hears, X.method, X.code, (X.here.setHeapUsed s₂.heap s₂.slotsUsed).setVm hW'.alike, X.tail, State.WarmedH.trans X.warmed hW', X.limits, X.bytes, X.same.trans (hsame.setVm s.vm)⟩,
      ⟨g, mk, s₂, L, rfl, rfl, hqc, rfl, hL, rfl, rfl⟩, ?_⟩
    show Steps p.tables e below _ ((({ U with heap := s₂.heap, slotsUsed := s₂.slotsUsed } : State).setVm s₂.vm).setTop { g with pc := g.pc + len₂, stack := v.toList ++ g.stack })
    rw [← hs₂]
    exact hsteps
  · obtain ⟨e2, q2, q3, q4, q5, q6⟩ := id hsm
    have e3 : s₂ = ({ (U.calling g mk a).setFrames s₂.frames with heap := s₂.heap, slotsUsed := s₂.slotsUsed } : State).setVm s₂.vm := by
      have : s₂ = ({ s₂ with vm := (U.calling g mk a).vm } : State).setVm s₂.vm := rfl
      rw [e2] at this
      exact this
    have hf₂ : s₂.frames = .throwing q :: .java g :: U.frames.tail := hend
    have hW' : U.WarmedH s₂.vm := hW₂
    have hs₂ : s₂ = ((({ U with heap := s₂.heap, slotsUsed := s₂.slotsUsed } : State).setVm s₂.vm).setTop g).pushFrame (.throwing q) := by
      refine e3.trans ?_
      rw [hf₂, State.calling_eq h.top, State.setFrames_setFrames, State.pushFrame, State.frames_setTop _ hr', State.setTop_of_frames _ hr', State.setFrames_setFrames, hr]
      rfl
    have hsame : U.sameButNew ({ U with heap := s₂.heap, slotsUsed := s₂.slotsUsed } : State) L mc ms := by
      refine ⟨?_, q2, q3, q4, q5, q6⟩
      obtain ⟨t, ht, -⟩ := State.frames_cons hr
      show ({ U with heap := s₂.heap, slotsUsed := s₂.slotsUsed } : State) = { U.setFrames U.frames with heap := s₂.heap, slotsUsed := s₂.slotsUsed }
      rw [State.setFrames_self ht]
    subst hg
    refine Or.inr ⟨q, ⟨(({ U with heap := s₂.heap, slotsUsed := s₂.slotsUsed } : State).setVm s₂.vm), Ls ++ L, c0 + mc, s0 + ms⟩,
      ⟨X.admits, X.cas, X.clock, X.frames, X.room, X.hears, X.method, X.code, (X.here.setHeapUsed s₂.heap s₂.slotsUsed).setVm hW'.alike, X.tail, State.WarmedH.trans X.warmed hW', X.limits, X.bytes, X.same.trans (hsame.setVm s.vm)⟩,
      ⟨g, mk, s₂, L, E, ce, rfl, rfl, hx, hce, hcv, hcl, rfl, hL, rfl, rfl⟩, ?_⟩
    show Steps p.tables e below _ (((({ U with heap := s₂.heap, slotsUsed := s₂.slotsUsed } : State).setVm s₂.vm).setTop g).pushFrame (.throwing q))
    rw [← hs₂]
    exact hsteps
end Payer
section Calls
variable {p : Program} {l : Launch} {e : Env} {R : Room} {s : State} {m : MethodId} {args : Array Value} {below : List Frame} {meth : Method} {c : Code} {T : State} {locs : List Loc} {cells slots : Nat}
theorem vx_callV (X : Stand p l e R s m args below meth c T locs cells slots) (hexec : p.tables.exec = Jvm.exec) {own C : String} {index : Nat} {y : MethodName} {bytes : ByteArray} {maxL : Nat} {ret : Option FieldType}
    (hown : s.vm.findClass own = some m.cls) (hlink : (Cond.methodLink own index y).before args s = true) (hinst : (Cond.instanceMethod y).before args s = true) (hsel : (Cond.selects C y y).before args s = true)
    (hcode : (Cond.code y bytes maxL ret).before args s = true) (hy : y.cls ≠ "java/lang/invoke/MethodHandle" ∧ y.cls ≠ "java/lang/invoke/VarHandle")
    {W9 : Nat} {Pre : Pt → Array Value → Prop} {Post : Pt → Array Value → Option Value → Pt → Prop} {PostX : Pt → Array Value → Addr → Pt → Prop} (hK : vx_Back l R p e below s args y 3 W9 Pre Post PostX)
    {b : Addr} {cellB : Cell} (hcell : T.heap[b]? = some cellB) (hobj : cellB.vm.isStatics = false) (hcls : s.vm.findClass C = some cellB.cls)
    {g : JFrame} (hg : g.method = m) (hsize : g.locals.size = c.maxLocals) {argsL rest : List Value} (hlen : ∀ sig, parseMethodDescriptor y.desc = some sig → argsL.length = sig.parameters.length)
    (hstack : g.stack = argsL.reverse ++ .ref b :: rest) (hW : 2 * g.monitorRoom + (rest.map fun v => v.category).sum ≤ W9) (hdg : decode c.code g.pc = .ok (.invokevirtual index, 3))
    (hpre : ∀ vm₁, s.WarmedH vm₁ → Pre ⟨T.setVm vm₁, locs, cells, slots⟩ (Value.ref b :: argsL).toArray) :
    (∃ (v : Option Value) (vm₁ : Vm) (B : Pt), s.WarmedH vm₁ ∧ Stand p l e R s m args below meth c B.U B.locs B.cells B.slots ∧ Post ⟨T.setVm vm₁, locs, cells, slots⟩ (Value.ref b :: argsL).toArray v B ∧
      ∀ target, Steps p.tables e below (B.U.setTop { g with pc := g.pc + 3, stack := v.toList ++ rest }) target → Steps p.tables e below (T.setTop g) target) ∨
    (∃ (q : Addr) (vm₁ : Vm) (B : Pt), s.WarmedH vm₁ ∧ Stand p l e R s m args below meth c B.U B.locs B.cells B.slots ∧ PostX ⟨T.setVm vm₁, locs, cells, slots⟩ (Value.ref b :: argsL).toArray q B ∧
      Steps p.tables e below (T.setTop g) ((B.U.setTop { g with stack := rest }).pushFrame (.throwing q))) := by
  obtain ⟨mk, methM, hnamed, hmethM, hstM, habM⟩ := Cond.instanceMethod_spec hinst
  obtain ⟨methM', cM, hmethM', -, -, -, -, -, -, hsigM⟩ := Cond.code_spec hnamed hcode
  cases hmethM.symm.trans hmethM'
  obtain ⟨c2, r2, m2, q1, q2, q3, q4, kP, hkP, hkPi⟩ := Cond.selects_spec hsel
  cases hcls.symm.trans q1
  cases (State.methodFound?_of_named hnamed hy).symm.trans q2
  cases hnamed.symm.trans q3
  have hselP : selectMethod e.platform s.vm cellB.cls mk = .method mk := by rw [Launch.admits_selectMethod X.admits]; exact q4
  obtain ⟨vm₁, X₁, hstep₁⟩ := X.invokevirtual hexec hown hlink hnamed hmethM hstM hkP hkPi hy (a := b) (cell := cellB) hcell
    (fun z h => by rw [h] at hobj; cases hobj) hselP hmethM habM hkP hkPi (g := g) hg (argsL := argsL) (rest := rest) (hlen _ hsigM) hstack hdg
  rcases hK m meth c ⟨T.setVm vm₁, locs, cells, slots⟩ { g with stack := rest } (.invokevirtual index) mk (Value.ref b :: argsL).toArray X₁ hg hsize hdg hW (X₁.named hnamed) (hpre vm₁ X₁.warmed) with ⟨v, B, X', hpost, hsteps⟩ | ⟨q, B, X', hpost, hsteps⟩
  · exact Or.inl ⟨v, vm₁, B, X₁.warmed, X', hpost, fun target h => hstep₁ _ fun acts => by rw [doInvoke_state]; exact hsteps.trans h⟩
  · exact Or.inr ⟨q, vm₁, B, X₁.warmed, X', hpost, hstep₁ _ fun acts => by rw [doInvoke_state]; exact hsteps⟩
theorem vx_callS (X : Stand p l e R s m args below meth c T locs cells slots) (hexec : p.tables.exec = Jvm.exec) {own : String} {index : Nat} {y : MethodName} {bytes : ByteArray} {maxL : Nat} {ret : Option FieldType}
    (hown : s.vm.findClass own = some m.cls) (hlink : (Cond.methodLink own index y).before args s = true) (hstat : (Cond.static y).before args s = true) (hinit : (Cond.initialized y.cls).before args s = true)
    (hcode : (Cond.code y bytes maxL ret).before args s = true) (hy : y.cls ≠ "java/lang/invoke/MethodHandle" ∧ y.cls ≠ "java/lang/invoke/VarHandle")
    {W9 : Nat} {Pre : Pt → Array Value → Prop} {Post : Pt → Array Value → Option Value → Pt → Prop} {PostX : Pt → Array Value → Addr → Pt → Prop} (hK : vx_Back l R p e below s args y 3 W9 Pre Post PostX)
    {g : JFrame} (hg : g.method = m) (hsize : g.locals.size = c.maxLocals) {argsL rest : List Value} (hlen : ∀ sig, parseMethodDescriptor y.desc = some sig → argsL.length = sig.parameters.length)
    (hstack : g.stack = argsL.reverse ++ rest) (hW : 2 * g.monitorRoom + (rest.map fun v => v.category).sum ≤ W9) (hdg : decode c.code g.pc = .ok (.invokestatic index, 3))
    (hpre : ∀ vm₁, s.WarmedH vm₁ → Pre ⟨T.setVm vm₁, locs, cells, slots⟩ argsL.toArray) :
    (∃ (v : Option Value) (vm₁ : Vm) (B : Pt), s.WarmedH vm₁ ∧ Stand p l e R s m args below meth c B.U B.locs B.cells B.slots ∧ Post ⟨T.setVm vm₁, locs, cells, slots⟩ argsL.toArray v B ∧
      ∀ target, Steps p.tables e below (B.U.setTop { g with pc := g.pc + 3, stack := v.toList ++ rest }) target → Steps p.tables e below (T.setTop g) target) ∨
    (∃ (q : Addr) (vm₁ : Vm) (B : Pt), s.WarmedH vm₁ ∧ Stand p l e R s m args below meth c B.U B.locs B.cells B.slots ∧ PostX ⟨T.setVm vm₁, locs, cells, slots⟩ argsL.toArray q B ∧
      Steps p.tables e below (T.setTop g) ((B.U.setTop { g with stack := rest }).pushFrame (.throwing q))) := by
  obtain ⟨mk, hnamed⟩ := Cond.code_named hcode
  obtain ⟨methM, cM, hmethM, -, -, -, -, -, -, hsigM⟩ := Cond.code_spec hnamed hcode
  have hstatic : methM.isStatic = true := Cond.static_spec hnamed hmethM hstat
  obtain ⟨kP, hkP, -⟩ := className_of_methodNamed hnamed
  have hinitP : kP.init = .initialized := Cond.initialized_spec (findClass_of_methodNamed hnamed) hkP hinit
  obtain ⟨vm₁, X₁, hstep₁⟩ := X.invokestatic hexec hown hlink hnamed hmethM hstatic hkP hinitP hy (g := g) hg (argsL := argsL) (rest := rest) (hlen _ hsigM) hstack hdg
  rcases hK m meth c ⟨T.setVm vm₁, locs, cells, slots⟩ { g with stack := rest } (.invokestatic index) mk argsL.toArray X₁ hg hsize hdg hW (X₁.named hnamed) (hpre vm₁ X₁.warmed) with ⟨v, B, X', hpost, hsteps⟩ | ⟨q, B, X', hpost, hsteps⟩
  · exact Or.inl ⟨v, vm₁, B, X₁.warmed, X', hpost, fun target h => hstep₁ _ fun acts => by rw [doInvoke_state]; exact hsteps.trans h⟩
  · exact Or.inr ⟨q, vm₁, B, X₁.warmed, X', hpost, hstep₁ _ fun acts => by rw [doInvoke_state]; exact hsteps⟩
end Calls
theorem vx_cls {s : State} {T : State} {vm₁ : Vm} {E : String} {k : ClassId} (hW : s.WarmedH vm₁) (h : (T.setVm vm₁).vm.findClass E = some k) : s.vm.findClass E = some k := by
  have h1 : vm₁.findClass E = some k := h
  rw [hW.alike.findClass] at h1
  exact h1
/-- the method's frame g, with q thrown over it -/
def vx_W (p : Program) (l : Launch) (e : Env) (R : Room) (s : State) (m : MethodId) (args : Array Value) (below : List Frame) (meth : Method) (c : Code) (H : Heap) (locs : List Loc) (cells slots : Nat) (Q : State → Prop) (g : JFrame) (q : Addr) : Prop :=
  ∀ T : State, T.heap = H → Stand p l e R s m args below meth c T locs cells slots → ∃ t, Steps p.tables e below ((T.setTop g).pushFrame (.throwing q)) t ∧ Q t
def vx_Run (p : Program) (l : Launch) (e : Env) (R : Room) (s : State) (m : MethodId) (args : Array Value) (below : List Frame) (meth : Method) (c : Code) (H : Heap) (locs : List Loc) (cells slots mc ms : Nat) (g : JFrame) (rest : List Value) (Qa : State → Outcome → State → Prop) (XC : String → State → State → Prop) (free : Addr → Prop) : Prop :=
  ∀ T : State, T.heap = H → Stand p l e R s m args below meth c T locs cells slots →
    (∃ (v : Option Value) (st₀ t T' : State) (L : List Loc), st₀.heap = H ∧ Stand p l e R s m args below meth c T' (locs ++ L) (cells + mc) (slots + ms) ∧ (∀ q ∈ L, free q.base) ∧ T'.heap = t.heap ∧ T'.vm = t.vm ∧ Qa st₀ (.returned v) t ∧
      Goes p e below T g T' { g with pc := g.pc + 3, stack := v.toList ++ rest }) ∨
    (∃ (q : Addr) (st₀ t T' : State) (L : List Loc) (E : String) (ce : Cell), st₀.heap = H ∧ Stand p l e R s m args below meth c T' (locs ++ L) (cells + mc) (slots + ms) ∧ (∀ z ∈ L, free z.base) ∧ T'.heap = t.heap ∧ T'.vm = t.vm ∧ XC E st₀ t ∧ t.heap[q]? = some ce ∧ ce.vm = .none ∧ s.vm.findClass E = some ce.cls ∧
      Steps p.tables e below (T.setTop g) ((T'.setTop { g with stack := rest }).pushFrame (.throwing q)))
section Runs
variable {p : Program} {l : Launch} {e : Env} {R : Room} {s : State} {m : MethodId} {args : Array Value} {below : List Frame} {meth : Method} {c : Code} {H : Heap} {locs : List Loc} {cells slots : Nat}
variable {y : MethodName} {bytes cc : ByteArray} {maxL nL mc ms n index : Nat} {ret : Option FieldType} {ws : List Cond} {rm : Room} {Pc : Array Value → State → Prop} {Qc : Array Value → State → Outcome → State → Prop} {XC : String → State → State → Prop} {free : Addr → Prop} {Ts : List Cond} {own C : String} {b : Addr} {As rest : List Value} {g : JFrame}
theorem vx_callBack (cb : CallB R s args own index y bytes maxL ret ws rm mc ms n) (hM : vx_Met l y ws rm Pc Qc XC mc ms free) (hbl : FrameBlind Pc) : vx_Back l R p e below s args y 3 8 (PreOf R mc ms Pc) (PostOf Qc mc ms free) (vx_Post XC mc ms free) := by
  obtain ⟨hrc, hrs, hfr, hlo, hws, hcw, -, hini, -⟩ := cb
  exact vx_back (bytes := bytes) (maxL := maxL) (ret := ret) hM hbl hrc hrs hfr hlo hws hcw (fun a' U hW => word_at hW (Or.inl (by first | rfl | simp [Cond.onTables, Cond.keeps, Cond.steady])) hini)
theorem vx_runV (S : CallFix p m c cc nL s args Ts own) (hM : vx_Met l y ws rm Pc Qc XC mc ms free) (cw : CallW R s args own C index y bytes maxL ret ws rm mc ms n) (hp : PreV s H C b Pc As)
    (hg : g.method = m) (hn : As.length = n) (hsize : g.locals.size = nL) (hstack : g.stack = As.reverse ++ .ref b :: rest) (hW : 2 * g.monitorRoom + (rest.map fun v => v.category).sum ≤ 8) (hdg : decode cc g.pc = .ok (.invokevirtual index, 3)) (hf : cells + mc ≤ R.cells ∧ slots + ms ≤ R.slots) :
    vx_Run p l e R s m args below meth c H locs cells slots mc ms g rest (Qc (Value.ref b :: As).toArray) XC free := by
  have hK : vx_Back l R p e below s args y 3 8 (PreOf R mc ms Pc) (PostOf Qc mc ms free) (vx_Post XC mc ms free) := vx_callBack cw.1 hM hp.1
  obtain ⟨⟨-, -, -, -, -, -, hcode, -, hy, hlen, hl⟩, hin, hse⟩ := cw
  obtain ⟨hx, hb, hml, ho, -⟩ := S
  obtain ⟨-, ⟨cellB, hcB, hoB, hclB⟩, hPc⟩ := hp
  intro T hT X
  rcases vx_callV X hx (C := C) (bytes := bytes) (maxL := maxL) (ret := ret) ho hl hin hse hcode hy hK (by rw [hT]; exact hcB) hoB hclB hg (hsize.trans hml.symm) (argsL := As) (rest := rest) (fun sig h => hn.trans (hlen sig h)) hstack hW (by rw [hb]; exact hdg)
    (fun vm₁ hW₁ => ⟨hf.1, hf.2, hPc (T.setVm vm₁) hT hW₁⟩) with ⟨v, vm₁, ⟨U', l2, c2, s2⟩, hW₁, X', ⟨g', mk, t, L, e1, e2, hq, h1, hL, h2, h3⟩, st⟩ | ⟨q, vm₁, ⟨U', l2, c2, s2⟩, hW₁, X', ⟨g', mk, t, L, E, ce, e1, e2, hq, hce, hcv, hcl, h1, hL, h2, h3⟩, st⟩
  · dsimp only [Pt.U, Pt.locs, Pt.cells, Pt.slots] at X' e1 e2 h1 h2 h3 st
    subst h1; subst h2; subst h3
    exact Or.inl ⟨v, (T.setVm vm₁).calling g' mk (Value.ref b :: As).toArray, t, U', L, hT, X', hL, e1, e2, hq, st⟩
  · dsimp only [Pt.U, Pt.locs, Pt.cells, Pt.slots] at X' e1 e2 h1 h2 h3 st hcl
    subst h1; subst h2; subst h3
    exact Or.inr ⟨q, (T.setVm vm₁).calling g' mk (Value.ref b :: As).toArray, t, U', L, E, ce, hT, X', hL, e1, e2, hq, hce, hcv, vx_cls hW₁ hcl, st⟩
theorem vx_runS (S : CallFix p m c cc nL s args Ts own) (hM : vx_Met l y ws rm Pc Qc XC mc ms free) (cw : CallB R s args own index y bytes maxL ret ws rm mc ms n ∧ (Cond.static y).before args s = true) (hp : PreS s H Pc As)
    (hg : g.method = m) (hn : As.length = n) (hsize : g.locals.size = nL) (hstack : g.stack = As.reverse ++ rest) (hW : 2 * g.monitorRoom + (rest.map fun v => v.category).sum ≤ 8) (hdg : decode cc g.pc = .ok (.invokestatic index, 3)) (hf : cells + mc ≤ R.cells ∧ slots + ms ≤ R.slots) :
    vx_Run p l e R s m args below meth c H locs cells slots mc ms g rest (Qc As.toArray) XC free := by
  have hK : vx_Back l R p e below s args y 3 8 (PreOf R mc ms Pc) (PostOf Qc mc ms free) (vx_Post XC mc ms free) := vx_callBack cw.1 hM hp.1
  obtain ⟨⟨-, -, -, -, -, -, hcode, hini, hy, hlen, hl⟩, hstt⟩ := cw
  obtain ⟨hx, hb, hml, ho, -⟩ := S
  intro T hT X
  rcases vx_callS X hx (bytes := bytes) (maxL := maxL) (ret := ret) ho hl hstt hini hcode hy hK hg (hsize.trans hml.symm) (argsL := As) (rest := rest) (fun sig h => hn.trans (hlen sig h)) hstack hW (by rw [hb]; exact hdg)
    (fun vm₁ hW₁ => ⟨hf.1, hf.2, hp.2 (T.setVm vm₁) hT hW₁⟩) with ⟨v, vm₁, ⟨U', l2, c2, s2⟩, hW₁, X', ⟨g', mk, t, L, e1, e2, hq, h1, hL, h2, h3⟩, st⟩ | ⟨q, vm₁, ⟨U', l2, c2, s2⟩, hW₁, X', ⟨g', mk, t, L, E, ce, e1, e2, hq, hce, hcv, hcl, h1, hL, h2, h3⟩, st⟩
  · dsimp only [Pt.U, Pt.locs, Pt.cells, Pt.slots] at X' e1 e2 h1 h2 h3 st
    subst h1; subst h2; subst h3
    exact Or.inl ⟨v, (T.setVm vm₁).calling g' mk As.toArray, t, U', L, hT, X', hL, e1, e2, hq, st⟩
  · dsimp only [Pt.U, Pt.locs, Pt.cells, Pt.slots] at X' e1 e2 h1 h2 h3 st hcl
    subst h1; subst h2; subst h3
    exact Or.inr ⟨q, (T.setVm vm₁).calling g' mk As.toArray, t, U', L, E, ce, hT, X', hL, e1, e2, hq, hce, hcv, vx_cls hW₁ hcl, st⟩
end Runs
section Rows
variable {p : Program} {l : Launch} {e : Env} {R : Room} {s : State} {m : MethodId} {args : Array Value} {below : List Frame} {meth : Method} {c : Code} {H : Heap} {locs : List Loc} {cells slots : Nat} {Q : State → Prop}
variable {mc ms : Nat} {free : Addr → Prop} {A0 A1 : Nat → Prop} {H0 : Heap} {a : Array Value} {pc : Nat} {ls : Array Slot} {st0 rest : List Value}
theorem vx_keep {st₀ t T' : State} {L : List Loc} (h0 : st₀.heap = H) (e1 : T'.heap = t.heap) (hS : va_S A0 H0 H locs) (hA : ∀ q, q < H.size → A1 q → A0 q) (hf : ∀ q, free q → A0 q) (hL : ∀ q ∈ L, free q.base) (hF : va_F A1 st₀ t) :
    H.size ≤ T'.heap.size ∧ (∀ q : Nat, q < H.size → ¬ A1 q → T'.heap[q]? = H[q]?) ∧ va_S A0 H0 T'.heap (locs ++ L) := by
  obtain ⟨hz, hk⟩ := hF
  rw [h0] at hz hk
  exact ⟨by rw [e1]; exact hz, fun q h1 h2 => by rw [e1]; exact hk q h1 h2,
    ⟨Nat.le_trans hS.1 (by rw [e1]; exact hz), fun q h1 h2 => by rw [e1, hk q (Nat.lt_of_lt_of_le h1 hS.1) (fun z => h2 (hA q (Nat.lt_of_lt_of_le h1 hS.1) z))]; exact hS.2.1 q h1 h2, fun q hq => by
      rcases List.mem_append.mp hq with h | h
      · exact hS.2.2 q h
      · exact hf _ (hL q h)⟩⟩
/-- caught by the row x of this method's table; the rows ahead don't take it -/
theorem vx_catch {own name : String} {E : String} {ce : Cell} {q : Addr} (hown : s.vm.findClass own = some m.cls) (pre : List ExceptionTableEntry) (x : ExceptionTableEntry) (suf : List ExceptionTableEntry) (hsplit : c.exceptionTable.toList = pre ++ x :: suf)
    (hpass : ∀ z ∈ pre, covers z pc = false ∨ (z.catchType ≠ 0 ∧ ∃ nm : String, (Cond.classLink own z.catchType nm).before args s = true ∧ va_Nc E nm s)) (hx : covers x pc = true) (h0 : x.catchType ≠ 0)
    (hlink : (Cond.classLink own x.catchType name).before args s = true) (hcast : (Cond.castable E name).before args s = true) (hcell : H[q]? = some ce) (hv : ce.vm = .none) (hcl : s.vm.findClass E = some ce.cls)
    (kk : W p l e R s m args below meth c H locs cells slots Q (F0 m x.handlerPc ls [.ref q])) : vx_W p l e R s m args below meth c H locs cells slots Q (F0 m pc ls rest) q := by
  intro T hT X
  have hpl : e.platform.magicAccessors = ({} : Platform).magicAccessors := by rw [X.admits.platform]
  obtain ⟨c3, c4, hc3, hc4, hasg⟩ := Cond.castable_spec hcast
  cases Option.some.inj (hc3.symm.trans hcl)
  obtain ⟨c5, hc5, hcl5⟩ := Cond.classLink_spec hown hlink e.platform hpl
  cases Option.some.inj (hc4.symm.trans hc5)
  obtain ⟨vm', X', st⟩ := X.thenCaughtThrough q (g := F0 m pc ls rest) rfl (Steps.refl _) (by rw [hT]; exact hcell) (by rw [hv]; rfl) (by obtain ⟨k9, h9, -⟩ := Vm.findClass_spec hcl; exact ⟨k9, h9⟩) pre x suf hsplit
    (fun z hz => by
      rcases hpass z hz with h | ⟨hz0, nm, hl1, hn1⟩
      · exact Or.inl h
      · obtain ⟨c6, hc6, hcl6⟩ := Cond.classLink_spec hown hl1 e.platform hpl
        obtain ⟨a8, b8, h1, h2, h3⟩ := hn1
        cases Option.some.inj (h1.symm.trans hcl)
        cases Option.some.inj (h2.symm.trans hc6)
        exact Or.inr ⟨hz0, _, hcl6, h3⟩) hx (Or.inr ⟨h0, c4, hcl5, hasg⟩)
  obtain ⟨t, a1, b1⟩ := kk (T.setVm vm') hT X'
  exact ⟨t, st.trans a1, b1⟩
end Rows
section Ends
variable {p : Program} {l : Launch} {e : Env} {R : Room} {s : State} {m : MethodId} {args : Array Value} {below : List Frame} {meth : Method} {c : Code} {H : Heap} {locs : List Loc} {cells slots : Nat} {Q : State → Prop}
variable {mc ms : Nat} {free : Addr → Prop} {A0 A1 : Nat → Prop} {H0 : Heap} {a : Array Value} {ls : Array Slot} {st0 rest : List Value}
variable {Qc : Array Value → State → Outcome → State → Prop} {XC : String → State → State → Prop}
/-- what a body that may throw owes at its end -/
def vx_MQ (below : List Frame) (Qc : Array Value → State → Outcome → State → Prop) (XC : String → State → State → Prop) (a : Array Value) (s : State) (mc ms : Nat) (free : Addr → Prop) : State → Prop := fun t =>
  ∃ o, t.status = .running ∧ Ended t below o ∧ vx_Q Qc XC mc ms free a s o t
theorem vx_ret {g : JFrame} {mc ms : Nat} (k : W p l e R s m args below meth c H locs cells slots (MQ below Qc args s mc ms free) g) : W p l e R s m args below meth c H locs cells slots (vx_MQ below Qc XC args s mc ms free) g := by
  intro T hT X
  obtain ⟨t, a1, o, b1, b2, b3, b4⟩ := k T hT X
  exact ⟨t, a1, o, b1, b2, Or.inl ⟨b3, b4⟩⟩
theorem vx_out {pc : Nat} {E : String} {ce : Cell} {q : Addr} {mc ms : Nat} (hout : ∀ x ∈ c.exceptionTable.toList, covers x pc = false) (hlocks : meth.locks = false) (hcell : H[q]? = some ce) (hv : ce.vm = .none) (hcl : s.vm.findClass E = some ce.cls)
    (hx : ∀ t : State, t.heap = H → s.vm.Alike t.vm → XC E s t) (hf : ∀ z ∈ locs, free z.base) (hc : cells ≤ mc) (hs : slots ≤ ms) :
    vx_W p l e R s m args below meth c H locs cells slots (vx_MQ below Qc XC args s mc ms free) (F0 m pc ls rest) q := by
  intro T hT X
  obtain ⟨st1, hrun, hend, hW, hsm⟩ := X.leaveThrown q (g := F0 m pc ls rest) rfl rfl rfl hout hlocks
  have hcell9 : (T.setFrames (.throwing q :: below)).heap[q]? = some ce := by
    show T.heap[q]? = some ce
    rw [hT]; exact hcell
  exact ⟨_, st1, .threw q, hrun, hend, Or.inr ⟨q, rfl, E, ce, locs, hx _ hT hW.alike, hcell9, hv, hcl, hW, hsm.mono hc hs, hf⟩⟩
theorem vx_frame {U : State} {k n : Nat} (h : s.sameButNew ({ U with vm := s.vm } : State) locs k n) : s.heap.size ≤ U.heap.size ∧ ∀ q : Nat, q < s.heap.size → (∀ z ∈ locs, z.base ≠ q) → U.heap[q]? = s.heap[q]? := by
  obtain ⟨-, h2, -, -, -, h6⟩ := h
  refine ⟨h2, fun q hq hz => ?_⟩
  obtain ⟨c9, e1, e2, e3, e4⟩ := h6 q _ (Array.getElem?_eq_getElem hq)
  have hs : c9.slots = (s.heap[q]).slots := Array.ext_getElem? fun i => e4 i fun hm => hz _ hm rfl
  have h9 : c9 = s.heap[q] := by
    rw [hs] at e2
    exact e2
  have e5 : U.heap[q]? = some c9 := e1
  rw [e5, h9, Array.getElem?_eq_getElem hq]
/-- the words of a throw but the four that speak of the heap -/
def vx_no (w : Cond) : Bool := decide (w ≠ .isRef (.static Bundle.tN "UNASSIGNED_STACK" Bundle.steD)) && decide (w ≠ .isRef (.static Bundle.tN "SUPPRESSED_SENTINEL" Bundle.listD)) && decide (w ≠ .laysStatic Bundle.tN "UNASSIGNED_STACK" Bundle.steD) && decide (w ≠ .laysStatic Bundle.tN "SUPPRESSED_SENTINEL" Bundle.listD)
def vx_at0 (own : String) (ic : Nat) (X : String) (names : List String) : List Cond := (Bundle.ownAtoms0 own ic X names).filter vx_no
def vx_atS (own : String) (ic : Nat) (X : String) (names : List String) : List Cond := (Bundle.ownAtoms own ic X names).filter vx_no
/-- a word that the tables alone decide, or a good one -/
def vx_ot (w : Cond) : Bool := w.onTables || goodWord w
theorem vx_ot_at {args a' : Array Value} {s U : State} {w : Cond} (hW : s.WarmedH U.vm) (hvm : s.vm = U.vm) (hg : vx_ot w = true) (h : w.before args s = true) : w.before a' U = true := by
  simp only [vx_ot, Bool.or_eq_true] at hg
  rcases hg with hg | hg
  · exact va_tabs hg hvm h
  · exact word_at hW (good_of_word hg) h
/-- a list's words: the good ones out of the method's own list, the others by premises of their own -/
theorem vx_hat {args : Array Value} {s : State} {L B : List Cond} (h1 : ∀ w ∈ L.filter goodWord, w.before args s = true) (h2 : ∀ w ∈ L.filter (fun w => !goodWord w), w ∈ B) (h3 : ∀ w ∈ B, w.before args s = true) : ∀ w ∈ L, w.before args s = true := by
  intro w hw
  by_cases g : goodWord w = true
  · exact h1 w (List.mem_filter.mpr ⟨hw, g⟩)
  · refine h3 w (h2 w (List.mem_filter.mpr ⟨hw, ?_⟩))
    show (!goodWord w) = true
    cases hgw : goodWord w
    · rfl
    · exact absurd hgw g
theorem vx_own {args : Array Value} {s : State} {L : List Cond} (h1 : ∀ w ∈ L.filter vx_no, w.before args s = true)
    (hU : (Cond.isRef (.static Bundle.tN "UNASSIGNED_STACK" Bundle.steD)).before args s = true) (hN : (Cond.isRef (.static Bundle.tN "SUPPRESSED_SENTINEL" Bundle.listD)).before args s = true)
    (lU : (Cond.laysStatic Bundle.tN "UNASSIGNED_STACK" Bundle.steD).before args s = true) (lN : (Cond.laysStatic Bundle.tN "SUPPRESSED_SENTINEL" Bundle.listD).before args s = true) : ∀ w ∈ L, w.before args s = true := by
  intro w hw
  by_cases e1 : w = .isRef (.static Bundle.tN "UNASSIGNED_STACK" Bundle.steD)
  · rw [e1]; exact hU
  · by_cases e2 : w = .isRef (.static Bundle.tN "SUPPRESSED_SENTINEL" Bundle.listD)
    · rw [e2]; exact hN
    · by_cases e3 : w = .laysStatic Bundle.tN "UNASSIGNED_STACK" Bundle.steD
      · rw [e3]; exact lU
      · by_cases e4 : w = .laysStatic Bundle.tN "SUPPRESSED_SENTINEL" Bundle.listD
        · rw [e4]; exact lN
        · exact h1 w (List.mem_filter.mpr ⟨hw, by unfold vx_no; rw [decide_eq_true e1, decide_eq_true e2, decide_eq_true e3, decide_eq_true e4]; rfl⟩)
/-- where a static field lies, its class's statics cell in H -/
def vx_L (C n d : String) (A : Nat → Prop) (U : State) (H : Heap) : Prop := ∃ (c : ClassId) (k : Class) (i : Nat) (f : Field) (a : Nat) (cell : Cell), U.vm.findClass C = some c ∧ U.fieldFound? C n d = some (c, k, i, f) ∧ f.isStatic = true ∧ k.statics = some a ∧ H[a]? = some cell ∧ cell.vm.isStatics = true ∧ cell.cls = c ∧ f.slot < cell.slots.size ∧ k.staticTypes[f.slot]? = some f.type ∧ ¬ A a
theorem vx_L.moved {C n d : String} {A : Nat → Prop} {u U : State} {H : Heap} (hvm : u.vm.Alike U.vm) (h : vx_L C n d A u H) : vx_L C n d A U H := by
  obtain ⟨c, k, i, f, a, cell, h1, h2, h3, h4, h5, h6, h7, h8, h9, h10⟩ := h
  obtain ⟨k', hi', he⟩ := State.fieldFound?_setVm hvm h2
  exact ⟨c, k', i, f, a, cell, by rw [hvm.findClass]; exact h1, hi', h3, by rw [he]; exact h4, h5, h6, h7, h8, by rw [he]; exact h9, h10⟩
theorem vx_L.kept {C n d : String} {A : Nat → Prop} {U : State} {H H1 : Heap} (h : vx_L C n d A U H) (hq : ∀ a : Nat, a < H.size → ¬ A a → H1[a]? = H[a]?) : vx_L C n d A U H1 := by
  obtain ⟨c, k, i, f, a, cell, h1, h2, h3, h4, h5, h6, h7, h8, h9, h10⟩ := h
  exact ⟨c, k, i, f, a, cell, h1, h2, h3, h4, by rw [hq a (Array.getElem?_eq_some_iff.mp h5).1 h10]; exact h5, h6, h7, h8, h9, h10⟩
theorem vx_L.narrow {C n d : String} {A B : Nat → Prop} {U : State} {H : Heap} (h : vx_L C n d A U H) (hAB : ∀ q, B q → A q) : vx_L C n d B U H := by
  obtain ⟨c, k, i, f, a, cell, h1, h2, h3, h4, h5, h6, h7, h8, h9, h10⟩ := h
  exact ⟨c, k, i, f, a, cell, h1, h2, h3, h4, h5, h6, h7, h8, h9, fun z => h10 (hAB _ z)⟩
theorem vx_L.word {C n d : String} {A : Nat → Prop} {s : State} {args : Array Value} (h : vx_L C n d A s s.heap) : (Cond.laysStatic C n d).before args s = true := by
  obtain ⟨c, k, i, f, a, cell, h1, h2, h3, h4, h5, h6, h7, h8, h9, -⟩ := h
  show (Cond.laysStatic C n d).holds args s none s [] = true
  exact Cond.laysStatic_of h1 h2 h3 h4 h5 h6 h7 h8 h9
/-- .. and what it holds: null or some reference -/
def vx_Zq (C n d : String) (A : Nat → Prop) (U : State) (H : Heap) : Prop := va_Zq C n d A U H ∧ vx_L C n d A U H
theorem vx_Zq.moved {C n d : String} {A : Nat → Prop} {u U : State} {H : Heap} (hvm : u.vm.Alike U.vm) (h : vx_Zq C n d A u H) : vx_Zq C n d A U H := ⟨va_Zq.moved hvm h.1, vx_L.moved hvm h.2⟩
theorem vx_Zq.kept {C n d : String} {A : Nat → Prop} {U : State} {H H1 : Heap} (h : vx_Zq C n d A U H) (hq : ∀ a : Nat, a < H.size → ¬ A a → H1[a]? = H[a]?) : vx_Zq C n d A U H1 := ⟨va_Zq.kept h.1 hq, vx_L.kept h.2 hq⟩
theorem vx_Zq.narrow {C n d : String} {A B : Nat → Prop} {U : State} {H : Heap} (h : vx_Zq C n d A U H) (hAB : ∀ q, B q → A q) : vx_Zq C n d B U H := ⟨va_Zq.narrow h.1 hAB, vx_L.narrow h.2 hAB⟩
theorem vx_Zqof {args : Array Value} {s : State} {C n d : String} {A : Nat → Prop} (hl : (Cond.laysStatic C n d).before args s = true) (hini : (Cond.initialized C).before args s = true) (h : (Cond.isRef (.static C n d)).before args s = true) (hA : ∀ a : Nat, a < s.heap.size → ¬ A a) : vx_Zq C n d A s s.heap := by
  refine ⟨va_Zqof hl hini h hA, ?_⟩
  obtain ⟨c, k, i, f, a, cell, h1, h2, h3, h4, h5, h6, h7, h8, h9⟩ := Cond.laysStatic_spec hl
  exact ⟨c, k, i, f, a, cell, h1, h2, h3, h4, h5, h6, h7, h8, h9, hA a (Array.getElem?_eq_some_iff.mp h5).1⟩
theorem vx_isRef {C n d : String} {v : Value} {A : Nat → Prop} {s : State} {args : Array Value} (h : va_Z C n d v A s s.heap) (hv : v.isRef = true) : (Cond.isRef (.static C n d)).before args s = true := by
  obtain ⟨cf, kf, fi, f, a, cell, h1, h2, h3, h4, h5, h6, h7, -⟩ := h
  have he : (Term.static C n d).eval args s none [] s = some v := by
    simp [Term.eval, State.fieldNamed?, h1, h2, h4, h5, h6, h7]
  simp only [Cond.before, Cond.holds, Cond.value, he]
  cases v <;> simp_all [Value.isRef]
theorem vx_isRefq {C n d : String} {A : Nat → Prop} {s : State} {args : Array Value} (h : va_Zq C n d A s s.heap) : (Cond.isRef (.static C n d)).before args s = true := by
  rcases h with h | ⟨t, h⟩
  · exact vx_isRef h rfl
  · exact vx_isRef h rfl
/-- the same frame, seen from here: as if the method were called anew in this heap -/
theorem vx_rebase {T : State} (X : Stand p l e R s m args below meth c T locs cells slots) {R' : Room} (hf : R'.frames ≤ R.frames) (hl : R'.locals ≤ R.locals) (hc : cells + R'.cells ≤ R.cells) (hs : slots + R'.slots ≤ R.slots) :
    Stand p l e R' ((T.setVm s.vm).setFrames (.invoking m args :: below)) m args below meth c T [] 0 0 := by
  have htop : (T.setVm s.vm).topJava?.isSome := X.here.top
  have hF : ((T.setVm s.vm).setFrames (.invoking m args :: below)).frames = .invoking m args :: below := State.frames_setFrames _ (State.cur_lt_of_top htop)
  obtain ⟨g₀, hg0⟩ := Option.isSome_iff_exists.mp htop
  obtain ⟨r, hr⟩ := State.topJava?_eq_some.mp hg0
  have hl9 : e.platform.stackLimits (T.setVm s.vm).me = e.platform.stackLimits s.me := X.limits
  have hb9 : (T.setVm s.vm).me.stackBytes = s.me.stackBytes := X.bytes
  refine ⟨X.admits, X.cas, X.clock, hF, ?_, X.hears, X.method, X.code, X.here, X.tail, X.warmed, ?_, ?_, ?_⟩
  · have h := X.room
    have hU : ((T.setVm s.vm).setFrames (.invoking m args :: below)).localsInUse = s.localsInUse := by
      rw [State.localsInUse_invoking hF (meth := meth) (c := c) X.method X.code, State.localsInUse_invoking X.frames X.method X.code]
    simp only [State.hasRoom, Bool.and_eq_true, decide_eq_true_eq] at h ⊢
    obtain ⟨⟨⟨⟨h1, h2, h3, h4, h5, h6⟩, h7⟩, h8⟩, h9⟩ := h
    rw [X.frames, List.length_cons] at h2 h3
    have q1 := X.heapSize
    have q2 := X.used
    simp only [hF, hU, List.length_cons, State.stackLimits_setFrames, State.stackBytes_setFrames, hl9, hb9]
    refine ⟨⟨⟨⟨by omega, by omega, by omega, by omega, by omega, h6⟩, ?_⟩, ?_⟩, X.book⟩
    · show T.heap.size + R'.cells ≤ e.platform.maxCells
      omega
    · show T.slotsUsed + R'.slots ≤ e.platform.maxSlots
      omega
  · rw [State.stackLimits_setFrames]; rfl
  · rw [State.stackBytes_setFrames]; rfl
  · refine ⟨?_, Nat.le_refl _, Nat.le_refl _, ?_, ?_, fun a c9 h9 => ⟨c9, h9, rfl, rfl, fun _ _ => rfl⟩⟩
    · obtain ⟨t, ht, -⟩ := State.frames_cons hr
      show T.setVm s.vm = { ((T.setVm s.vm).setFrames (.invoking m args :: below)).setFrames (T.setVm s.vm).frames with heap := T.heap, slotsUsed := T.slotsUsed }
      rw [State.setFrames_setFrames, State.setFrames_self ht]
      rfl
    · show T.slotsUsed = T.slotsUsed + ((T.heap.toList.drop T.heap.size).map (·.slots.size)).sum
      rw [List.drop_eq_nil_of_le (Nat.le_of_eq Array.length_toList)]
      rfl
    · show ((T.heap.toList.drop T.heap.size).map (·.slots.size)).sum ≤ 0
      rw [List.drop_eq_nil_of_le (Nat.le_of_eq Array.length_toList)]
      exact Nat.le_refl _
/-- 'throw new E()': new; dup; invokespecial; athrow -/
theorem vx_throw0 {cc : ByteArray} {pc : Nat} (hexec : p.tables.exec = Jvm.exec) (hb : c.code = cc) (hl : l.stackTraces = false) {own cls : String} {names : List String} {ik ic mc ms : Nat} {A : Nat → Prop}
    (hown : s.vm.findClass own = some m.cls) (hcls : Bundle.fit cls = true) (hnames : ∀ n ∈ names, Bundle.fit n = true)
    (hk : (Cond.classLink own ik cls).before args s = true) (hini : (Cond.initialized cls).before args s = true) (hat : ∀ w ∈ vx_at0 own ic cls names, w.before args s = true)
    (hgood : ∀ w ∈ Cond.classLink own ik cls :: Cond.initialized cls :: vx_at0 own ic cls names, vx_ot w = true)
    (hU : vx_Zq Bundle.tN "UNASSIGNED_STACK" Bundle.steD A s s.heap) (hN : vx_Zq Bundle.tN "SUPPRESSED_SENTINEL" Bundle.listD A s s.heap) (hS : va_S A s.heap H locs) (hsize : ls.size = c.maxLocals)
    (d0 : decode cc pc = .ok (.new ik, 3)) (d3 : decode cc (pc + 3) = .ok (.dup, 1)) (d4 : decode cc (pc + 4) = .ok (.invokespecial ic, 3)) (d7 : decode cc (pc + 7) = .ok (.athrow, 1))
    (hout : ∀ x ∈ c.exceptionTable.toList, covers x (pc + 7) = false)
    (hRframes : names.length + 3 < R.frames) (hRlocals : (rest.map fun v => v.category).sum + (13 * (names.length + 1) + 42) ≤ R.locals) (hRcells : cells + 1 ≤ R.cells) (hRslots : slots + 6 ≤ R.slots) (hlocks : meth.locks = false)
    (hx : ∀ t : State, s.vm.Alike t.vm → H.size ≤ t.heap.size → (∀ q : Nat, q < H.size → t.heap[q]? = H[q]?) → XC cls s t)
    (hf : ∀ z ∈ locs, free z.base) (hc : cells + 1 ≤ mc) (hs : slots + 6 ≤ ms) :
    W p l e R s m args below meth c H locs cells slots (vx_MQ below Qc XC args s mc ms free) (F0 m pc ls rest) := by
  intro T hT X
  have htr : e.platform.stackTraces = false := (show e.platform.stackTraces = l.stackTraces by rw [X.admits.platform]).trans hl
  have Y := vx_rebase X (R' := { frames := R.frames, locals := R.locals, cells := 1, slots := 6 }) (Nat.le_refl _) (Nat.le_refl _) hRcells hRslots
  obtain ⟨s', hA⟩ : ∃ z, z = (T.setVm s.vm).setFrames (.invoking m args :: below) := ⟨_, rfl⟩
  rw [← hA] at Y
  have hvm : s'.vm = s.vm := by rw [hA]; rfl
  have hhp : s'.heap = H := by rw [hA]; exact hT
  have hW0 : s.WarmedH s'.vm := by rw [hvm]; exact State.WarmedH.refl s
  have hat' : ∀ w ∈ vx_at0 own ic cls names, w.before args s' = true := fun w hw => vx_ot_at hW0 hvm.symm (hgood w (List.mem_cons_of_mem _ (List.mem_cons_of_mem _ hw))) (hat w hw)
  have hk' : (Cond.classLink own ik cls).before args s' = true := vx_ot_at hW0 hvm.symm (hgood _ List.mem_cons_self) hk
  have hini' : (Cond.initialized cls).before args s' = true := vx_ot_at hW0 hvm.symm (hgood _ (List.mem_cons_of_mem _ List.mem_cons_self)) hini
  have hU' : vx_Zq Bundle.tN "UNASSIGNED_STACK" Bundle.steD A s' s'.heap := by rw [hhp]; exact vx_Zq.moved hW0.alike (hU.kept hS.2.1)
  have hN' : vx_Zq Bundle.tN "SUPPRESSED_SENTINEL" Bundle.listD A s' s'.heap := by rw [hhp]; exact vx_Zq.moved hW0.alike (hN.kept hS.2.1)
  have h : ∀ w ∈ Bundle.ownAtoms0 own ic cls names, w.before args s' = true := vx_own hat' (vx_isRefq hU'.1) (vx_isRefq hN'.1) hU'.2.word hN'.2.word
  have hown' : s'.vm.findClass own = some m.cls := by rw [hvm]; exact hown
  have hins : (Cond.instantiable cls 6).before args s' = true := h _ (by simp [Bundle.ownAtoms0])
  obtain ⟨vm₁, cX, kX, hfX, hkX, -, -, X₁, st1⟩ := Y.newCold hexec (own := own) (C := cls) (index := ik) (n := 6) hown' hk' hins hini'
    (g := F0 m pc ls rest) rfl (by rw [hb]; exact d0) (Nat.le_refl _) (Nat.le_refl _)
  generalize hT1 : (T.setVm vm₁).pushCell { cls := cX, slots := kX.instanceTypes.map defaultValue, vm := .none } = T1 at X₁ st1
  have hcat : (Value.ref T.heap.size).category = 1 := rfl
  have hcellA : T1.heap[T.heap.size]? = some (freshCell cX kX) := by rw [← hT1]; exact State.heap_pushCell_size _ _
  have d3' : decode c.code (pc + 3) = .ok (.dup, 1) := by rw [hb]; exact d3
  obtain ⟨U, hsteps, hrun, hend, hW, hsame, ce, hce, hO⟩ := X₁.ctorThrow0 hexec htr (own := own) (cls := cls) (names := names) (ic := ic) hown' hcls hnames h (fun x hx => nomatch hx) hfX hkX hcellA (by rw [hhp, hT]; exact Nat.le_refl _)
    (g := { method := m, pc := pc + 4, locals := ls, stack := .ref T.heap.size :: .ref T.heap.size :: rest, locked := none }) rfl hsize rfl rfl (rest := rest) rfl
    (by rw [hb]; exact d4) (by rw [hb]; exact d7) hout hRframes (by simp only [List.map_cons, List.sum_cons, hcat]; omega) hlocks
  obtain ⟨f1, f2⟩ := vx_frame hsame
  rw [hhp] at f1 f2
  have hWs : s.WarmedH U.vm := State.WarmedH.trans hW0 hW
  have hcl : s.vm.findClass cls = some ce.cls := by
    have h9 := hO.cls
    rw [hvm] at h9
    exact h9
  have hall : s.sameButNew ({ U with vm := s.vm } : State) locs mc ms := by
    subst hA
    obtain ⟨e1, e2⟩ := hsame
    rw [State.setFrames_setFrames] at e1
    have h2 : (T.setVm s.vm).sameButNew ({ U with vm := s.vm } : State) [] (0 + 1) (0 + 6) := ⟨e1, e2⟩
    have h3 := X.same.trans h2
    rw [List.append_nil] at h3
    exact h3.mono hc hs
  refine ⟨U, ?_, .threw T.heap.size, hrun, hend, Or.inr ⟨T.heap.size, rfl, cls, ce, locs, hx U hWs.alike f1 (fun q hq => f2 q hq (fun z hz => nomatch hz)), hce, hO.vm, hcl, hWs, hall, hf⟩⟩
  refine st1 _ ?_
  show Steps p.tables e below (T1.setTop { method := m, pc := pc + 3, locals := ls, stack := .ref T.heap.size :: rest, locked := none }) _
  jvm_step X₁.here [X₁.here.top, hexec, d3', Value.category]
  exact hsteps
/-- 'throw new E("text")': new; dup; ldc; invokespecial; athrow -/
theorem vx_throwS {cc : ByteArray} {pc : Nat} (hexec : p.tables.exec = Jvm.exec) (hb : c.code = cc) (hl : l.stackTraces = false) {own cls text : String} {names : List String} {ik is ic mc ms sa : Nat} {A : Nat → Prop}
    (hown : s.vm.findClass own = some m.cls) (hcls : Bundle.fit cls = true) (hnames : ∀ n ∈ names, Bundle.fit n = true)
    (hk : (Cond.classLink own ik cls).before args s = true) (hini : (Cond.initialized cls).before args s = true) (hstr : vk_R own is text sa s) (hat : ∀ w ∈ vx_atS own ic cls names, w.before args s = true)
    (hgood : ∀ w ∈ Cond.classLink own ik cls :: Cond.initialized cls :: vx_atS own ic cls names, vx_ot w = true)
    (hU : vx_Zq Bundle.tN "UNASSIGNED_STACK" Bundle.steD A s s.heap) (hN : vx_Zq Bundle.tN "SUPPRESSED_SENTINEL" Bundle.listD A s s.heap) (hS : va_S A s.heap H locs) (hsize : ls.size = c.maxLocals)
    (d0 : decode cc pc = .ok (.new ik, 3)) (d3 : decode cc (pc + 3) = .ok (.dup, 1)) (d4 : decode cc (pc + 4) = .ok (.ldc is, 2)) (d6 : decode cc (pc + 6) = .ok (.invokespecial ic, 3)) (d9 : decode cc (pc + 9) = .ok (.athrow, 1))
    (hout : ∀ x ∈ c.exceptionTable.toList, covers x (pc + 9) = false)
    (hRframes : names.length + 3 < R.frames) (hRlocals : (rest.map fun v => v.category).sum + (13 * (names.length + 1) + 43) ≤ R.locals) (hRcells : cells + 1 ≤ R.cells) (hRslots : slots + 6 ≤ R.slots) (hlocks : meth.locks = false)
    (hx : ∀ t : State, s.vm.Alike t.vm → H.size ≤ t.heap.size → (∀ q : Nat, q < H.size → t.heap[q]? = H[q]?) → XC cls s t)
    (hf : ∀ z ∈ locs, free z.base) (hc : cells + 1 ≤ mc) (hs : slots + 6 ≤ ms) :
    W p l e R s m args below meth c H locs cells slots (vx_MQ below Qc XC args s mc ms free) (F0 m pc ls rest) := by
  intro T hT X
  have htr : e.platform.stackTraces = false := (show e.platform.stackTraces = l.stackTraces by rw [X.admits.platform]).trans hl
  have Y := vx_rebase X (R' := { frames := R.frames, locals := R.locals, cells := 1, slots := 6 }) (Nat.le_refl _) (Nat.le_refl _) hRcells hRslots
  obtain ⟨s', hA⟩ : ∃ z, z = (T.setVm s.vm).setFrames (.invoking m args :: below) := ⟨_, rfl⟩
  rw [← hA] at Y
  have hvm : s'.vm = s.vm := by rw [hA]; rfl
  have hhp : s'.heap = H := by rw [hA]; exact hT
  have hW0 : s.WarmedH s'.vm := by rw [hvm]; exact State.WarmedH.refl s
  have hat' : ∀ w ∈ vx_atS own ic cls names, w.before args s' = true := fun w hw => vx_ot_at hW0 hvm.symm (hgood w (List.mem_cons_of_mem _ (List.mem_cons_of_mem _ hw))) (hat w hw)
  have hk' : (Cond.classLink own ik cls).before args s' = true := vx_ot_at hW0 hvm.symm (hgood _ List.mem_cons_self) hk
  have hini' : (Cond.initialized cls).before args s' = true := vx_ot_at hW0 hvm.symm (hgood _ (List.mem_cons_of_mem _ List.mem_cons_self)) hini
  have hU' : vx_Zq Bundle.tN "UNASSIGNED_STACK" Bundle.steD A s' s'.heap := by rw [hhp]; exact vx_Zq.moved hW0.alike (hU.kept hS.2.1)
  have hN' : vx_Zq Bundle.tN "SUPPRESSED_SENTINEL" Bundle.listD A s' s'.heap := by rw [hhp]; exact vx_Zq.moved hW0.alike (hN.kept hS.2.1)
  have h : ∀ w ∈ Bundle.ownAtoms own ic cls names, w.before args s' = true := vx_own hat' (vx_isRefq hU'.1) (vx_isRefq hN'.1) hU'.2.word hN'.2.word
  have hown' : s'.vm.findClass own = some m.cls := by rw [hvm]; exact hown
  have hins : (Cond.instantiable cls 6).before args s' = true := h _ (by simp [Bundle.ownAtoms])
  obtain ⟨vm₁, cX, kX, hfX, hkX, -, -, X₁, st1⟩ := Y.newCold hexec (own := own) (C := cls) (index := ik) (n := 6) hown' hk' hins hini'
    (g := F0 m pc ls rest) rfl (by rw [hb]; exact d0) (Nat.le_refl _) (Nat.le_refl _)
  generalize hT1 : (T.setVm vm₁).pushCell { cls := cX, slots := kX.instanceTypes.map defaultValue, vm := .none } = T1 at X₁ st1
  have hcat : (Value.ref T.heap.size).category = 1 := rfl
  have hcellA : T1.heap[T.heap.size]? = some (freshCell cX kX) := by rw [← hT1]; exact State.heap_pushCell_size _ _
  have d3' : decode c.code (pc + 3) = .ok (.dup, 1) := by rw [hb]; exact d3
  have d4' : decode c.code (pc + 4) = .ok (.ldc is, 2) := by rw [hb]; exact d4
  have hstr' : vk_R own is text sa s' := vk_R.warm hW0 hstr
  obtain ⟨U, hsteps, hrun, hend, hW, hsame, ce, hce, hO⟩ := X₁.ctorThrowS hexec htr (own := own) (cls := cls) (names := names) (ic := ic) hown' hcls hnames h (fun x hx => nomatch hx) hfX hkX hcellA (by rw [hhp, hT]; exact Nat.le_refl _) (msg := .ref sa) rfl
    (g := { method := m, pc := pc + 6, locals := ls, stack := .ref sa :: .ref T.heap.size :: .ref T.heap.size :: rest, locked := none }) rfl hsize rfl rfl (rest := rest) rfl
    (by rw [hb]; exact d6) (by rw [hb]; exact d9) hout hRframes (by simp only [List.map_cons, List.sum_cons, hcat]; omega) hlocks
  obtain ⟨f1, f2⟩ := vx_frame hsame
  rw [hhp] at f1 f2
  have hWs : s.WarmedH U.vm := State.WarmedH.trans hW0 hW
  have hcl : s.vm.findClass cls = some ce.cls := by
    have h9 := hO.cls
    rw [hvm] at h9
    exact h9
  have hall : s.sameButNew ({ U with vm := s.vm } : State) locs mc ms := by
    subst hA
    obtain ⟨e1, e2⟩ := hsame
    rw [State.setFrames_setFrames] at e1
    have h2 : (T.setVm s.vm).sameButNew ({ U with vm := s.vm } : State) [] (0 + 1) (0 + 6) := ⟨e1, e2⟩
    have h3 := X.same.trans h2
    rw [List.append_nil] at h3
    exact h3.mono hc hs
  refine ⟨U, ?_, .threw T.heap.size, hrun, hend, Or.inr ⟨T.heap.size, rfl, cls, ce, locs, hx U hWs.alike f1 (fun q hq => f2 q hq (fun z hz => nomatch hz)), hce, hO.vm, hcl, hWs, hall, hf⟩⟩
  refine st1 _ ?_
  show Steps p.tables e below (T1.setTop { method := m, pc := pc + 3, locals := ls, stack := .ref T.heap.size :: rest, locked := none }) _
  jvm_step X₁.here [X₁.here.top, hexec, d3', Value.category]
  exact X₁.ldcString hexec (own := own) (text := text) (index := is) (a := sa) hown' hstr'.1 hstr'.2
    (g := { method := m, pc := pc + 4, locals := ls, stack := .ref T.heap.size :: .ref T.heap.size :: rest, locked := none }) rfl d4' _ hsteps
/-- 'throw new E("text")', the text by a wide index -/
theorem vx_throwSW {cc : ByteArray} {pc : Nat} (hexec : p.tables.exec = Jvm.exec) (hb : c.code = cc) (hl : l.stackTraces = false) {own cls text : String} {names : List String} {ik is ic mc ms sa : Nat} {A : Nat → Prop}
    (hown : s.vm.findClass own = some m.cls) (hcls : Bundle.fit cls = true) (hnames : ∀ n ∈ names, Bundle.fit n = true)
    (hk : (Cond.classLink own ik cls).before args s = true) (hini : (Cond.initialized cls).before args s = true) (hstr : vk_R own is text sa s) (hat : ∀ w ∈ vx_atS own ic cls names, w.before args s = true)
    (hgood : ∀ w ∈ Cond.classLink own ik cls :: Cond.initialized cls :: vx_atS own ic cls names, vx_ot w = true)
    (hU : vx_Zq Bundle.tN "UNASSIGNED_STACK" Bundle.steD A s s.heap) (hN : vx_Zq Bundle.tN "SUPPRESSED_SENTINEL" Bundle.listD A s s.heap) (hS : va_S A s.heap H locs) (hsize : ls.size = c.maxLocals)
    (d0 : decode cc pc = .ok (.new ik, 3)) (d3 : decode cc (pc + 3) = .ok (.dup, 1)) (d4 : decode cc (pc + 4) = .ok (.ldc_w is, 3)) (d7 : decode cc (pc + 7) = .ok (.invokespecial ic, 3)) (d10 : decode cc (pc + 10) = .ok (.athrow, 1))
    (hout : ∀ x ∈ c.exceptionTable.toList, covers x (pc + 10) = false)
    (hRframes : names.length + 3 < R.frames) (hRlocals : (rest.map fun v => v.category).sum + (13 * (names.length + 1) + 43) ≤ R.locals) (hRcells : cells + 1 ≤ R.cells) (hRslots : slots + 6 ≤ R.slots) (hlocks : meth.locks = false)
    (hx : ∀ t : State, s.vm.Alike t.vm → H.size ≤ t.heap.size → (∀ q : Nat, q < H.size → t.heap[q]? = H[q]?) → XC cls s t)
    (hf : ∀ z ∈ locs, free z.base) (hc : cells + 1 ≤ mc) (hs : slots + 6 ≤ ms) :
    W p l e R s m args below meth c H locs cells slots (vx_MQ below Qc XC args s mc ms free) (F0 m pc ls rest) := by
  intro T hT X
  have htr : e.platform.stackTraces = false := (show e.platform.stackTraces = l.stackTraces by rw [X.admits.platform]).trans hl
  have Y := vx_rebase X (R' := { frames := R.frames, locals := R.locals, cells := 1, slots := 6 }) (Nat.le_refl _) (Nat.le_refl _) hRcells hRslots
  obtain ⟨s', hA⟩ : ∃ z, z = (T.setVm s.vm).setFrames (.invoking m args :: below) := ⟨_, rfl⟩
  rw [← hA] at Y
  have hvm : s'.vm = s.vm := by rw [hA]; rfl
  have hhp : s'.heap = H := by rw [hA]; exact hT
  have hW0 : s.WarmedH s'.vm := by rw [hvm]; exact State.WarmedH.refl s
  have hat' : ∀ w ∈ vx_atS own ic cls names, w.before args s' = true := fun w hw => vx_ot_at hW0 hvm.symm (hgood w (List.mem_cons_of_mem _ (List.mem_cons_of_mem _ hw))) (hat w hw)
  have hk' : (Cond.classLink own ik cls).before args s' = true := vx_ot_at hW0 hvm.symm (hgood _ List.mem_cons_self) hk
  have hini' : (Cond.initialized cls).before args s' = true := vx_ot_at hW0 hvm.symm (hgood _ (List.mem_cons_of_mem _ List.mem_cons_self)) hini
  have hU' : vx_Zq Bundle.tN "UNASSIGNED_STACK" Bundle.steD A s' s'.heap := by rw [hhp]; exact vx_Zq.moved hW0.alike (hU.kept hS.2.1)
  have hN' : vx_Zq Bundle.tN "SUPPRESSED_SENTINEL" Bundle.listD A s' s'.heap := by rw [hhp]; exact vx_Zq.moved hW0.alike (hN.kept hS.2.1)
  have h : ∀ w ∈ Bundle.ownAtoms own ic cls names, w.before args s' = true := vx_own hat' (vx_isRefq hU'.1) (vx_isRefq hN'.1) hU'.2.word hN'.2.word
  have hown' : s'.vm.findClass own = some m.cls := by rw [hvm]; exact hown
  have hins : (Cond.instantiable cls 6).before args s' = true := h _ (by simp [Bundle.ownAtoms])
  obtain ⟨vm₁, cX, kX, hfX, hkX, -, -, X₁, st1⟩ := Y.newCold hexec (own := own) (C := cls) (index := ik) (n := 6) hown' hk' hins hini'
    (g := F0 m pc ls rest) rfl (by rw [hb]; exact d0) (Nat.le_refl _) (Nat.le_refl _)
  generalize hT1 : (T.setVm vm₁).pushCell { cls := cX, slots := kX.instanceTypes.map defaultValue, vm := .none } = T1 at X₁ st1
  have hcat : (Value.ref T.heap.size).category = 1 := rfl
  have hcellA : T1.heap[T.heap.size]? = some (freshCell cX kX) := by rw [← hT1]; exact State.heap_pushCell_size _ _
  have d3' : decode c.code (pc + 3) = .ok (.dup, 1) := by rw [hb]; exact d3
  have d4' : decode c.code (pc + 4) = .ok (.ldc_w is, 3) := by rw [hb]; exact d4
  have hstr' : vk_R own is text sa s' := vk_R.warm hW0 hstr
  obtain ⟨U, hsteps, hrun, hend, hW, hsame, ce, hce, hO⟩ := X₁.ctorThrowS hexec htr (own := own) (cls := cls) (names := names) (ic := ic) hown' hcls hnames h (fun x hx => nomatch hx) hfX hkX hcellA (by rw [hhp, hT]; exact Nat.le_refl _) (msg := .ref sa) rfl
    (g := { method := m, pc := pc + 7, locals := ls, stack := .ref sa :: .ref T.heap.size :: .ref T.heap.size :: rest, locked := none }) rfl hsize rfl rfl (rest := rest) rfl
    (by rw [hb]; exact d7) (by rw [hb]; exact d10) hout hRframes (by simp only [List.map_cons, List.sum_cons, hcat]; omega) hlocks
  obtain ⟨f1, f2⟩ := vx_frame hsame
  rw [hhp] at f1 f2
  have hWs : s.WarmedH U.vm := State.WarmedH.trans hW0 hW
  have hcl : s.vm.findClass cls = some ce.cls := by
    have h9 := hO.cls
    rw [hvm] at h9
    exact h9
  have hall : s.sameButNew ({ U with vm := s.vm } : State) locs mc ms := by
    subst hA
    obtain ⟨e1, e2⟩ := hsame
    rw [State.setFrames_setFrames] at e1
    have h2 : (T.setVm s.vm).sameButNew ({ U with vm := s.vm } : State) [] (0 + 1) (0 + 6) := ⟨e1, e2⟩
    have h3 := X.same.trans h2
    rw [List.append_nil] at h3
    exact h3.mono hc hs
  refine ⟨U, ?_, .threw T.heap.size, hrun, hend, Or.inr ⟨T.heap.size, rfl, cls, ce, locs, hx U hWs.alike f1 (fun q hq => f2 q hq (fun z hz => nomatch hz)), hce, hO.vm, hcl, hWs, hall, hf⟩⟩
  refine st1 _ ?_
  show Steps p.tables e below (T1.setTop { method := m, pc := pc + 3, locals := ls, stack := .ref T.heap.size :: rest, locked := none }) _
  jvm_step X₁.here [X₁.here.top, hexec, d3', Value.category]
  exact X₁.ldcStringW hexec (own := own) (text := text) (index := is) (a := sa) hown' hstr'.1 hstr'.2
    (g := { method := m, pc := pc + 4, locals := ls, stack := .ref T.heap.size :: .ref T.heap.size :: rest, locked := none }) rfl d4' _ hsteps
end Ends
section Bodies
variable {l : Launch}
theorem vx_ofW {y : MethodName} {ws ws' : List Cond} {rm : Room} {Pc : Array Value → State → Prop} {Qc : Array Value → State → Outcome → State → Prop} {XC : String → State → State → Prop} {mc ms : Nat} {free : Addr → Prop} {cc : ByteArray} {maxL : Nat} {ret : Option FieldType}
    (hy : plainName y.cls = true) (hw : ws = Cond.code y cc maxL ret :: ws')
    (body : ∀ p e s m args below meth c s₁, BodyLoose p l y (headSpec ws rm) cc maxL ret e s m args below meth c s₁ → c.maxLocals = maxL → (∀ x ∈ c.exceptionTable.toList, False) → Pc args s →
      W p l e (headSpec ws rm).room s m args below meth c s.heap [] 0 0 (vx_MQ below Qc XC args s mc ms free) (entryFrame m args maxL)) : vx_Met l y ws rm Pc Qc XC mc ms free := by
  refine MetFree.of_bodyS (code := cc) (maxLocals := maxL) (ret := ret) hy ?_ ?_
  · intro args s m h hn
    obtain ⟨meth, c, h1, h2, h3, h4, h5, h6, -, -⟩ := Cond.code_spec hn (atoms_spec (ws := ws) h _ (by rw [hw]; exact List.mem_cons_self))
    exact ⟨meth, c, h1, h2, h3, h4, h5, h6⟩
  · intro p e s m args below meth c s₁ B hml hP _
    have hh0 : s₁.heap = s.heap := by rw [B.state]; rfl
    have ht : ∀ x ∈ c.exceptionTable.toList, False := by
      obtain ⟨meth9, c9, h1, h2, -, -, -, -, h7, -⟩ := Cond.code_spec B.named (atoms_spec (ws := ws) B.pre _ (by rw [hw]; exact List.mem_cons_self))
      cases Option.some.inj (h1.symm.trans B.method)
      cases Option.some.inj (h2.symm.trans (Stand.of_body B).code)
      intro x hx
      rw [Array.isEmpty_iff.mp h7] at hx
      cases hx
    obtain ⟨t, a1, o, b1, b2, b3⟩ := body p e s m args below meth c s₁ B hml ht hP s₁ hh0 (Stand.of_body B)
    exact ⟨t, o, a1, b1, b2, b3⟩
/-- the table of a body with handlers -/
theorem vx_table {p : Program} {x y : MethodName} {S : Spec} {cc bytes : ByteArray} {maxL maxL' : Nat} {ret ret' : Option FieldType} {e : Env} {s s₁ : State} {m : MethodId} {args : Array Value} {below : List Frame} {meth : Method} {c : Code} {hh : List (Nat × Nat × Nat × Nat)}
    (B : BodyLoose p l y S cc maxL ret e s m args below meth c s₁) (h : (Cond.codeWith y bytes maxL' ret' hh).before args s = true) : c.exceptionTable.toList = tableOf hh := by
  obtain ⟨m9, meth9, c9, hn9, h1, h2, -, -, h6, -⟩ := Cond.codeWith_spec h
  cases Option.some.inj (hn9.symm.trans B.named)
  cases Option.some.inj (h1.symm.trans B.method)
  cases Option.some.inj (h2.symm.trans (Stand.of_body B).code)
  rw [← h6, table_eq]
end Bodies
end VXA
/-! ===== END ===== -/
/-! ===== BEGIN a static call of a method with an exception table ===== -/
section VXS
variable {p : Program} {l : Launch} {e : Env} {R : Room} {s : State} {m : MethodId} {args : Array Value} {below : List Frame} {meth : Method} {c : Code} {T : State} {H : Heap} {locs : List Loc} {cells slots : Nat}
abbrev vx_CSW (R : Room) (s : State) (args : Array Value) (own : String) (index : Nat) (y : MethodName) (bytes : ByteArray) (maxL : Nat) (ret : Option FieldType) (hh : List (Nat × Nat × Nat × Nat)) (ws : List Cond) (rm : Room) (mc ms n : Nat) : Prop :=
  (rm.cells = mc ∧ rm.slots = ms ∧ rm.frames + 1 ≤ R.frames ∧ 8 + (maxL + 11) + rm.locals ≤ R.locals ∧ (∀ w ∈ ws, ∀ (a' : Array Value) (U : State), s.WarmedH U.vm → w.before a' U = true) ∧ Cond.codeWith y bytes maxL ret hh ∈ ws) ∧
  (Cond.codeWith y bytes maxL ret hh).before args s = true ∧ (Cond.initialized y.cls).before args s = true ∧ (y.cls ≠ "java/lang/invoke/MethodHandle" ∧ y.cls ≠ "java/lang/invoke/VarHandle") ∧
  (∀ sig, parseMethodDescriptor y.desc = some sig → n = sig.parameters.length) ∧ (Cond.methodLink own index y).before args s = true ∧ (Cond.static y).before args s = true
theorem vx_cwSW {own : String} {index maxL mc ms : Nat} {y : MethodName} {bytes : ByteArray} {ret : Option FieldType} {hh : List (Nat × Nat × Nat × Nat)} {Ts ws ws' : List Cond} {rm : Room} (n : Nat) (ht : ∀ w ∈ Ts, w.before args s = true) (hT : GoodIn Ts (va_wsS own index y ws)) (hw : ws = Cond.codeWith y bytes maxL ret hh :: ws') (hrc : rm.cells = mc) (hrs : rm.slots = ms)
    (hd : y.cls ≠ "java/lang/invoke/MethodHandle" ∧ y.cls ≠ "java/lang/invoke/VarHandle" ∧ (parseMethodDescriptor y.desc).map (fun d => d.parameters.length) = some n) (hR : rm.frames + 1 ≤ R.frames ∧ 8 + (maxL + 11) + rm.locals ≤ R.locals) :
    vx_CSW R s args own index y bytes maxL ret hh ws rm mc ms n := by
  have ok : ∀ w ∈ va_wsS own index y ws, w.before args s = true := fun w h => ht w (hT w h).1
  have hG : GoodIn Ts ws := fun w h => hT w (by unfold va_wsS; exact List.mem_append_right _ h)
  have hc : Cond.codeWith y bytes maxL ret hh ∈ ws := by rw [hw]; exact List.mem_cons_self
  refine ⟨⟨hrc, hrs, hR.1, hR.2, pay_in ht hG, hc⟩, ht _ (hG _ hc).1, ok _ (by simp [va_wsS]), ⟨hd.1, hd.2.1⟩, fun sig h => ?_, ok _ (by simp [va_wsS]), ok _ (by simp [va_wsS])⟩
  have h2 := hd.2.2
  rw [h] at h2
  exact (Option.some.inj h2).symm
theorem vx_callSW (X : Stand p l e R s m args below meth c T locs cells slots) (hexec : p.tables.exec = Jvm.exec) {own : String} {index : Nat} {y : MethodName} {bytes : ByteArray} {maxL : Nat} {ret : Option FieldType} {hh : List (Nat × Nat × Nat × Nat)}
    (hown : s.vm.findClass own = some m.cls) (hlink : (Cond.methodLink own index y).before args s = true) (hstat : (Cond.static y).before args s = true) (hinit : (Cond.initialized y.cls).before args s = true)
    (hcode : (Cond.codeWith y bytes maxL ret hh).before args s = true) (hy : y.cls ≠ "java/lang/invoke/MethodHandle" ∧ y.cls ≠ "java/lang/invoke/VarHandle")
    {W9 : Nat} {Pre : Pt → Array Value → Prop} {Post : Pt → Array Value → Option Value → Pt → Prop} (hK : Back l R p e below s args y 3 W9 Pre Post)
    {g : JFrame} (hg : g.method = m) (hsize : g.locals.size = c.maxLocals) {argsL rest : List Value} (hlen : ∀ sig, parseMethodDescriptor y.desc = some sig → argsL.length = sig.parameters.length)
    (hstack : g.stack = argsL.reverse ++ rest) (hW : 2 * g.monitorRoom + (rest.map fun v => v.category).sum ≤ W9) (hdg : decode c.code g.pc = .ok (.invokestatic index, 3))
    (hpre : ∀ vm₁, s.WarmedH vm₁ → Pre ⟨T.setVm vm₁, locs, cells, slots⟩ argsL.toArray) :
    ∃ (v : Option Value) (vm₁ : Vm) (B : Pt), s.WarmedH vm₁ ∧ Stand p l e R s m args below meth c B.U B.locs B.cells B.slots ∧ Post ⟨T.setVm vm₁, locs, cells, slots⟩ argsL.toArray v B ∧
      ∀ target, Steps p.tables e below (B.U.setTop { g with pc := g.pc + 3, stack := v.toList ++ rest }) target → Steps p.tables e below (T.setTop g) target := by
  obtain ⟨mk, methM, cM, hnamed, hmethM, -, -, -, -, -, -, hsigM⟩ := Cond.codeWith_spec hcode
  have hstatic : methM.isStatic = true := Cond.static_spec hnamed hmethM hstat
  obtain ⟨kP, hkP, -⟩ := className_of_methodNamed hnamed
  have hinitP : kP.init = .initialized := Cond.initialized_spec (findClass_of_methodNamed hnamed) hkP hinit
  obtain ⟨vm₁, X₁, hstep₁⟩ := X.invokestatic hexec hown hlink hnamed hmethM hstatic hkP hinitP hy (g := g) hg (argsL := argsL) (rest := rest) (hlen _ hsigM) hstack hdg
  obtain ⟨v, B, X', hpost, hsteps⟩ := hK m meth c ⟨T.setVm vm₁, locs, cells, slots⟩ { g with stack := rest } (.invokestatic index) mk argsL.toArray X₁ hg hsize hdg hW (X₁.named hnamed) (hpre vm₁ X₁.warmed)
  exact ⟨v, vm₁, B, X₁.warmed, X', hpost, fun target h => hstep₁ _ fun acts => by rw [doInvoke_state]; exact hsteps.trans h⟩
/-- not caught here, past rows that name other classes: it goes on to the caller -/
theorem vx_outP {p : Program} {l : Launch} {e : Env} {R : Room} {s : State} {m : MethodId} {args : Array Value} {below : List Frame} {meth : Method} {c : Code} {H : Heap} {locs : List Loc} {cells slots : Nat} {free : Addr → Prop} {ls : Array Slot} {rest : List Value} {Qc : Array Value → State → Outcome → State → Prop} {XC : String → State → State → Prop}
    {pc : Nat} {own E : String} {ce : Cell} {q : Addr} {mc ms : Nat} (hown : s.vm.findClass own = some m.cls) (hlocks : meth.locks = false)
    (hpass : ∀ z ∈ c.exceptionTable.toList, covers z pc = false ∨ (z.catchType ≠ 0 ∧ ∃ nm : String, (Cond.classLink own z.catchType nm).before args s = true ∧ va_Nc E nm s)) (hcell : H[q]? = some ce) (hv : ce.vm = .none) (hcl : s.vm.findClass E = some ce.cls)
    (hx : ∀ t : State, t.heap = H → s.vm.Alike t.vm → XC E s t) (hf : ∀ z ∈ locs, free z.base) (hc : cells ≤ mc) (hs : slots ≤ ms) :
    vx_W p l e R s m args below meth c H locs cells slots (vx_MQ below Qc XC args s mc ms free) (F0 m pc ls rest) q := by
  intro T hT X
  have hpl : e.platform.magicAccessors = ({} : Platform).magicAccessors := by rw [X.admits.platform]
  obtain ⟨vm', hW', X', st⟩ := X.outThrough hlocks q (g := F0 m pc ls rest) rfl rfl rfl (cell := ce) (by rw [hT]; exact hcell) (by rw [hv]; rfl)
    (by obtain ⟨k9, h9, -⟩ := Vm.findClass_spec hcl; exact ⟨k9, h9⟩) (fun z hz => by
      rcases hpass z hz with h | ⟨hz0, nm, hl1, hn1⟩
      · exact Or.inl h
      · obtain ⟨c6, hc6, hcl6⟩ := Cond.classLink_spec hown hl1 e.platform hpl
        obtain ⟨a8, b8, h1, h2, h3⟩ := hn1
        cases Option.some.inj (h1.symm.trans hcl)
        cases Option.some.inj (h2.symm.trans hc6)
        exact Or.inr ⟨hz0, _, hcl6, h3⟩)
  obtain ⟨g₀, hfr⟩ := X'.frames_eq
  have hcell9 : ((T.setVm vm').setFrames (.throwing q :: below)).heap[q]? = some ce := by
    show T.heap[q]? = some ce
    rw [hT]; exact hcell
  have hend : Ended ((T.setVm vm').setFrames (.throwing q :: below)) below (.threw q) := State.frames_setFrames _ (State.cur_lt_of_frames hfr)
  refine ⟨(T.setVm vm').setFrames (.throwing q :: below), ?_, .threw q, X'.here.running, hend, Or.inr ⟨q, rfl, E, ce, locs, hx _ hT (X'.ends _).1.alike, hcell9, hv, hcl, (X'.ends _).1, (X'.ends _).2.mono hc hs, hf⟩⟩
  rw [X.pushThrowing_eq]
  exact st
end VXS
/-! ===== END ===== -/
/-! ===== BEGIN methods with a table of their own: called by a name, returning or throwing ===== -/
section VXH
/-! vx_backW, vx_callVX, vx_callSX, vx_callVW, vx_runVW, vx_runVX, vx_runSX, vx_ofWH follow the same proofs as their sisters above (Free/Laws.lean, Shelf42/LK1.lean); vx_outP calls Shelf42/NT130.lean (outThrough). -/
section
variable {l : Launch} {R : Room} {p : Program} {e : Env} {below : List Frame} {s : State} {sargs : Array Value} {y : MethodName} {len W9 : Nat}
theorem vx_backW {ws : List Cond} {rm : Room} {Pc : Array Value → State → Prop} {Qc : Array Value → State → Outcome → State → Prop} {XC : String → State → State → Prop} {mc ms : Nat} {free : Addr → Prop} {bytes : ByteArray} {maxL : Nat} {ret : Option FieldType} {hh : List (Nat × Nat × Nat × Nat)}
    (hM : vx_Met l y ws rm Pc Qc XC mc ms free) (hblind : FrameBlind Pc) (hrc : rm.cells = mc) (hrs : rm.slots = ms)
    (hframes : rm.frames + 1 ≤ R.frames) (hlocals : W9 + (maxL + 11) + rm.locals ≤ R.locals)
    (hws : ∀ w ∈ ws, ∀ a' U, s.WarmedH U.vm → w.before a' U = true) (hcode : Cond.codeWith y bytes maxL ret hh ∈ ws) (hinit : ∀ a' U, s.WarmedH U.vm → (Cond.initialized y.cls).before a' U = true) :
    vx_Back l R p e below s sargs y len W9 (PreOf R mc ms Pc) (PostOf Qc mc ms free) (vx_Post XC mc ms free) := by
  intro m meth c A g ig mk a X hg hsize hdg hW hn hp
  have h1 : (headSpec ws rm).pre.before a A.U = true := atoms_intro fun w hw => hws w hw _ _ X.warmed
  have h2 : (Cond.codeWith y bytes maxL ret hh).before a A.U = true := hws _ hcode _ _ X.warmed
  have h3 : (Cond.initialized y.cls).before a A.U = true := hinit _ _ X.warmed
  have h4 : A.cells + (headSpec ws rm).room.cells ≤ R.cells := by rw [show (headSpec ws rm).room.cells = mc from hrc]; exact hp.1
  have h5 : A.slots + (headSpec ws rm).room.slots ≤ R.slots := by rw [show (headSpec ws rm).room.slots = ms from hrs]; exact hp.2.1
  have hPc : Pc a (A.U.calling g mk a) := hblind _ _ _ _ hp.2.2
  obtain ⟨U, Ls, c0, s0⟩ := A
  dsimp only [Pt.U, Pt.locs, Pt.cells, Pt.slots] at h1 h2 h3 h4 h5 X hn hPc ⊢
  obtain ⟨m9, methY, cY, hn9, hmY, hcY, -, hlY, -⟩ := Cond.codeWith_spec h2
  cases Option.some.inj (hn9.symm.trans hn)
  obtain ⟨kY, hkY, -⟩ := className_of_methodNamed hn
  have hinitY : kY.init = .initialized := Cond.initialized_spec (findClass_of_methodNamed hn) hkY h3
  have h : At U g.method c below := by rw [hg]; exact X.here
  have hlocals9 : W9 + (maxL + 11) + (headSpec ws rm).room.locals ≤ R.locals := hlocals
  have happ : (headSpec ws rm).appliesLoose y e.platform (U.calling g mk a) = true :=
    Spec.appliesLoose_calling (g := g) h hdg hn hkY hinitY
      (X.room_calling (g := g) (R' := (headSpec ws rm).room) hsize hmY hcY hframes (by rw [hlY]; omega) h4 h5) h1
  obtain ⟨mid, hmid⟩ := h.above
  have hfr : (U.setTop g).frames = (.java g :: mid) ++ below := by rw [State.frames_setTop' g h.top, hmid]; rfl
  obtain ⟨o, s₂, hsteps, -, hend, hq⟩ := Steps.callFree hM p X.admits X.cas X.clock (acts := []) hfr happ hPc trivial
  have hq' : vx_Q Qc XC mc ms free a (U.calling g mk a) o s₂ := hq
  rw [State.frames_setTop' g h.top] at hend
  obtain ⟨g₀, hg0⟩ := Option.isSome_iff_exists.mp h.top
  obtain ⟨r, hr⟩ := State.topJava?_eq_some.mp hg0
  have hr' : (({ U with heap := s₂.heap, slotsUsed := s₂.slotsUsed } : State).setVm s₂.vm).frames = .java g₀ :: r := hr
  rcases hq' with ⟨hqc, L, hfe, hL⟩ | ⟨q, rfl, E, ce, L, hx, hce, hcv, hcl, hW₂, hsm, hL⟩
  · obtain ⟨⟨v, rfl⟩, hW₂, e2, q2, q3, q4, q5, q6⟩ := id hfe
    have e3 : s₂ = ({ (U.calling g mk a).setFrames s₂.frames with heap := s₂.heap, slotsUsed := s₂.slotsUsed } : State).setVm s₂.vm := by
      have : s₂ = ({ s₂ with vm := (U.calling g mk a).vm } : State).setVm s₂.vm := rfl
      rw [e2] at this
      exact this
    obtain ⟨c₂, i₂, len₂, hc₂, hd₂, hf₂⟩ := hend
    have hW' : U.WarmedH s₂.vm := hW₂
    have hcc : c₂ = c := by
      have h1 : s₂.code? g.method = U.code? g.method := by
        rw [State.code?_eq, State.code?_eq, hW'.alike.method?]
      exact Option.some.inj (hc₂.symm.trans (h1.trans h.code))
    subst hcc
    have hlen : len₂ = len := by rw [hdg] at hd₂; cases hd₂; rfl
    subst hlen
    have hs₂ : s₂ = (({ U with heap := s₂.heap, slotsUsed := s₂.slotsUsed } : State).setVm s₂.vm).setTop { g with pc := g.pc + len₂, stack := v.toList ++ g.stack } := by
      refine e3.trans ?_
      rw [hf₂, State.calling_eq h.top, State.setFrames_setFrames, State.setTop_of_frames _ hr', hr]
      rfl
    have hsame : U.sameButNew ({ U with heap := s₂.heap, slotsUsed := s₂.slotsUsed } : State) L mc ms := by
      refine ⟨?_, q2, q3, q4, q5, q6⟩
      obtain ⟨t, ht, -⟩ := State.frames_cons hr
      show ({ U with heap := s₂.heap, slotsUsed := s₂.slotsUsed } : State) = { U.setFrames U.frames with heap := s₂.heap, slotsUsed := s₂.slotsUsed }
      rw [State.setFrames_self ht]
    subst hg
    refine Or.inl ⟨v, ⟨(({ U with heap := s₂.heap, slotsUsed := s₂.slotsUsed } : State).setVm s₂.vm), Ls ++ L, c0 + mc, s0 + ms⟩,
      ⟨X.admits, X.cas, X.clock, X.frames, X.room, X.hears, X.method, X.code, (X.here.setHeapUsed s₂.heap s₂.slotsUsed).setVm hW'.alike, X.tail, State.WarmedH.trans X.warmed hW', X.limits, X.bytes, X.same.trans (hsame.setVm s.vm)⟩,
      ⟨g, mk, s₂, L, rfl, rfl, hqc, rfl, hL, rfl, rfl⟩, ?_⟩
    show Steps p.tables e below _ ((({ U with heap := s₂.heap, slotsUsed := s₂.slotsUsed } : State).setVm s₂.vm).setTop { g with pc := g.pc + len₂, stack := v.toList ++ g.stack })
    rw [← hs₂]
    exact hsteps
  · obtain ⟨e2, q2, q3, q4, q5, q6⟩ := id hsm
    have e3 : s₂ = ({ (U.calling g mk a).setFrames s₂.frames with heap := s₂.heap, slotsUsed := s₂.slotsUsed } : State).setVm s₂.vm := by
      have : s₂ = ({ s₂ with vm := (U.calling g mk a).vm } : State).setVm s₂.vm := rfl
      rw [e2] at this
      exact this
    have hf₂ : s₂.frames = .throwing q :: .java g :: U.frames.tail := hend
    have hW' : U.WarmedH s₂.vm := hW₂
    have hs₂ : s₂ = ((({ U with heap := s₂.heap, slotsUsed := s₂.slotsUsed } : State).setVm s₂.vm).setTop g).pushFrame (.throwing q) := by
      refine e3.trans ?_
      rw [hf₂, State.calling_eq h.top, State.setFrames_setFrames, State.pushFrame, State.frames_setTop _ hr', State.setTop_of_frames _ hr', State.setFrames_setFrames, hr]
      rfl
    have hsame : U.sameButNew ({ U with heap := s₂.heap, slotsUsed := s₂.slotsUsed } : State) L mc ms := by
      refine ⟨?_, q2, q3, q4, q5, q6⟩
      obtain ⟨t, ht, -⟩ := State.frames_cons hr
      show ({ U with heap := s₂.heap, slotsUsed := s₂.slotsUsed } : State) = { U.setFrames U.frames with heap := s₂.heap, slotsUsed := s₂.slotsUsed }
      rw [State.setFrames_self ht]
    subst hg
    refine Or.inr ⟨q, ⟨(({ U with heap := s₂.heap, slotsUsed := s₂.slotsUsed } : State).setVm s₂.vm), Ls ++ L, c0 + mc, s0 + ms⟩,
      ⟨X.admits, X.cas, X.clock, X.frames, X.room, X.hears, X.method, X.code, (X.here.setHeapUsed s₂.heap s₂.slotsUsed).setVm hW'.alike, X.tail, State.WarmedH.trans X.warmed hW', X.limits, X.bytes, X.same.trans (hsame.setVm s.vm)⟩,
      ⟨g, mk, s₂, L, E, ce, rfl, rfl, hx, hce, hcv, hcl, rfl, hL, rfl, rfl⟩, ?_⟩
    show Steps p.tables e below _ (((({ U with heap := s₂.heap, slotsUsed := s₂.slotsUsed } : State).setVm s₂.vm).setTop g).pushFrame (.throwing q))
    rw [← hs₂]
    exact hsteps
end
variable {p : Program} {l : Launch} {e : Env} {R : Room} {s : State} {m : MethodId} {args : Array Value} {below : List Frame} {meth : Method} {c : Code} {T : State} {H : Heap} {locs : List Loc} {cells slots : Nat}
theorem vx_callVX (X : Stand p l e R s m args below meth c T locs cells slots) (hexec : p.tables.exec = Jvm.exec) {own C : String} {index : Nat} {y : MethodName} {bytes : ByteArray} {maxL : Nat} {ret : Option FieldType} {hh : List (Nat × Nat × Nat × Nat)}
    (hown : s.vm.findClass own = some m.cls) (hlink : (Cond.methodLink own index y).before args s = true) (hinst : (Cond.instanceMethod y).before args s = true) (hsel : (Cond.selects C y y).before args s = true)
    (hcode : (Cond.codeWith y bytes maxL ret hh).before args s = true) (hy : y.cls ≠ "java/lang/invoke/MethodHandle" ∧ y.cls ≠ "java/lang/invoke/VarHandle")
    {W9 : Nat} {Pre : Pt → Array Value → Prop} {Post : Pt → Array Value → Option Value → Pt → Prop} {PostX : Pt → Array Value → Addr → Pt → Prop} (hK : vx_Back l R p e below s args y 3 W9 Pre Post PostX)
    {b : Addr} {cellB : Cell} (hcell : T.heap[b]? = some cellB) (hobj : cellB.vm.isStatics = false) (hcls : s.vm.findClass C = some cellB.cls)
    {g : JFrame} (hg : g.method = m) (hsize : g.locals.size = c.maxLocals) {argsL rest : List Value} (hlen : ∀ sig, parseMethodDescriptor y.desc = some sig → argsL.length = sig.parameters.length)
    (hstack : g.stack = argsL.reverse ++ .ref b :: rest) (hW : 2 * g.monitorRoom + (rest.map fun v => v.category).sum ≤ W9) (hdg : decode c.code g.pc = .ok (.invokevirtual index, 3))
    (hpre : ∀ vm₁, s.WarmedH vm₁ → Pre ⟨T.setVm vm₁, locs, cells, slots⟩ (Value.ref b :: argsL).toArray) :
    (∃ (v : Option Value) (vm₁ : Vm) (B : Pt), s.WarmedH vm₁ ∧ Stand p l e R s m args below meth c B.U B.locs B.cells B.slots ∧ Post ⟨T.setVm vm₁, locs, cells, slots⟩ (Value.ref b :: argsL).toArray v B ∧
      ∀ target, Steps p.tables e below (B.U.setTop { g with pc := g.pc + 3, stack := v.toList ++ rest }) target → Steps p.tables e below (T.setTop g) target) ∨
    (∃ (q : Addr) (vm₁ : Vm) (B : Pt), s.WarmedH vm₁ ∧ Stand p l e R s m args below meth c B.U B.locs B.cells B.slots ∧ PostX ⟨T.setVm vm₁, locs, cells, slots⟩ (Value.ref b :: argsL).toArray q B ∧
      Steps p.tables e below (T.setTop g) ((B.U.setTop { g with stack := rest }).pushFrame (.throwing q))) := by
  obtain ⟨mk, methM, hnamed, hmethM, hstM, habM⟩ := Cond.instanceMethod_spec hinst
  obtain ⟨m8, methM', cM, hn8, hmethM', -, -, -, -, -, -, hsigM⟩ := Cond.codeWith_spec hcode
  cases Option.some.inj (hn8.symm.trans hnamed)
  cases hmethM.symm.trans hmethM'
  obtain ⟨c2, r2, m2, q1, q2, q3, q4, kP, hkP, hkPi⟩ := Cond.selects_spec hsel
  cases hcls.symm.trans q1
  cases (State.methodFound?_of_named hnamed hy).symm.trans q2
  cases hnamed.symm.trans q3
  have hselP : selectMethod e.platform s.vm cellB.cls mk = .method mk := by rw [Launch.admits_selectMethod X.admits]; exact q4
  obtain ⟨vm₁, X₁, hstep₁⟩ := X.invokevirtual hexec hown hlink hnamed hmethM hstM hkP hkPi hy (a := b) (cell := cellB) hcell
    (fun z h => by rw [h] at hobj; cases hobj) hselP hmethM habM hkP hkPi (g := g) hg (argsL := argsL) (rest := rest) (hlen _ hsigM) hstack hdg
  rcases hK m meth c ⟨T.setVm vm₁, locs, cells, slots⟩ { g with stack := rest } (.invokevirtual index) mk (Value.ref b :: argsL).toArray X₁ hg hsize hdg hW (X₁.named hnamed) (hpre vm₁ X₁.warmed) with ⟨v, B, X', hpost, hsteps⟩ | ⟨q, B, X', hpost, hsteps⟩
  · exact Or.inl ⟨v, vm₁, B, X₁.warmed, X', hpost, fun target h => hstep₁ _ fun acts => by rw [doInvoke_state]; exact hsteps.trans h⟩
  · exact Or.inr ⟨q, vm₁, B, X₁.warmed, X', hpost, hstep₁ _ fun acts => by rw [doInvoke_state]; exact hsteps⟩
theorem vx_callSX (X : Stand p l e R s m args below meth c T locs cells slots) (hexec : p.tables.exec = Jvm.exec) {own : String} {index : Nat} {y : MethodName} {bytes : ByteArray} {maxL : Nat} {ret : Option FieldType} {hh : List (Nat × Nat × Nat × Nat)}
    (hown : s.vm.findClass own = some m.cls) (hlink : (Cond.methodLink own index y).before args s = true) (hstat : (Cond.static y).before args s = true) (hinit : (Cond.initialized y.cls).before args s = true)
    (hcode : (Cond.codeWith y bytes maxL ret hh).before args s = true) (hy : y.cls ≠ "java/lang/invoke/MethodHandle" ∧ y.cls ≠ "java/lang/invoke/VarHandle")
    {W9 : Nat} {Pre : Pt → Array Value → Prop} {Post : Pt → Array Value → Option Value → Pt → Prop} {PostX : Pt → Array Value → Addr → Pt → Prop} (hK : vx_Back l R p e below s args y 3 W9 Pre Post PostX)
    {g : JFrame} (hg : g.method = m) (hsize : g.locals.size = c.maxLocals) {argsL rest : List Value} (hlen : ∀ sig, parseMethodDescriptor y.desc = some sig → argsL.length = sig.parameters.length)
    (hstack : g.stack = argsL.reverse ++ rest) (hW : 2 * g.monitorRoom + (rest.map fun v => v.category).sum ≤ W9) (hdg : decode c.code g.pc = .ok (.invokestatic index, 3))
    (hpre : ∀ vm₁, s.WarmedH vm₁ → Pre ⟨T.setVm vm₁, locs, cells, slots⟩ argsL.toArray) :
    (∃ (v : Option Value) (vm₁ : Vm) (B : Pt), s.WarmedH vm₁ ∧ Stand p l e R s m args below meth c B.U B.locs B.cells B.slots ∧ Post ⟨T.setVm vm₁, locs, cells, slots⟩ argsL.toArray v B ∧
      ∀ target, Steps p.tables e below (B.U.setTop { g with pc := g.pc + 3, stack := v.toList ++ rest }) target → Steps p.tables e below (T.setTop g) target) ∨
    (∃ (q : Addr) (vm₁ : Vm) (B : Pt), s.WarmedH vm₁ ∧ Stand p l e R s m args below meth c B.U B.locs B.cells B.slots ∧ PostX ⟨T.setVm vm₁, locs, cells, slots⟩ argsL.toArray q B ∧
      Steps p.tables e below (T.setTop g) ((B.U.setTop { g with stack := rest }).pushFrame (.throwing q))) := by
  obtain ⟨mk, methM, cM, hnamed, hmethM, -, -, -, -, -, -, hsigM⟩ := Cond.codeWith_spec hcode
  have hstatic : methM.isStatic = true := Cond.static_spec hnamed hmethM hstat
  obtain ⟨kP, hkP, -⟩ := className_of_methodNamed hnamed
  have hinitP : kP.init = .initialized := Cond.initialized_spec (findClass_of_methodNamed hnamed) hkP hinit
  obtain ⟨vm₁, X₁, hstep₁⟩ := X.invokestatic hexec hown hlink hnamed hmethM hstatic hkP hinitP hy (g := g) hg (argsL := argsL) (rest := rest) (hlen _ hsigM) hstack hdg
  rcases hK m meth c ⟨T.setVm vm₁, locs, cells, slots⟩ { g with stack := rest } (.invokestatic index) mk argsL.toArray X₁ hg hsize hdg hW (X₁.named hnamed) (hpre vm₁ X₁.warmed) with ⟨v, B, X', hpost, hsteps⟩ | ⟨q, B, X', hpost, hsteps⟩
  · exact Or.inl ⟨v, vm₁, B, X₁.warmed, X', hpost, fun target h => hstep₁ _ fun acts => by rw [doInvoke_state]; exact hsteps.trans h⟩
  · exact Or.inr ⟨q, vm₁, B, X₁.warmed, X', hpost, hstep₁ _ fun acts => by rw [doInvoke_state]; exact hsteps⟩
theorem vx_callVW (X : Stand p l e R s m args below meth c T locs cells slots) (hexec : p.tables.exec = Jvm.exec) {own C : String} {index : Nat} {y : MethodName} {bytes : ByteArray} {maxL : Nat} {ret : Option FieldType} {hh : List (Nat × Nat × Nat × Nat)}
    (hown : s.vm.findClass own = some m.cls) (hlink : (Cond.methodLink own index y).before args s = true) (hinst : (Cond.instanceMethod y).before args s = true) (hsel : (Cond.selects C y y).before args s = true)
    (hcode : (Cond.codeWith y bytes maxL ret hh).before args s = true) (hy : y.cls ≠ "java/lang/invoke/MethodHandle" ∧ y.cls ≠ "java/lang/invoke/VarHandle")
    {W9 : Nat} {Pre : Pt → Array Value → Prop} {Post : Pt → Array Value → Option Value → Pt → Prop} (hK : Back l R p e below s args y 3 W9 Pre Post)
    {b : Addr} {cellB : Cell} (hcell : T.heap[b]? = some cellB) (hobj : cellB.vm.isStatics = false) (hcls : s.vm.findClass C = some cellB.cls)
    {g : JFrame} (hg : g.method = m) (hsize : g.locals.size = c.maxLocals) {argsL rest : List Value} (hlen : ∀ sig, parseMethodDescriptor y.desc = some sig → argsL.length = sig.parameters.length)
    (hstack : g.stack = argsL.reverse ++ .ref b :: rest) (hW : 2 * g.monitorRoom + (rest.map fun v => v.category).sum ≤ W9) (hdg : decode c.code g.pc = .ok (.invokevirtual index, 3))
    (hpre : ∀ vm₁, s.WarmedH vm₁ → Pre ⟨T.setVm vm₁, locs, cells, slots⟩ (Value.ref b :: argsL).toArray) :
    ∃ (v : Option Value) (vm₁ : Vm) (B : Pt), s.WarmedH vm₁ ∧ Stand p l e R s m args below meth c B.U B.locs B.cells B.slots ∧ Post ⟨T.setVm vm₁, locs, cells, slots⟩ (Value.ref b :: argsL).toArray v B ∧
      ∀ target, Steps p.tables e below (B.U.setTop { g with pc := g.pc + 3, stack := v.toList ++ rest }) target → Steps p.tables e below (T.setTop g) target := by
  obtain ⟨mk, methM, hnamed, hmethM, hstM, habM⟩ := Cond.instanceMethod_spec hinst
  obtain ⟨m8, methM', cM, hn8, hmethM', -, -, -, -, -, -, hsigM⟩ := Cond.codeWith_spec hcode
  cases Option.some.inj (hn8.symm.trans hnamed)
  cases hmethM.symm.trans hmethM'
  obtain ⟨c2, r2, m2, q1, q2, q3, q4, kP, hkP, hkPi⟩ := Cond.selects_spec hsel
  cases hcls.symm.trans q1
  cases (State.methodFound?_of_named hnamed hy).symm.trans q2
  cases hnamed.symm.trans q3
  have hselP : selectMethod e.platform s.vm cellB.cls mk = .method mk := by rw [Launch.admits_selectMethod X.admits]; exact q4
  obtain ⟨vm₁, X₁, hstep₁⟩ := X.invokevirtual hexec hown hlink hnamed hmethM hstM hkP hkPi hy (a := b) (cell := cellB) hcell
    (fun z h => by rw [h] at hobj; cases hobj) hselP hmethM habM hkP hkPi (g := g) hg (argsL := argsL) (rest := rest) (hlen _ hsigM) hstack hdg
  obtain ⟨v, B, X', hpost, hsteps⟩ := hK m meth c ⟨T.setVm vm₁, locs, cells, slots⟩ { g with stack := rest } (.invokevirtual index) mk (Value.ref b :: argsL).toArray X₁ hg hsize hdg hW (X₁.named hnamed) (hpre vm₁ X₁.warmed)
  exact ⟨v, vm₁, B, X₁.warmed, X', hpost, fun target h => hstep₁ _ fun acts => by rw [doInvoke_state]; exact hsteps.trans h⟩
abbrev vx_CVW (R : Room) (s : State) (args : Array Value) (own C : String) (index : Nat) (y : MethodName) (bytes : ByteArray) (maxL : Nat) (ret : Option FieldType) (hh : List (Nat × Nat × Nat × Nat)) (ws : List Cond) (rm : Room) (mc ms n : Nat) : Prop :=
  (rm.cells = mc ∧ rm.slots = ms ∧ rm.frames + 1 ≤ R.frames ∧ 8 + (maxL + 11) + rm.locals ≤ R.locals ∧ (∀ w ∈ ws, ∀ (a' : Array Value) (U : State), s.WarmedH U.vm → w.before a' U = true) ∧ Cond.codeWith y bytes maxL ret hh ∈ ws) ∧
  (Cond.codeWith y bytes maxL ret hh).before args s = true ∧ (Cond.initialized y.cls).before args s = true ∧ (y.cls ≠ "java/lang/invoke/MethodHandle" ∧ y.cls ≠ "java/lang/invoke/VarHandle") ∧
  (∀ sig, parseMethodDescriptor y.desc = some sig → n = sig.parameters.length) ∧ (Cond.methodLink own index y).before args s = true ∧ (Cond.instanceMethod y).before args s = true ∧ (Cond.selects C y y).before args s = true
theorem vx_runVW {y : MethodName} {bytes cc : ByteArray} {maxL nL mc ms n index : Nat} {ret : Option FieldType} {hh : List (Nat × Nat × Nat × Nat)} {ws : List Cond} {rm : Room} {Pc : Array Value → State → Prop} {Qc : Array Value → State → Outcome → State → Prop} {free : Addr → Prop} {Ts : List Cond} {own C : String} {b : Addr} {As rest : List Value} {g : JFrame}
    (S : CallFix p m c cc nL s args Ts own) (hM : Met l y ws rm Pc Qc mc ms free) (cw : vx_CVW R s args own C index y bytes maxL ret hh ws rm mc ms n) (hp : PreV s H C b Pc As)
    (hg : g.method = m) (hn : As.length = n) (hsize : g.locals.size = nL) (hstack : g.stack = As.reverse ++ .ref b :: rest) (hW : 2 * g.monitorRoom + (rest.map fun v => v.category).sum ≤ 8) (hdg : decode cc g.pc = .ok (.invokevirtual index, 3)) (hf : cells + mc ≤ R.cells ∧ slots + ms ≤ R.slots) :
    va_Run p l e R s m args below meth c H locs cells slots mc ms g rest (Qc (Value.ref b :: As).toArray) free := by
  obtain ⟨⟨hrc, hrs, hfr, hlo, hws, hcw⟩, hcode, hini, hy, hlen, hl, hin, hse⟩ := cw
  have hK : Back l R p e below s args y 3 8 (PreOf R mc ms Pc) (PostOf Qc mc ms free) := va_backW (hh := hh) (bytes := bytes) (maxL := maxL) (ret := ret) hM hp.1 hrc hrs hfr hlo hws hcw (fun a' U hW => word_at hW (Or.inl (by first | rfl | simp [Cond.onTables, Cond.keeps, Cond.steady])) hini)
  obtain ⟨hx, hb, hml, ho, -⟩ := S
  obtain ⟨-, ⟨cellB, hcB, hoB, hclB⟩, hPc⟩ := hp
  intro T hT X
  obtain ⟨v, vm₁, ⟨U', l2, c2, s2⟩, hW₁, X', ⟨g', mk, t, L, e1, e2, hq, h1, hL, h2, h3⟩, st⟩ := vx_callVW X hx (C := C) (hh := hh) (bytes := bytes) (maxL := maxL) (ret := ret) ho hl hin hse hcode hy hK (by rw [hT]; exact hcB) hoB hclB hg (hsize.trans hml.symm) (argsL := As) (rest := rest) (fun sig h => hn.trans (hlen sig h)) hstack hW (by rw [hb]; exact hdg)
    (fun vm₁ hW₁ => ⟨hf.1, hf.2, hPc (T.setVm vm₁) hT hW₁⟩)
  dsimp only [Pt.U, Pt.locs, Pt.cells, Pt.slots] at X' e1 e2 h1 h2 h3 st
  subst h1; subst h2; subst h3
  exact ⟨v, (T.setVm vm₁).calling g' mk (Value.ref b :: As).toArray, t, U', L, hT, X', hL, e1, e2, hq, st⟩
section
variable {y : MethodName} {bytes cc : ByteArray} {maxL nL mc ms n index : Nat} {ret : Option FieldType} {ws : List Cond} {rm : Room} {Pc : Array Value → State → Prop} {Qc : Array Value → State → Outcome → State → Prop} {XC : String → State → State → Prop} {free : Addr → Prop} {Ts : List Cond} {own C : String} {b : Addr} {As rest : List Value} {g : JFrame}
theorem vx_runVX {hh : List (Nat × Nat × Nat × Nat)} (S : CallFix p m c cc nL s args Ts own) (hM : vx_Met l y ws rm Pc Qc XC mc ms free) (cw : vx_CVW R s args own C index y bytes maxL ret hh ws rm mc ms n) (hp : PreV s H C b Pc As)
    (hg : g.method = m) (hn : As.length = n) (hsize : g.locals.size = nL) (hstack : g.stack = As.reverse ++ .ref b :: rest) (hW : 2 * g.monitorRoom + (rest.map fun v => v.category).sum ≤ 8) (hdg : decode cc g.pc = .ok (.invokevirtual index, 3)) (hf : cells + mc ≤ R.cells ∧ slots + ms ≤ R.slots) :
    vx_Run p l e R s m args below meth c H locs cells slots mc ms g rest (Qc (Value.ref b :: As).toArray) XC free := by
  obtain ⟨⟨hrc, hrs, hfr, hlo, hws, hcw⟩, hcode, hini, hy, hlen, hl, hin, hse⟩ := cw
  have hK : vx_Back l R p e below s args y 3 8 (PreOf R mc ms Pc) (PostOf Qc mc ms free) (vx_Post XC mc ms free) := vx_backW (hh := hh) (bytes := bytes) (maxL := maxL) (ret := ret) hM hp.1 hrc hrs hfr hlo hws hcw (fun a' U hW => word_at hW (Or.inl (by first | rfl | simp [Cond.onTables, Cond.keeps, Cond.steady])) hini)
  obtain ⟨hx, hb, hml, ho, -⟩ := S
  obtain ⟨-, ⟨cellB, hcB, hoB, hclB⟩, hPc⟩ := hp
  intro T hT X
  rcases vx_callVX X hx (C := C) (hh := hh) (bytes := bytes) (maxL := maxL) (ret := ret) ho hl hin hse hcode hy hK (by rw [hT]; exact hcB) hoB hclB hg (hsize.trans hml.symm) (argsL := As) (rest := rest) (fun sig h => hn.trans (hlen sig h)) hstack hW (by rw [hb]; exact hdg)
    (fun vm₁ hW₁ => ⟨hf.1, hf.2, hPc (T.setVm vm₁) hT hW₁⟩) with ⟨v, vm₁, ⟨U', l2, c2, s2⟩, hW₁, X', ⟨g', mk, t, L, e1, e2, hq, h1, hL, h2, h3⟩, st⟩ | ⟨q, vm₁, ⟨U', l2, c2, s2⟩, hW₁, X', ⟨g', mk, t, L, E, ce, e1, e2, hq, hce, hcv, hcl, h1, hL, h2, h3⟩, st⟩
  · dsimp only [Pt.U, Pt.locs, Pt.cells, Pt.slots] at X' e1 e2 h1 h2 h3 st
    subst h1; subst h2; subst h3
    exact Or.inl ⟨v, (T.setVm vm₁).calling g' mk (Value.ref b :: As).toArray, t, U', L, hT, X', hL, e1, e2, hq, st⟩
  · dsimp only [Pt.U, Pt.locs, Pt.cells, Pt.slots] at X' e1 e2 h1 h2 h3 st hcl
    subst h1; subst h2; subst h3
    exact Or.inr ⟨q, (T.setVm vm₁).calling g' mk (Value.ref b :: As).toArray, t, U', L, E, ce, hT, X', hL, e1, e2, hq, hce, hcv, vx_cls hW₁ hcl, st⟩
theorem vx_runSX {hh : List (Nat × Nat × Nat × Nat)} (S : CallFix p m c cc nL s args Ts own) (hM : vx_Met l y ws rm Pc Qc XC mc ms free) (cw : vx_CSW R s args own index y bytes maxL ret hh ws rm mc ms n) (hp : PreS s H Pc As)
    (hg : g.method = m) (hn : As.length = n) (hsize : g.locals.size = nL) (hstack : g.stack = As.reverse ++ rest) (hW : 2 * g.monitorRoom + (rest.map fun v => v.category).sum ≤ 8) (hdg : decode cc g.pc = .ok (.invokestatic index, 3)) (hf : cells + mc ≤ R.cells ∧ slots + ms ≤ R.slots) :
    vx_Run p l e R s m args below meth c H locs cells slots mc ms g rest (Qc As.toArray) XC free := by
  obtain ⟨⟨hrc, hrs, hfr, hlo, hws, hcw⟩, hcode, hini, hy, hlen, hl, hstt⟩ := cw
  have hK : vx_Back l R p e below s args y 3 8 (PreOf R mc ms Pc) (PostOf Qc mc ms free) (vx_Post XC mc ms free) := vx_backW (hh := hh) (bytes := bytes) (maxL := maxL) (ret := ret) hM hp.1 hrc hrs hfr hlo hws hcw (fun a' U hW => word_at hW (Or.inl (by first | rfl | simp [Cond.onTables, Cond.keeps, Cond.steady])) hini)
  obtain ⟨hx, hb, hml, ho, -⟩ := S
  intro T hT X
  rcases vx_callSX X hx (hh := hh) (bytes := bytes) (maxL := maxL) (ret := ret) ho hl hstt hini hcode hy hK hg (hsize.trans hml.symm) (argsL := As) (rest := rest) (fun sig h => hn.trans (hlen sig h)) hstack hW (by rw [hb]; exact hdg)
    (fun vm₁ hW₁ => ⟨hf.1, hf.2, hp.2 (T.setVm vm₁) hT hW₁⟩) with ⟨v, vm₁, ⟨U', l2, c2, s2⟩, hW₁, X', ⟨g', mk, t, L, e1, e2, hq, h1, hL, h2, h3⟩, st⟩ | ⟨q, vm₁, ⟨U', l2, c2, s2⟩, hW₁, X', ⟨g', mk, t, L, E, ce, e1, e2, hq, hce, hcv, hcl, h1, hL, h2, h3⟩, st⟩
  · dsimp only [Pt.U, Pt.locs, Pt.cells, Pt.slots] at X' e1 e2 h1 h2 h3 st
    subst h1; subst h2; subst h3
    exact Or.inl ⟨v, (T.setVm vm₁).calling g' mk As.toArray, t, U', L, hT, X', hL, e1, e2, hq, st⟩
  · dsimp only [Pt.U, Pt.locs, Pt.cells, Pt.slots] at X' e1 e2 h1 h2 h3 st hcl
    subst h1; subst h2; subst h3
    exact Or.inr ⟨q, (T.setVm vm₁).calling g' mk As.toArray, t, U', L, E, ce, hT, X', hL, e1, e2, hq, hce, hcv, vx_cls hW₁ hcl, st⟩
end
end VXH
theorem vx_ofWH {l : Launch} {y : MethodName} {ws ws' : List Cond} {rm : Room} {Pc : Array Value → State → Prop} {Qc : Array Value → State → Outcome → State → Prop} {XC : String → State → State → Prop} {mc ms : Nat} {free : Addr → Prop} {cc : ByteArray} {maxL : Nat} {ret : Option FieldType} {hh : List (Nat × Nat × Nat × Nat)}
    (hy : plainName y.cls = true) (hw : ws = Cond.codeWith y cc maxL ret hh :: ws')
    (body : ∀ p e s m args below meth c s₁, BodyLoose p l y (headSpec ws rm) cc maxL ret e s m args below meth c s₁ → c.maxLocals = maxL → Pc args s →
      W p l e (headSpec ws rm).room s m args below meth c s.heap [] 0 0 (vx_MQ below Qc XC args s mc ms free) (entryFrame m args maxL)) : vx_Met l y ws rm Pc Qc XC mc ms free := by
  refine MetFree.of_bodyS (code := cc) (maxLocals := maxL) (ret := ret) hy ?_ ?_
  · intro args s m h hn
    obtain ⟨m9, meth, c, hn9, h1, h2, h3, h4, -, h5, h6, -⟩ := Cond.codeWith_spec (atoms_spec (ws := ws) h _ (by rw [hw]; exact List.mem_cons_self))
    cases hn.symm.trans hn9
    exact ⟨meth, c, h1, h2, h3, h4, h5, h6⟩
  · intro p e s m args below meth c s₁ B hml hP _
    have hh0 : s₁.heap = s.heap := by rw [B.state]; rfl
    obtain ⟨t, a1, o, b1, b2, b3⟩ := body p e s m args below meth c s₁ B hml hP s₁ hh0 (Stand.of_body B)
    exact ⟨t, o, a1, b1, b2, b3⟩
/-! ===== END ===== -/

end
section
def RX0 : String := "TermBank$Core"
def TX0 : u_T := fun k => match k with
  | 0 => ("TermBank$Core", "terms", "LTermBank$Terms;", true)
  | 1 => ("TermBank$Core", "ledger", "LTermBank$Ledger;", true)
  | 2 => ("TermBank$Core", "undoRows", "[[I", true)
  | 3 => ("TermBank$Core", "before", "[I", true)
  | 4 => ("TermBank$Core", "status", "[I", true)
  | 5 => ("TermBank$Core", "firstAct", "I", false)
  | _ => ("TermBank$Core", "acts", "I", false)
theorem nmX0 : ∀ a, a < 7 → ∀ b, b < 7 → a ≠ b → (TX0 a).2.1 ≠ (TX0 b).2.1 := by decide +kernel
abbrev cX0_init : ByteArray := prog_2_method_1_code
def yX0_init : MethodName := ⟨RX0, "<init>", "(LTermBank$Terms;LTermBank$Ledger;)V"⟩
abbrev cX0_begin : ByteArray := prog_2_method_2_code
def yX0_begin : MethodName := ⟨RX0, "begin", "()V"⟩
abbrev cX0_keep : ByteArray := prog_2_method_3_code
def yX0_keep : MethodName := ⟨RX0, "keep", "()V"⟩
abbrev cX0_rollBack : ByteArray := prog_2_method_4_code
def yX0_rollBack : MethodName := ⟨RX0, "rollBack", "()V"⟩
abbrev cX0_takeBack : ByteArray := prog_2_method_5_code
def yX0_takeBack : MethodName := ⟨RX0, "takeBack", "([I)V"⟩
abbrev cX0_undoLast : ByteArray := prog_2_method_6_code
def yX0_undoLast : MethodName := ⟨RX0, "undoLast", "()I"⟩
abbrev cX0_forgetActs : ByteArray := prog_2_method_7_code
def yX0_forgetActs : MethodName := ⟨RX0, "forgetActs", "()V"⟩
abbrev cX0_takeFrom : ByteArray := prog_2_method_8_code
def yX0_takeFrom : MethodName := ⟨RX0, "takeFrom", "(LTermBank$Core;)V"⟩
def RX1 : String := "TermBank$Ledger"
def TX1 : u_T := fun k => match k with
  | _ => ("TermBank$Ledger", "cells", "[I", true)
theorem nmX1 : ∀ a, a < 1 → ∀ b, b < 1 → a ≠ b → (TX1 a).2.1 ≠ (TX1 b).2.1 := by decide +kernel
abbrev cX1_init : ByteArray := prog_3_method_1_code
def yX1_init : MethodName := ⟨RX1, "<init>", "()V"⟩
abbrev cX1_fillAnew : ByteArray := prog_3_method_2_code
def yX1_fillAnew : MethodName := ⟨RX1, "fillAnew", "([I)V"⟩
abbrev cX1_empty : ByteArray := prog_3_method_3_code
def yX1_empty : MethodName := ⟨RX1, "empty", "()V"⟩
abbrev cX1_takeFrom : ByteArray := prog_3_method_4_code
def yX1_takeFrom : MethodName := ⟨RX1, "takeFrom", "(LTermBank$Ledger;)V"⟩
abbrev cX1_addRule : ByteArray := prog_3_method_5_code
def yX1_addRule : MethodName := ⟨RX1, "addRule", "(II)V"⟩
abbrev cX1_tellRoom : ByteArray := prog_3_method_6_code
def yX1_tellRoom : MethodName := ⟨RX1, "tellRoom", "(I)V"⟩
abbrev cX1_entryOf : ByteArray := prog_3_method_7_code
def yX1_entryOf : MethodName := ⟨RX1, "entryOf", "(I)I"⟩
abbrev cX1_addEntry : ByteArray := prog_3_method_8_code
def yX1_addEntry : MethodName := ⟨RX1, "addEntry", "(I)V"⟩
abbrev cX1_dropEntry : ByteArray := prog_3_method_9_code
def yX1_dropEntry : MethodName := ⟨RX1, "dropEntry", "(I)V"⟩
abbrev cX1_recalled : ByteArray := prog_3_method_10_code
def yX1_recalled : MethodName := ⟨RX1, "recalled", "(I)I"⟩
abbrev cX1_remember : ByteArray := prog_3_method_11_code
def yX1_remember : MethodName := ⟨RX1, "remember", "(II)V"⟩
abbrev cX1_addMemo : ByteArray := prog_3_method_12_code
def yX1_addMemo : MethodName := ⟨RX1, "addMemo", "(II)V"⟩
abbrev cX1_dropMemo : ByteArray := prog_3_method_13_code
def yX1_dropMemo : MethodName := ⟨RX1, "dropMemo", "(I)V"⟩
def RX2 : String := "TermBank$Maker"
def TX2 : u_T := fun k => match k with
  | 0 => ("TermBank$Maker", "terms", "LTermBank$Terms;", true)
  | 1 => ("TermBank$Maker", "closedTerms", "[I", true)
  | 2 => ("TermBank$Maker", "coupleFirst", "[I", true)
  | 3 => ("TermBank$Maker", "coupleSecond", "[I", true)
  | 4 => ("TermBank$Maker", "couples", "I", false)
  | _ => ("TermBank$Maker", "seed", "I", false)
theorem nmX2 : ∀ a, a < 6 → ∀ b, b < 6 → a ≠ b → (TX2 a).2.1 ≠ (TX2 b).2.1 := by decide +kernel
abbrev cX2_init : ByteArray := prog_4_method_1_code
def yX2_init : MethodName := ⟨RX2, "<init>", "(LTermBank$Terms;)V"⟩
abbrev cX2_applied : ByteArray := prog_4_method_2_code
def yX2_applied : MethodName := ⟨RX2, "applied", "(I[II)I"⟩
abbrev cX2_appliedPart : ByteArray := prog_4_method_3_code
def yX2_appliedPart : MethodName := ⟨RX2, "appliedPart", "(I[III)I"⟩
abbrev cX2_hasRing : ByteArray := prog_4_method_4_code
def yX2_hasRing : MethodName := ⟨RX2, "hasRing", "(I[II)Z"⟩
abbrev cX2_reachedFrom : ByteArray := prog_4_method_5_code
def yX2_reachedFrom : MethodName := ⟨RX2, "reachedFrom", "(I[II)I"⟩
abbrev cX2_closed : ByteArray := prog_4_method_6_code
def yX2_closed : MethodName := ⟨RX2, "closed", "(I[II)I"⟩
abbrev cX2_closedPart : ByteArray := prog_4_method_7_code
def yX2_closedPart : MethodName := ⟨RX2, "closedPart", "(I[III)I"⟩
abbrev cX2_closedVariable : ByteArray := prog_4_method_8_code
def yX2_closedVariable : MethodName := ⟨RX2, "closedVariable", "(I[III)I"⟩
abbrev cX2_replaced : ByteArray := prog_4_method_9_code
def yX2_replaced : MethodName := ⟨RX2, "replaced", "(III)I"⟩
abbrev cX2_replacedPart : ByteArray := prog_4_method_10_code
def yX2_replacedPart : MethodName := ⟨RX2, "replacedPart", "(IIII)I"⟩
abbrev cX2_haveCommon : ByteArray := prog_4_method_11_code
def yX2_haveCommon : MethodName := ⟨RX2, "haveCommon", "(II)Z"⟩
abbrev cX2_couple : ByteArray := prog_4_method_12_code
def yX2_couple : MethodName := ⟨RX2, "couple", "(III)Z"⟩
abbrev cX2_addCouple : ByteArray := prog_4_method_13_code
def yX2_addCouple : MethodName := ⟨RX2, "addCouple", "(II)Z"⟩
abbrev cX2_coupleOf : ByteArray := prog_4_method_14_code
def yX2_coupleOf : MethodName := ⟨RX2, "coupleOf", "(II)I"⟩
abbrev cX2_commonOf : ByteArray := prog_4_method_15_code
def yX2_commonOf : MethodName := ⟨RX2, "commonOf", "(II)I"⟩
abbrev cX2_commonPart : ByteArray := prog_4_method_16_code
def yX2_commonPart : MethodName := ⟨RX2, "commonPart", "(III)I"⟩
abbrev cX2_drawn : ByteArray := prog_4_method_17_code
def yX2_drawn : MethodName := ⟨RX2, "drawn", "(I)I"⟩
abbrev cX2_drawnPart : ByteArray := prog_4_method_18_code
def yX2_drawnPart : MethodName := ⟨RX2, "drawnPart", "(I)I"⟩
abbrev cX2_drawOf : ByteArray := prog_4_method_19_code
def yX2_drawOf : MethodName := ⟨RX2, "drawOf", "(I)I"⟩
def RX3 : String := "TermBank$Matcher"
def TX3 : u_T := fun k => match k with
  | 0 => ("TermBank$Matcher", "terms", "LTermBank$Terms;", true)
  | _ => ("TermBank$Matcher", "got", "[I", true)
theorem nmX3 : ∀ a, a < 2 → ∀ b, b < 2 → a ≠ b → (TX3 a).2.1 ≠ (TX3 b).2.1 := by decide +kernel
abbrev cX3_init : ByteArray := prog_5_method_1_code
def yX3_init : MethodName := ⟨RX3, "<init>", "(LTermBank$Terms;)V"⟩
abbrev cX3_matches : ByteArray := prog_5_method_2_code
def yX3_matches : MethodName := ⟨RX3, "matches", "(II)Z"⟩
abbrev cX3_fitsPart : ByteArray := prog_5_method_3_code
def yX3_fitsPart : MethodName := ⟨RX3, "fitsPart", "(III)Z"⟩
abbrev cX3_takes : ByteArray := prog_5_method_4_code
def yX3_takes : MethodName := ⟨RX3, "takes", "(II)Z"⟩
def RX4 : String := "TermBank$Ordering"
def TX4 : u_T := fun k => match k with
  | 0 => ("TermBank$Ordering", "terms", "LTermBank$Terms;", true)
  | 1 => ("TermBank$Ordering", "balance", "[I", true)
  | 2 => ("TermBank$Ordering", "weight", "I", false)
  | 3 => ("TermBank$Ordering", "triedSymbol", "I", false)
  | _ => ("TermBank$Ordering", "triedWeight", "I", false)
theorem nmX4 : ∀ a, a < 5 → ∀ b, b < 5 → a ≠ b → (TX4 a).2.1 ≠ (TX4 b).2.1 := by decide +kernel
abbrev cX4_init : ByteArray := prog_6_method_1_code
def yX4_init : MethodName := ⟨RX4, "<init>", "(LTermBank$Terms;)V"⟩
abbrev cX4_tryWeight : ByteArray := prog_6_method_2_code
def yX4_tryWeight : MethodName := ⟨RX4, "tryWeight", "(II)V"⟩
abbrev cX4_tryNothing : ByteArray := prog_6_method_3_code
def yX4_tryNothing : MethodName := ⟨RX4, "tryNothing", "()V"⟩
abbrev cX4_isGreater : ByteArray := prog_6_method_4_code
def yX4_isGreater : MethodName := ⟨RX4, "isGreater", "(II)Z"⟩
abbrev cX4_weighBoth : ByteArray := prog_6_method_5_code
def yX4_weighBoth : MethodName := ⟨RX4, "weighBoth", "(II)V"⟩
abbrev cX4_weigh : ByteArray := prog_6_method_6_code
def yX4_weigh : MethodName := ⟨RX4, "weigh", "(III)V"⟩
abbrev cX4_lacksVariable : ByteArray := prog_6_method_7_code
def yX4_lacksVariable : MethodName := ⟨RX4, "lacksVariable", "()Z"⟩
abbrev cX4_firstUnlike : ByteArray := prog_6_method_8_code
def yX4_firstUnlike : MethodName := ⟨RX4, "firstUnlike", "(II)I"⟩
def RX5 : String := "TermBank$Reader"
def TX5 : u_T := fun k => match k with
  | 0 => ("TermBank$Reader", "tape", "[I", true)
  | 1 => ("TermBank$Reader", "core", "LTermBank$Core;", true)
  | 2 => ("TermBank$Reader", "symbols", "LTermBank$Symbols;", true)
  | 3 => ("TermBank$Reader", "rulebook", "LTermBank$Rulebook;", true)
  | 4 => ("TermBank$Reader", "length", "I", false)
  | 5 => ("TermBank$Reader", "kind", "I", false)
  | 6 => ("TermBank$Reader", "start", "I", false)
  | 7 => ("TermBank$Reader", "end", "I", false)
  | 8 => ("TermBank$Reader", "fault", "I", false)
  | 9 => ("TermBank$Reader", "faultAt", "I", false)
  | _ => ("TermBank$Reader", "roomTold", "Z", false)
theorem nmX5 : ∀ a, a < 11 → ∀ b, b < 11 → a ≠ b → (TX5 a).2.1 ≠ (TX5 b).2.1 := by decide +kernel
abbrev cX5_init : ByteArray := prog_7_method_1_code
def yX5_init : MethodName := ⟨RX5, "<init>", "([ILTermBank$Core;LTermBank$Rulebook;)V"⟩
abbrev cX5_faultPlace : ByteArray := prog_7_method_2_code
def yX5_faultPlace : MethodName := ⟨RX5, "faultPlace", "()I"⟩
abbrev cX5_readBank : ByteArray := prog_7_method_3_code
def yX5_readBank : MethodName := ⟨RX5, "readBank", "(I)I"⟩
abbrev cX5_next : ByteArray := prog_7_method_4_code
def yX5_next : MethodName := ⟨RX5, "next", "()V"⟩
abbrev cX5_kindOf : ByteArray := prog_7_method_5_code
def yX5_kindOf : MethodName := ⟨RX5, "kindOf", "(I)I"⟩
abbrev cX5_fail : ByteArray := prog_7_method_6_code
def yX5_fail : MethodName := ⟨RX5, "fail", "(I)I"⟩
abbrev cX5_isWord : ByteArray := prog_7_method_7_code
def yX5_isWord : MethodName := ⟨RX5, "isWord", "(Ljava/lang/String;)Z"⟩
abbrev cX5_pass : ByteArray := prog_7_method_8_code
def yX5_pass : MethodName := ⟨RX5, "pass", "(I)V"⟩
abbrev cX5_readLoneTerm : ByteArray := prog_7_method_9_code
def yX5_readLoneTerm : MethodName := ⟨RX5, "readLoneTerm", "()V"⟩
abbrev cX5_readSymbol : ByteArray := prog_7_method_10_code
def yX5_readSymbol : MethodName := ⟨RX5, "readSymbol", "()V"⟩
abbrev cX5_readNewName : ByteArray := prog_7_method_11_code
def yX5_readNewName : MethodName := ⟨RX5, "readNewName", "()I"⟩
abbrev cX5_readNumber : ByteArray := prog_7_method_12_code
def yX5_readNumber : MethodName := ⟨RX5, "readNumber", "(II)I"⟩
abbrev cX5_readRule : ByteArray := prog_7_method_13_code
def yX5_readRule : MethodName := ⟨RX5, "readRule", "()V"⟩
abbrev cX5_passTo : ByteArray := prog_7_method_14_code
def yX5_passTo : MethodName := ⟨RX5, "passTo", "()V"⟩
abbrev cX5_readEntry : ByteArray := prog_7_method_15_code
def yX5_readEntry : MethodName := ⟨RX5, "readEntry", "()V"⟩
abbrev cX5_readRoom : ByteArray := prog_7_method_16_code
def yX5_readRoom : MethodName := ⟨RX5, "readRoom", "()V"⟩
abbrev cX5_readTerm : ByteArray := prog_7_method_17_code
def yX5_readTerm : MethodName := ⟨RX5, "readTerm", "(I)I"⟩
abbrev cX5_readVariable : ByteArray := prog_7_method_18_code
def yX5_readVariable : MethodName := ⟨RX5, "readVariable", "()I"⟩
abbrev cX5_readCompound : ByteArray := prog_7_method_19_code
def yX5_readCompound : MethodName := ⟨RX5, "readCompound", "(I)I"⟩
abbrev cX5_readArgument : ByteArray := prog_7_method_20_code
def yX5_readArgument : MethodName := ⟨RX5, "readArgument", "(II)I"⟩
abbrev cX5_held : ByteArray := prog_7_method_21_code
def yX5_held : MethodName := ⟨RX5, "held", "(I)I"⟩
def RX6 : String := "TermBank$Rewriter"
def TX6 : u_T := fun k => match k with
  | 0 => ("TermBank$Rewriter", "core", "LTermBank$Core;", true)
  | 1 => ("TermBank$Rewriter", "terms", "LTermBank$Terms;", true)
  | 2 => ("TermBank$Rewriter", "matcher", "LTermBank$Matcher;", true)
  | 3 => ("TermBank$Rewriter", "maker", "LTermBank$Maker;", true)
  | 4 => ("TermBank$Rewriter", "asked", "[I", true)
  | 5 => ("TermBank$Rewriter", "stages", "[I", true)
  | 6 => ("TermBank$Rewriter", "parts", "[I", true)
  | 7 => ("TermBank$Rewriter", "height", "I", false)
  | _ => ("TermBank$Rewriter", "stepsLeft", "I", false)
theorem nmX6 : ∀ a, a < 9 → ∀ b, b < 9 → a ≠ b → (TX6 a).2.1 ≠ (TX6 b).2.1 := by decide +kernel
abbrev cX6_init : ByteArray := prog_8_method_1_code
def yX6_init : MethodName := ⟨RX6, "<init>", "(LTermBank$Core;LTermBank$Matcher;LTermBank$Maker;)V"⟩
abbrev cX6_allowSteps : ByteArray := prog_8_method_2_code
def yX6_allowSteps : MethodName := ⟨RX6, "allowSteps", "()V"⟩
abbrev cX6_normalOf : ByteArray := prog_8_method_3_code
def yX6_normalOf : MethodName := ⟨RX6, "normalOf", "(I)I"⟩
abbrev cX6_opened : ByteArray := prog_8_method_4_code
def yX6_opened : MethodName := ⟨RX6, "opened", "(I)I"⟩
abbrev cX6_wentOn : ByteArray := prog_8_method_5_code
def yX6_wentOn : MethodName := ⟨RX6, "wentOn", "(I)I"⟩
abbrev cX6_countStep : ByteArray := prog_8_method_6_code
def yX6_countStep : MethodName := ⟨RX6, "countStep", "(I)V"⟩
abbrev cX6_handed : ByteArray := prog_8_method_7_code
def yX6_handed : MethodName := ⟨RX6, "handed", "(II)I"⟩
abbrev cX6_closedWith : ByteArray := prog_8_method_8_code
def yX6_closedWith : MethodName := ⟨RX6, "closedWith", "(II)I"⟩
def RX7 : String := "TermBank$Rulebook"
def TX7 : u_T := fun k => match k with
  | 0 => ("TermBank$Rulebook", "core", "LTermBank$Core;", true)
  | 1 => ("TermBank$Rulebook", "terms", "LTermBank$Terms;", true)
  | 2 => ("TermBank$Rulebook", "matcher", "LTermBank$Matcher;", true)
  | 3 => ("TermBank$Rulebook", "unifier", "LTermBank$Unifier;", true)
  | _ => ("TermBank$Rulebook", "ordering", "LTermBank$Ordering;", true)
theorem nmX7 : ∀ a, a < 5 → ∀ b, b < 5 → a ≠ b → (TX7 a).2.1 ≠ (TX7 b).2.1 := by decide +kernel
abbrev cX7_init : ByteArray := prog_9_method_1_code
def yX7_init : MethodName := ⟨RX7, "<init>", "(LTermBank$Core;LTermBank$Matcher;LTermBank$Unifier;LTermBank$Ordering;)V"⟩
abbrev cX7_compared : ByteArray := prog_9_method_2_code
def yX7_compared : MethodName := ⟨RX7, "compared", "(II)I"⟩
abbrev cX7_isRule : ByteArray := prog_9_method_3_code
def yX7_isRule : MethodName := ⟨RX7, "isRule", "(II)Z"⟩
abbrev cX7_fits : ByteArray := prog_9_method_4_code
def yX7_fits : MethodName := ⟨RX7, "fits", "(I)I"⟩
abbrev cX7_leastFit : ByteArray := prog_9_method_5_code
def yX7_leastFit : MethodName := ⟨RX7, "leastFit", "(I)I"⟩
abbrev cX7_fitsBy : ByteArray := prog_9_method_6_code
def yX7_fitsBy : MethodName := ⟨RX7, "fitsBy", "(II)Z"⟩
abbrev cX7_meetings : ByteArray := prog_9_method_7_code
def yX7_meetings : MethodName := ⟨RX7, "meetings", "()I"⟩
abbrev cX7_firstMeeting : ByteArray := prog_9_method_8_code
def yX7_firstMeeting : MethodName := ⟨RX7, "firstMeeting", "()I"⟩
abbrev cX7_leftOf : ByteArray := prog_9_method_9_code
def yX7_leftOf : MethodName := ⟨RX7, "leftOf", "(I)I"⟩
abbrev cX7_meet : ByteArray := prog_9_method_10_code
def yX7_meet : MethodName := ⟨RX7, "meet", "(III)Z"⟩
abbrev cX7_found : ByteArray := prog_9_method_11_code
def yX7_found : MethodName := ⟨RX7, "found", "(II)I"⟩
abbrev cX7_isFound : ByteArray := prog_9_method_12_code
def yX7_isFound : MethodName := ⟨RX7, "isFound", "(III)Z"⟩
abbrev cX7_firstRule : ByteArray := prog_9_method_13_code
def yX7_firstRule : MethodName := ⟨RX7, "firstRule", "(LTermBank$Ledger;LTermBank$Matcher;I)I"⟩
abbrev cX7_isReduced : ByteArray := prog_9_method_14_code
def yX7_isReduced : MethodName := ⟨RX7, "isReduced", "(I)Z"⟩
def RX8 : String := "TermBank$Symbols"
def TX8 : u_T := fun k => match k with
  | 0 => ("TermBank$Symbols", "names", "[I", true)
  | 1 => ("TermBank$Symbols", "arities", "[I", true)
  | 2 => ("TermBank$Symbols", "weights", "[I", true)
  | _ => ("TermBank$Symbols", "told", "I", false)
theorem nmX8 : ∀ a, a < 4 → ∀ b, b < 4 → a ≠ b → (TX8 a).2.1 ≠ (TX8 b).2.1 := by decide +kernel
abbrev cX8_init : ByteArray := prog_10_method_1_code
def yX8_init : MethodName := ⟨RX8, "<init>", "()V"⟩
abbrev cX8_has : ByteArray := prog_10_method_2_code
def yX8_has : MethodName := ⟨RX8, "has", "(I)Z"⟩
abbrev cX8_empty : ByteArray := prog_10_method_3_code
def yX8_empty : MethodName := ⟨RX8, "empty", "()V"⟩
abbrev cX8_add : ByteArray := prog_10_method_4_code
def yX8_add : MethodName := ⟨RX8, "add", "(III)V"⟩
abbrev cX8_named : ByteArray := prog_10_method_5_code
def yX8_named : MethodName := ⟨RX8, "named", "(I)I"⟩
abbrev cX8_takeFrom : ByteArray := prog_10_method_6_code
def yX8_takeFrom : MethodName := ⟨RX8, "takeFrom", "(LTermBank$Symbols;)V"⟩
def RX9 : String := "TermBank$Terms"
def TX9 : u_T := fun k => match k with
  | 0 => ("TermBank$Terms", "symbols", "LTermBank$Symbols;", true)
  | 1 => ("TermBank$Terms", "heads", "[I", true)
  | 2 => ("TermBank$Terms", "arities", "[I", true)
  | 3 => ("TermBank$Terms", "arguments", "[I", true)
  | 4 => ("TermBank$Terms", "sizes", "[I", true)
  | 5 => ("TermBank$Terms", "weights", "[I", true)
  | 6 => ("TermBank$Terms", "depths", "[I", true)
  | 7 => ("TermBank$Terms", "variables", "[I", true)
  | 8 => ("TermBank$Terms", "shapes", "[I", true)
  | 9 => ("TermBank$Terms", "chains", "[I", true)
  | 10 => ("TermBank$Terms", "buckets", "[I", true)
  | 11 => ("TermBank$Terms", "marks", "[I", true)
  | _ => ("TermBank$Terms", "there", "I", false)
theorem nmX9 : ∀ a, a < 13 → ∀ b, b < 13 → a ≠ b → (TX9 a).2.1 ≠ (TX9 b).2.1 := by decide +kernel
abbrev cX9_init : ByteArray := prog_11_method_1_code
def yX9_init : MethodName := ⟨RX9, "<init>", "(LTermBank$Symbols;)V"⟩
abbrev cX9_has : ByteArray := prog_11_method_2_code
def yX9_has : MethodName := ⟨RX9, "has", "(I)Z"⟩
abbrev cX9_isVariable : ByteArray := prog_11_method_3_code
def yX9_isVariable : MethodName := ⟨RX9, "isVariable", "(I)Z"⟩
abbrev cX9_argumentOf : ByteArray := prog_11_method_4_code
def yX9_argumentOf : MethodName := ⟨RX9, "argumentOf", "(II)I"⟩
abbrev cX9_empty : ByteArray := prog_11_method_5_code
def yX9_empty : MethodName := ⟨RX9, "empty", "()V"⟩
abbrev cX9_variableTerm : ByteArray := prog_11_method_6_code
def yX9_variableTerm : MethodName := ⟨RX9, "variableTerm", "(I)I"⟩
abbrev cX9_made : ByteArray := prog_11_method_7_code
def yX9_made : MethodName := ⟨RX9, "made", "(IIII)I"⟩
abbrev cX9_bucketOf : ByteArray := prog_11_method_8_code
def yX9_bucketOf : MethodName := ⟨RX9, "bucketOf", "(I)I"⟩
abbrev cX9_isSame : ByteArray := prog_11_method_9_code
def yX9_isSame : MethodName := ⟨RX9, "isSame", "(II)Z"⟩
abbrev cX9_hasShapeOf : ByteArray := prog_11_method_10_code
def yX9_hasShapeOf : MethodName := ⟨RX9, "hasShapeOf", "(II)Z"⟩
abbrev cX9_measure : ByteArray := prog_11_method_11_code
def yX9_measure : MethodName := ⟨RX9, "measure", "(I)V"⟩
abbrev cX9_cutTo : ByteArray := prog_11_method_12_code
def yX9_cutTo : MethodName := ⟨RX9, "cutTo", "(I)V"⟩
abbrev cX9_hasPlace : ByteArray := prog_11_method_13_code
def yX9_hasPlace : MethodName := ⟨RX9, "hasPlace", "(II)Z"⟩
abbrev cX9_inPlace : ByteArray := prog_11_method_14_code
def yX9_inPlace : MethodName := ⟨RX9, "inPlace", "(II)I"⟩
abbrev cX9_argumentAtPlace : ByteArray := prog_11_method_15_code
def yX9_argumentAtPlace : MethodName := ⟨RX9, "argumentAtPlace", "(II)I"⟩
abbrev cX9_placeInArgument : ByteArray := prog_11_method_16_code
def yX9_placeInArgument : MethodName := ⟨RX9, "placeInArgument", "(III)I"⟩
abbrev cX9_markParts : ByteArray := prog_11_method_17_code
def yX9_markParts : MethodName := ⟨RX9, "markParts", "(I)V"⟩
abbrev cX9_shared : ByteArray := prog_11_method_18_code
def yX9_shared : MethodName := ⟨RX9, "shared", "(I)I"⟩
abbrev cX9_users : ByteArray := prog_11_method_19_code
def yX9_users : MethodName := ⟨RX9, "users", "(I)I"⟩
abbrev cX9_unlikeShapes : ByteArray := prog_11_method_20_code
def yX9_unlikeShapes : MethodName := ⟨RX9, "unlikeShapes", "()I"⟩
abbrev cX9_takeFrom : ByteArray := prog_11_method_21_code
def yX9_takeFrom : MethodName := ⟨RX9, "takeFrom", "(LTermBank$Terms;)V"⟩
def RX10 : String := "TermBank$Unifier"
def TX10 : u_T := fun k => match k with
  | 0 => ("TermBank$Unifier", "terms", "LTermBank$Terms;", true)
  | 1 => ("TermBank$Unifier", "rounds", "[I", true)
  | 2 => ("TermBank$Unifier", "parents", "[I", true)
  | 3 => ("TermBank$Unifier", "solid", "[I", true)
  | 4 => ("TermBank$Unifier", "least", "[I", true)
  | 5 => ("TermBank$Unifier", "solved", "[I", true)
  | 6 => ("TermBank$Unifier", "pairFirst", "[I", true)
  | 7 => ("TermBank$Unifier", "pairSecond", "[I", true)
  | 8 => ("TermBank$Unifier", "listed", "[I", true)
  | 9 => ("TermBank$Unifier", "uses", "[I", true)
  | 10 => ("TermBank$Unifier", "round", "I", false)
  | _ => ("TermBank$Unifier", "pairs", "I", false)
theorem nmX10 : ∀ a, a < 12 → ∀ b, b < 12 → a ≠ b → (TX10 a).2.1 ≠ (TX10 b).2.1 := by decide +kernel
abbrev cX10_init : ByteArray := prog_12_method_1_code
def yX10_init : MethodName := ⟨RX10, "<init>", "(LTermBank$Terms;)V"⟩
abbrev cX10_wayOf : ByteArray := prog_12_method_2_code
def yX10_wayOf : MethodName := ⟨RX10, "wayOf", "(III)I"⟩
abbrev cX10_addPair : ByteArray := prog_12_method_3_code
def yX10_addPair : MethodName := ⟨RX10, "addPair", "(II)V"⟩
abbrev cX10_termOf : ByteArray := prog_12_method_4_code
def yX10_termOf : MethodName := ⟨RX10, "termOf", "(I)I"⟩
abbrev cX10_sideOf : ByteArray := prog_12_method_5_code
def yX10_sideOf : MethodName := ⟨RX10, "sideOf", "(I)I"⟩
abbrev cX10_partOf : ByteArray := prog_12_method_6_code
def yX10_partOf : MethodName := ⟨RX10, "partOf", "(II)I"⟩
abbrev cX10_topOf : ByteArray := prog_12_method_7_code
def yX10_topOf : MethodName := ⟨RX10, "topOf", "(I)I"⟩
abbrev cX10_wake : ByteArray := prog_12_method_8_code
def yX10_wake : MethodName := ⟨RX10, "wake", "(I)V"⟩
abbrev cX10_joined : ByteArray := prog_12_method_9_code
def yX10_joined : MethodName := ⟨RX10, "joined", "(II)Z"⟩
abbrev cX10_lesser : ByteArray := prog_12_method_10_code
def yX10_lesser : MethodName := ⟨RX10, "lesser", "(II)I"⟩
abbrev cX10_takenAway : ByteArray := prog_12_method_11_code
def yX10_takenAway : MethodName := ⟨RX10, "takenAway", "(I)I"⟩
abbrev cX10_listAll : ByteArray := prog_12_method_12_code
def yX10_listAll : MethodName := ⟨RX10, "listAll", "(I)I"⟩
abbrev cX10_bindAll : ByteArray := prog_12_method_13_code
def yX10_bindAll : MethodName := ⟨RX10, "bindAll", "(I[II)I"⟩
abbrev cX10_boundOf : ByteArray := prog_12_method_14_code
def yX10_boundOf : MethodName := ⟨RX10, "boundOf", "(I)I"⟩
abbrev cX10_solvedClass : ByteArray := prog_12_method_15_code
def yX10_solvedClass : MethodName := ⟨RX10, "solvedClass", "(II)I"⟩
abbrev cX10_solvedTerm : ByteArray := prog_12_method_16_code
def yX10_solvedTerm : MethodName := ⟨RX10, "solvedTerm", "(II)I"⟩
def RX11 : String := "TermBank"
def TX11 : u_T := fun k => match k with
  | 0 => ("TermBank", "symbols", "LTermBank$Symbols;", true)
  | 1 => ("TermBank", "core", "LTermBank$Core;", true)
  | 2 => ("TermBank", "kept", "LTermBank$Core;", true)
  | 3 => ("TermBank", "spareSymbols", "LTermBank$Symbols;", true)
  | 4 => ("TermBank", "spareTerms", "LTermBank$Terms;", true)
  | 5 => ("TermBank", "spareLedger", "LTermBank$Ledger;", true)
  | 6 => ("TermBank", "matcher", "LTermBank$Matcher;", true)
  | 7 => ("TermBank", "maker", "LTermBank$Maker;", true)
  | 8 => ("TermBank", "unifier", "LTermBank$Unifier;", true)
  | 9 => ("TermBank", "rulebook", "LTermBank$Rulebook;", true)
  | 10 => ("TermBank", "rewriter", "LTermBank$Rewriter;", true)
  | 11 => ("TermBank", "reader", "LTermBank$Reader;", true)
  | 12 => ("TermBank", "tape", "[I", true)
  | 13 => ("TermBank", "taped", "I", false)
  | 14 => ("TermBank", "faultPlace", "I", false)
  | _ => ("TermBank", "hasImage", "Z", false)
theorem nmX11 : ∀ a, a < 16 → ∀ b, b < 16 → a ≠ b → (TX11 a).2.1 ≠ (TX11 b).2.1 := by decide +kernel
abbrev cX11_init : ByteArray := prog_1_method_1_code
def yX11_init : MethodName := ⟨RX11, "<init>", "()V"⟩
abbrev cX11_feed : ByteArray := prog_1_method_2_code
def yX11_feed : MethodName := ⟨RX11, "feed", "(IIIII)I"⟩
abbrev cX11_tapeNumber : ByteArray := prog_1_method_3_code
def yX11_tapeNumber : MethodName := ⟨RX11, "tapeNumber", "(I)V"⟩
abbrev cX11_bank : ByteArray := prog_1_method_4_code
def yX11_bank : MethodName := ⟨RX11, "bank", "(I)I"⟩
abbrev cX11_setAside : ByteArray := prog_1_method_5_code
def yX11_setAside : MethodName := ⟨RX11, "setAside", "()V"⟩
abbrev cX11_startAnew : ByteArray := prog_1_method_6_code
def yX11_startAnew : MethodName := ⟨RX11, "startAnew", "()V"⟩
abbrev cX11_takeBack : ByteArray := prog_1_method_7_code
def yX11_takeBack : MethodName := ⟨RX11, "takeBack", "()V"⟩
abbrev cX11_fault : ByteArray := prog_1_method_8_code
def yX11_fault : MethodName := ⟨RX11, "fault", "()I"⟩
abbrev cX11_count : ByteArray := prog_1_method_9_code
def yX11_count : MethodName := ⟨RX11, "count", "(I)I"⟩
abbrev cX11_symbol : ByteArray := prog_1_method_10_code
def yX11_symbol : MethodName := ⟨RX11, "symbol", "(II)I"⟩
abbrev cX11_term : ByteArray := prog_1_method_11_code
def yX11_term : MethodName := ⟨RX11, "term", "(II)I"⟩
abbrev cX11_argument : ByteArray := prog_1_method_12_code
def yX11_argument : MethodName := ⟨RX11, "argument", "(II)I"⟩
abbrev cX11_place : ByteArray := prog_1_method_13_code
def yX11_place : MethodName := ⟨RX11, "place", "(II)I"⟩
abbrev cX11_order : ByteArray := prog_1_method_14_code
def yX11_order : MethodName := ⟨RX11, "order", "(II)I"⟩
abbrev cX11_find : ByteArray := prog_1_method_15_code
def yX11_find : MethodName := ⟨RX11, "find", "(II)I"⟩
abbrev cX11_rule : ByteArray := prog_1_method_16_code
def yX11_rule : MethodName := ⟨RX11, "rule", "(II)I"⟩
abbrev cX11_entry : ByteArray := prog_1_method_17_code
def yX11_entry : MethodName := ⟨RX11, "entry", "(I)I"⟩
abbrev cX11_memo : ByteArray := prog_1_method_18_code
def yX11_memo : MethodName := ⟨RX11, "memo", "(II)I"⟩
abbrev cX11_bound : ByteArray := prog_1_method_19_code
def yX11_bound : MethodName := ⟨RX11, "bound", "(I)I"⟩
abbrev cX11_variable : ByteArray := prog_1_method_20_code
def yX11_variable : MethodName := ⟨RX11, "variable", "(I)I"⟩
abbrev cX11_make : ByteArray := prog_1_method_21_code
def yX11_make : MethodName := ⟨RX11, "make", "(IIII)I"⟩
abbrev cX11_haveArguments : ByteArray := prog_1_method_22_code
def yX11_haveArguments : MethodName := ⟨RX11, "haveArguments", "(IIII)Z"⟩
abbrev cX11_bind : ByteArray := prog_1_method_23_code
def yX11_bind : MethodName := ⟨RX11, "bind", "(II)I"⟩
abbrev cX11_apply : ByteArray := prog_1_method_24_code
def yX11_apply : MethodName := ⟨RX11, "apply", "(I)I"⟩
abbrev cX11_close : ByteArray := prog_1_method_25_code
def yX11_close : MethodName := ⟨RX11, "close", "(I)I"⟩
abbrev cX11_unify : ByteArray := prog_1_method_26_code
def yX11_unify : MethodName := ⟨RX11, "unify", "(II)I"⟩
abbrev cX11_match : ByteArray := prog_1_method_27_code
def yX11_match : MethodName := ⟨RX11, "match", "(II)I"⟩
abbrev cX11_common : ByteArray := prog_1_method_28_code
def yX11_common : MethodName := ⟨RX11, "common", "(II)I"⟩
abbrev cX11_normal : ByteArray := prog_1_method_29_code
def yX11_normal : MethodName := ⟨RX11, "normal", "(I)I"⟩
abbrev cX11_put : ByteArray := prog_1_method_30_code
def yX11_put : MethodName := ⟨RX11, "put", "(III)I"⟩
abbrev cX11_rules : ByteArray := prog_1_method_31_code
def yX11_rules : MethodName := ⟨RX11, "rules", "(II)I"⟩
abbrev cX11_enter : ByteArray := prog_1_method_32_code
def yX11_enter : MethodName := ⟨RX11, "enter", "(I)I"⟩
abbrev cX11_leave : ByteArray := prog_1_method_33_code
def yX11_leave : MethodName := ⟨RX11, "leave", "(I)I"⟩
abbrev cX11_room : ByteArray := prog_1_method_34_code
def yX11_room : MethodName := ⟨RX11, "room", "(I)I"⟩
abbrev cX11_draw : ByteArray := prog_1_method_35_code
def yX11_draw : MethodName := ⟨RX11, "draw", "(II)I"⟩
abbrev cX11_undo : ByteArray := prog_1_method_36_code
def yX11_undo : MethodName := ⟨RX11, "undo", "()I"⟩
abbrev cX11_years : ByteArray := prog_1_method_37_code
def yX11_years : MethodName := ⟨RX11, "years", "(III)I"⟩
abbrev cX11_lostBy : ByteArray := prog_1_method_38_code
def yX11_lostBy : MethodName := ⟨RX11, "lostBy", "(II)I"⟩
abbrev cX11_yearsAnswer : ByteArray := prog_1_method_39_code
def yX11_yearsAnswer : MethodName := ⟨RX11, "yearsAnswer", "(II)I"⟩
abbrev cX11_image : ByteArray := prog_1_method_40_code
def yX11_image : MethodName := ⟨RX11, "image", "()V"⟩
abbrev cX11_restore : ByteArray := prog_1_method_41_code
def yX11_restore : MethodName := ⟨RX11, "restore", "()Z"⟩
abbrev cX11_needTerm : ByteArray := prog_1_method_42_code
def yX11_needTerm : MethodName := ⟨RX11, "needTerm", "(I)V"⟩
abbrev cX11_isVariableNumber : ByteArray := prog_1_method_43_code
def yX11_isVariableNumber : MethodName := ⟨RX11, "isVariableNumber", "(I)Z"⟩
abbrev cX11_refused : ByteArray := prog_1_method_44_code
def yX11_refused : MethodName := ⟨RX11, "refused", "(II)I"⟩
abbrev cX11_settled : ByteArray := prog_1_method_45_code
def yX11_settled : MethodName := ⟨RX11, "settled", "(I)I"⟩
def RX12 : String := "TermBankModel"
def TX12 : u_T := fun k => match k with
  | 0 => ("TermBankModel", "rows", "[I", true)
  | 1 => ("TermBankModel", "heads", "[I", true)
  | 2 => ("TermBankModel", "arguments", "[I", true)
  | 3 => ("TermBankModel", "depths", "[I", true)
  | 4 => ("TermBankModel", "letter", "[I", true)
  | 5 => ("TermBankModel", "arity", "[I", true)
  | 6 => ("TermBankModel", "weight", "[I", true)
  | 7 => ("TermBankModel", "refused", "[I", true)
  | 8 => ("TermBankModel", "thrown", "I", false)
  | 9 => ("TermBankModel", "symbols", "I", false)
  | 10 => ("TermBankModel", "acts", "I", false)
  | 11 => ("TermBankModel", "firstAct", "I", false)
  | 12 => ("TermBankModel", "imageActs", "I", false)
  | 13 => ("TermBankModel", "imageFirst", "I", false)
  | 14 => ("TermBankModel", "hasImage", "I", false)
  | 15 => ("TermBankModel", "base", "I", false)
  | 16 => ("TermBankModel", "row", "I", false)
  | 17 => ("TermBankModel", "named", "I", false)
  | 18 => ("TermBankModel", "tape", "[I", true)
  | 19 => ("TermBankModel", "taped", "I", false)
  | 20 => ("TermBankModel", "faultPlace", "I", false)
  | 21 => ("TermBankModel", "isFull", "Z", false)
  | 22 => ("TermBankModel", "met", "[I", true)
  | 23 => ("TermBankModel", "bound", "[I", true)
  | 24 => ("TermBankModel", "next", "[I", true)
  | 25 => ("TermBankModel", "up", "[I", true)
  | 26 => ("TermBankModel", "shown", "[I", true)
  | 27 => ("TermBankModel", "least", "[I", true)
  | 28 => ("TermBankModel", "color", "[I", true)
  | 29 => ("TermBankModel", "pairs", "[I", true)
  | 30 => ("TermBankModel", "isClash", "Z", false)
  | 31 => ("TermBankModel", "coupled", "[I", true)
  | 32 => ("TermBankModel", "couples", "I", false)
  | 33 => ("TermBankModel", "isMuch", "Z", false)
  | 34 => ("TermBankModel", "stepped", "I", false)
  | 35 => ("TermBankModel", "at", "I", false)
  | 36 => ("TermBankModel", "place", "I", false)
  | 37 => ("TermBankModel", "size", "I", false)
  | 38 => ("TermBankModel", "sort", "I", false)
  | 39 => ("TermBankModel", "value", "I", false)
  | 40 => ("TermBankModel", "word", "I", false)
  | 41 => ("TermBankModel", "wordLong", "I", false)
  | 42 => ("TermBankModel", "sign", "I", false)
  | 43 => ("TermBankModel", "bad", "I", false)
  | 44 => ("TermBankModel", "symbols1", "I", false)
  | 45 => ("TermBankModel", "rooms1", "I", false)
  | _ => ("TermBankModel", "its", "I", false)
theorem nmX12 : ∀ a, a < 47 → ∀ b, b < 47 → a ≠ b → (TX12 a).2.1 ≠ (TX12 b).2.1 := by decide +kernel
abbrev cX12_init : ByteArray := prog_14_method_1_code
def yX12_init : MethodName := ⟨RX12, "<init>", "()V"⟩
abbrev cX12_thrown : ByteArray := prog_14_method_2_code
def yX12_thrown : MethodName := ⟨RX12, "thrown", "()I"⟩
abbrev cX12_right : ByteArray := prog_14_method_3_code
def yX12_right : MethodName := ⟨RX12, "right", "(ZI)Z"⟩
abbrev cX12_within : ByteArray := prog_14_method_4_code
def yX12_within : MethodName := ⟨RX12, "within", "(III)Z"⟩
abbrev cX12_greater : ByteArray := prog_14_method_5_code
def yX12_greater : MethodName := ⟨RX12, "greater", "(II)I"⟩
abbrev cX12_copies : ByteArray := prog_14_method_6_code
def yX12_copies : MethodName := ⟨RX12, "copies", "(III)V"⟩
abbrev cX12_head : ByteArray := prog_14_method_7_code
def yX12_head : MethodName := ⟨RX12, "head", "(I)I"⟩
abbrev cX12_argument1 : ByteArray := prog_14_method_8_code
def yX12_argument1 : MethodName := ⟨RX12, "argument1", "(II)I"⟩
abbrev cX12_isVariable : ByteArray := prog_14_method_9_code
def yX12_isVariable : MethodName := ⟨RX12, "isVariable", "(I)Z"⟩
abbrev cX12_variableOf : ByteArray := prog_14_method_10_code
def yX12_variableOf : MethodName := ⟨RX12, "variableOf", "(I)I"⟩
abbrev cX12_arityOf : ByteArray := prog_14_method_11_code
def yX12_arityOf : MethodName := ⟨RX12, "arityOf", "(I)I"⟩
abbrev cX12_weightOfHead : ByteArray := prog_14_method_12_code
def yX12_weightOfHead : MethodName := ⟨RX12, "weightOfHead", "(I)I"⟩
abbrev cX12_many : ByteArray := prog_14_method_13_code
def yX12_many : MethodName := ⟨RX12, "many", "()I"⟩
abbrev cX12_isThat : ByteArray := prog_14_method_14_code
def yX12_isThat : MethodName := ⟨RX12, "isThat", "(IIIIII)Z"⟩
abbrev cX12_termOf : ByteArray := prog_14_method_15_code
def yX12_termOf : MethodName := ⟨RX12, "termOf", "(IIII)I"⟩
abbrev cX12_variableTerm : ByteArray := prog_14_method_16_code
def yX12_variableTerm : MethodName := ⟨RX12, "variableTerm", "(I)I"⟩
abbrev cX12_sizeOf : ByteArray := prog_14_method_17_code
def yX12_sizeOf : MethodName := ⟨RX12, "sizeOf", "(I)I"⟩
abbrev cX12_weightOf : ByteArray := prog_14_method_18_code
def yX12_weightOf : MethodName := ⟨RX12, "weightOf", "(I)I"⟩
abbrev cX12_variablesIn : ByteArray := prog_14_method_19_code
def yX12_variablesIn : MethodName := ⟨RX12, "variablesIn", "(I)I"⟩
abbrev cX12_timesOf : ByteArray := prog_14_method_20_code
def yX12_timesOf : MethodName := ⟨RX12, "timesOf", "(II)I"⟩
abbrev cX12_isIn : ByteArray := prog_14_method_21_code
def yX12_isIn : MethodName := ⟨RX12, "isIn", "(II)Z"⟩
abbrev cX12_sharedOf : ByteArray := prog_14_method_22_code
def yX12_sharedOf : MethodName := ⟨RX12, "sharedOf", "(I)I"⟩
abbrev cX12_isShape : ByteArray := prog_14_method_23_code
def yX12_isShape : MethodName := ⟨RX12, "isShape", "(II)Z"⟩
abbrev cX12_shapes : ByteArray := prog_14_method_24_code
def yX12_shapes : MethodName := ⟨RX12, "shapes", "()I"⟩
abbrev cX12_placeOf : ByteArray := prog_14_method_25_code
def yX12_placeOf : MethodName := ⟨RX12, "placeOf", "(II)I"⟩
abbrev cX12_isGreater : ByteArray := prog_14_method_26_code
def yX12_isGreater : MethodName := ⟨RX12, "isGreater", "(II)Z"⟩
abbrev cX12_isRule : ByteArray := prog_14_method_27_code
def yX12_isRule : MethodName := ⟨RX12, "isRule", "(II)Z"⟩
abbrev cX12_matches : ByteArray := prog_14_method_28_code
def yX12_matches : MethodName := ⟨RX12, "matches", "(II)Z"⟩
abbrev cX12_doesMatch : ByteArray := prog_14_method_29_code
def yX12_doesMatch : MethodName := ⟨RX12, "doesMatch", "(II)Z"⟩
abbrev cX12_remade : ByteArray := prog_14_method_30_code
def yX12_remade : MethodName := ⟨RX12, "remade", "(IIII)I"⟩
abbrev cX12_appliedBy : ByteArray := prog_14_method_31_code
def yX12_appliedBy : MethodName := ⟨RX12, "appliedBy", "(I[I)I"⟩
abbrev cX12_laysBound : ByteArray := prog_14_method_32_code
def yX12_laysBound : MethodName := ⟨RX12, "laysBound", "()V"⟩
abbrev cX12_isRing : ByteArray := prog_14_method_33_code
def yX12_isRing : MethodName := ⟨RX12, "isRing", "(I)Z"⟩
abbrev cX12_closedOf : ByteArray := prog_14_method_34_code
def yX12_closedOf : MethodName := ⟨RX12, "closedOf", "(II)I"⟩
abbrev cX12_isTooDeep : ByteArray := prog_14_method_35_code
def yX12_isTooDeep : MethodName := ⟨RX12, "isTooDeep", "(I)Z"⟩
abbrev cX12_top : ByteArray := prog_14_method_36_code
def yX12_top : MethodName := ⟨RX12, "top", "(I)I"⟩
abbrev cX12_argumentOf : ByteArray := prog_14_method_37_code
def yX12_argumentOf : MethodName := ⟨RX12, "argumentOf", "(II)I"⟩
abbrev cX12_beginsClasses : ByteArray := prog_14_method_38_code
def yX12_beginsClasses : MethodName := ⟨RX12, "beginsClasses", "()V"⟩
abbrev cX12_joins : ByteArray := prog_14_method_39_code
def yX12_joins : MethodName := ⟨RX12, "joins", "(II)V"⟩
abbrev cX12_turns : ByteArray := prog_14_method_40_code
def yX12_turns : MethodName := ⟨RX12, "turns", "(I)Z"⟩
abbrev cX12_unifies : ByteArray := prog_14_method_41_code
def yX12_unifies : MethodName := ⟨RX12, "unifies", "(II)I"⟩
abbrev cX12_solved : ByteArray := prog_14_method_42_code
def yX12_solved : MethodName := ⟨RX12, "solved", "(II)I"⟩
abbrev cX12_thereOf : ByteArray := prog_14_method_43_code
def yX12_thereOf : MethodName := ⟨RX12, "thereOf", "(I)I"⟩
abbrev cX12_bindsSolved : ByteArray := prog_14_method_44_code
def yX12_bindsSolved : MethodName := ⟨RX12, "bindsSolved", "(I)V"⟩
abbrev cX12_canBeAlike : ByteArray := prog_14_method_45_code
def yX12_canBeAlike : MethodName := ⟨RX12, "canBeAlike", "(II)Z"⟩
abbrev cX12_coupleOf : ByteArray := prog_14_method_46_code
def yX12_coupleOf : MethodName := ⟨RX12, "coupleOf", "(II)I"⟩
abbrev cX12_commonOf : ByteArray := prog_14_method_47_code
def yX12_commonOf : MethodName := ⟨RX12, "commonOf", "(II)I"⟩
abbrev cX12_memoAt : ByteArray := prog_14_method_48_code
def yX12_memoAt : MethodName := ⟨RX12, "memoAt", "(I)I"⟩
abbrev cX12_memoLoses : ByteArray := prog_14_method_49_code
def yX12_memoLoses : MethodName := ⟨RX12, "memoLoses", "(I)V"⟩
abbrev cX12_memoGets : ByteArray := prog_14_method_50_code
def yX12_memoGets : MethodName := ⟨RX12, "memoGets", "(II)V"⟩
abbrev cX12_isStopped : ByteArray := prog_14_method_51_code
def yX12_isStopped : MethodName := ⟨RX12, "isStopped", "()Z"⟩
abbrev cX12_normalOf : ByteArray := prog_14_method_52_code
def yX12_normalOf : MethodName := ⟨RX12, "normalOf", "(I)I"⟩
abbrev cX12_lessened : ByteArray := prog_14_method_53_code
def yX12_lessened : MethodName := ⟨RX12, "lessened", "(I)I"⟩
abbrev cX12_isSettled : ByteArray := prog_14_method_54_code
def yX12_isSettled : MethodName := ⟨RX12, "isSettled", "(I)Z"⟩
abbrev cX12_isLetter : ByteArray := prog_14_method_55_code
def yX12_isLetter : MethodName := ⟨RX12, "isLetter", "(I)Z"⟩
abbrev cX12_byteAt : ByteArray := prog_14_method_56_code
def yX12_byteAt : MethodName := ⟨RX12, "byteAt", "(I)I"⟩
abbrev cX12_wordFrom : ByteArray := prog_14_method_57_code
def yX12_wordFrom : MethodName := ⟨RX12, "wordFrom", "(II)I"⟩
abbrev cX12_isSignByte : ByteArray := prog_14_method_58_code
def yX12_isSignByte : MethodName := ⟨RX12, "isSignByte", "(I)Z"⟩
abbrev cX12_go : ByteArray := prog_14_method_59_code
def yX12_go : MethodName := ⟨RX12, "go", "()V"⟩
abbrev cX12_wants : ByteArray := prog_14_method_60_code
def yX12_wants : MethodName := ⟨RX12, "wants", "(ZI)Z"⟩
abbrev cX12_sign : ByteArray := prog_14_method_61_code
def yX12_sign : MethodName := ⟨RX12, "sign", "(I)V"⟩
abbrev cX12_number : ByteArray := prog_14_method_62_code
def yX12_number : MethodName := ⟨RX12, "number", "(II)I"⟩
abbrev cX12_symbolOf : ByteArray := prog_14_method_63_code
def yX12_symbolOf : MethodName := ⟨RX12, "symbolOf", "(I)I"⟩
abbrev cX12_term1 : ByteArray := prog_14_method_64_code
def yX12_term1 : MethodName := ⟨RX12, "term1", "(I)I"⟩
abbrev cX12_symbol1 : ByteArray := prog_14_method_65_code
def yX12_symbol1 : MethodName := ⟨RX12, "symbol1", "()V"⟩
abbrev cX12_rule1 : ByteArray := prog_14_method_66_code
def yX12_rule1 : MethodName := ⟨RX12, "rule1", "()V"⟩
abbrev cX12_rules1 : ByteArray := prog_14_method_67_code
def yX12_rules1 : MethodName := ⟨RX12, "rules1", "(II)V"⟩
abbrev cX12_entryOf : ByteArray := prog_14_method_68_code
def yX12_entryOf : MethodName := ⟨RX12, "entryOf", "(I)I"⟩
abbrev cX12_enters1 : ByteArray := prog_14_method_69_code
def yX12_enters1 : MethodName := ⟨RX12, "enters1", "(I)V"⟩
abbrev cX12_entry1 : ByteArray := prog_14_method_70_code
def yX12_entry1 : MethodName := ⟨RX12, "entry1", "()V"⟩
abbrev cX12_room1 : ByteArray := prog_14_method_71_code
def yX12_room1 : MethodName := ⟨RX12, "room1", "()V"⟩
abbrev cX12_clause1 : ByteArray := prog_14_method_72_code
def yX12_clause1 : MethodName := ⟨RX12, "clause1", "()V"⟩
abbrev cX12_feed : ByteArray := prog_14_method_73_code
def yX12_feed : MethodName := ⟨RX12, "feed", "(IIIII)I"⟩
abbrev cX12_movesTerms : ByteArray := prog_14_method_74_code
def yX12_movesTerms : MethodName := ⟨RX12, "movesTerms", "(II)V"⟩
abbrev cX12_readsAll : ByteArray := prog_14_method_75_code
def yX12_readsAll : MethodName := ⟨RX12, "readsAll", "(I)V"⟩
abbrev cX12_bank : ByteArray := prog_14_method_76_code
def yX12_bank : MethodName := ⟨RX12, "bank", "(I)I"⟩
abbrev cX12_fault : ByteArray := prog_14_method_77_code
def yX12_fault : MethodName := ⟨RX12, "fault", "()I"⟩
abbrev cX12_meetings : ByteArray := prog_14_method_78_code
def yX12_meetings : MethodName := ⟨RX12, "meetings", "(Z)I"⟩
abbrev cX12_count : ByteArray := prog_14_method_79_code
def yX12_count : MethodName := ⟨RX12, "count", "(I)I"⟩
abbrev cX12_fits : ByteArray := prog_14_method_80_code
def yX12_fits : MethodName := ⟨RX12, "fits", "(IZ)I"⟩
abbrev cX12_isSymbol : ByteArray := prog_14_method_81_code
def yX12_isSymbol : MethodName := ⟨RX12, "isSymbol", "(I)Z"⟩
abbrev cX12_symbol : ByteArray := prog_14_method_82_code
def yX12_symbol : MethodName := ⟨RX12, "symbol", "(II)I"⟩
abbrev cX12_isTerm : ByteArray := prog_14_method_83_code
def yX12_isTerm : MethodName := ⟨RX12, "isTerm", "(I)Z"⟩
abbrev cX12_isTermNow : ByteArray := prog_14_method_84_code
def yX12_isTermNow : MethodName := ⟨RX12, "isTermNow", "(I)Z"⟩
abbrev cX12_usesOf : ByteArray := prog_14_method_85_code
def yX12_usesOf : MethodName := ⟨RX12, "usesOf", "(I)I"⟩
abbrev cX12_term : ByteArray := prog_14_method_86_code
def yX12_term : MethodName := ⟨RX12, "term", "(II)I"⟩
abbrev cX12_argument : ByteArray := prog_14_method_87_code
def yX12_argument : MethodName := ⟨RX12, "argument", "(II)I"⟩
abbrev cX12_place : ByteArray := prog_14_method_88_code
def yX12_place : MethodName := ⟨RX12, "place", "(II)I"⟩
abbrev cX12_order : ByteArray := prog_14_method_89_code
def yX12_order : MethodName := ⟨RX12, "order", "(II)I"⟩
abbrev cX12_isFound : ByteArray := prog_14_method_90_code
def yX12_isFound : MethodName := ⟨RX12, "isFound", "(III)Z"⟩
abbrev cX12_find : ByteArray := prog_14_method_91_code
def yX12_find : MethodName := ⟨RX12, "find", "(II)I"⟩
abbrev cX12_rule : ByteArray := prog_14_method_92_code
def yX12_rule : MethodName := ⟨RX12, "rule", "(II)I"⟩
abbrev cX12_entry : ByteArray := prog_14_method_93_code
def yX12_entry : MethodName := ⟨RX12, "entry", "(I)I"⟩
abbrev cX12_memo : ByteArray := prog_14_method_94_code
def yX12_memo : MethodName := ⟨RX12, "memo", "(II)I"⟩
abbrev cX12_bound : ByteArray := prog_14_method_95_code
def yX12_bound : MethodName := ⟨RX12, "bound", "(I)I"⟩
abbrev cX12_keptAt : ByteArray := prog_14_method_96_code
def yX12_keptAt : MethodName := ⟨RX12, "keptAt", "(II)I"⟩
abbrev cX12_refuses : ByteArray := prog_14_method_97_code
def yX12_refuses : MethodName := ⟨RX12, "refuses", "(II)I"⟩
abbrev cX12_begins : ByteArray := prog_14_method_98_code
def yX12_begins : MethodName := ⟨RX12, "begins", "()V"⟩
abbrev cX12_fails : ByteArray := prog_14_method_99_code
def yX12_fails : MethodName := ⟨RX12, "fails", "(II)I"⟩
abbrev cX12_keeps : ByteArray := prog_14_method_100_code
def yX12_keeps : MethodName := ⟨RX12, "keeps", "(I)I"⟩
abbrev cX12_variable : ByteArray := prog_14_method_101_code
def yX12_variable : MethodName := ⟨RX12, "variable", "(I)I"⟩
abbrev cX12_make : ByteArray := prog_14_method_102_code
def yX12_make : MethodName := ⟨RX12, "make", "(IIII)I"⟩
abbrev cX12_bind : ByteArray := prog_14_method_103_code
def yX12_bind : MethodName := ⟨RX12, "bind", "(II)I"⟩
abbrev cX12_apply : ByteArray := prog_14_method_104_code
def yX12_apply : MethodName := ⟨RX12, "apply", "(I)I"⟩
abbrev cX12_close : ByteArray := prog_14_method_105_code
def yX12_close : MethodName := ⟨RX12, "close", "(I)I"⟩
abbrev cX12_unify : ByteArray := prog_14_method_106_code
def yX12_unify : MethodName := ⟨RX12, "unify", "(II)I"⟩
abbrev cX12_match : ByteArray := prog_14_method_107_code
def yX12_match : MethodName := ⟨RX12, "match", "(II)I"⟩
abbrev cX12_common : ByteArray := prog_14_method_108_code
def yX12_common : MethodName := ⟨RX12, "common", "(II)I"⟩
abbrev cX12_normal : ByteArray := prog_14_method_109_code
def yX12_normal : MethodName := ⟨RX12, "normal", "(I)I"⟩
abbrev cX12_withPut : ByteArray := prog_14_method_110_code
def yX12_withPut : MethodName := ⟨RX12, "withPut", "(III)I"⟩
abbrev cX12_parts : ByteArray := prog_14_method_111_code
def yX12_parts : MethodName := ⟨RX12, "parts", "(I)[I"⟩
abbrev cX12_put : ByteArray := prog_14_method_112_code
def yX12_put : MethodName := ⟨RX12, "put", "(III)I"⟩
abbrev cX12_rules : ByteArray := prog_14_method_113_code
def yX12_rules : MethodName := ⟨RX12, "rules", "(II)I"⟩
abbrev cX12_enter : ByteArray := prog_14_method_114_code
def yX12_enter : MethodName := ⟨RX12, "enter", "(I)I"⟩
abbrev cX12_leave : ByteArray := prog_14_method_115_code
def yX12_leave : MethodName := ⟨RX12, "leave", "(I)I"⟩
abbrev cX12_room : ByteArray := prog_14_method_116_code
def yX12_room : MethodName := ⟨RX12, "room", "(I)I"⟩
abbrev cX12_drawOf : ByteArray := prog_14_method_117_code
def yX12_drawOf : MethodName := ⟨RX12, "drawOf", "(I)I"⟩
abbrev cX12_drawn : ByteArray := prog_14_method_118_code
def yX12_drawn : MethodName := ⟨RX12, "drawn", "(I)I"⟩
abbrev cX12_draw : ByteArray := prog_14_method_119_code
def yX12_draw : MethodName := ⟨RX12, "draw", "(II)I"⟩
abbrev cX12_undo : ByteArray := prog_14_method_120_code
def yX12_undo : MethodName := ⟨RX12, "undo", "()I"⟩
abbrev cX12_years : ByteArray := prog_14_method_121_code
def yX12_years : MethodName := ⟨RX12, "years", "(III)I"⟩
abbrev cX12_image : ByteArray := prog_14_method_122_code
def yX12_image : MethodName := ⟨RX12, "image", "()V"⟩
abbrev cX12_restore : ByteArray := prog_14_method_123_code
def yX12_restore : MethodName := ⟨RX12, "restore", "()Z"⟩
def RJ0 : String := "java/lang/String"
abbrev cJ0_length_8abf5 : ByteArray := prog_22_method_54_code
def yJ0_length_8abf5 : MethodName := ⟨RJ0, "length", "()I"⟩
abbrev cJ0_charAt_5068e : ByteArray := prog_22_method_56_code
def yJ0_charAt_5068e : MethodName := ⟨RJ0, "charAt", "(I)C"⟩
abbrev cJ0_coder_7d493 : ByteArray := prog_22_method_152_code
def yJ0_coder_7d493 : MethodName := ⟨RJ0, "coder", "()B"⟩
abbrev cJ0_isLatin1_aae02 : ByteArray := prog_22_method_154_code
def yJ0_isLatin1_aae02 : MethodName := ⟨RJ0, "isLatin1", "()Z"⟩
abbrev cJ0_checkIndex_df160 : ByteArray := prog_22_method_155_code
def yJ0_checkIndex_df160 : MethodName := ⟨RJ0, "checkIndex", "(II)V"⟩
def RJ1 : String := "java/lang/StringLatin1"
abbrev cJ1_charAt_3b067 : ByteArray := prog_23_method_2_code
def yJ1_charAt_3b067 : MethodName := ⟨RJ1, "charAt", "([BI)C"⟩
def RJ7 : String := "java/util/Arrays"
abbrev cJ7_fill_53178 : ByteArray := prog_29_method_103_code
def yJ7_fill_53178 : MethodName := ⟨RJ7, "fill", "([II)V"⟩
def RJ3 : String := "jdk/internal/util/Preconditions"
abbrev cJ3_checkIndex_8e157 : ByteArray := prog_31_method_11_code
def yJ3_checkIndex_8e157 : MethodName := ⟨RJ3, "checkIndex", "(IILjava/util/function/BiFunction;)I"⟩
def RL : String := "TermBankLaw"
abbrev cL_bank : ByteArray := method_3_code
def yL_bank : MethodName := ⟨RL, "bank", "(LTermBank;I[J)I"⟩
abbrev cL_count : ByteArray := method_4_code
def yL_count : MethodName := ⟨RL, "count", "(LTermBank;I[J)I"⟩
abbrev cL_symbol : ByteArray := method_5_code
def yL_symbol : MethodName := ⟨RL, "symbol", "(LTermBank;II[J)I"⟩
abbrev cL_term : ByteArray := method_6_code
def yL_term : MethodName := ⟨RL, "term", "(LTermBank;II[J)I"⟩
abbrev cL_argument : ByteArray := method_7_code
def yL_argument : MethodName := ⟨RL, "argument", "(LTermBank;II[J)I"⟩
abbrev cL_place : ByteArray := method_8_code
def yL_place : MethodName := ⟨RL, "place", "(LTermBank;II[J)I"⟩
abbrev cL_order : ByteArray := method_9_code
def yL_order : MethodName := ⟨RL, "order", "(LTermBank;II[J)I"⟩
abbrev cL_find : ByteArray := method_10_code
def yL_find : MethodName := ⟨RL, "find", "(LTermBank;II[J)I"⟩
abbrev cL_rule : ByteArray := method_11_code
def yL_rule : MethodName := ⟨RL, "rule", "(LTermBank;II[J)I"⟩
abbrev cL_entry : ByteArray := method_12_code
def yL_entry : MethodName := ⟨RL, "entry", "(LTermBank;I[J)I"⟩
abbrev cL_memo : ByteArray := method_13_code
def yL_memo : MethodName := ⟨RL, "memo", "(LTermBank;II[J)I"⟩
abbrev cL_bound : ByteArray := method_14_code
def yL_bound : MethodName := ⟨RL, "bound", "(LTermBank;I[J)I"⟩
abbrev cL_years : ByteArray := method_15_code
def yL_years : MethodName := ⟨RL, "years", "(LTermBank;III[J)I"⟩
abbrev cL_law : ByteArray := code
abbrev vwCl : List vw_C := [(RX0, TX0, 7), (RX1, TX1, 1), (RX2, TX2, 6), (RX3, TX3, 2), (RX4, TX4, 5), (RX5, TX5, 11), (RX6, TX6, 9), (RX7, TX7, 5), (RX8, TX8, 4), (RX9, TX9, 13), (RX10, TX10, 12), (RX11, TX11, 16), (RX12, TX12, 47)]
end
section
theorem dX0_init_0 : decode cX0_init 0 = .ok (.aload_n 0, 1) := by decide +kernel
theorem dX0_init_1 : decode cX0_init 1 = .ok (.invokespecial 3, 3) := by decide +kernel
theorem dX0_init_4 : decode cX0_init 4 = .ok (.aload_n 0, 1) := by decide +kernel
theorem dX0_init_5 : decode cX0_init 5 = .ok (.bipush 40, 2) := by decide +kernel
theorem dX0_init_7 : decode cX0_init 7 = .ok (.bipush 61, 2) := by decide +kernel
theorem dX0_init_9 : decode cX0_init 9 = .ok (.multianewarray 11 2, 4) := by decide +kernel
theorem dX0_init_13 : decode cX0_init 13 = .ok (.putfield 13, 3) := by decide +kernel
theorem dX0_init_16 : decode cX0_init 16 = .ok (.aload_n 0, 1) := by decide +kernel
theorem dX0_init_17 : decode cX0_init 17 = .ok (.bipush 61, 2) := by decide +kernel
theorem dX0_init_19 : decode cX0_init 19 = .ok (.newarray .int, 2) := by decide +kernel
theorem dX0_init_21 : decode cX0_init 21 = .ok (.putfield 18, 3) := by decide +kernel
theorem dX0_init_24 : decode cX0_init 24 = .ok (.aload_n 0, 1) := by decide +kernel
theorem dX0_init_25 : decode cX0_init 25 = .ok (.iconst 4, 1) := by decide +kernel
theorem dX0_init_26 : decode cX0_init 26 = .ok (.newarray .int, 2) := by decide +kernel
theorem dX0_init_28 : decode cX0_init 28 = .ok (.putfield 22, 3) := by decide +kernel
theorem dX0_init_31 : decode cX0_init 31 = .ok (.aload_n 0, 1) := by decide +kernel
theorem dX0_init_32 : decode cX0_init 32 = .ok (.iconst 0, 1) := by decide +kernel
theorem dX0_init_33 : decode cX0_init 33 = .ok (.putfield 25, 3) := by decide +kernel
theorem dX0_init_36 : decode cX0_init 36 = .ok (.aload_n 0, 1) := by decide +kernel
theorem dX0_init_37 : decode cX0_init 37 = .ok (.iconst 0, 1) := by decide +kernel
theorem dX0_init_38 : decode cX0_init 38 = .ok (.putfield 29, 3) := by decide +kernel
theorem dX0_init_41 : decode cX0_init 41 = .ok (.aload_n 0, 1) := by decide +kernel
theorem dX0_init_42 : decode cX0_init 42 = .ok (.aload_n 1, 1) := by decide +kernel
theorem dX0_init_43 : decode cX0_init 43 = .ok (.putfield 32, 3) := by decide +kernel
theorem dX0_init_46 : decode cX0_init 46 = .ok (.aload_n 0, 1) := by decide +kernel
theorem dX0_init_47 : decode cX0_init 47 = .ok (.aload_n 2, 1) := by decide +kernel
theorem dX0_init_48 : decode cX0_init 48 = .ok (.putfield 36, 3) := by decide +kernel
theorem dX0_init_51 : decode cX0_init 51 = .ok (.return_, 1) := by decide +kernel
theorem dX0_begin_0 : decode cX0_begin 0 = .ok (.aload_n 0, 1) := by decide +kernel
theorem dX0_begin_1 : decode cX0_begin 1 = .ok (.getfield 36, 3) := by decide +kernel
theorem dX0_begin_4 : decode cX0_begin 4 = .ok (.getfield 40, 3) := by decide +kernel
theorem dX0_begin_7 : decode cX0_begin 7 = .ok (.iconst 0, 1) := by decide +kernel
theorem dX0_begin_8 : decode cX0_begin 8 = .ok (.aload_n 0, 1) := by decide +kernel
theorem dX0_begin_9 : decode cX0_begin 9 = .ok (.getfield 32, 3) := by decide +kernel
theorem dX0_begin_12 : decode cX0_begin 12 = .ok (.getfield 43, 3) := by decide +kernel
theorem dX0_begin_15 : decode cX0_begin 15 = .ok (.iastore, 1) := by decide +kernel
theorem dX0_begin_16 : decode cX0_begin 16 = .ok (.aload_n 0, 1) := by decide +kernel
theorem dX0_begin_17 : decode cX0_begin 17 = .ok (.getfield 36, 3) := by decide +kernel
theorem dX0_begin_20 : decode cX0_begin 20 = .ok (.getfield 40, 3) := by decide +kernel
theorem dX0_begin_23 : decode cX0_begin 23 = .ok (.iconst 0, 1) := by decide +kernel
theorem dX0_begin_24 : decode cX0_begin 24 = .ok (.aload_n 0, 1) := by decide +kernel
theorem dX0_begin_25 : decode cX0_begin 25 = .ok (.getfield 18, 3) := by decide +kernel
theorem dX0_begin_28 : decode cX0_begin 28 = .ok (.iconst 0, 1) := by decide +kernel
theorem dX0_begin_29 : decode cX0_begin 29 = .ok (.bipush 61, 2) := by decide +kernel
theorem dX0_begin_31 : decode cX0_begin 31 = .ok (.invokestatic 48, 3) := by decide +kernel
theorem dX0_begin_34 : decode cX0_begin 34 = .ok (.return_, 1) := by decide +kernel
theorem dX0_keep_0 : decode cX0_keep 0 = .ok (.aload_n 0, 1) := by decide +kernel
theorem dX0_keep_1 : decode cX0_keep 1 = .ok (.getfield 29, 3) := by decide +kernel
theorem dX0_keep_4 : decode cX0_keep 4 = .ok (.bipush 40, 2) := by decide +kernel
theorem dX0_keep_6 : decode cX0_keep 6 = .ok (.if_icmp .ne 26, 3) := by decide +kernel
theorem dX0_keep_9 : decode cX0_keep 9 = .ok (.aload_n 0, 1) := by decide +kernel
theorem dX0_keep_10 : decode cX0_keep 10 = .ok (.aload_n 0, 1) := by decide +kernel
theorem dX0_keep_11 : decode cX0_keep 11 = .ok (.getfield 25, 3) := by decide +kernel
theorem dX0_keep_14 : decode cX0_keep 14 = .ok (.iconst 1, 1) := by decide +kernel
theorem dX0_keep_15 : decode cX0_keep 15 = .ok (.iadd, 1) := by decide +kernel
theorem dX0_keep_16 : decode cX0_keep 16 = .ok (.bipush 40, 2) := by decide +kernel
theorem dX0_keep_18 : decode cX0_keep 18 = .ok (.irem, 1) := by decide +kernel
theorem dX0_keep_19 : decode cX0_keep 19 = .ok (.putfield 25, 3) := by decide +kernel
theorem dX0_keep_22 : decode cX0_keep 22 = .ok (.aload_n 0, 1) := by decide +kernel
theorem dX0_keep_23 : decode cX0_keep 23 = .ok (.dup, 1) := by decide +kernel
theorem dX0_keep_24 : decode cX0_keep 24 = .ok (.getfield 29, 3) := by decide +kernel
theorem dX0_keep_27 : decode cX0_keep 27 = .ok (.iconst 1, 1) := by decide +kernel
theorem dX0_keep_28 : decode cX0_keep 28 = .ok (.isub, 1) := by decide +kernel
theorem dX0_keep_29 : decode cX0_keep 29 = .ok (.putfield 29, 3) := by decide +kernel
theorem dX0_keep_32 : decode cX0_keep 32 = .ok (.aload_n 0, 1) := by decide +kernel
theorem dX0_keep_33 : decode cX0_keep 33 = .ok (.getfield 18, 3) := by decide +kernel
theorem dX0_keep_36 : decode cX0_keep 36 = .ok (.iconst 0, 1) := by decide +kernel
theorem dX0_keep_37 : decode cX0_keep 37 = .ok (.aload_n 0, 1) := by decide +kernel
theorem dX0_keep_38 : decode cX0_keep 38 = .ok (.getfield 13, 3) := by decide +kernel
theorem dX0_keep_41 : decode cX0_keep 41 = .ok (.aload_n 0, 1) := by decide +kernel
theorem dX0_keep_42 : decode cX0_keep 42 = .ok (.getfield 25, 3) := by decide +kernel
theorem dX0_keep_45 : decode cX0_keep 45 = .ok (.aload_n 0, 1) := by decide +kernel
theorem dX0_keep_46 : decode cX0_keep 46 = .ok (.getfield 29, 3) := by decide +kernel
theorem dX0_keep_49 : decode cX0_keep 49 = .ok (.iadd, 1) := by decide +kernel
theorem dX0_keep_50 : decode cX0_keep 50 = .ok (.bipush 40, 2) := by decide +kernel
theorem dX0_keep_52 : decode cX0_keep 52 = .ok (.irem, 1) := by decide +kernel
theorem dX0_keep_53 : decode cX0_keep 53 = .ok (.aaload, 1) := by decide +kernel
theorem dX0_keep_54 : decode cX0_keep 54 = .ok (.iconst 0, 1) := by decide +kernel
theorem dX0_keep_55 : decode cX0_keep 55 = .ok (.bipush 61, 2) := by decide +kernel
theorem dX0_keep_57 : decode cX0_keep 57 = .ok (.invokestatic 48, 3) := by decide +kernel
theorem dX0_keep_60 : decode cX0_keep 60 = .ok (.aload_n 0, 1) := by decide +kernel
theorem dX0_keep_61 : decode cX0_keep 61 = .ok (.dup, 1) := by decide +kernel
theorem dX0_keep_62 : decode cX0_keep 62 = .ok (.getfield 29, 3) := by decide +kernel
theorem dX0_keep_65 : decode cX0_keep 65 = .ok (.iconst 1, 1) := by decide +kernel
theorem dX0_keep_66 : decode cX0_keep 66 = .ok (.iadd, 1) := by decide +kernel
theorem dX0_keep_67 : decode cX0_keep 67 = .ok (.putfield 29, 3) := by decide +kernel
theorem dX0_keep_70 : decode cX0_keep 70 = .ok (.return_, 1) := by decide +kernel
theorem dX0_rollBack_0 : decode cX0_rollBack 0 = .ok (.aload_n 0, 1) := by decide +kernel
theorem dX0_rollBack_1 : decode cX0_rollBack 1 = .ok (.aload_n 0, 1) := by decide +kernel
theorem dX0_rollBack_2 : decode cX0_rollBack 2 = .ok (.getfield 18, 3) := by decide +kernel
theorem dX0_rollBack_5 : decode cX0_rollBack 5 = .ok (.invokevirtual 54, 3) := by decide +kernel
theorem dX0_rollBack_8 : decode cX0_rollBack 8 = .ok (.return_, 1) := by decide +kernel
theorem dX0_takeBack_0 : decode cX0_takeBack 0 = .ok (.aload_n 1, 1) := by decide +kernel
theorem dX0_takeBack_1 : decode cX0_takeBack 1 = .ok (.iconst 0, 1) := by decide +kernel
theorem dX0_takeBack_2 : decode cX0_takeBack 2 = .ok (.aload_n 0, 1) := by decide +kernel
theorem dX0_takeBack_3 : decode cX0_takeBack 3 = .ok (.getfield 36, 3) := by decide +kernel
theorem dX0_takeBack_6 : decode cX0_takeBack 6 = .ok (.getfield 40, 3) := by decide +kernel
theorem dX0_takeBack_9 : decode cX0_takeBack 9 = .ok (.iconst 0, 1) := by decide +kernel
theorem dX0_takeBack_10 : decode cX0_takeBack 10 = .ok (.bipush 61, 2) := by decide +kernel
theorem dX0_takeBack_12 : decode cX0_takeBack 12 = .ok (.invokestatic 48, 3) := by decide +kernel
theorem dX0_takeBack_15 : decode cX0_takeBack 15 = .ok (.aload_n 0, 1) := by decide +kernel
theorem dX0_takeBack_16 : decode cX0_takeBack 16 = .ok (.getfield 32, 3) := by decide +kernel
theorem dX0_takeBack_19 : decode cX0_takeBack 19 = .ok (.aload_n 1, 1) := by decide +kernel
theorem dX0_takeBack_20 : decode cX0_takeBack 20 = .ok (.iconst 0, 1) := by decide +kernel
theorem dX0_takeBack_21 : decode cX0_takeBack 21 = .ok (.iaload, 1) := by decide +kernel
theorem dX0_takeBack_22 : decode cX0_takeBack 22 = .ok (.invokevirtual 58, 3) := by decide +kernel
theorem dX0_takeBack_25 : decode cX0_takeBack 25 = .ok (.return_, 1) := by decide +kernel
theorem dX0_undoLast_0 : decode cX0_undoLast 0 = .ok (.aload_n 0, 1) := by decide +kernel
theorem dX0_undoLast_1 : decode cX0_undoLast 1 = .ok (.getfield 29, 3) := by decide +kernel
theorem dX0_undoLast_4 : decode cX0_undoLast 4 = .ok (.ifCond .ne 5, 3) := by decide +kernel
theorem dX0_undoLast_7 : decode cX0_undoLast 7 = .ok (.iconst (-1), 1) := by decide +kernel
theorem dX0_undoLast_8 : decode cX0_undoLast 8 = .ok (.ireturn, 1) := by decide +kernel
theorem dX0_undoLast_9 : decode cX0_undoLast 9 = .ok (.aload_n 0, 1) := by decide +kernel
theorem dX0_undoLast_10 : decode cX0_undoLast 10 = .ok (.dup, 1) := by decide +kernel
theorem dX0_undoLast_11 : decode cX0_undoLast 11 = .ok (.getfield 29, 3) := by decide +kernel
theorem dX0_undoLast_14 : decode cX0_undoLast 14 = .ok (.iconst 1, 1) := by decide +kernel
theorem dX0_undoLast_15 : decode cX0_undoLast 15 = .ok (.isub, 1) := by decide +kernel
theorem dX0_undoLast_16 : decode cX0_undoLast 16 = .ok (.putfield 29, 3) := by decide +kernel
theorem dX0_undoLast_19 : decode cX0_undoLast 19 = .ok (.aload_n 0, 1) := by decide +kernel
theorem dX0_undoLast_20 : decode cX0_undoLast 20 = .ok (.aload_n 0, 1) := by decide +kernel
theorem dX0_undoLast_21 : decode cX0_undoLast 21 = .ok (.getfield 13, 3) := by decide +kernel
theorem dX0_undoLast_24 : decode cX0_undoLast 24 = .ok (.aload_n 0, 1) := by decide +kernel
theorem dX0_undoLast_25 : decode cX0_undoLast 25 = .ok (.getfield 25, 3) := by decide +kernel
theorem dX0_undoLast_28 : decode cX0_undoLast 28 = .ok (.aload_n 0, 1) := by decide +kernel
theorem dX0_undoLast_29 : decode cX0_undoLast 29 = .ok (.getfield 29, 3) := by decide +kernel
theorem dX0_undoLast_32 : decode cX0_undoLast 32 = .ok (.iadd, 1) := by decide +kernel
theorem dX0_undoLast_33 : decode cX0_undoLast 33 = .ok (.bipush 40, 2) := by decide +kernel
theorem dX0_undoLast_35 : decode cX0_undoLast 35 = .ok (.irem, 1) := by decide +kernel
theorem dX0_undoLast_36 : decode cX0_undoLast 36 = .ok (.aaload, 1) := by decide +kernel
theorem dX0_undoLast_37 : decode cX0_undoLast 37 = .ok (.invokevirtual 54, 3) := by decide +kernel
theorem dX0_undoLast_40 : decode cX0_undoLast 40 = .ok (.aload_n 0, 1) := by decide +kernel
theorem dX0_undoLast_41 : decode cX0_undoLast 41 = .ok (.getfield 29, 3) := by decide +kernel
theorem dX0_undoLast_44 : decode cX0_undoLast 44 = .ok (.ireturn, 1) := by decide +kernel
theorem dX0_forgetActs_0 : decode cX0_forgetActs 0 = .ok (.aload_n 0, 1) := by decide +kernel
theorem dX0_forgetActs_1 : decode cX0_forgetActs 1 = .ok (.iconst 0, 1) := by decide +kernel
theorem dX0_forgetActs_2 : decode cX0_forgetActs 2 = .ok (.putfield 29, 3) := by decide +kernel
theorem dX0_forgetActs_5 : decode cX0_forgetActs 5 = .ok (.aload_n 0, 1) := by decide +kernel
theorem dX0_forgetActs_6 : decode cX0_forgetActs 6 = .ok (.iconst 0, 1) := by decide +kernel
theorem dX0_forgetActs_7 : decode cX0_forgetActs 7 = .ok (.putfield 25, 3) := by decide +kernel
theorem dX0_forgetActs_10 : decode cX0_forgetActs 10 = .ok (.return_, 1) := by decide +kernel
theorem dX0_takeFrom_0 : decode cX0_takeFrom 0 = .ok (.aload_n 0, 1) := by decide +kernel
theorem dX0_takeFrom_1 : decode cX0_takeFrom 1 = .ok (.getfield 32, 3) := by decide +kernel
theorem dX0_takeFrom_4 : decode cX0_takeFrom 4 = .ok (.aload_n 1, 1) := by decide +kernel
theorem dX0_takeFrom_5 : decode cX0_takeFrom 5 = .ok (.getfield 32, 3) := by decide +kernel
theorem dX0_takeFrom_8 : decode cX0_takeFrom 8 = .ok (.invokevirtual 62, 3) := by decide +kernel
theorem dX0_takeFrom_11 : decode cX0_takeFrom 11 = .ok (.aload_n 0, 1) := by decide +kernel
theorem dX0_takeFrom_12 : decode cX0_takeFrom 12 = .ok (.getfield 36, 3) := by decide +kernel
theorem dX0_takeFrom_15 : decode cX0_takeFrom 15 = .ok (.aload_n 1, 1) := by decide +kernel
theorem dX0_takeFrom_16 : decode cX0_takeFrom 16 = .ok (.getfield 36, 3) := by decide +kernel
theorem dX0_takeFrom_19 : decode cX0_takeFrom 19 = .ok (.invokevirtual 66, 3) := by decide +kernel
theorem dX0_takeFrom_22 : decode cX0_takeFrom 22 = .ok (.aload_n 0, 1) := by decide +kernel
theorem dX0_takeFrom_23 : decode cX0_takeFrom 23 = .ok (.aload_n 1, 1) := by decide +kernel
theorem dX0_takeFrom_24 : decode cX0_takeFrom 24 = .ok (.getfield 25, 3) := by decide +kernel
theorem dX0_takeFrom_27 : decode cX0_takeFrom 27 = .ok (.putfield 25, 3) := by decide +kernel
theorem dX0_takeFrom_30 : decode cX0_takeFrom 30 = .ok (.aload_n 0, 1) := by decide +kernel
theorem dX0_takeFrom_31 : decode cX0_takeFrom 31 = .ok (.aload_n 1, 1) := by decide +kernel
theorem dX0_takeFrom_32 : decode cX0_takeFrom 32 = .ok (.getfield 29, 3) := by decide +kernel
theorem dX0_takeFrom_35 : decode cX0_takeFrom 35 = .ok (.putfield 29, 3) := by decide +kernel
theorem dX0_takeFrom_38 : decode cX0_takeFrom 38 = .ok (.iconst 0, 1) := by decide +kernel
theorem dX0_takeFrom_39 : decode cX0_takeFrom 39 = .ok (.istore_n 2, 1) := by decide +kernel
theorem dX0_takeFrom_40 : decode cX0_takeFrom 40 = .ok (.iload_n 2, 1) := by decide +kernel
theorem dX0_takeFrom_41 : decode cX0_takeFrom 41 = .ok (.aload_n 0, 1) := by decide +kernel
theorem dX0_takeFrom_42 : decode cX0_takeFrom 42 = .ok (.getfield 29, 3) := by decide +kernel
theorem dX0_takeFrom_45 : decode cX0_takeFrom 45 = .ok (.if_icmp .ge 38, 3) := by decide +kernel
theorem dX0_takeFrom_48 : decode cX0_takeFrom 48 = .ok (.aload_n 0, 1) := by decide +kernel
theorem dX0_takeFrom_49 : decode cX0_takeFrom 49 = .ok (.getfield 25, 3) := by decide +kernel
theorem dX0_takeFrom_52 : decode cX0_takeFrom 52 = .ok (.iload_n 2, 1) := by decide +kernel
theorem dX0_takeFrom_53 : decode cX0_takeFrom 53 = .ok (.iadd, 1) := by decide +kernel
theorem dX0_takeFrom_54 : decode cX0_takeFrom 54 = .ok (.bipush 40, 2) := by decide +kernel
theorem dX0_takeFrom_56 : decode cX0_takeFrom 56 = .ok (.irem, 1) := by decide +kernel
theorem dX0_takeFrom_57 : decode cX0_takeFrom 57 = .ok (.istore_n 3, 1) := by decide +kernel
theorem dX0_takeFrom_58 : decode cX0_takeFrom 58 = .ok (.aload_n 1, 1) := by decide +kernel
theorem dX0_takeFrom_59 : decode cX0_takeFrom 59 = .ok (.getfield 13, 3) := by decide +kernel
theorem dX0_takeFrom_62 : decode cX0_takeFrom 62 = .ok (.iload_n 3, 1) := by decide +kernel
theorem dX0_takeFrom_63 : decode cX0_takeFrom 63 = .ok (.aaload, 1) := by decide +kernel
theorem dX0_takeFrom_64 : decode cX0_takeFrom 64 = .ok (.iconst 0, 1) := by decide +kernel
theorem dX0_takeFrom_65 : decode cX0_takeFrom 65 = .ok (.aload_n 0, 1) := by decide +kernel
theorem dX0_takeFrom_66 : decode cX0_takeFrom 66 = .ok (.getfield 13, 3) := by decide +kernel
theorem dX0_takeFrom_69 : decode cX0_takeFrom 69 = .ok (.iload_n 3, 1) := by decide +kernel
theorem dX0_takeFrom_70 : decode cX0_takeFrom 70 = .ok (.aaload, 1) := by decide +kernel
theorem dX0_takeFrom_71 : decode cX0_takeFrom 71 = .ok (.iconst 0, 1) := by decide +kernel
theorem dX0_takeFrom_72 : decode cX0_takeFrom 72 = .ok (.bipush 61, 2) := by decide +kernel
theorem dX0_takeFrom_74 : decode cX0_takeFrom 74 = .ok (.invokestatic 48, 3) := by decide +kernel
theorem dX0_takeFrom_77 : decode cX0_takeFrom 77 = .ok (.iinc 2 1, 3) := by decide +kernel
theorem dX0_takeFrom_80 : decode cX0_takeFrom 80 = .ok (.goto (-40), 3) := by decide +kernel
theorem dX0_takeFrom_83 : decode cX0_takeFrom 83 = .ok (.aload_n 1, 1) := by decide +kernel
theorem dX0_takeFrom_84 : decode cX0_takeFrom 84 = .ok (.getfield 22, 3) := by decide +kernel
theorem dX0_takeFrom_87 : decode cX0_takeFrom 87 = .ok (.iconst 0, 1) := by decide +kernel
theorem dX0_takeFrom_88 : decode cX0_takeFrom 88 = .ok (.aload_n 0, 1) := by decide +kernel
theorem dX0_takeFrom_89 : decode cX0_takeFrom 89 = .ok (.getfield 22, 3) := by decide +kernel
theorem dX0_takeFrom_92 : decode cX0_takeFrom 92 = .ok (.iconst 0, 1) := by decide +kernel
theorem dX0_takeFrom_93 : decode cX0_takeFrom 93 = .ok (.aload_n 0, 1) := by decide +kernel
theorem dX0_takeFrom_94 : decode cX0_takeFrom 94 = .ok (.getfield 22, 3) := by decide +kernel
theorem dX0_takeFrom_97 : decode cX0_takeFrom 97 = .ok (.arraylength, 1) := by decide +kernel
theorem dX0_takeFrom_98 : decode cX0_takeFrom 98 = .ok (.invokestatic 48, 3) := by decide +kernel
theorem dX0_takeFrom_101 : decode cX0_takeFrom 101 = .ok (.return_, 1) := by decide +kernel
theorem dX1_init_0 : decode cX1_init 0 = .ok (.aload_n 0, 1) := by decide +kernel
theorem dX1_init_1 : decode cX1_init 1 = .ok (.invokespecial 5, 3) := by decide +kernel
theorem dX1_init_4 : decode cX1_init 4 = .ok (.aload_n 0, 1) := by decide +kernel
theorem dX1_init_5 : decode cX1_init 5 = .ok (.bipush 61, 2) := by decide +kernel
theorem dX1_init_7 : decode cX1_init 7 = .ok (.newarray .int, 2) := by decide +kernel
theorem dX1_init_9 : decode cX1_init 9 = .ok (.putfield 11, 3) := by decide +kernel
theorem dX1_init_12 : decode cX1_init 12 = .ok (.aload_n 0, 1) := by decide +kernel
theorem dX1_init_13 : decode cX1_init 13 = .ok (.getfield 11, 3) := by decide +kernel
theorem dX1_init_16 : decode cX1_init 16 = .ok (.invokestatic 15, 3) := by decide +kernel
theorem dX1_init_19 : decode cX1_init 19 = .ok (.return_, 1) := by decide +kernel
theorem dX1_fillAnew_0 : decode cX1_fillAnew 0 = .ok (.aload_n 0, 1) := by decide +kernel
theorem dX1_fillAnew_1 : decode cX1_fillAnew 1 = .ok (.iconst 0, 1) := by decide +kernel
theorem dX1_fillAnew_2 : decode cX1_fillAnew 2 = .ok (.invokestatic 19, 3) := by decide +kernel
theorem dX1_fillAnew_5 : decode cX1_fillAnew 5 = .ok (.iconst 0, 1) := by decide +kernel
theorem dX1_fillAnew_6 : decode cX1_fillAnew 6 = .ok (.istore_n 1, 1) := by decide +kernel
theorem dX1_fillAnew_7 : decode cX1_fillAnew 7 = .ok (.iload_n 1, 1) := by decide +kernel
theorem dX1_fillAnew_8 : decode cX1_fillAnew 8 = .ok (.bipush 8, 2) := by decide +kernel
theorem dX1_fillAnew_10 : decode cX1_fillAnew 10 = .ok (.if_icmp .ge 16, 3) := by decide +kernel
theorem dX1_fillAnew_13 : decode cX1_fillAnew 13 = .ok (.aload_n 0, 1) := by decide +kernel
theorem dX1_fillAnew_14 : decode cX1_fillAnew 14 = .ok (.bipush 7, 2) := by decide +kernel
theorem dX1_fillAnew_16 : decode cX1_fillAnew 16 = .ok (.iload_n 1, 1) := by decide +kernel
theorem dX1_fillAnew_17 : decode cX1_fillAnew 17 = .ok (.iadd, 1) := by decide +kernel
theorem dX1_fillAnew_18 : decode cX1_fillAnew 18 = .ok (.iconst (-1), 1) := by decide +kernel
theorem dX1_fillAnew_19 : decode cX1_fillAnew 19 = .ok (.iastore, 1) := by decide +kernel
theorem dX1_fillAnew_20 : decode cX1_fillAnew 20 = .ok (.iinc 1 1, 3) := by decide +kernel
theorem dX1_fillAnew_23 : decode cX1_fillAnew 23 = .ok (.goto (-16), 3) := by decide +kernel
theorem dX1_fillAnew_26 : decode cX1_fillAnew 26 = .ok (.aload_n 0, 1) := by decide +kernel
theorem dX1_fillAnew_27 : decode cX1_fillAnew 27 = .ok (.iconst 1, 1) := by decide +kernel
theorem dX1_fillAnew_28 : decode cX1_fillAnew 28 = .ok (.iconst 4, 1) := by decide +kernel
theorem dX1_fillAnew_29 : decode cX1_fillAnew 29 = .ok (.iastore, 1) := by decide +kernel
theorem dX1_fillAnew_30 : decode cX1_fillAnew 30 = .ok (.return_, 1) := by decide +kernel
theorem dX1_empty_0 : decode cX1_empty 0 = .ok (.aload_n 0, 1) := by decide +kernel
theorem dX1_empty_1 : decode cX1_empty 1 = .ok (.getfield 11, 3) := by decide +kernel
theorem dX1_empty_4 : decode cX1_empty 4 = .ok (.invokestatic 15, 3) := by decide +kernel
theorem dX1_empty_7 : decode cX1_empty 7 = .ok (.return_, 1) := by decide +kernel
theorem dX1_takeFrom_0 : decode cX1_takeFrom 0 = .ok (.aload_n 1, 1) := by decide +kernel
theorem dX1_takeFrom_1 : decode cX1_takeFrom 1 = .ok (.getfield 11, 3) := by decide +kernel
theorem dX1_takeFrom_4 : decode cX1_takeFrom 4 = .ok (.iconst 0, 1) := by decide +kernel
theorem dX1_takeFrom_5 : decode cX1_takeFrom 5 = .ok (.aload_n 0, 1) := by decide +kernel
theorem dX1_takeFrom_6 : decode cX1_takeFrom 6 = .ok (.getfield 11, 3) := by decide +kernel
theorem dX1_takeFrom_9 : decode cX1_takeFrom 9 = .ok (.iconst 0, 1) := by decide +kernel
theorem dX1_takeFrom_10 : decode cX1_takeFrom 10 = .ok (.bipush 61, 2) := by decide +kernel
theorem dX1_takeFrom_12 : decode cX1_takeFrom 12 = .ok (.invokestatic 25, 3) := by decide +kernel
theorem dX1_takeFrom_15 : decode cX1_takeFrom 15 = .ok (.return_, 1) := by decide +kernel
theorem dX1_addRule_0 : decode cX1_addRule 0 = .ok (.aload_n 0, 1) := by decide +kernel
theorem dX1_addRule_1 : decode cX1_addRule 1 = .ok (.getfield 11, 3) := by decide +kernel
theorem dX1_addRule_4 : decode cX1_addRule 4 = .ok (.iconst 4, 1) := by decide +kernel
theorem dX1_addRule_5 : decode cX1_addRule 5 = .ok (.iaload, 1) := by decide +kernel
theorem dX1_addRule_6 : decode cX1_addRule 6 = .ok (.istore_n 3, 1) := by decide +kernel
theorem dX1_addRule_7 : decode cX1_addRule 7 = .ok (.iload_n 3, 1) := by decide +kernel
theorem dX1_addRule_8 : decode cX1_addRule 8 = .ok (.bipush 8, 2) := by decide +kernel
theorem dX1_addRule_10 : decode cX1_addRule 10 = .ok (.if_icmp .ge 40, 3) := by decide +kernel
theorem dX1_addRule_13 : decode cX1_addRule 13 = .ok (.aload_n 0, 1) := by decide +kernel
theorem dX1_addRule_14 : decode cX1_addRule 14 = .ok (.getfield 11, 3) := by decide +kernel
theorem dX1_addRule_17 : decode cX1_addRule 17 = .ok (.bipush 15, 2) := by decide +kernel
theorem dX1_addRule_19 : decode cX1_addRule 19 = .ok (.iload_n 3, 1) := by decide +kernel
theorem dX1_addRule_20 : decode cX1_addRule 20 = .ok (.iadd, 1) := by decide +kernel
theorem dX1_addRule_21 : decode cX1_addRule 21 = .ok (.iload_n 1, 1) := by decide +kernel
theorem dX1_addRule_22 : decode cX1_addRule 22 = .ok (.iastore, 1) := by decide +kernel
theorem dX1_addRule_23 : decode cX1_addRule 23 = .ok (.aload_n 0, 1) := by decide +kernel
theorem dX1_addRule_24 : decode cX1_addRule 24 = .ok (.getfield 11, 3) := by decide +kernel
theorem dX1_addRule_27 : decode cX1_addRule 27 = .ok (.bipush 23, 2) := by decide +kernel
theorem dX1_addRule_29 : decode cX1_addRule 29 = .ok (.iload_n 3, 1) := by decide +kernel
theorem dX1_addRule_30 : decode cX1_addRule 30 = .ok (.iadd, 1) := by decide +kernel
theorem dX1_addRule_31 : decode cX1_addRule 31 = .ok (.iload_n 2, 1) := by decide +kernel
theorem dX1_addRule_32 : decode cX1_addRule 32 = .ok (.iastore, 1) := by decide +kernel
theorem dX1_addRule_33 : decode cX1_addRule 33 = .ok (.aload_n 0, 1) := by decide +kernel
theorem dX1_addRule_34 : decode cX1_addRule 34 = .ok (.getfield 11, 3) := by decide +kernel
theorem dX1_addRule_37 : decode cX1_addRule 37 = .ok (.iconst 4, 1) := by decide +kernel
theorem dX1_addRule_38 : decode cX1_addRule 38 = .ok (.iload_n 3, 1) := by decide +kernel
theorem dX1_addRule_39 : decode cX1_addRule 39 = .ok (.iconst 1, 1) := by decide +kernel
theorem dX1_addRule_40 : decode cX1_addRule 40 = .ok (.iadd, 1) := by decide +kernel
theorem dX1_addRule_41 : decode cX1_addRule 41 = .ok (.iastore, 1) := by decide +kernel
theorem dX1_addRule_42 : decode cX1_addRule 42 = .ok (.aload_n 0, 1) := by decide +kernel
theorem dX1_addRule_43 : decode cX1_addRule 43 = .ok (.getfield 11, 3) := by decide +kernel
theorem dX1_addRule_46 : decode cX1_addRule 46 = .ok (.bipush 6, 2) := by decide +kernel
theorem dX1_addRule_48 : decode cX1_addRule 48 = .ok (.iconst 0, 1) := by decide +kernel
theorem dX1_addRule_49 : decode cX1_addRule 49 = .ok (.iastore, 1) := by decide +kernel
theorem dX1_addRule_50 : decode cX1_addRule 50 = .ok (.return_, 1) := by decide +kernel
theorem dX1_tellRoom_0 : decode cX1_tellRoom 0 = .ok (.aload_n 0, 1) := by decide +kernel
theorem dX1_tellRoom_1 : decode cX1_tellRoom 1 = .ok (.getfield 11, 3) := by decide +kernel
theorem dX1_tellRoom_4 : decode cX1_tellRoom 4 = .ok (.iconst 1, 1) := by decide +kernel
theorem dX1_tellRoom_5 : decode cX1_tellRoom 5 = .ok (.iload_n 1, 1) := by decide +kernel
theorem dX1_tellRoom_6 : decode cX1_tellRoom 6 = .ok (.iastore, 1) := by decide +kernel
theorem dX1_tellRoom_7 : decode cX1_tellRoom 7 = .ok (.aload_n 0, 1) := by decide +kernel
theorem dX1_tellRoom_8 : decode cX1_tellRoom 8 = .ok (.getfield 11, 3) := by decide +kernel
theorem dX1_tellRoom_11 : decode cX1_tellRoom 11 = .ok (.bipush 6, 2) := by decide +kernel
theorem dX1_tellRoom_13 : decode cX1_tellRoom 13 = .ok (.iconst 0, 1) := by decide +kernel
theorem dX1_tellRoom_14 : decode cX1_tellRoom 14 = .ok (.iastore, 1) := by decide +kernel
theorem dX1_tellRoom_15 : decode cX1_tellRoom 15 = .ok (.return_, 1) := by decide +kernel
theorem dX1_entryOf_0 : decode cX1_entryOf 0 = .ok (.iconst 0, 1) := by decide +kernel
theorem dX1_entryOf_1 : decode cX1_entryOf 1 = .ok (.istore_n 2, 1) := by decide +kernel
theorem dX1_entryOf_2 : decode cX1_entryOf 2 = .ok (.iload_n 2, 1) := by decide +kernel
theorem dX1_entryOf_3 : decode cX1_entryOf 3 = .ok (.aload_n 0, 1) := by decide +kernel
theorem dX1_entryOf_4 : decode cX1_entryOf 4 = .ok (.getfield 11, 3) := by decide +kernel
theorem dX1_entryOf_7 : decode cX1_entryOf 7 = .ok (.iconst 5, 1) := by decide +kernel
theorem dX1_entryOf_8 : decode cX1_entryOf 8 = .ok (.iaload, 1) := by decide +kernel
theorem dX1_entryOf_9 : decode cX1_entryOf 9 = .ok (.if_icmp .ge 24, 3) := by decide +kernel
theorem dX1_entryOf_12 : decode cX1_entryOf 12 = .ok (.aload_n 0, 1) := by decide +kernel
theorem dX1_entryOf_13 : decode cX1_entryOf 13 = .ok (.getfield 11, 3) := by decide +kernel
theorem dX1_entryOf_16 : decode cX1_entryOf 16 = .ok (.bipush 31, 2) := by decide +kernel
theorem dX1_entryOf_18 : decode cX1_entryOf 18 = .ok (.iload_n 2, 1) := by decide +kernel
theorem dX1_entryOf_19 : decode cX1_entryOf 19 = .ok (.iadd, 1) := by decide +kernel
theorem dX1_entryOf_20 : decode cX1_entryOf 20 = .ok (.iaload, 1) := by decide +kernel
theorem dX1_entryOf_21 : decode cX1_entryOf 21 = .ok (.iload_n 1, 1) := by decide +kernel
theorem dX1_entryOf_22 : decode cX1_entryOf 22 = .ok (.if_icmp .ne 5, 3) := by decide +kernel
theorem dX1_entryOf_25 : decode cX1_entryOf 25 = .ok (.iload_n 2, 1) := by decide +kernel
theorem dX1_entryOf_26 : decode cX1_entryOf 26 = .ok (.ireturn, 1) := by decide +kernel
theorem dX1_entryOf_27 : decode cX1_entryOf 27 = .ok (.iinc 2 1, 3) := by decide +kernel
theorem dX1_entryOf_30 : decode cX1_entryOf 30 = .ok (.goto (-28), 3) := by decide +kernel
theorem dX1_entryOf_33 : decode cX1_entryOf 33 = .ok (.iconst (-1), 1) := by decide +kernel
theorem dX1_entryOf_34 : decode cX1_entryOf 34 = .ok (.ireturn, 1) := by decide +kernel
theorem dX1_addEntry_0 : decode cX1_addEntry 0 = .ok (.aload_n 0, 1) := by decide +kernel
theorem dX1_addEntry_1 : decode cX1_addEntry 1 = .ok (.getfield 11, 3) := by decide +kernel
theorem dX1_addEntry_4 : decode cX1_addEntry 4 = .ok (.iconst 5, 1) := by decide +kernel
theorem dX1_addEntry_5 : decode cX1_addEntry 5 = .ok (.iaload, 1) := by decide +kernel
theorem dX1_addEntry_6 : decode cX1_addEntry 6 = .ok (.istore_n 2, 1) := by decide +kernel
theorem dX1_addEntry_7 : decode cX1_addEntry 7 = .ok (.iload_n 2, 1) := by decide +kernel
theorem dX1_addEntry_8 : decode cX1_addEntry 8 = .ok (.bipush 12, 2) := by decide +kernel
theorem dX1_addEntry_10 : decode cX1_addEntry 10 = .ok (.if_icmp .ge 22, 3) := by decide +kernel
theorem dX1_addEntry_13 : decode cX1_addEntry 13 = .ok (.aload_n 0, 1) := by decide +kernel
theorem dX1_addEntry_14 : decode cX1_addEntry 14 = .ok (.getfield 11, 3) := by decide +kernel
theorem dX1_addEntry_17 : decode cX1_addEntry 17 = .ok (.bipush 31, 2) := by decide +kernel
theorem dX1_addEntry_19 : decode cX1_addEntry 19 = .ok (.iload_n 2, 1) := by decide +kernel
theorem dX1_addEntry_20 : decode cX1_addEntry 20 = .ok (.iadd, 1) := by decide +kernel
theorem dX1_addEntry_21 : decode cX1_addEntry 21 = .ok (.iload_n 1, 1) := by decide +kernel
theorem dX1_addEntry_22 : decode cX1_addEntry 22 = .ok (.iastore, 1) := by decide +kernel
theorem dX1_addEntry_23 : decode cX1_addEntry 23 = .ok (.aload_n 0, 1) := by decide +kernel
theorem dX1_addEntry_24 : decode cX1_addEntry 24 = .ok (.getfield 11, 3) := by decide +kernel
theorem dX1_addEntry_27 : decode cX1_addEntry 27 = .ok (.iconst 5, 1) := by decide +kernel
theorem dX1_addEntry_28 : decode cX1_addEntry 28 = .ok (.iload_n 2, 1) := by decide +kernel
theorem dX1_addEntry_29 : decode cX1_addEntry 29 = .ok (.iconst 1, 1) := by decide +kernel
theorem dX1_addEntry_30 : decode cX1_addEntry 30 = .ok (.iadd, 1) := by decide +kernel
theorem dX1_addEntry_31 : decode cX1_addEntry 31 = .ok (.iastore, 1) := by decide +kernel
theorem dX1_addEntry_32 : decode cX1_addEntry 32 = .ok (.return_, 1) := by decide +kernel
theorem dX1_dropEntry_0 : decode cX1_dropEntry 0 = .ok (.aload_n 0, 1) := by decide +kernel
theorem dX1_dropEntry_1 : decode cX1_dropEntry 1 = .ok (.getfield 11, 3) := by decide +kernel
theorem dX1_dropEntry_4 : decode cX1_dropEntry 4 = .ok (.iconst 5, 1) := by decide +kernel
theorem dX1_dropEntry_5 : decode cX1_dropEntry 5 = .ok (.iaload, 1) := by decide +kernel
theorem dX1_dropEntry_6 : decode cX1_dropEntry 6 = .ok (.iconst 1, 1) := by decide +kernel
theorem dX1_dropEntry_7 : decode cX1_dropEntry 7 = .ok (.isub, 1) := by decide +kernel
theorem dX1_dropEntry_8 : decode cX1_dropEntry 8 = .ok (.istore_n 2, 1) := by decide +kernel
theorem dX1_dropEntry_9 : decode cX1_dropEntry 9 = .ok (.iload_n 1, 1) := by decide +kernel
theorem dX1_dropEntry_10 : decode cX1_dropEntry 10 = .ok (.istore_n 3, 1) := by decide +kernel
theorem dX1_dropEntry_11 : decode cX1_dropEntry 11 = .ok (.iload_n 3, 1) := by decide +kernel
theorem dX1_dropEntry_12 : decode cX1_dropEntry 12 = .ok (.iload_n 2, 1) := by decide +kernel
theorem dX1_dropEntry_13 : decode cX1_dropEntry 13 = .ok (.if_icmp .ge 29, 3) := by decide +kernel
theorem dX1_dropEntry_16 : decode cX1_dropEntry 16 = .ok (.aload_n 0, 1) := by decide +kernel
theorem dX1_dropEntry_17 : decode cX1_dropEntry 17 = .ok (.getfield 11, 3) := by decide +kernel
theorem dX1_dropEntry_20 : decode cX1_dropEntry 20 = .ok (.bipush 31, 2) := by decide +kernel
theorem dX1_dropEntry_22 : decode cX1_dropEntry 22 = .ok (.iload_n 3, 1) := by decide +kernel
theorem dX1_dropEntry_23 : decode cX1_dropEntry 23 = .ok (.iadd, 1) := by decide +kernel
theorem dX1_dropEntry_24 : decode cX1_dropEntry 24 = .ok (.aload_n 0, 1) := by decide +kernel
theorem dX1_dropEntry_25 : decode cX1_dropEntry 25 = .ok (.getfield 11, 3) := by decide +kernel
theorem dX1_dropEntry_28 : decode cX1_dropEntry 28 = .ok (.bipush 31, 2) := by decide +kernel
theorem dX1_dropEntry_30 : decode cX1_dropEntry 30 = .ok (.iload_n 3, 1) := by decide +kernel
theorem dX1_dropEntry_31 : decode cX1_dropEntry 31 = .ok (.iadd, 1) := by decide +kernel
theorem dX1_dropEntry_32 : decode cX1_dropEntry 32 = .ok (.iconst 1, 1) := by decide +kernel
theorem dX1_dropEntry_33 : decode cX1_dropEntry 33 = .ok (.iadd, 1) := by decide +kernel
theorem dX1_dropEntry_34 : decode cX1_dropEntry 34 = .ok (.iaload, 1) := by decide +kernel
theorem dX1_dropEntry_35 : decode cX1_dropEntry 35 = .ok (.iastore, 1) := by decide +kernel
theorem dX1_dropEntry_36 : decode cX1_dropEntry 36 = .ok (.iinc 3 1, 3) := by decide +kernel
theorem dX1_dropEntry_39 : decode cX1_dropEntry 39 = .ok (.goto (-28), 3) := by decide +kernel
theorem dX1_dropEntry_42 : decode cX1_dropEntry 42 = .ok (.aload_n 0, 1) := by decide +kernel
theorem dX1_dropEntry_43 : decode cX1_dropEntry 43 = .ok (.getfield 11, 3) := by decide +kernel
theorem dX1_dropEntry_46 : decode cX1_dropEntry 46 = .ok (.iconst 5, 1) := by decide +kernel
theorem dX1_dropEntry_47 : decode cX1_dropEntry 47 = .ok (.iload_n 2, 1) := by decide +kernel
theorem dX1_dropEntry_48 : decode cX1_dropEntry 48 = .ok (.iastore, 1) := by decide +kernel
theorem dX1_dropEntry_49 : decode cX1_dropEntry 49 = .ok (.return_, 1) := by decide +kernel
theorem dX1_recalled_0 : decode cX1_recalled 0 = .ok (.iconst 0, 1) := by decide +kernel
theorem dX1_recalled_1 : decode cX1_recalled 1 = .ok (.istore_n 2, 1) := by decide +kernel
theorem dX1_recalled_2 : decode cX1_recalled 2 = .ok (.iload_n 2, 1) := by decide +kernel
theorem dX1_recalled_3 : decode cX1_recalled 3 = .ok (.aload_n 0, 1) := by decide +kernel
theorem dX1_recalled_4 : decode cX1_recalled 4 = .ok (.getfield 11, 3) := by decide +kernel
theorem dX1_recalled_7 : decode cX1_recalled 7 = .ok (.bipush 6, 2) := by decide +kernel
theorem dX1_recalled_9 : decode cX1_recalled 9 = .ok (.iaload, 1) := by decide +kernel
theorem dX1_recalled_10 : decode cX1_recalled 10 = .ok (.if_icmp .ge 55, 3) := by decide +kernel
theorem dX1_recalled_13 : decode cX1_recalled 13 = .ok (.aload_n 0, 1) := by decide +kernel
theorem dX1_recalled_14 : decode cX1_recalled 14 = .ok (.getfield 11, 3) := by decide +kernel
theorem dX1_recalled_17 : decode cX1_recalled 17 = .ok (.bipush 43, 2) := by decide +kernel
theorem dX1_recalled_19 : decode cX1_recalled 19 = .ok (.iload_n 2, 1) := by decide +kernel
theorem dX1_recalled_20 : decode cX1_recalled 20 = .ok (.iadd, 1) := by decide +kernel
theorem dX1_recalled_21 : decode cX1_recalled 21 = .ok (.iaload, 1) := by decide +kernel
theorem dX1_recalled_22 : decode cX1_recalled 22 = .ok (.iload_n 1, 1) := by decide +kernel
theorem dX1_recalled_23 : decode cX1_recalled 23 = .ok (.if_icmp .ne 36, 3) := by decide +kernel
theorem dX1_recalled_26 : decode cX1_recalled 26 = .ok (.aload_n 0, 1) := by decide +kernel
theorem dX1_recalled_27 : decode cX1_recalled 27 = .ok (.getfield 11, 3) := by decide +kernel
theorem dX1_recalled_30 : decode cX1_recalled 30 = .ok (.bipush 52, 2) := by decide +kernel
theorem dX1_recalled_32 : decode cX1_recalled 32 = .ok (.iload_n 2, 1) := by decide +kernel
theorem dX1_recalled_33 : decode cX1_recalled 33 = .ok (.iadd, 1) := by decide +kernel
theorem dX1_recalled_34 : decode cX1_recalled 34 = .ok (.iaload, 1) := by decide +kernel
theorem dX1_recalled_35 : decode cX1_recalled 35 = .ok (.istore_n 3, 1) := by decide +kernel
theorem dX1_recalled_36 : decode cX1_recalled 36 = .ok (.aload_n 0, 1) := by decide +kernel
theorem dX1_recalled_37 : decode cX1_recalled 37 = .ok (.getfield 11, 3) := by decide +kernel
theorem dX1_recalled_40 : decode cX1_recalled 40 = .ok (.iconst 2, 1) := by decide +kernel
theorem dX1_recalled_41 : decode cX1_recalled 41 = .ok (.dup2, 1) := by decide +kernel
theorem dX1_recalled_42 : decode cX1_recalled 42 = .ok (.iaload, 1) := by decide +kernel
theorem dX1_recalled_43 : decode cX1_recalled 43 = .ok (.iconst 1, 1) := by decide +kernel
theorem dX1_recalled_44 : decode cX1_recalled 44 = .ok (.iadd, 1) := by decide +kernel
theorem dX1_recalled_45 : decode cX1_recalled 45 = .ok (.iastore, 1) := by decide +kernel
theorem dX1_recalled_46 : decode cX1_recalled 46 = .ok (.aload_n 0, 1) := by decide +kernel
theorem dX1_recalled_47 : decode cX1_recalled 47 = .ok (.iload_n 2, 1) := by decide +kernel
theorem dX1_recalled_48 : decode cX1_recalled 48 = .ok (.invokevirtual 31, 3) := by decide +kernel
theorem dX1_recalled_51 : decode cX1_recalled 51 = .ok (.aload_n 0, 1) := by decide +kernel
theorem dX1_recalled_52 : decode cX1_recalled 52 = .ok (.iload_n 1, 1) := by decide +kernel
theorem dX1_recalled_53 : decode cX1_recalled 53 = .ok (.iload_n 3, 1) := by decide +kernel
theorem dX1_recalled_54 : decode cX1_recalled 54 = .ok (.invokevirtual 35, 3) := by decide +kernel
theorem dX1_recalled_57 : decode cX1_recalled 57 = .ok (.iload_n 3, 1) := by decide +kernel
theorem dX1_recalled_58 : decode cX1_recalled 58 = .ok (.ireturn, 1) := by decide +kernel
theorem dX1_recalled_59 : decode cX1_recalled 59 = .ok (.iinc 2 1, 3) := by decide +kernel
theorem dX1_recalled_62 : decode cX1_recalled 62 = .ok (.goto (-60), 3) := by decide +kernel
theorem dX1_recalled_65 : decode cX1_recalled 65 = .ok (.iconst (-1), 1) := by decide +kernel
theorem dX1_recalled_66 : decode cX1_recalled 66 = .ok (.ireturn, 1) := by decide +kernel
theorem dX1_remember_0 : decode cX1_remember 0 = .ok (.aload_n 0, 1) := by decide +kernel
theorem dX1_remember_1 : decode cX1_remember 1 = .ok (.getfield 11, 3) := by decide +kernel
theorem dX1_remember_4 : decode cX1_remember 4 = .ok (.iconst 1, 1) := by decide +kernel
theorem dX1_remember_5 : decode cX1_remember 5 = .ok (.iaload, 1) := by decide +kernel
theorem dX1_remember_6 : decode cX1_remember 6 = .ok (.ifCond .ne 4, 3) := by decide +kernel
theorem dX1_remember_9 : decode cX1_remember 9 = .ok (.return_, 1) := by decide +kernel
theorem dX1_remember_10 : decode cX1_remember 10 = .ok (.aload_n 0, 1) := by decide +kernel
theorem dX1_remember_11 : decode cX1_remember 11 = .ok (.getfield 11, 3) := by decide +kernel
theorem dX1_remember_14 : decode cX1_remember 14 = .ok (.bipush 6, 2) := by decide +kernel
theorem dX1_remember_16 : decode cX1_remember 16 = .ok (.iaload, 1) := by decide +kernel
theorem dX1_remember_17 : decode cX1_remember 17 = .ok (.aload_n 0, 1) := by decide +kernel
theorem dX1_remember_18 : decode cX1_remember 18 = .ok (.getfield 11, 3) := by decide +kernel
theorem dX1_remember_21 : decode cX1_remember 21 = .ok (.iconst 1, 1) := by decide +kernel
theorem dX1_remember_22 : decode cX1_remember 22 = .ok (.iaload, 1) := by decide +kernel
theorem dX1_remember_23 : decode cX1_remember 23 = .ok (.if_icmp .lt 8, 3) := by decide +kernel
theorem dX1_remember_26 : decode cX1_remember 26 = .ok (.aload_n 0, 1) := by decide +kernel
theorem dX1_remember_27 : decode cX1_remember 27 = .ok (.iconst 0, 1) := by decide +kernel
theorem dX1_remember_28 : decode cX1_remember 28 = .ok (.invokevirtual 31, 3) := by decide +kernel
theorem dX1_remember_31 : decode cX1_remember 31 = .ok (.aload_n 0, 1) := by decide +kernel
theorem dX1_remember_32 : decode cX1_remember 32 = .ok (.iload_n 1, 1) := by decide +kernel
theorem dX1_remember_33 : decode cX1_remember 33 = .ok (.iload_n 2, 1) := by decide +kernel
theorem dX1_remember_34 : decode cX1_remember 34 = .ok (.invokevirtual 35, 3) := by decide +kernel
theorem dX1_remember_37 : decode cX1_remember 37 = .ok (.return_, 1) := by decide +kernel
theorem dX1_addMemo_0 : decode cX1_addMemo 0 = .ok (.aload_n 0, 1) := by decide +kernel
theorem dX1_addMemo_1 : decode cX1_addMemo 1 = .ok (.getfield 11, 3) := by decide +kernel
theorem dX1_addMemo_4 : decode cX1_addMemo 4 = .ok (.bipush 6, 2) := by decide +kernel
theorem dX1_addMemo_6 : decode cX1_addMemo 6 = .ok (.iaload, 1) := by decide +kernel
theorem dX1_addMemo_7 : decode cX1_addMemo 7 = .ok (.istore_n 3, 1) := by decide +kernel
theorem dX1_addMemo_8 : decode cX1_addMemo 8 = .ok (.iload_n 3, 1) := by decide +kernel
theorem dX1_addMemo_9 : decode cX1_addMemo 9 = .ok (.bipush 9, 2) := by decide +kernel
theorem dX1_addMemo_11 : decode cX1_addMemo 11 = .ok (.if_icmp .ge 33, 3) := by decide +kernel
theorem dX1_addMemo_14 : decode cX1_addMemo 14 = .ok (.aload_n 0, 1) := by decide +kernel
theorem dX1_addMemo_15 : decode cX1_addMemo 15 = .ok (.getfield 11, 3) := by decide +kernel
theorem dX1_addMemo_18 : decode cX1_addMemo 18 = .ok (.bipush 43, 2) := by decide +kernel
theorem dX1_addMemo_20 : decode cX1_addMemo 20 = .ok (.iload_n 3, 1) := by decide +kernel
theorem dX1_addMemo_21 : decode cX1_addMemo 21 = .ok (.iadd, 1) := by decide +kernel
theorem dX1_addMemo_22 : decode cX1_addMemo 22 = .ok (.iload_n 1, 1) := by decide +kernel
theorem dX1_addMemo_23 : decode cX1_addMemo 23 = .ok (.iastore, 1) := by decide +kernel
theorem dX1_addMemo_24 : decode cX1_addMemo 24 = .ok (.aload_n 0, 1) := by decide +kernel
theorem dX1_addMemo_25 : decode cX1_addMemo 25 = .ok (.getfield 11, 3) := by decide +kernel
theorem dX1_addMemo_28 : decode cX1_addMemo 28 = .ok (.bipush 52, 2) := by decide +kernel
theorem dX1_addMemo_30 : decode cX1_addMemo 30 = .ok (.iload_n 3, 1) := by decide +kernel
theorem dX1_addMemo_31 : decode cX1_addMemo 31 = .ok (.iadd, 1) := by decide +kernel
theorem dX1_addMemo_32 : decode cX1_addMemo 32 = .ok (.iload_n 2, 1) := by decide +kernel
theorem dX1_addMemo_33 : decode cX1_addMemo 33 = .ok (.iastore, 1) := by decide +kernel
theorem dX1_addMemo_34 : decode cX1_addMemo 34 = .ok (.aload_n 0, 1) := by decide +kernel
theorem dX1_addMemo_35 : decode cX1_addMemo 35 = .ok (.getfield 11, 3) := by decide +kernel
theorem dX1_addMemo_38 : decode cX1_addMemo 38 = .ok (.bipush 6, 2) := by decide +kernel
theorem dX1_addMemo_40 : decode cX1_addMemo 40 = .ok (.iload_n 3, 1) := by decide +kernel
theorem dX1_addMemo_41 : decode cX1_addMemo 41 = .ok (.iconst 1, 1) := by decide +kernel
theorem dX1_addMemo_42 : decode cX1_addMemo 42 = .ok (.iadd, 1) := by decide +kernel
theorem dX1_addMemo_43 : decode cX1_addMemo 43 = .ok (.iastore, 1) := by decide +kernel
theorem dX1_addMemo_44 : decode cX1_addMemo 44 = .ok (.return_, 1) := by decide +kernel
theorem dX1_dropMemo_0 : decode cX1_dropMemo 0 = .ok (.aload_n 0, 1) := by decide +kernel
theorem dX1_dropMemo_1 : decode cX1_dropMemo 1 = .ok (.getfield 11, 3) := by decide +kernel
theorem dX1_dropMemo_4 : decode cX1_dropMemo 4 = .ok (.bipush 6, 2) := by decide +kernel
theorem dX1_dropMemo_6 : decode cX1_dropMemo 6 = .ok (.iaload, 1) := by decide +kernel
theorem dX1_dropMemo_7 : decode cX1_dropMemo 7 = .ok (.iconst 1, 1) := by decide +kernel
theorem dX1_dropMemo_8 : decode cX1_dropMemo 8 = .ok (.isub, 1) := by decide +kernel
theorem dX1_dropMemo_9 : decode cX1_dropMemo 9 = .ok (.istore_n 2, 1) := by decide +kernel
theorem dX1_dropMemo_10 : decode cX1_dropMemo 10 = .ok (.iload_n 1, 1) := by decide +kernel
theorem dX1_dropMemo_11 : decode cX1_dropMemo 11 = .ok (.istore_n 3, 1) := by decide +kernel
theorem dX1_dropMemo_12 : decode cX1_dropMemo 12 = .ok (.iload_n 3, 1) := by decide +kernel
theorem dX1_dropMemo_13 : decode cX1_dropMemo 13 = .ok (.iload_n 2, 1) := by decide +kernel
theorem dX1_dropMemo_14 : decode cX1_dropMemo 14 = .ok (.if_icmp .ge 49, 3) := by decide +kernel
theorem dX1_dropMemo_17 : decode cX1_dropMemo 17 = .ok (.aload_n 0, 1) := by decide +kernel
theorem dX1_dropMemo_18 : decode cX1_dropMemo 18 = .ok (.getfield 11, 3) := by decide +kernel
theorem dX1_dropMemo_21 : decode cX1_dropMemo 21 = .ok (.bipush 43, 2) := by decide +kernel
theorem dX1_dropMemo_23 : decode cX1_dropMemo 23 = .ok (.iload_n 3, 1) := by decide +kernel
theorem dX1_dropMemo_24 : decode cX1_dropMemo 24 = .ok (.iadd, 1) := by decide +kernel
theorem dX1_dropMemo_25 : decode cX1_dropMemo 25 = .ok (.aload_n 0, 1) := by decide +kernel
theorem dX1_dropMemo_26 : decode cX1_dropMemo 26 = .ok (.getfield 11, 3) := by decide +kernel
theorem dX1_dropMemo_29 : decode cX1_dropMemo 29 = .ok (.bipush 43, 2) := by decide +kernel
theorem dX1_dropMemo_31 : decode cX1_dropMemo 31 = .ok (.iload_n 3, 1) := by decide +kernel
theorem dX1_dropMemo_32 : decode cX1_dropMemo 32 = .ok (.iadd, 1) := by decide +kernel
theorem dX1_dropMemo_33 : decode cX1_dropMemo 33 = .ok (.iconst 1, 1) := by decide +kernel
theorem dX1_dropMemo_34 : decode cX1_dropMemo 34 = .ok (.iadd, 1) := by decide +kernel
theorem dX1_dropMemo_35 : decode cX1_dropMemo 35 = .ok (.iaload, 1) := by decide +kernel
theorem dX1_dropMemo_36 : decode cX1_dropMemo 36 = .ok (.iastore, 1) := by decide +kernel
theorem dX1_dropMemo_37 : decode cX1_dropMemo 37 = .ok (.aload_n 0, 1) := by decide +kernel
theorem dX1_dropMemo_38 : decode cX1_dropMemo 38 = .ok (.getfield 11, 3) := by decide +kernel
theorem dX1_dropMemo_41 : decode cX1_dropMemo 41 = .ok (.bipush 52, 2) := by decide +kernel
theorem dX1_dropMemo_43 : decode cX1_dropMemo 43 = .ok (.iload_n 3, 1) := by decide +kernel
theorem dX1_dropMemo_44 : decode cX1_dropMemo 44 = .ok (.iadd, 1) := by decide +kernel
theorem dX1_dropMemo_45 : decode cX1_dropMemo 45 = .ok (.aload_n 0, 1) := by decide +kernel
theorem dX1_dropMemo_46 : decode cX1_dropMemo 46 = .ok (.getfield 11, 3) := by decide +kernel
theorem dX1_dropMemo_49 : decode cX1_dropMemo 49 = .ok (.bipush 52, 2) := by decide +kernel
theorem dX1_dropMemo_51 : decode cX1_dropMemo 51 = .ok (.iload_n 3, 1) := by decide +kernel
theorem dX1_dropMemo_52 : decode cX1_dropMemo 52 = .ok (.iadd, 1) := by decide +kernel
theorem dX1_dropMemo_53 : decode cX1_dropMemo 53 = .ok (.iconst 1, 1) := by decide +kernel
theorem dX1_dropMemo_54 : decode cX1_dropMemo 54 = .ok (.iadd, 1) := by decide +kernel
theorem dX1_dropMemo_55 : decode cX1_dropMemo 55 = .ok (.iaload, 1) := by decide +kernel
theorem dX1_dropMemo_56 : decode cX1_dropMemo 56 = .ok (.iastore, 1) := by decide +kernel
theorem dX1_dropMemo_57 : decode cX1_dropMemo 57 = .ok (.iinc 3 1, 3) := by decide +kernel
theorem dX1_dropMemo_60 : decode cX1_dropMemo 60 = .ok (.goto (-48), 3) := by decide +kernel
theorem dX1_dropMemo_63 : decode cX1_dropMemo 63 = .ok (.aload_n 0, 1) := by decide +kernel
theorem dX1_dropMemo_64 : decode cX1_dropMemo 64 = .ok (.getfield 11, 3) := by decide +kernel
theorem dX1_dropMemo_67 : decode cX1_dropMemo 67 = .ok (.bipush 6, 2) := by decide +kernel
theorem dX1_dropMemo_69 : decode cX1_dropMemo 69 = .ok (.iload_n 2, 1) := by decide +kernel
theorem dX1_dropMemo_70 : decode cX1_dropMemo 70 = .ok (.iastore, 1) := by decide +kernel
theorem dX1_dropMemo_71 : decode cX1_dropMemo 71 = .ok (.return_, 1) := by decide +kernel
end
section
theorem dX2_init_0 : decode cX2_init 0 = .ok (.aload_n 0, 1) := by decide +kernel
theorem dX2_init_1 : decode cX2_init 1 = .ok (.invokespecial 3, 3) := by decide +kernel
theorem dX2_init_4 : decode cX2_init 4 = .ok (.aload_n 0, 1) := by decide +kernel
theorem dX2_init_5 : decode cX2_init 5 = .ok (.bipush 8, 2) := by decide +kernel
theorem dX2_init_7 : decode cX2_init 7 = .ok (.newarray .int, 2) := by decide +kernel
theorem dX2_init_9 : decode cX2_init 9 = .ok (.putfield 9, 3) := by decide +kernel
theorem dX2_init_12 : decode cX2_init 12 = .ok (.aload_n 0, 1) := by decide +kernel
theorem dX2_init_13 : decode cX2_init 13 = .ok (.bipush 8, 2) := by decide +kernel
theorem dX2_init_15 : decode cX2_init 15 = .ok (.newarray .int, 2) := by decide +kernel
theorem dX2_init_17 : decode cX2_init 17 = .ok (.putfield 15, 3) := by decide +kernel
theorem dX2_init_20 : decode cX2_init 20 = .ok (.aload_n 0, 1) := by decide +kernel
theorem dX2_init_21 : decode cX2_init 21 = .ok (.bipush 8, 2) := by decide +kernel
theorem dX2_init_23 : decode cX2_init 23 = .ok (.newarray .int, 2) := by decide +kernel
theorem dX2_init_25 : decode cX2_init 25 = .ok (.putfield 18, 3) := by decide +kernel
theorem dX2_init_28 : decode cX2_init 28 = .ok (.aload_n 0, 1) := by decide +kernel
theorem dX2_init_29 : decode cX2_init 29 = .ok (.iconst 0, 1) := by decide +kernel
theorem dX2_init_30 : decode cX2_init 30 = .ok (.putfield 21, 3) := by decide +kernel
theorem dX2_init_33 : decode cX2_init 33 = .ok (.aload_n 0, 1) := by decide +kernel
theorem dX2_init_34 : decode cX2_init 34 = .ok (.iconst 0, 1) := by decide +kernel
theorem dX2_init_35 : decode cX2_init 35 = .ok (.putfield 25, 3) := by decide +kernel
theorem dX2_init_38 : decode cX2_init 38 = .ok (.aload_n 0, 1) := by decide +kernel
theorem dX2_init_39 : decode cX2_init 39 = .ok (.aload_n 1, 1) := by decide +kernel
theorem dX2_init_40 : decode cX2_init 40 = .ok (.putfield 28, 3) := by decide +kernel
theorem dX2_init_43 : decode cX2_init 43 = .ok (.return_, 1) := by decide +kernel
theorem dX2_applied_0 : decode cX2_applied 0 = .ok (.aload_n 0, 1) := by decide +kernel
theorem dX2_applied_1 : decode cX2_applied 1 = .ok (.iload_n 1, 1) := by decide +kernel
theorem dX2_applied_2 : decode cX2_applied 2 = .ok (.aload_n 2, 1) := by decide +kernel
theorem dX2_applied_3 : decode cX2_applied 3 = .ok (.iload_n 3, 1) := by decide +kernel
theorem dX2_applied_4 : decode cX2_applied 4 = .ok (.iconst 1, 1) := by decide +kernel
theorem dX2_applied_5 : decode cX2_applied 5 = .ok (.invokevirtual 32, 3) := by decide +kernel
theorem dX2_applied_8 : decode cX2_applied 8 = .ok (.ireturn, 1) := by decide +kernel
theorem dX2_appliedPart_0 : decode cX2_appliedPart 0 = .ok (.iload 4, 2) := by decide +kernel
theorem dX2_appliedPart_2 : decode cX2_appliedPart 2 = .ok (.bipush 6, 2) := by decide +kernel
theorem dX2_appliedPart_4 : decode cX2_appliedPart 4 = .ok (.if_icmp .le 6, 3) := by decide +kernel
theorem dX2_appliedPart_7 : decode cX2_appliedPart 7 = .ok (.bipush (-3), 2) := by decide +kernel
theorem dX2_appliedPart_9 : decode cX2_appliedPart 9 = .ok (.ireturn, 1) := by decide +kernel
theorem dX2_appliedPart_10 : decode cX2_appliedPart 10 = .ok (.aload_n 0, 1) := by decide +kernel
theorem dX2_appliedPart_11 : decode cX2_appliedPart 11 = .ok (.getfield 28, 3) := by decide +kernel
theorem dX2_appliedPart_14 : decode cX2_appliedPart 14 = .ok (.iload_n 1, 1) := by decide +kernel
theorem dX2_appliedPart_15 : decode cX2_appliedPart 15 = .ok (.invokevirtual 36, 3) := by decide +kernel
theorem dX2_appliedPart_18 : decode cX2_appliedPart 18 = .ok (.ifCond .eq 33, 3) := by decide +kernel
theorem dX2_appliedPart_21 : decode cX2_appliedPart 21 = .ok (.aload_n 2, 1) := by decide +kernel
theorem dX2_appliedPart_22 : decode cX2_appliedPart 22 = .ok (.iload_n 3, 1) := by decide +kernel
theorem dX2_appliedPart_23 : decode cX2_appliedPart 23 = .ok (.aload_n 0, 1) := by decide +kernel
theorem dX2_appliedPart_24 : decode cX2_appliedPart 24 = .ok (.getfield 28, 3) := by decide +kernel
theorem dX2_appliedPart_27 : decode cX2_appliedPart 27 = .ok (.getfield 42, 3) := by decide +kernel
theorem dX2_appliedPart_30 : decode cX2_appliedPart 30 = .ok (.iload_n 1, 1) := by decide +kernel
theorem dX2_appliedPart_31 : decode cX2_appliedPart 31 = .ok (.iaload, 1) := by decide +kernel
theorem dX2_appliedPart_32 : decode cX2_appliedPart 32 = .ok (.iconst (-1), 1) := by decide +kernel
theorem dX2_appliedPart_33 : decode cX2_appliedPart 33 = .ok (.ixor, 1) := by decide +kernel
theorem dX2_appliedPart_34 : decode cX2_appliedPart 34 = .ok (.iadd, 1) := by decide +kernel
theorem dX2_appliedPart_35 : decode cX2_appliedPart 35 = .ok (.iaload, 1) := by decide +kernel
theorem dX2_appliedPart_36 : decode cX2_appliedPart 36 = .ok (.istore 5, 2) := by decide +kernel
theorem dX2_appliedPart_38 : decode cX2_appliedPart 38 = .ok (.iload 5, 2) := by decide +kernel
theorem dX2_appliedPart_40 : decode cX2_appliedPart 40 = .ok (.iconst (-1), 1) := by decide +kernel
theorem dX2_appliedPart_41 : decode cX2_appliedPart 41 = .ok (.if_icmp .ne 7, 3) := by decide +kernel
theorem dX2_appliedPart_44 : decode cX2_appliedPart 44 = .ok (.iload_n 1, 1) := by decide +kernel
theorem dX2_appliedPart_45 : decode cX2_appliedPart 45 = .ok (.goto 5, 3) := by decide +kernel
theorem dX2_appliedPart_48 : decode cX2_appliedPart 48 = .ok (.iload 5, 2) := by decide +kernel
theorem dX2_appliedPart_50 : decode cX2_appliedPart 50 = .ok (.ireturn, 1) := by decide +kernel
theorem dX2_appliedPart_51 : decode cX2_appliedPart 51 = .ok (.aload_n 0, 1) := by decide +kernel
theorem dX2_appliedPart_52 : decode cX2_appliedPart 52 = .ok (.getfield 28, 3) := by decide +kernel
theorem dX2_appliedPart_55 : decode cX2_appliedPart 55 = .ok (.getfield 45, 3) := by decide +kernel
theorem dX2_appliedPart_58 : decode cX2_appliedPart 58 = .ok (.iload_n 1, 1) := by decide +kernel
theorem dX2_appliedPart_59 : decode cX2_appliedPart 59 = .ok (.iaload, 1) := by decide +kernel
theorem dX2_appliedPart_60 : decode cX2_appliedPart 60 = .ok (.istore 5, 2) := by decide +kernel
theorem dX2_appliedPart_62 : decode cX2_appliedPart 62 = .ok (.iload 5, 2) := by decide +kernel
theorem dX2_appliedPart_64 : decode cX2_appliedPart 64 = .ok (.iconst 1, 1) := by decide +kernel
theorem dX2_appliedPart_65 : decode cX2_appliedPart 65 = .ok (.if_icmp .ge 7, 3) := by decide +kernel
theorem dX2_appliedPart_68 : decode cX2_appliedPart 68 = .ok (.iconst (-1), 1) := by decide +kernel
theorem dX2_appliedPart_69 : decode cX2_appliedPart 69 = .ok (.goto 22, 3) := by decide +kernel
theorem dX2_appliedPart_72 : decode cX2_appliedPart 72 = .ok (.aload_n 0, 1) := by decide +kernel
theorem dX2_appliedPart_73 : decode cX2_appliedPart 73 = .ok (.aload_n 0, 1) := by decide +kernel
theorem dX2_appliedPart_74 : decode cX2_appliedPart 74 = .ok (.getfield 28, 3) := by decide +kernel
theorem dX2_appliedPart_77 : decode cX2_appliedPart 77 = .ok (.iload_n 1, 1) := by decide +kernel
theorem dX2_appliedPart_78 : decode cX2_appliedPart 78 = .ok (.iconst 0, 1) := by decide +kernel
theorem dX2_appliedPart_79 : decode cX2_appliedPart 79 = .ok (.invokevirtual 48, 3) := by decide +kernel
theorem dX2_appliedPart_82 : decode cX2_appliedPart 82 = .ok (.aload_n 2, 1) := by decide +kernel
theorem dX2_appliedPart_83 : decode cX2_appliedPart 83 = .ok (.iload_n 3, 1) := by decide +kernel
theorem dX2_appliedPart_84 : decode cX2_appliedPart 84 = .ok (.iload 4, 2) := by decide +kernel
theorem dX2_appliedPart_86 : decode cX2_appliedPart 86 = .ok (.iconst 1, 1) := by decide +kernel
theorem dX2_appliedPart_87 : decode cX2_appliedPart 87 = .ok (.iadd, 1) := by decide +kernel
theorem dX2_appliedPart_88 : decode cX2_appliedPart 88 = .ok (.invokevirtual 32, 3) := by decide +kernel
theorem dX2_appliedPart_91 : decode cX2_appliedPart 91 = .ok (.istore 6, 2) := by decide +kernel
theorem dX2_appliedPart_93 : decode cX2_appliedPart 93 = .ok (.iload 5, 2) := by decide +kernel
theorem dX2_appliedPart_95 : decode cX2_appliedPart 95 = .ok (.iconst 2, 1) := by decide +kernel
theorem dX2_appliedPart_96 : decode cX2_appliedPart 96 = .ok (.if_icmp .ge 7, 3) := by decide +kernel
theorem dX2_appliedPart_99 : decode cX2_appliedPart 99 = .ok (.iconst (-1), 1) := by decide +kernel
theorem dX2_appliedPart_100 : decode cX2_appliedPart 100 = .ok (.goto 22, 3) := by decide +kernel
theorem dX2_appliedPart_103 : decode cX2_appliedPart 103 = .ok (.aload_n 0, 1) := by decide +kernel
theorem dX2_appliedPart_104 : decode cX2_appliedPart 104 = .ok (.aload_n 0, 1) := by decide +kernel
theorem dX2_appliedPart_105 : decode cX2_appliedPart 105 = .ok (.getfield 28, 3) := by decide +kernel
theorem dX2_appliedPart_108 : decode cX2_appliedPart 108 = .ok (.iload_n 1, 1) := by decide +kernel
theorem dX2_appliedPart_109 : decode cX2_appliedPart 109 = .ok (.iconst 1, 1) := by decide +kernel
theorem dX2_appliedPart_110 : decode cX2_appliedPart 110 = .ok (.invokevirtual 48, 3) := by decide +kernel
theorem dX2_appliedPart_113 : decode cX2_appliedPart 113 = .ok (.aload_n 2, 1) := by decide +kernel
theorem dX2_appliedPart_114 : decode cX2_appliedPart 114 = .ok (.iload_n 3, 1) := by decide +kernel
theorem dX2_appliedPart_115 : decode cX2_appliedPart 115 = .ok (.iload 4, 2) := by decide +kernel
theorem dX2_appliedPart_117 : decode cX2_appliedPart 117 = .ok (.iconst 1, 1) := by decide +kernel
theorem dX2_appliedPart_118 : decode cX2_appliedPart 118 = .ok (.iadd, 1) := by decide +kernel
theorem dX2_appliedPart_119 : decode cX2_appliedPart 119 = .ok (.invokevirtual 32, 3) := by decide +kernel
theorem dX2_appliedPart_122 : decode cX2_appliedPart 122 = .ok (.istore 7, 2) := by decide +kernel
theorem dX2_appliedPart_124 : decode cX2_appliedPart 124 = .ok (.iload 5, 2) := by decide +kernel
theorem dX2_appliedPart_126 : decode cX2_appliedPart 126 = .ok (.iconst 3, 1) := by decide +kernel
theorem dX2_appliedPart_127 : decode cX2_appliedPart 127 = .ok (.if_icmp .ge 7, 3) := by decide +kernel
theorem dX2_appliedPart_130 : decode cX2_appliedPart 130 = .ok (.iconst (-1), 1) := by decide +kernel
theorem dX2_appliedPart_131 : decode cX2_appliedPart 131 = .ok (.goto 22, 3) := by decide +kernel
theorem dX2_appliedPart_134 : decode cX2_appliedPart 134 = .ok (.aload_n 0, 1) := by decide +kernel
theorem dX2_appliedPart_135 : decode cX2_appliedPart 135 = .ok (.aload_n 0, 1) := by decide +kernel
theorem dX2_appliedPart_136 : decode cX2_appliedPart 136 = .ok (.getfield 28, 3) := by decide +kernel
theorem dX2_appliedPart_139 : decode cX2_appliedPart 139 = .ok (.iload_n 1, 1) := by decide +kernel
theorem dX2_appliedPart_140 : decode cX2_appliedPart 140 = .ok (.iconst 2, 1) := by decide +kernel
theorem dX2_appliedPart_141 : decode cX2_appliedPart 141 = .ok (.invokevirtual 48, 3) := by decide +kernel
theorem dX2_appliedPart_144 : decode cX2_appliedPart 144 = .ok (.aload_n 2, 1) := by decide +kernel
theorem dX2_appliedPart_145 : decode cX2_appliedPart 145 = .ok (.iload_n 3, 1) := by decide +kernel
theorem dX2_appliedPart_146 : decode cX2_appliedPart 146 = .ok (.iload 4, 2) := by decide +kernel
theorem dX2_appliedPart_148 : decode cX2_appliedPart 148 = .ok (.iconst 1, 1) := by decide +kernel
theorem dX2_appliedPart_149 : decode cX2_appliedPart 149 = .ok (.iadd, 1) := by decide +kernel
theorem dX2_appliedPart_150 : decode cX2_appliedPart 150 = .ok (.invokevirtual 32, 3) := by decide +kernel
theorem dX2_appliedPart_153 : decode cX2_appliedPart 153 = .ok (.istore 8, 2) := by decide +kernel
theorem dX2_appliedPart_155 : decode cX2_appliedPart 155 = .ok (.aload_n 0, 1) := by decide +kernel
theorem dX2_appliedPart_156 : decode cX2_appliedPart 156 = .ok (.getfield 28, 3) := by decide +kernel
theorem dX2_appliedPart_159 : decode cX2_appliedPart 159 = .ok (.aload_n 0, 1) := by decide +kernel
theorem dX2_appliedPart_160 : decode cX2_appliedPart 160 = .ok (.getfield 28, 3) := by decide +kernel
theorem dX2_appliedPart_163 : decode cX2_appliedPart 163 = .ok (.getfield 42, 3) := by decide +kernel
theorem dX2_appliedPart_166 : decode cX2_appliedPart 166 = .ok (.iload_n 1, 1) := by decide +kernel
theorem dX2_appliedPart_167 : decode cX2_appliedPart 167 = .ok (.iaload, 1) := by decide +kernel
theorem dX2_appliedPart_168 : decode cX2_appliedPart 168 = .ok (.iload 6, 2) := by decide +kernel
theorem dX2_appliedPart_170 : decode cX2_appliedPart 170 = .ok (.iload 7, 2) := by decide +kernel
theorem dX2_appliedPart_172 : decode cX2_appliedPart 172 = .ok (.iload 8, 2) := by decide +kernel
theorem dX2_appliedPart_174 : decode cX2_appliedPart 174 = .ok (.invokevirtual 52, 3) := by decide +kernel
theorem dX2_appliedPart_177 : decode cX2_appliedPart 177 = .ok (.ireturn, 1) := by decide +kernel
theorem dX2_hasRing_0 : decode cX2_hasRing 0 = .ok (.aload_n 0, 1) := by decide +kernel
theorem dX2_hasRing_1 : decode cX2_hasRing 1 = .ok (.aload_n 0, 1) := by decide +kernel
theorem dX2_hasRing_2 : decode cX2_hasRing 2 = .ok (.getfield 28, 3) := by decide +kernel
theorem dX2_hasRing_5 : decode cX2_hasRing 5 = .ok (.getfield 56, 3) := by decide +kernel
theorem dX2_hasRing_8 : decode cX2_hasRing 8 = .ok (.iload_n 1, 1) := by decide +kernel
theorem dX2_hasRing_9 : decode cX2_hasRing 9 = .ok (.iaload, 1) := by decide +kernel
theorem dX2_hasRing_10 : decode cX2_hasRing 10 = .ok (.aload_n 2, 1) := by decide +kernel
theorem dX2_hasRing_11 : decode cX2_hasRing 11 = .ok (.iload_n 3, 1) := by decide +kernel
theorem dX2_hasRing_12 : decode cX2_hasRing 12 = .ok (.invokevirtual 59, 3) := by decide +kernel
theorem dX2_hasRing_15 : decode cX2_hasRing 15 = .ok (.istore 4, 2) := by decide +kernel
theorem dX2_hasRing_17 : decode cX2_hasRing 17 = .ok (.iconst 0, 1) := by decide +kernel
theorem dX2_hasRing_18 : decode cX2_hasRing 18 = .ok (.istore 5, 2) := by decide +kernel
theorem dX2_hasRing_20 : decode cX2_hasRing 20 = .ok (.iload 5, 2) := by decide +kernel
theorem dX2_hasRing_22 : decode cX2_hasRing 22 = .ok (.bipush 8, 2) := by decide +kernel
theorem dX2_hasRing_24 : decode cX2_hasRing 24 = .ok (.if_icmp .ge 59, 3) := by decide +kernel
theorem dX2_hasRing_27 : decode cX2_hasRing 27 = .ok (.aload_n 2, 1) := by decide +kernel
theorem dX2_hasRing_28 : decode cX2_hasRing 28 = .ok (.iload_n 3, 1) := by decide +kernel
theorem dX2_hasRing_29 : decode cX2_hasRing 29 = .ok (.iload 5, 2) := by decide +kernel
theorem dX2_hasRing_31 : decode cX2_hasRing 31 = .ok (.iadd, 1) := by decide +kernel
theorem dX2_hasRing_32 : decode cX2_hasRing 32 = .ok (.iaload, 1) := by decide +kernel
theorem dX2_hasRing_33 : decode cX2_hasRing 33 = .ok (.istore 6, 2) := by decide +kernel
theorem dX2_hasRing_35 : decode cX2_hasRing 35 = .ok (.iload 4, 2) := by decide +kernel
theorem dX2_hasRing_37 : decode cX2_hasRing 37 = .ok (.iload 5, 2) := by decide +kernel
theorem dX2_hasRing_39 : decode cX2_hasRing 39 = .ok (.ishr, 1) := by decide +kernel
theorem dX2_hasRing_40 : decode cX2_hasRing 40 = .ok (.iconst 1, 1) := by decide +kernel
theorem dX2_hasRing_41 : decode cX2_hasRing 41 = .ok (.iand, 1) := by decide +kernel
theorem dX2_hasRing_42 : decode cX2_hasRing 42 = .ok (.ifCond .eq 35, 3) := by decide +kernel
theorem dX2_hasRing_45 : decode cX2_hasRing 45 = .ok (.iload 6, 2) := by decide +kernel
theorem dX2_hasRing_47 : decode cX2_hasRing 47 = .ok (.iconst (-1), 1) := by decide +kernel
theorem dX2_hasRing_48 : decode cX2_hasRing 48 = .ok (.if_icmp .eq 29, 3) := by decide +kernel
theorem dX2_hasRing_51 : decode cX2_hasRing 51 = .ok (.aload_n 0, 1) := by decide +kernel
theorem dX2_hasRing_52 : decode cX2_hasRing 52 = .ok (.aload_n 0, 1) := by decide +kernel
theorem dX2_hasRing_53 : decode cX2_hasRing 53 = .ok (.getfield 28, 3) := by decide +kernel
theorem dX2_hasRing_56 : decode cX2_hasRing 56 = .ok (.getfield 56, 3) := by decide +kernel
theorem dX2_hasRing_59 : decode cX2_hasRing 59 = .ok (.iload 6, 2) := by decide +kernel
theorem dX2_hasRing_61 : decode cX2_hasRing 61 = .ok (.iaload, 1) := by decide +kernel
theorem dX2_hasRing_62 : decode cX2_hasRing 62 = .ok (.aload_n 2, 1) := by decide +kernel
theorem dX2_hasRing_63 : decode cX2_hasRing 63 = .ok (.iload_n 3, 1) := by decide +kernel
theorem dX2_hasRing_64 : decode cX2_hasRing 64 = .ok (.invokevirtual 59, 3) := by decide +kernel
theorem dX2_hasRing_67 : decode cX2_hasRing 67 = .ok (.iload 5, 2) := by decide +kernel
theorem dX2_hasRing_69 : decode cX2_hasRing 69 = .ok (.ishr, 1) := by decide +kernel
theorem dX2_hasRing_70 : decode cX2_hasRing 70 = .ok (.iconst 1, 1) := by decide +kernel
theorem dX2_hasRing_71 : decode cX2_hasRing 71 = .ok (.iand, 1) := by decide +kernel
theorem dX2_hasRing_72 : decode cX2_hasRing 72 = .ok (.ifCond .eq 5, 3) := by decide +kernel
theorem dX2_hasRing_75 : decode cX2_hasRing 75 = .ok (.iconst 1, 1) := by decide +kernel
theorem dX2_hasRing_76 : decode cX2_hasRing 76 = .ok (.ireturn, 1) := by decide +kernel
theorem dX2_hasRing_77 : decode cX2_hasRing 77 = .ok (.iinc 5 1, 3) := by decide +kernel
theorem dX2_hasRing_80 : decode cX2_hasRing 80 = .ok (.goto (-60), 3) := by decide +kernel
theorem dX2_hasRing_83 : decode cX2_hasRing 83 = .ok (.iconst 0, 1) := by decide +kernel
theorem dX2_hasRing_84 : decode cX2_hasRing 84 = .ok (.ireturn, 1) := by decide +kernel
theorem dX2_reachedFrom_0 : decode cX2_reachedFrom 0 = .ok (.iload_n 1, 1) := by decide +kernel
theorem dX2_reachedFrom_1 : decode cX2_reachedFrom 1 = .ok (.istore 4, 2) := by decide +kernel
theorem dX2_reachedFrom_3 : decode cX2_reachedFrom 3 = .ok (.iconst 0, 1) := by decide +kernel
theorem dX2_reachedFrom_4 : decode cX2_reachedFrom 4 = .ok (.istore 5, 2) := by decide +kernel
theorem dX2_reachedFrom_6 : decode cX2_reachedFrom 6 = .ok (.iload 5, 2) := by decide +kernel
theorem dX2_reachedFrom_8 : decode cX2_reachedFrom 8 = .ok (.bipush 8, 2) := by decide +kernel
theorem dX2_reachedFrom_10 : decode cX2_reachedFrom 10 = .ok (.if_icmp .ge 64, 3) := by decide +kernel
theorem dX2_reachedFrom_13 : decode cX2_reachedFrom 13 = .ok (.iconst 0, 1) := by decide +kernel
theorem dX2_reachedFrom_14 : decode cX2_reachedFrom 14 = .ok (.istore 6, 2) := by decide +kernel
theorem dX2_reachedFrom_16 : decode cX2_reachedFrom 16 = .ok (.iload 6, 2) := by decide +kernel
theorem dX2_reachedFrom_18 : decode cX2_reachedFrom 18 = .ok (.bipush 8, 2) := by decide +kernel
theorem dX2_reachedFrom_20 : decode cX2_reachedFrom 20 = .ok (.if_icmp .ge 48, 3) := by decide +kernel
theorem dX2_reachedFrom_23 : decode cX2_reachedFrom 23 = .ok (.aload_n 2, 1) := by decide +kernel
theorem dX2_reachedFrom_24 : decode cX2_reachedFrom 24 = .ok (.iload_n 3, 1) := by decide +kernel
theorem dX2_reachedFrom_25 : decode cX2_reachedFrom 25 = .ok (.iload 6, 2) := by decide +kernel
theorem dX2_reachedFrom_27 : decode cX2_reachedFrom 27 = .ok (.iadd, 1) := by decide +kernel
theorem dX2_reachedFrom_28 : decode cX2_reachedFrom 28 = .ok (.iaload, 1) := by decide +kernel
theorem dX2_reachedFrom_29 : decode cX2_reachedFrom 29 = .ok (.istore 7, 2) := by decide +kernel
theorem dX2_reachedFrom_31 : decode cX2_reachedFrom 31 = .ok (.iload 4, 2) := by decide +kernel
theorem dX2_reachedFrom_33 : decode cX2_reachedFrom 33 = .ok (.iload 6, 2) := by decide +kernel
theorem dX2_reachedFrom_35 : decode cX2_reachedFrom 35 = .ok (.ishr, 1) := by decide +kernel
theorem dX2_reachedFrom_36 : decode cX2_reachedFrom 36 = .ok (.iconst 1, 1) := by decide +kernel
theorem dX2_reachedFrom_37 : decode cX2_reachedFrom 37 = .ok (.iand, 1) := by decide +kernel
theorem dX2_reachedFrom_38 : decode cX2_reachedFrom 38 = .ok (.ifCond .eq 24, 3) := by decide +kernel
theorem dX2_reachedFrom_41 : decode cX2_reachedFrom 41 = .ok (.iload 7, 2) := by decide +kernel
theorem dX2_reachedFrom_43 : decode cX2_reachedFrom 43 = .ok (.iconst (-1), 1) := by decide +kernel
theorem dX2_reachedFrom_44 : decode cX2_reachedFrom 44 = .ok (.if_icmp .eq 18, 3) := by decide +kernel
theorem dX2_reachedFrom_47 : decode cX2_reachedFrom 47 = .ok (.iload 4, 2) := by decide +kernel
theorem dX2_reachedFrom_49 : decode cX2_reachedFrom 49 = .ok (.aload_n 0, 1) := by decide +kernel
theorem dX2_reachedFrom_50 : decode cX2_reachedFrom 50 = .ok (.getfield 28, 3) := by decide +kernel
theorem dX2_reachedFrom_53 : decode cX2_reachedFrom 53 = .ok (.getfield 56, 3) := by decide +kernel
theorem dX2_reachedFrom_56 : decode cX2_reachedFrom 56 = .ok (.iload 7, 2) := by decide +kernel
theorem dX2_reachedFrom_58 : decode cX2_reachedFrom 58 = .ok (.iaload, 1) := by decide +kernel
theorem dX2_reachedFrom_59 : decode cX2_reachedFrom 59 = .ok (.ior, 1) := by decide +kernel
theorem dX2_reachedFrom_60 : decode cX2_reachedFrom 60 = .ok (.istore 4, 2) := by decide +kernel
theorem dX2_reachedFrom_62 : decode cX2_reachedFrom 62 = .ok (.iinc 6 1, 3) := by decide +kernel
theorem dX2_reachedFrom_65 : decode cX2_reachedFrom 65 = .ok (.goto (-49), 3) := by decide +kernel
theorem dX2_reachedFrom_68 : decode cX2_reachedFrom 68 = .ok (.iinc 5 1, 3) := by decide +kernel
theorem dX2_reachedFrom_71 : decode cX2_reachedFrom 71 = .ok (.goto (-65), 3) := by decide +kernel
theorem dX2_reachedFrom_74 : decode cX2_reachedFrom 74 = .ok (.iload 4, 2) := by decide +kernel
theorem dX2_reachedFrom_76 : decode cX2_reachedFrom 76 = .ok (.ireturn, 1) := by decide +kernel
theorem dX2_closed_0 : decode cX2_closed 0 = .ok (.aload_n 0, 1) := by decide +kernel
theorem dX2_closed_1 : decode cX2_closed 1 = .ok (.getfield 9, 3) := by decide +kernel
theorem dX2_closed_4 : decode cX2_closed 4 = .ok (.iconst (-1), 1) := by decide +kernel
theorem dX2_closed_5 : decode cX2_closed 5 = .ok (.invokestatic 63, 3) := by decide +kernel
theorem dX2_closed_8 : decode cX2_closed 8 = .ok (.aload_n 0, 1) := by decide +kernel
theorem dX2_closed_9 : decode cX2_closed 9 = .ok (.iload_n 1, 1) := by decide +kernel
theorem dX2_closed_10 : decode cX2_closed 10 = .ok (.aload_n 2, 1) := by decide +kernel
theorem dX2_closed_11 : decode cX2_closed 11 = .ok (.iload_n 3, 1) := by decide +kernel
theorem dX2_closed_12 : decode cX2_closed 12 = .ok (.iconst 1, 1) := by decide +kernel
theorem dX2_closed_13 : decode cX2_closed 13 = .ok (.invokevirtual 69, 3) := by decide +kernel
theorem dX2_closed_16 : decode cX2_closed 16 = .ok (.ireturn, 1) := by decide +kernel
theorem dX2_closedPart_0 : decode cX2_closedPart 0 = .ok (.iload 4, 2) := by decide +kernel
theorem dX2_closedPart_2 : decode cX2_closedPart 2 = .ok (.bipush 14, 2) := by decide +kernel
theorem dX2_closedPart_4 : decode cX2_closedPart 4 = .ok (.if_icmp .le 6, 3) := by decide +kernel
theorem dX2_closedPart_7 : decode cX2_closedPart 7 = .ok (.bipush (-3), 2) := by decide +kernel
theorem dX2_closedPart_9 : decode cX2_closedPart 9 = .ok (.ireturn, 1) := by decide +kernel
theorem dX2_closedPart_10 : decode cX2_closedPart 10 = .ok (.aload_n 0, 1) := by decide +kernel
theorem dX2_closedPart_11 : decode cX2_closedPart 11 = .ok (.getfield 28, 3) := by decide +kernel
theorem dX2_closedPart_14 : decode cX2_closedPart 14 = .ok (.iload_n 1, 1) := by decide +kernel
theorem dX2_closedPart_15 : decode cX2_closedPart 15 = .ok (.invokevirtual 36, 3) := by decide +kernel
theorem dX2_closedPart_18 : decode cX2_closedPart 18 = .ok (.ifCond .eq 13, 3) := by decide +kernel
theorem dX2_closedPart_21 : decode cX2_closedPart 21 = .ok (.aload_n 0, 1) := by decide +kernel
theorem dX2_closedPart_22 : decode cX2_closedPart 22 = .ok (.iload_n 1, 1) := by decide +kernel
theorem dX2_closedPart_23 : decode cX2_closedPart 23 = .ok (.aload_n 2, 1) := by decide +kernel
theorem dX2_closedPart_24 : decode cX2_closedPart 24 = .ok (.iload_n 3, 1) := by decide +kernel
theorem dX2_closedPart_25 : decode cX2_closedPart 25 = .ok (.iload 4, 2) := by decide +kernel
theorem dX2_closedPart_27 : decode cX2_closedPart 27 = .ok (.invokevirtual 72, 3) := by decide +kernel
theorem dX2_closedPart_30 : decode cX2_closedPart 30 = .ok (.ireturn, 1) := by decide +kernel
theorem dX2_closedPart_31 : decode cX2_closedPart 31 = .ok (.aload_n 0, 1) := by decide +kernel
theorem dX2_closedPart_32 : decode cX2_closedPart 32 = .ok (.getfield 28, 3) := by decide +kernel
theorem dX2_closedPart_35 : decode cX2_closedPart 35 = .ok (.getfield 45, 3) := by decide +kernel
theorem dX2_closedPart_38 : decode cX2_closedPart 38 = .ok (.iload_n 1, 1) := by decide +kernel
theorem dX2_closedPart_39 : decode cX2_closedPart 39 = .ok (.iaload, 1) := by decide +kernel
theorem dX2_closedPart_40 : decode cX2_closedPart 40 = .ok (.istore 5, 2) := by decide +kernel
theorem dX2_closedPart_42 : decode cX2_closedPart 42 = .ok (.iload 5, 2) := by decide +kernel
theorem dX2_closedPart_44 : decode cX2_closedPart 44 = .ok (.iconst 1, 1) := by decide +kernel
theorem dX2_closedPart_45 : decode cX2_closedPart 45 = .ok (.if_icmp .ge 7, 3) := by decide +kernel
theorem dX2_closedPart_48 : decode cX2_closedPart 48 = .ok (.iconst (-1), 1) := by decide +kernel
theorem dX2_closedPart_49 : decode cX2_closedPart 49 = .ok (.goto 22, 3) := by decide +kernel
theorem dX2_closedPart_52 : decode cX2_closedPart 52 = .ok (.aload_n 0, 1) := by decide +kernel
theorem dX2_closedPart_53 : decode cX2_closedPart 53 = .ok (.aload_n 0, 1) := by decide +kernel
theorem dX2_closedPart_54 : decode cX2_closedPart 54 = .ok (.getfield 28, 3) := by decide +kernel
theorem dX2_closedPart_57 : decode cX2_closedPart 57 = .ok (.iload_n 1, 1) := by decide +kernel
theorem dX2_closedPart_58 : decode cX2_closedPart 58 = .ok (.iconst 0, 1) := by decide +kernel
theorem dX2_closedPart_59 : decode cX2_closedPart 59 = .ok (.invokevirtual 48, 3) := by decide +kernel
theorem dX2_closedPart_62 : decode cX2_closedPart 62 = .ok (.aload_n 2, 1) := by decide +kernel
theorem dX2_closedPart_63 : decode cX2_closedPart 63 = .ok (.iload_n 3, 1) := by decide +kernel
theorem dX2_closedPart_64 : decode cX2_closedPart 64 = .ok (.iload 4, 2) := by decide +kernel
theorem dX2_closedPart_66 : decode cX2_closedPart 66 = .ok (.iconst 1, 1) := by decide +kernel
theorem dX2_closedPart_67 : decode cX2_closedPart 67 = .ok (.iadd, 1) := by decide +kernel
theorem dX2_closedPart_68 : decode cX2_closedPart 68 = .ok (.invokevirtual 69, 3) := by decide +kernel
theorem dX2_closedPart_71 : decode cX2_closedPart 71 = .ok (.istore 6, 2) := by decide +kernel
theorem dX2_closedPart_73 : decode cX2_closedPart 73 = .ok (.iload 5, 2) := by decide +kernel
theorem dX2_closedPart_75 : decode cX2_closedPart 75 = .ok (.iconst 2, 1) := by decide +kernel
theorem dX2_closedPart_76 : decode cX2_closedPart 76 = .ok (.if_icmp .ge 7, 3) := by decide +kernel
theorem dX2_closedPart_79 : decode cX2_closedPart 79 = .ok (.iconst (-1), 1) := by decide +kernel
theorem dX2_closedPart_80 : decode cX2_closedPart 80 = .ok (.goto 22, 3) := by decide +kernel
theorem dX2_closedPart_83 : decode cX2_closedPart 83 = .ok (.aload_n 0, 1) := by decide +kernel
theorem dX2_closedPart_84 : decode cX2_closedPart 84 = .ok (.aload_n 0, 1) := by decide +kernel
theorem dX2_closedPart_85 : decode cX2_closedPart 85 = .ok (.getfield 28, 3) := by decide +kernel
theorem dX2_closedPart_88 : decode cX2_closedPart 88 = .ok (.iload_n 1, 1) := by decide +kernel
theorem dX2_closedPart_89 : decode cX2_closedPart 89 = .ok (.iconst 1, 1) := by decide +kernel
theorem dX2_closedPart_90 : decode cX2_closedPart 90 = .ok (.invokevirtual 48, 3) := by decide +kernel
theorem dX2_closedPart_93 : decode cX2_closedPart 93 = .ok (.aload_n 2, 1) := by decide +kernel
theorem dX2_closedPart_94 : decode cX2_closedPart 94 = .ok (.iload_n 3, 1) := by decide +kernel
theorem dX2_closedPart_95 : decode cX2_closedPart 95 = .ok (.iload 4, 2) := by decide +kernel
theorem dX2_closedPart_97 : decode cX2_closedPart 97 = .ok (.iconst 1, 1) := by decide +kernel
theorem dX2_closedPart_98 : decode cX2_closedPart 98 = .ok (.iadd, 1) := by decide +kernel
theorem dX2_closedPart_99 : decode cX2_closedPart 99 = .ok (.invokevirtual 69, 3) := by decide +kernel
theorem dX2_closedPart_102 : decode cX2_closedPart 102 = .ok (.istore 7, 2) := by decide +kernel
theorem dX2_closedPart_104 : decode cX2_closedPart 104 = .ok (.iload 5, 2) := by decide +kernel
theorem dX2_closedPart_106 : decode cX2_closedPart 106 = .ok (.iconst 3, 1) := by decide +kernel
theorem dX2_closedPart_107 : decode cX2_closedPart 107 = .ok (.if_icmp .ge 7, 3) := by decide +kernel
theorem dX2_closedPart_110 : decode cX2_closedPart 110 = .ok (.iconst (-1), 1) := by decide +kernel
theorem dX2_closedPart_111 : decode cX2_closedPart 111 = .ok (.goto 22, 3) := by decide +kernel
theorem dX2_closedPart_114 : decode cX2_closedPart 114 = .ok (.aload_n 0, 1) := by decide +kernel
theorem dX2_closedPart_115 : decode cX2_closedPart 115 = .ok (.aload_n 0, 1) := by decide +kernel
theorem dX2_closedPart_116 : decode cX2_closedPart 116 = .ok (.getfield 28, 3) := by decide +kernel
theorem dX2_closedPart_119 : decode cX2_closedPart 119 = .ok (.iload_n 1, 1) := by decide +kernel
theorem dX2_closedPart_120 : decode cX2_closedPart 120 = .ok (.iconst 2, 1) := by decide +kernel
theorem dX2_closedPart_121 : decode cX2_closedPart 121 = .ok (.invokevirtual 48, 3) := by decide +kernel
theorem dX2_closedPart_124 : decode cX2_closedPart 124 = .ok (.aload_n 2, 1) := by decide +kernel
theorem dX2_closedPart_125 : decode cX2_closedPart 125 = .ok (.iload_n 3, 1) := by decide +kernel
theorem dX2_closedPart_126 : decode cX2_closedPart 126 = .ok (.iload 4, 2) := by decide +kernel
theorem dX2_closedPart_128 : decode cX2_closedPart 128 = .ok (.iconst 1, 1) := by decide +kernel
theorem dX2_closedPart_129 : decode cX2_closedPart 129 = .ok (.iadd, 1) := by decide +kernel
theorem dX2_closedPart_130 : decode cX2_closedPart 130 = .ok (.invokevirtual 69, 3) := by decide +kernel
theorem dX2_closedPart_133 : decode cX2_closedPart 133 = .ok (.istore 8, 2) := by decide +kernel
theorem dX2_closedPart_135 : decode cX2_closedPart 135 = .ok (.aload_n 0, 1) := by decide +kernel
theorem dX2_closedPart_136 : decode cX2_closedPart 136 = .ok (.getfield 28, 3) := by decide +kernel
theorem dX2_closedPart_139 : decode cX2_closedPart 139 = .ok (.aload_n 0, 1) := by decide +kernel
theorem dX2_closedPart_140 : decode cX2_closedPart 140 = .ok (.getfield 28, 3) := by decide +kernel
theorem dX2_closedPart_143 : decode cX2_closedPart 143 = .ok (.getfield 42, 3) := by decide +kernel
theorem dX2_closedPart_146 : decode cX2_closedPart 146 = .ok (.iload_n 1, 1) := by decide +kernel
theorem dX2_closedPart_147 : decode cX2_closedPart 147 = .ok (.iaload, 1) := by decide +kernel
theorem dX2_closedPart_148 : decode cX2_closedPart 148 = .ok (.iload 6, 2) := by decide +kernel
theorem dX2_closedPart_150 : decode cX2_closedPart 150 = .ok (.iload 7, 2) := by decide +kernel
theorem dX2_closedPart_152 : decode cX2_closedPart 152 = .ok (.iload 8, 2) := by decide +kernel
theorem dX2_closedPart_154 : decode cX2_closedPart 154 = .ok (.invokevirtual 52, 3) := by decide +kernel
theorem dX2_closedPart_157 : decode cX2_closedPart 157 = .ok (.ireturn, 1) := by decide +kernel
theorem dX2_closedVariable_0 : decode cX2_closedVariable 0 = .ok (.aload_n 0, 1) := by decide +kernel
theorem dX2_closedVariable_1 : decode cX2_closedVariable 1 = .ok (.getfield 28, 3) := by decide +kernel
theorem dX2_closedVariable_4 : decode cX2_closedVariable 4 = .ok (.getfield 42, 3) := by decide +kernel
theorem dX2_closedVariable_7 : decode cX2_closedVariable 7 = .ok (.iload_n 1, 1) := by decide +kernel
theorem dX2_closedVariable_8 : decode cX2_closedVariable 8 = .ok (.iaload, 1) := by decide +kernel
theorem dX2_closedVariable_9 : decode cX2_closedVariable 9 = .ok (.iconst (-1), 1) := by decide +kernel
theorem dX2_closedVariable_10 : decode cX2_closedVariable 10 = .ok (.ixor, 1) := by decide +kernel
theorem dX2_closedVariable_11 : decode cX2_closedVariable 11 = .ok (.istore 5, 2) := by decide +kernel
theorem dX2_closedVariable_13 : decode cX2_closedVariable 13 = .ok (.aload_n 2, 1) := by decide +kernel
theorem dX2_closedVariable_14 : decode cX2_closedVariable 14 = .ok (.iload_n 3, 1) := by decide +kernel
theorem dX2_closedVariable_15 : decode cX2_closedVariable 15 = .ok (.iload 5, 2) := by decide +kernel
theorem dX2_closedVariable_17 : decode cX2_closedVariable 17 = .ok (.iadd, 1) := by decide +kernel
theorem dX2_closedVariable_18 : decode cX2_closedVariable 18 = .ok (.iaload, 1) := by decide +kernel
theorem dX2_closedVariable_19 : decode cX2_closedVariable 19 = .ok (.istore 6, 2) := by decide +kernel
theorem dX2_closedVariable_21 : decode cX2_closedVariable 21 = .ok (.iload 6, 2) := by decide +kernel
theorem dX2_closedVariable_23 : decode cX2_closedVariable 23 = .ok (.iconst (-1), 1) := by decide +kernel
theorem dX2_closedVariable_24 : decode cX2_closedVariable 24 = .ok (.if_icmp .ne 5, 3) := by decide +kernel
theorem dX2_closedVariable_27 : decode cX2_closedVariable 27 = .ok (.iload_n 1, 1) := by decide +kernel
theorem dX2_closedVariable_28 : decode cX2_closedVariable 28 = .ok (.ireturn, 1) := by decide +kernel
theorem dX2_closedVariable_29 : decode cX2_closedVariable 29 = .ok (.aload_n 0, 1) := by decide +kernel
theorem dX2_closedVariable_30 : decode cX2_closedVariable 30 = .ok (.getfield 9, 3) := by decide +kernel
theorem dX2_closedVariable_33 : decode cX2_closedVariable 33 = .ok (.iload 5, 2) := by decide +kernel
theorem dX2_closedVariable_35 : decode cX2_closedVariable 35 = .ok (.iaload, 1) := by decide +kernel
theorem dX2_closedVariable_36 : decode cX2_closedVariable 36 = .ok (.iconst (-1), 1) := by decide +kernel
theorem dX2_closedVariable_37 : decode cX2_closedVariable 37 = .ok (.if_icmp .ne 22, 3) := by decide +kernel
theorem dX2_closedVariable_40 : decode cX2_closedVariable 40 = .ok (.aload_n 0, 1) := by decide +kernel
theorem dX2_closedVariable_41 : decode cX2_closedVariable 41 = .ok (.getfield 9, 3) := by decide +kernel
theorem dX2_closedVariable_44 : decode cX2_closedVariable 44 = .ok (.iload 5, 2) := by decide +kernel
theorem dX2_closedVariable_46 : decode cX2_closedVariable 46 = .ok (.aload_n 0, 1) := by decide +kernel
theorem dX2_closedVariable_47 : decode cX2_closedVariable 47 = .ok (.iload 6, 2) := by decide +kernel
theorem dX2_closedVariable_49 : decode cX2_closedVariable 49 = .ok (.aload_n 2, 1) := by decide +kernel
theorem dX2_closedVariable_50 : decode cX2_closedVariable 50 = .ok (.iload_n 3, 1) := by decide +kernel
theorem dX2_closedVariable_51 : decode cX2_closedVariable 51 = .ok (.iload 4, 2) := by decide +kernel
theorem dX2_closedVariable_53 : decode cX2_closedVariable 53 = .ok (.iconst 1, 1) := by decide +kernel
theorem dX2_closedVariable_54 : decode cX2_closedVariable 54 = .ok (.iadd, 1) := by decide +kernel
theorem dX2_closedVariable_55 : decode cX2_closedVariable 55 = .ok (.invokevirtual 69, 3) := by decide +kernel
theorem dX2_closedVariable_58 : decode cX2_closedVariable 58 = .ok (.iastore, 1) := by decide +kernel
theorem dX2_closedVariable_59 : decode cX2_closedVariable 59 = .ok (.aload_n 0, 1) := by decide +kernel
theorem dX2_closedVariable_60 : decode cX2_closedVariable 60 = .ok (.getfield 9, 3) := by decide +kernel
theorem dX2_closedVariable_63 : decode cX2_closedVariable 63 = .ok (.iload 5, 2) := by decide +kernel
theorem dX2_closedVariable_65 : decode cX2_closedVariable 65 = .ok (.iaload, 1) := by decide +kernel
theorem dX2_closedVariable_66 : decode cX2_closedVariable 66 = .ok (.ireturn, 1) := by decide +kernel
theorem dX2_replaced_0 : decode cX2_replaced 0 = .ok (.aload_n 0, 1) := by decide +kernel
theorem dX2_replaced_1 : decode cX2_replaced 1 = .ok (.iload_n 1, 1) := by decide +kernel
theorem dX2_replaced_2 : decode cX2_replaced 2 = .ok (.iload_n 2, 1) := by decide +kernel
theorem dX2_replaced_3 : decode cX2_replaced 3 = .ok (.iload_n 3, 1) := by decide +kernel
theorem dX2_replaced_4 : decode cX2_replaced 4 = .ok (.iconst 1, 1) := by decide +kernel
theorem dX2_replaced_5 : decode cX2_replaced 5 = .ok (.invokevirtual 75, 3) := by decide +kernel
theorem dX2_replaced_8 : decode cX2_replaced 8 = .ok (.ireturn, 1) := by decide +kernel
theorem dX2_replacedPart_0 : decode cX2_replacedPart 0 = .ok (.iload_n 2, 1) := by decide +kernel
theorem dX2_replacedPart_1 : decode cX2_replacedPart 1 = .ok (.ifCond .gt 5, 3) := by decide +kernel
theorem dX2_replacedPart_4 : decode cX2_replacedPart 4 = .ok (.iload_n 3, 1) := by decide +kernel
theorem dX2_replacedPart_5 : decode cX2_replacedPart 5 = .ok (.ireturn, 1) := by decide +kernel
theorem dX2_replacedPart_6 : decode cX2_replacedPart 6 = .ok (.iload 4, 2) := by decide +kernel
theorem dX2_replacedPart_8 : decode cX2_replacedPart 8 = .ok (.bipush 6, 2) := by decide +kernel
theorem dX2_replacedPart_10 : decode cX2_replacedPart 10 = .ok (.if_icmp .le 6, 3) := by decide +kernel
theorem dX2_replacedPart_16 : decode cX2_replacedPart 16 = .ok (.aload_n 0, 1) := by decide +kernel
theorem dX2_replacedPart_17 : decode cX2_replacedPart 17 = .ok (.getfield 28, 3) := by decide +kernel
theorem dX2_replacedPart_20 : decode cX2_replacedPart 20 = .ok (.iload_n 1, 1) := by decide +kernel
theorem dX2_replacedPart_21 : decode cX2_replacedPart 21 = .ok (.iload_n 2, 1) := by decide +kernel
theorem dX2_replacedPart_22 : decode cX2_replacedPart 22 = .ok (.invokevirtual 78, 3) := by decide +kernel
theorem dX2_replacedPart_25 : decode cX2_replacedPart 25 = .ok (.istore 5, 2) := by decide +kernel
theorem dX2_replacedPart_27 : decode cX2_replacedPart 27 = .ok (.aload_n 0, 1) := by decide +kernel
theorem dX2_replacedPart_28 : decode cX2_replacedPart 28 = .ok (.getfield 28, 3) := by decide +kernel
theorem dX2_replacedPart_31 : decode cX2_replacedPart 31 = .ok (.iload_n 1, 1) := by decide +kernel
theorem dX2_replacedPart_32 : decode cX2_replacedPart 32 = .ok (.iload 5, 2) := by decide +kernel
theorem dX2_replacedPart_34 : decode cX2_replacedPart 34 = .ok (.invokevirtual 48, 3) := by decide +kernel
theorem dX2_replacedPart_37 : decode cX2_replacedPart 37 = .ok (.istore 6, 2) := by decide +kernel
theorem dX2_replacedPart_39 : decode cX2_replacedPart 39 = .ok (.aload_n 0, 1) := by decide +kernel
theorem dX2_replacedPart_40 : decode cX2_replacedPart 40 = .ok (.iload 6, 2) := by decide +kernel
theorem dX2_replacedPart_42 : decode cX2_replacedPart 42 = .ok (.aload_n 0, 1) := by decide +kernel
theorem dX2_replacedPart_43 : decode cX2_replacedPart 43 = .ok (.getfield 28, 3) := by decide +kernel
theorem dX2_replacedPart_46 : decode cX2_replacedPart 46 = .ok (.iload_n 1, 1) := by decide +kernel
theorem dX2_replacedPart_47 : decode cX2_replacedPart 47 = .ok (.iload_n 2, 1) := by decide +kernel
theorem dX2_replacedPart_48 : decode cX2_replacedPart 48 = .ok (.iload 5, 2) := by decide +kernel
theorem dX2_replacedPart_50 : decode cX2_replacedPart 50 = .ok (.invokevirtual 81, 3) := by decide +kernel
theorem dX2_replacedPart_53 : decode cX2_replacedPart 53 = .ok (.iload_n 3, 1) := by decide +kernel
theorem dX2_replacedPart_54 : decode cX2_replacedPart 54 = .ok (.iload 4, 2) := by decide +kernel
theorem dX2_replacedPart_56 : decode cX2_replacedPart 56 = .ok (.iconst 1, 1) := by decide +kernel
theorem dX2_replacedPart_57 : decode cX2_replacedPart 57 = .ok (.iadd, 1) := by decide +kernel
theorem dX2_replacedPart_58 : decode cX2_replacedPart 58 = .ok (.invokevirtual 75, 3) := by decide +kernel
theorem dX2_replacedPart_61 : decode cX2_replacedPart 61 = .ok (.istore 7, 2) := by decide +kernel
theorem dX2_replacedPart_63 : decode cX2_replacedPart 63 = .ok (.iload 5, 2) := by decide +kernel
theorem dX2_replacedPart_65 : decode cX2_replacedPart 65 = .ok (.ifCond .ne 8, 3) := by decide +kernel
theorem dX2_replacedPart_68 : decode cX2_replacedPart 68 = .ok (.iload 7, 2) := by decide +kernel
theorem dX2_replacedPart_70 : decode cX2_replacedPart 70 = .ok (.goto 12, 3) := by decide +kernel
theorem dX2_replacedPart_73 : decode cX2_replacedPart 73 = .ok (.aload_n 0, 1) := by decide +kernel
theorem dX2_replacedPart_74 : decode cX2_replacedPart 74 = .ok (.getfield 28, 3) := by decide +kernel
theorem dX2_replacedPart_77 : decode cX2_replacedPart 77 = .ok (.iload_n 1, 1) := by decide +kernel
theorem dX2_replacedPart_78 : decode cX2_replacedPart 78 = .ok (.iconst 0, 1) := by decide +kernel
theorem dX2_replacedPart_79 : decode cX2_replacedPart 79 = .ok (.invokevirtual 48, 3) := by decide +kernel
theorem dX2_replacedPart_82 : decode cX2_replacedPart 82 = .ok (.istore 8, 2) := by decide +kernel
theorem dX2_replacedPart_84 : decode cX2_replacedPart 84 = .ok (.iload 5, 2) := by decide +kernel
theorem dX2_replacedPart_86 : decode cX2_replacedPart 86 = .ok (.iconst 1, 1) := by decide +kernel
theorem dX2_replacedPart_87 : decode cX2_replacedPart 87 = .ok (.if_icmp .ne 8, 3) := by decide +kernel
theorem dX2_replacedPart_90 : decode cX2_replacedPart 90 = .ok (.iload 7, 2) := by decide +kernel
theorem dX2_replacedPart_92 : decode cX2_replacedPart 92 = .ok (.goto 12, 3) := by decide +kernel
theorem dX2_replacedPart_95 : decode cX2_replacedPart 95 = .ok (.aload_n 0, 1) := by decide +kernel
theorem dX2_replacedPart_96 : decode cX2_replacedPart 96 = .ok (.getfield 28, 3) := by decide +kernel
theorem dX2_replacedPart_99 : decode cX2_replacedPart 99 = .ok (.iload_n 1, 1) := by decide +kernel
theorem dX2_replacedPart_100 : decode cX2_replacedPart 100 = .ok (.iconst 1, 1) := by decide +kernel
theorem dX2_replacedPart_101 : decode cX2_replacedPart 101 = .ok (.invokevirtual 48, 3) := by decide +kernel
theorem dX2_replacedPart_104 : decode cX2_replacedPart 104 = .ok (.istore 9, 2) := by decide +kernel
theorem dX2_replacedPart_106 : decode cX2_replacedPart 106 = .ok (.iload 5, 2) := by decide +kernel
theorem dX2_replacedPart_108 : decode cX2_replacedPart 108 = .ok (.iconst 2, 1) := by decide +kernel
theorem dX2_replacedPart_109 : decode cX2_replacedPart 109 = .ok (.if_icmp .ne 8, 3) := by decide +kernel
theorem dX2_replacedPart_112 : decode cX2_replacedPart 112 = .ok (.iload 7, 2) := by decide +kernel
theorem dX2_replacedPart_114 : decode cX2_replacedPart 114 = .ok (.goto 12, 3) := by decide +kernel
theorem dX2_replacedPart_117 : decode cX2_replacedPart 117 = .ok (.aload_n 0, 1) := by decide +kernel
theorem dX2_replacedPart_118 : decode cX2_replacedPart 118 = .ok (.getfield 28, 3) := by decide +kernel
theorem dX2_replacedPart_121 : decode cX2_replacedPart 121 = .ok (.iload_n 1, 1) := by decide +kernel
theorem dX2_replacedPart_122 : decode cX2_replacedPart 122 = .ok (.iconst 2, 1) := by decide +kernel
theorem dX2_replacedPart_123 : decode cX2_replacedPart 123 = .ok (.invokevirtual 48, 3) := by decide +kernel
theorem dX2_replacedPart_126 : decode cX2_replacedPart 126 = .ok (.istore 10, 2) := by decide +kernel
theorem dX2_replacedPart_128 : decode cX2_replacedPart 128 = .ok (.aload_n 0, 1) := by decide +kernel
theorem dX2_replacedPart_129 : decode cX2_replacedPart 129 = .ok (.getfield 28, 3) := by decide +kernel
theorem dX2_replacedPart_132 : decode cX2_replacedPart 132 = .ok (.aload_n 0, 1) := by decide +kernel
theorem dX2_replacedPart_133 : decode cX2_replacedPart 133 = .ok (.getfield 28, 3) := by decide +kernel
theorem dX2_replacedPart_136 : decode cX2_replacedPart 136 = .ok (.getfield 42, 3) := by decide +kernel
theorem dX2_replacedPart_139 : decode cX2_replacedPart 139 = .ok (.iload_n 1, 1) := by decide +kernel
theorem dX2_replacedPart_140 : decode cX2_replacedPart 140 = .ok (.iaload, 1) := by decide +kernel
theorem dX2_replacedPart_141 : decode cX2_replacedPart 141 = .ok (.iload 8, 2) := by decide +kernel
theorem dX2_replacedPart_143 : decode cX2_replacedPart 143 = .ok (.iload 9, 2) := by decide +kernel
theorem dX2_replacedPart_145 : decode cX2_replacedPart 145 = .ok (.iload 10, 2) := by decide +kernel
theorem dX2_replacedPart_147 : decode cX2_replacedPart 147 = .ok (.invokevirtual 52, 3) := by decide +kernel
theorem dX2_replacedPart_150 : decode cX2_replacedPart 150 = .ok (.ireturn, 1) := by decide +kernel
theorem dX2_haveCommon_0 : decode cX2_haveCommon 0 = .ok (.aload_n 0, 1) := by decide +kernel
theorem dX2_haveCommon_1 : decode cX2_haveCommon 1 = .ok (.iconst 0, 1) := by decide +kernel
theorem dX2_haveCommon_2 : decode cX2_haveCommon 2 = .ok (.putfield 21, 3) := by decide +kernel
theorem dX2_haveCommon_5 : decode cX2_haveCommon 5 = .ok (.aload_n 0, 1) := by decide +kernel
theorem dX2_haveCommon_6 : decode cX2_haveCommon 6 = .ok (.iload_n 1, 1) := by decide +kernel
theorem dX2_haveCommon_7 : decode cX2_haveCommon 7 = .ok (.iload_n 2, 1) := by decide +kernel
theorem dX2_haveCommon_8 : decode cX2_haveCommon 8 = .ok (.iconst 1, 1) := by decide +kernel
theorem dX2_haveCommon_9 : decode cX2_haveCommon 9 = .ok (.invokevirtual 85, 3) := by decide +kernel
theorem dX2_haveCommon_12 : decode cX2_haveCommon 12 = .ok (.ireturn, 1) := by decide +kernel
theorem dX2_couple_0 : decode cX2_couple 0 = .ok (.iload_n 3, 1) := by decide +kernel
theorem dX2_couple_1 : decode cX2_couple 1 = .ok (.bipush 6, 2) := by decide +kernel
theorem dX2_couple_3 : decode cX2_couple 3 = .ok (.if_icmp .le 5, 3) := by decide +kernel
theorem dX2_couple_6 : decode cX2_couple 6 = .ok (.iconst 0, 1) := by decide +kernel
theorem dX2_couple_7 : decode cX2_couple 7 = .ok (.ireturn, 1) := by decide +kernel
theorem dX2_couple_8 : decode cX2_couple 8 = .ok (.aload_n 0, 1) := by decide +kernel
theorem dX2_couple_9 : decode cX2_couple 9 = .ok (.getfield 28, 3) := by decide +kernel
theorem dX2_couple_12 : decode cX2_couple 12 = .ok (.iload_n 1, 1) := by decide +kernel
theorem dX2_couple_13 : decode cX2_couple 13 = .ok (.invokevirtual 36, 3) := by decide +kernel
theorem dX2_couple_16 : decode cX2_couple 16 = .ok (.ifCond .ne 24, 3) := by decide +kernel
theorem dX2_couple_19 : decode cX2_couple 19 = .ok (.aload_n 0, 1) := by decide +kernel
theorem dX2_couple_20 : decode cX2_couple 20 = .ok (.getfield 28, 3) := by decide +kernel
theorem dX2_couple_23 : decode cX2_couple 23 = .ok (.getfield 42, 3) := by decide +kernel
theorem dX2_couple_26 : decode cX2_couple 26 = .ok (.iload_n 1, 1) := by decide +kernel
theorem dX2_couple_27 : decode cX2_couple 27 = .ok (.iaload, 1) := by decide +kernel
theorem dX2_couple_28 : decode cX2_couple 28 = .ok (.aload_n 0, 1) := by decide +kernel
theorem dX2_couple_29 : decode cX2_couple 29 = .ok (.getfield 28, 3) := by decide +kernel
theorem dX2_couple_32 : decode cX2_couple 32 = .ok (.getfield 42, 3) := by decide +kernel
theorem dX2_couple_35 : decode cX2_couple 35 = .ok (.iload_n 2, 1) := by decide +kernel
theorem dX2_couple_36 : decode cX2_couple 36 = .ok (.iaload, 1) := by decide +kernel
theorem dX2_couple_37 : decode cX2_couple 37 = .ok (.if_icmp .eq 10, 3) := by decide +kernel
theorem dX2_couple_40 : decode cX2_couple 40 = .ok (.aload_n 0, 1) := by decide +kernel
theorem dX2_couple_41 : decode cX2_couple 41 = .ok (.iload_n 1, 1) := by decide +kernel
theorem dX2_couple_42 : decode cX2_couple 42 = .ok (.iload_n 2, 1) := by decide +kernel
theorem dX2_couple_43 : decode cX2_couple 43 = .ok (.invokevirtual 89, 3) := by decide +kernel
theorem dX2_couple_46 : decode cX2_couple 46 = .ok (.ireturn, 1) := by decide +kernel
theorem dX2_couple_47 : decode cX2_couple 47 = .ok (.iconst 0, 1) := by decide +kernel
theorem dX2_couple_48 : decode cX2_couple 48 = .ok (.istore 4, 2) := by decide +kernel
theorem dX2_couple_50 : decode cX2_couple 50 = .ok (.iload 4, 2) := by decide +kernel
theorem dX2_couple_52 : decode cX2_couple 52 = .ok (.aload_n 0, 1) := by decide +kernel
theorem dX2_couple_53 : decode cX2_couple 53 = .ok (.getfield 28, 3) := by decide +kernel
theorem dX2_couple_56 : decode cX2_couple 56 = .ok (.getfield 45, 3) := by decide +kernel
theorem dX2_couple_59 : decode cX2_couple 59 = .ok (.iload_n 1, 1) := by decide +kernel
theorem dX2_couple_60 : decode cX2_couple 60 = .ok (.iaload, 1) := by decide +kernel
theorem dX2_couple_61 : decode cX2_couple 61 = .ok (.if_icmp .ge 41, 3) := by decide +kernel
theorem dX2_couple_64 : decode cX2_couple 64 = .ok (.aload_n 0, 1) := by decide +kernel
theorem dX2_couple_65 : decode cX2_couple 65 = .ok (.aload_n 0, 1) := by decide +kernel
theorem dX2_couple_66 : decode cX2_couple 66 = .ok (.getfield 28, 3) := by decide +kernel
theorem dX2_couple_69 : decode cX2_couple 69 = .ok (.iload_n 1, 1) := by decide +kernel
theorem dX2_couple_70 : decode cX2_couple 70 = .ok (.iload 4, 2) := by decide +kernel
theorem dX2_couple_72 : decode cX2_couple 72 = .ok (.invokevirtual 48, 3) := by decide +kernel
theorem dX2_couple_75 : decode cX2_couple 75 = .ok (.aload_n 0, 1) := by decide +kernel
theorem dX2_couple_76 : decode cX2_couple 76 = .ok (.getfield 28, 3) := by decide +kernel
theorem dX2_couple_79 : decode cX2_couple 79 = .ok (.iload_n 2, 1) := by decide +kernel
theorem dX2_couple_80 : decode cX2_couple 80 = .ok (.iload 4, 2) := by decide +kernel
theorem dX2_couple_82 : decode cX2_couple 82 = .ok (.invokevirtual 48, 3) := by decide +kernel
theorem dX2_couple_85 : decode cX2_couple 85 = .ok (.iload_n 3, 1) := by decide +kernel
theorem dX2_couple_86 : decode cX2_couple 86 = .ok (.iconst 1, 1) := by decide +kernel
theorem dX2_couple_87 : decode cX2_couple 87 = .ok (.iadd, 1) := by decide +kernel
theorem dX2_couple_88 : decode cX2_couple 88 = .ok (.invokevirtual 85, 3) := by decide +kernel
theorem dX2_couple_91 : decode cX2_couple 91 = .ok (.ifCond .ne 5, 3) := by decide +kernel
theorem dX2_couple_94 : decode cX2_couple 94 = .ok (.iconst 0, 1) := by decide +kernel
theorem dX2_couple_95 : decode cX2_couple 95 = .ok (.ireturn, 1) := by decide +kernel
theorem dX2_couple_96 : decode cX2_couple 96 = .ok (.iinc 4 1, 3) := by decide +kernel
theorem dX2_couple_99 : decode cX2_couple 99 = .ok (.goto (-49), 3) := by decide +kernel
theorem dX2_couple_102 : decode cX2_couple 102 = .ok (.iconst 1, 1) := by decide +kernel
theorem dX2_couple_103 : decode cX2_couple 103 = .ok (.ireturn, 1) := by decide +kernel
theorem dX2_addCouple_0 : decode cX2_addCouple 0 = .ok (.aload_n 0, 1) := by decide +kernel
theorem dX2_addCouple_1 : decode cX2_addCouple 1 = .ok (.iload_n 1, 1) := by decide +kernel
theorem dX2_addCouple_2 : decode cX2_addCouple 2 = .ok (.iload_n 2, 1) := by decide +kernel
theorem dX2_addCouple_3 : decode cX2_addCouple 3 = .ok (.invokevirtual 93, 3) := by decide +kernel
theorem dX2_addCouple_6 : decode cX2_addCouple 6 = .ok (.iconst (-1), 1) := by decide +kernel
theorem dX2_addCouple_7 : decode cX2_addCouple 7 = .ok (.if_icmp .eq 5, 3) := by decide +kernel
theorem dX2_addCouple_10 : decode cX2_addCouple 10 = .ok (.iconst 1, 1) := by decide +kernel
theorem dX2_addCouple_11 : decode cX2_addCouple 11 = .ok (.ireturn, 1) := by decide +kernel
theorem dX2_addCouple_12 : decode cX2_addCouple 12 = .ok (.aload_n 0, 1) := by decide +kernel
theorem dX2_addCouple_13 : decode cX2_addCouple 13 = .ok (.getfield 21, 3) := by decide +kernel
theorem dX2_addCouple_16 : decode cX2_addCouple 16 = .ok (.bipush 8, 2) := by decide +kernel
theorem dX2_addCouple_18 : decode cX2_addCouple 18 = .ok (.if_icmp .lt 5, 3) := by decide +kernel
theorem dX2_addCouple_21 : decode cX2_addCouple 21 = .ok (.iconst 0, 1) := by decide +kernel
theorem dX2_addCouple_22 : decode cX2_addCouple 22 = .ok (.ireturn, 1) := by decide +kernel
theorem dX2_addCouple_23 : decode cX2_addCouple 23 = .ok (.aload_n 0, 1) := by decide +kernel
theorem dX2_addCouple_24 : decode cX2_addCouple 24 = .ok (.getfield 15, 3) := by decide +kernel
theorem dX2_addCouple_27 : decode cX2_addCouple 27 = .ok (.aload_n 0, 1) := by decide +kernel
theorem dX2_addCouple_28 : decode cX2_addCouple 28 = .ok (.getfield 21, 3) := by decide +kernel
theorem dX2_addCouple_31 : decode cX2_addCouple 31 = .ok (.iload_n 1, 1) := by decide +kernel
theorem dX2_addCouple_32 : decode cX2_addCouple 32 = .ok (.iastore, 1) := by decide +kernel
theorem dX2_addCouple_33 : decode cX2_addCouple 33 = .ok (.aload_n 0, 1) := by decide +kernel
theorem dX2_addCouple_34 : decode cX2_addCouple 34 = .ok (.getfield 18, 3) := by decide +kernel
theorem dX2_addCouple_37 : decode cX2_addCouple 37 = .ok (.aload_n 0, 1) := by decide +kernel
theorem dX2_addCouple_38 : decode cX2_addCouple 38 = .ok (.getfield 21, 3) := by decide +kernel
theorem dX2_addCouple_41 : decode cX2_addCouple 41 = .ok (.iload_n 2, 1) := by decide +kernel
theorem dX2_addCouple_42 : decode cX2_addCouple 42 = .ok (.iastore, 1) := by decide +kernel
theorem dX2_addCouple_43 : decode cX2_addCouple 43 = .ok (.aload_n 0, 1) := by decide +kernel
theorem dX2_addCouple_44 : decode cX2_addCouple 44 = .ok (.dup, 1) := by decide +kernel
theorem dX2_addCouple_45 : decode cX2_addCouple 45 = .ok (.getfield 21, 3) := by decide +kernel
theorem dX2_addCouple_48 : decode cX2_addCouple 48 = .ok (.iconst 1, 1) := by decide +kernel
theorem dX2_addCouple_49 : decode cX2_addCouple 49 = .ok (.iadd, 1) := by decide +kernel
theorem dX2_addCouple_50 : decode cX2_addCouple 50 = .ok (.putfield 21, 3) := by decide +kernel
theorem dX2_addCouple_53 : decode cX2_addCouple 53 = .ok (.iconst 1, 1) := by decide +kernel
theorem dX2_addCouple_54 : decode cX2_addCouple 54 = .ok (.ireturn, 1) := by decide +kernel
theorem dX2_coupleOf_0 : decode cX2_coupleOf 0 = .ok (.iconst 0, 1) := by decide +kernel
theorem dX2_coupleOf_1 : decode cX2_coupleOf 1 = .ok (.istore_n 3, 1) := by decide +kernel
theorem dX2_coupleOf_2 : decode cX2_coupleOf 2 = .ok (.iload_n 3, 1) := by decide +kernel
theorem dX2_coupleOf_3 : decode cX2_coupleOf 3 = .ok (.aload_n 0, 1) := by decide +kernel
theorem dX2_coupleOf_4 : decode cX2_coupleOf 4 = .ok (.getfield 21, 3) := by decide +kernel
theorem dX2_coupleOf_7 : decode cX2_coupleOf 7 = .ok (.if_icmp .ge 31, 3) := by decide +kernel
theorem dX2_coupleOf_10 : decode cX2_coupleOf 10 = .ok (.aload_n 0, 1) := by decide +kernel
theorem dX2_coupleOf_11 : decode cX2_coupleOf 11 = .ok (.getfield 15, 3) := by decide +kernel
theorem dX2_coupleOf_14 : decode cX2_coupleOf 14 = .ok (.iload_n 3, 1) := by decide +kernel
theorem dX2_coupleOf_15 : decode cX2_coupleOf 15 = .ok (.iaload, 1) := by decide +kernel
theorem dX2_coupleOf_16 : decode cX2_coupleOf 16 = .ok (.iload_n 1, 1) := by decide +kernel
theorem dX2_coupleOf_17 : decode cX2_coupleOf 17 = .ok (.if_icmp .ne 15, 3) := by decide +kernel
theorem dX2_coupleOf_20 : decode cX2_coupleOf 20 = .ok (.aload_n 0, 1) := by decide +kernel
theorem dX2_coupleOf_21 : decode cX2_coupleOf 21 = .ok (.getfield 18, 3) := by decide +kernel
theorem dX2_coupleOf_24 : decode cX2_coupleOf 24 = .ok (.iload_n 3, 1) := by decide +kernel
theorem dX2_coupleOf_25 : decode cX2_coupleOf 25 = .ok (.iaload, 1) := by decide +kernel
theorem dX2_coupleOf_26 : decode cX2_coupleOf 26 = .ok (.iload_n 2, 1) := by decide +kernel
theorem dX2_coupleOf_27 : decode cX2_coupleOf 27 = .ok (.if_icmp .ne 5, 3) := by decide +kernel
theorem dX2_coupleOf_30 : decode cX2_coupleOf 30 = .ok (.iload_n 3, 1) := by decide +kernel
theorem dX2_coupleOf_31 : decode cX2_coupleOf 31 = .ok (.ireturn, 1) := by decide +kernel
theorem dX2_coupleOf_32 : decode cX2_coupleOf 32 = .ok (.iinc 3 1, 3) := by decide +kernel
theorem dX2_coupleOf_35 : decode cX2_coupleOf 35 = .ok (.goto (-33), 3) := by decide +kernel
theorem dX2_coupleOf_38 : decode cX2_coupleOf 38 = .ok (.iconst (-1), 1) := by decide +kernel
theorem dX2_coupleOf_39 : decode cX2_coupleOf 39 = .ok (.ireturn, 1) := by decide +kernel
theorem dX2_commonOf_0 : decode cX2_commonOf 0 = .ok (.aload_n 0, 1) := by decide +kernel
theorem dX2_commonOf_1 : decode cX2_commonOf 1 = .ok (.iload_n 1, 1) := by decide +kernel
theorem dX2_commonOf_2 : decode cX2_commonOf 2 = .ok (.iload_n 2, 1) := by decide +kernel
theorem dX2_commonOf_3 : decode cX2_commonOf 3 = .ok (.iconst 1, 1) := by decide +kernel
theorem dX2_commonOf_4 : decode cX2_commonOf 4 = .ok (.invokevirtual 96, 3) := by decide +kernel
theorem dX2_commonOf_7 : decode cX2_commonOf 7 = .ok (.ireturn, 1) := by decide +kernel
theorem dX2_commonPart_0 : decode cX2_commonPart 0 = .ok (.iload_n 3, 1) := by decide +kernel
theorem dX2_commonPart_1 : decode cX2_commonPart 1 = .ok (.bipush 6, 2) := by decide +kernel
theorem dX2_commonPart_3 : decode cX2_commonPart 3 = .ok (.if_icmp .le 6, 3) := by decide +kernel
theorem dX2_commonPart_6 : decode cX2_commonPart 6 = .ok (.bipush (-3), 2) := by decide +kernel
theorem dX2_commonPart_8 : decode cX2_commonPart 8 = .ok (.ireturn, 1) := by decide +kernel
theorem dX2_commonPart_9 : decode cX2_commonPart 9 = .ok (.aload_n 0, 1) := by decide +kernel
theorem dX2_commonPart_10 : decode cX2_commonPart 10 = .ok (.iload_n 1, 1) := by decide +kernel
theorem dX2_commonPart_11 : decode cX2_commonPart 11 = .ok (.iload_n 2, 1) := by decide +kernel
theorem dX2_commonPart_12 : decode cX2_commonPart 12 = .ok (.invokevirtual 93, 3) := by decide +kernel
theorem dX2_commonPart_15 : decode cX2_commonPart 15 = .ok (.istore 4, 2) := by decide +kernel
theorem dX2_commonPart_17 : decode cX2_commonPart 17 = .ok (.iload 4, 2) := by decide +kernel
theorem dX2_commonPart_19 : decode cX2_commonPart 19 = .ok (.iconst (-1), 1) := by decide +kernel
theorem dX2_commonPart_20 : decode cX2_commonPart 20 = .ok (.if_icmp .eq 13, 3) := by decide +kernel
theorem dX2_commonPart_23 : decode cX2_commonPart 23 = .ok (.aload_n 0, 1) := by decide +kernel
theorem dX2_commonPart_24 : decode cX2_commonPart 24 = .ok (.getfield 28, 3) := by decide +kernel
theorem dX2_commonPart_27 : decode cX2_commonPart 27 = .ok (.iload 4, 2) := by decide +kernel
theorem dX2_commonPart_29 : decode cX2_commonPart 29 = .ok (.invokevirtual 99, 3) := by decide +kernel
theorem dX2_commonPart_32 : decode cX2_commonPart 32 = .ok (.ireturn, 1) := by decide +kernel
theorem dX2_commonPart_33 : decode cX2_commonPart 33 = .ok (.aload_n 0, 1) := by decide +kernel
theorem dX2_commonPart_34 : decode cX2_commonPart 34 = .ok (.getfield 28, 3) := by decide +kernel
theorem dX2_commonPart_37 : decode cX2_commonPart 37 = .ok (.getfield 45, 3) := by decide +kernel
theorem dX2_commonPart_40 : decode cX2_commonPart 40 = .ok (.iload_n 1, 1) := by decide +kernel
theorem dX2_commonPart_41 : decode cX2_commonPart 41 = .ok (.iaload, 1) := by decide +kernel
theorem dX2_commonPart_42 : decode cX2_commonPart 42 = .ok (.istore 5, 2) := by decide +kernel
theorem dX2_commonPart_44 : decode cX2_commonPart 44 = .ok (.iload 5, 2) := by decide +kernel
theorem dX2_commonPart_46 : decode cX2_commonPart 46 = .ok (.iconst 1, 1) := by decide +kernel
theorem dX2_commonPart_47 : decode cX2_commonPart 47 = .ok (.if_icmp .ge 7, 3) := by decide +kernel
theorem dX2_commonPart_50 : decode cX2_commonPart 50 = .ok (.iconst (-1), 1) := by decide +kernel
theorem dX2_commonPart_51 : decode cX2_commonPart 51 = .ok (.goto 28, 3) := by decide +kernel
theorem dX2_commonPart_54 : decode cX2_commonPart 54 = .ok (.aload_n 0, 1) := by decide +kernel
theorem dX2_commonPart_55 : decode cX2_commonPart 55 = .ok (.aload_n 0, 1) := by decide +kernel
theorem dX2_commonPart_56 : decode cX2_commonPart 56 = .ok (.getfield 28, 3) := by decide +kernel
theorem dX2_commonPart_59 : decode cX2_commonPart 59 = .ok (.iload_n 1, 1) := by decide +kernel
theorem dX2_commonPart_60 : decode cX2_commonPart 60 = .ok (.iconst 0, 1) := by decide +kernel
theorem dX2_commonPart_61 : decode cX2_commonPart 61 = .ok (.invokevirtual 48, 3) := by decide +kernel
theorem dX2_commonPart_64 : decode cX2_commonPart 64 = .ok (.aload_n 0, 1) := by decide +kernel
theorem dX2_commonPart_65 : decode cX2_commonPart 65 = .ok (.getfield 28, 3) := by decide +kernel
theorem dX2_commonPart_68 : decode cX2_commonPart 68 = .ok (.iload_n 2, 1) := by decide +kernel
theorem dX2_commonPart_69 : decode cX2_commonPart 69 = .ok (.iconst 0, 1) := by decide +kernel
theorem dX2_commonPart_70 : decode cX2_commonPart 70 = .ok (.invokevirtual 48, 3) := by decide +kernel
theorem dX2_commonPart_73 : decode cX2_commonPart 73 = .ok (.iload_n 3, 1) := by decide +kernel
theorem dX2_commonPart_74 : decode cX2_commonPart 74 = .ok (.iconst 1, 1) := by decide +kernel
theorem dX2_commonPart_75 : decode cX2_commonPart 75 = .ok (.iadd, 1) := by decide +kernel
theorem dX2_commonPart_76 : decode cX2_commonPart 76 = .ok (.invokevirtual 96, 3) := by decide +kernel
theorem dX2_commonPart_79 : decode cX2_commonPart 79 = .ok (.istore 6, 2) := by decide +kernel
theorem dX2_commonPart_81 : decode cX2_commonPart 81 = .ok (.iload 5, 2) := by decide +kernel
theorem dX2_commonPart_83 : decode cX2_commonPart 83 = .ok (.iconst 2, 1) := by decide +kernel
theorem dX2_commonPart_84 : decode cX2_commonPart 84 = .ok (.if_icmp .ge 7, 3) := by decide +kernel
theorem dX2_commonPart_87 : decode cX2_commonPart 87 = .ok (.iconst (-1), 1) := by decide +kernel
theorem dX2_commonPart_88 : decode cX2_commonPart 88 = .ok (.goto 28, 3) := by decide +kernel
theorem dX2_commonPart_91 : decode cX2_commonPart 91 = .ok (.aload_n 0, 1) := by decide +kernel
theorem dX2_commonPart_92 : decode cX2_commonPart 92 = .ok (.aload_n 0, 1) := by decide +kernel
theorem dX2_commonPart_93 : decode cX2_commonPart 93 = .ok (.getfield 28, 3) := by decide +kernel
theorem dX2_commonPart_96 : decode cX2_commonPart 96 = .ok (.iload_n 1, 1) := by decide +kernel
theorem dX2_commonPart_97 : decode cX2_commonPart 97 = .ok (.iconst 1, 1) := by decide +kernel
theorem dX2_commonPart_98 : decode cX2_commonPart 98 = .ok (.invokevirtual 48, 3) := by decide +kernel
theorem dX2_commonPart_101 : decode cX2_commonPart 101 = .ok (.aload_n 0, 1) := by decide +kernel
theorem dX2_commonPart_102 : decode cX2_commonPart 102 = .ok (.getfield 28, 3) := by decide +kernel
theorem dX2_commonPart_105 : decode cX2_commonPart 105 = .ok (.iload_n 2, 1) := by decide +kernel
theorem dX2_commonPart_106 : decode cX2_commonPart 106 = .ok (.iconst 1, 1) := by decide +kernel
theorem dX2_commonPart_107 : decode cX2_commonPart 107 = .ok (.invokevirtual 48, 3) := by decide +kernel
theorem dX2_commonPart_110 : decode cX2_commonPart 110 = .ok (.iload_n 3, 1) := by decide +kernel
theorem dX2_commonPart_111 : decode cX2_commonPart 111 = .ok (.iconst 1, 1) := by decide +kernel
theorem dX2_commonPart_112 : decode cX2_commonPart 112 = .ok (.iadd, 1) := by decide +kernel
theorem dX2_commonPart_113 : decode cX2_commonPart 113 = .ok (.invokevirtual 96, 3) := by decide +kernel
theorem dX2_commonPart_116 : decode cX2_commonPart 116 = .ok (.istore 7, 2) := by decide +kernel
theorem dX2_commonPart_118 : decode cX2_commonPart 118 = .ok (.iload 5, 2) := by decide +kernel
theorem dX2_commonPart_120 : decode cX2_commonPart 120 = .ok (.iconst 3, 1) := by decide +kernel
theorem dX2_commonPart_121 : decode cX2_commonPart 121 = .ok (.if_icmp .ge 7, 3) := by decide +kernel
theorem dX2_commonPart_124 : decode cX2_commonPart 124 = .ok (.iconst (-1), 1) := by decide +kernel
theorem dX2_commonPart_125 : decode cX2_commonPart 125 = .ok (.goto 28, 3) := by decide +kernel
theorem dX2_commonPart_128 : decode cX2_commonPart 128 = .ok (.aload_n 0, 1) := by decide +kernel
theorem dX2_commonPart_129 : decode cX2_commonPart 129 = .ok (.aload_n 0, 1) := by decide +kernel
theorem dX2_commonPart_130 : decode cX2_commonPart 130 = .ok (.getfield 28, 3) := by decide +kernel
theorem dX2_commonPart_133 : decode cX2_commonPart 133 = .ok (.iload_n 1, 1) := by decide +kernel
theorem dX2_commonPart_134 : decode cX2_commonPart 134 = .ok (.iconst 2, 1) := by decide +kernel
theorem dX2_commonPart_135 : decode cX2_commonPart 135 = .ok (.invokevirtual 48, 3) := by decide +kernel
theorem dX2_commonPart_138 : decode cX2_commonPart 138 = .ok (.aload_n 0, 1) := by decide +kernel
theorem dX2_commonPart_139 : decode cX2_commonPart 139 = .ok (.getfield 28, 3) := by decide +kernel
theorem dX2_commonPart_142 : decode cX2_commonPart 142 = .ok (.iload_n 2, 1) := by decide +kernel
theorem dX2_commonPart_143 : decode cX2_commonPart 143 = .ok (.iconst 2, 1) := by decide +kernel
theorem dX2_commonPart_144 : decode cX2_commonPart 144 = .ok (.invokevirtual 48, 3) := by decide +kernel
theorem dX2_commonPart_147 : decode cX2_commonPart 147 = .ok (.iload_n 3, 1) := by decide +kernel
theorem dX2_commonPart_148 : decode cX2_commonPart 148 = .ok (.iconst 1, 1) := by decide +kernel
theorem dX2_commonPart_149 : decode cX2_commonPart 149 = .ok (.iadd, 1) := by decide +kernel
theorem dX2_commonPart_150 : decode cX2_commonPart 150 = .ok (.invokevirtual 96, 3) := by decide +kernel
theorem dX2_commonPart_153 : decode cX2_commonPart 153 = .ok (.istore 8, 2) := by decide +kernel
theorem dX2_commonPart_155 : decode cX2_commonPart 155 = .ok (.aload_n 0, 1) := by decide +kernel
theorem dX2_commonPart_156 : decode cX2_commonPart 156 = .ok (.getfield 28, 3) := by decide +kernel
theorem dX2_commonPart_159 : decode cX2_commonPart 159 = .ok (.aload_n 0, 1) := by decide +kernel
theorem dX2_commonPart_160 : decode cX2_commonPart 160 = .ok (.getfield 28, 3) := by decide +kernel
theorem dX2_commonPart_163 : decode cX2_commonPart 163 = .ok (.getfield 42, 3) := by decide +kernel
theorem dX2_commonPart_166 : decode cX2_commonPart 166 = .ok (.iload_n 1, 1) := by decide +kernel
theorem dX2_commonPart_167 : decode cX2_commonPart 167 = .ok (.iaload, 1) := by decide +kernel
theorem dX2_commonPart_168 : decode cX2_commonPart 168 = .ok (.iload 6, 2) := by decide +kernel
theorem dX2_commonPart_170 : decode cX2_commonPart 170 = .ok (.iload 7, 2) := by decide +kernel
theorem dX2_commonPart_172 : decode cX2_commonPart 172 = .ok (.iload 8, 2) := by decide +kernel
theorem dX2_commonPart_174 : decode cX2_commonPart 174 = .ok (.invokevirtual 52, 3) := by decide +kernel
theorem dX2_commonPart_177 : decode cX2_commonPart 177 = .ok (.ireturn, 1) := by decide +kernel
theorem dX2_drawn_0 : decode cX2_drawn 0 = .ok (.aload_n 0, 1) := by decide +kernel
theorem dX2_drawn_1 : decode cX2_drawn 1 = .ok (.iload_n 1, 1) := by decide +kernel
theorem dX2_drawn_2 : decode cX2_drawn 2 = .ok (.iconst 4, 1) := by decide +kernel
theorem dX2_drawn_3 : decode cX2_drawn 3 = .ok (.invokestatic 103, 3) := by decide +kernel
theorem dX2_drawn_6 : decode cX2_drawn 6 = .ok (.invokevirtual 108, 3) := by decide +kernel
theorem dX2_drawn_9 : decode cX2_drawn 9 = .ok (.ireturn, 1) := by decide +kernel
theorem dX2_drawnPart_0 : decode cX2_drawnPart 0 = .ok (.aload_n 0, 1) := by decide +kernel
theorem dX2_drawnPart_1 : decode cX2_drawnPart 1 = .ok (.bipush 8, 2) := by decide +kernel
theorem dX2_drawnPart_3 : decode cX2_drawnPart 3 = .ok (.invokevirtual 111, 3) := by decide +kernel
theorem dX2_drawnPart_6 : decode cX2_drawnPart 6 = .ok (.istore_n 2, 1) := by decide +kernel
theorem dX2_drawnPart_7 : decode cX2_drawnPart 7 = .ok (.aload_n 0, 1) := by decide +kernel
theorem dX2_drawnPart_8 : decode cX2_drawnPart 8 = .ok (.getfield 28, 3) := by decide +kernel
theorem dX2_drawnPart_11 : decode cX2_drawnPart 11 = .ok (.getfield 114, 3) := by decide +kernel
theorem dX2_drawnPart_14 : decode cX2_drawnPart 14 = .ok (.getfield 118, 3) := by decide +kernel
theorem dX2_drawnPart_17 : decode cX2_drawnPart 17 = .ok (.istore_n 3, 1) := by decide +kernel
theorem dX2_drawnPart_18 : decode cX2_drawnPart 18 = .ok (.iload_n 2, 1) := by decide +kernel
theorem dX2_drawnPart_19 : decode cX2_drawnPart 19 = .ok (.ifCond .eq 12, 3) := by decide +kernel
theorem dX2_drawnPart_22 : decode cX2_drawnPart 22 = .ok (.iload_n 1, 1) := by decide +kernel
theorem dX2_drawnPart_23 : decode cX2_drawnPart 23 = .ok (.iconst 1, 1) := by decide +kernel
theorem dX2_drawnPart_24 : decode cX2_drawnPart 24 = .ok (.if_icmp .le 7, 3) := by decide +kernel
theorem dX2_drawnPart_27 : decode cX2_drawnPart 27 = .ok (.iload_n 3, 1) := by decide +kernel
theorem dX2_drawnPart_28 : decode cX2_drawnPart 28 = .ok (.ifCond .ne 16, 3) := by decide +kernel
theorem dX2_drawnPart_31 : decode cX2_drawnPart 31 = .ok (.aload_n 0, 1) := by decide +kernel
theorem dX2_drawnPart_32 : decode cX2_drawnPart 32 = .ok (.getfield 28, 3) := by decide +kernel
theorem dX2_drawnPart_35 : decode cX2_drawnPart 35 = .ok (.aload_n 0, 1) := by decide +kernel
theorem dX2_drawnPart_36 : decode cX2_drawnPart 36 = .ok (.iconst 3, 1) := by decide +kernel
theorem dX2_drawnPart_37 : decode cX2_drawnPart 37 = .ok (.invokevirtual 111, 3) := by decide +kernel
theorem dX2_drawnPart_40 : decode cX2_drawnPart 40 = .ok (.invokevirtual 99, 3) := by decide +kernel
theorem dX2_drawnPart_43 : decode cX2_drawnPart 43 = .ok (.ireturn, 1) := by decide +kernel
theorem dX2_drawnPart_44 : decode cX2_drawnPart 44 = .ok (.aload_n 0, 1) := by decide +kernel
theorem dX2_drawnPart_45 : decode cX2_drawnPart 45 = .ok (.iload_n 3, 1) := by decide +kernel
theorem dX2_drawnPart_46 : decode cX2_drawnPart 46 = .ok (.invokevirtual 111, 3) := by decide +kernel
theorem dX2_drawnPart_49 : decode cX2_drawnPart 49 = .ok (.istore 4, 2) := by decide +kernel
theorem dX2_drawnPart_51 : decode cX2_drawnPart 51 = .ok (.aload_n 0, 1) := by decide +kernel
theorem dX2_drawnPart_52 : decode cX2_drawnPart 52 = .ok (.getfield 28, 3) := by decide +kernel
theorem dX2_drawnPart_55 : decode cX2_drawnPart 55 = .ok (.getfield 114, 3) := by decide +kernel
theorem dX2_drawnPart_58 : decode cX2_drawnPart 58 = .ok (.getfield 123, 3) := by decide +kernel
theorem dX2_drawnPart_61 : decode cX2_drawnPart 61 = .ok (.iload 4, 2) := by decide +kernel
theorem dX2_drawnPart_63 : decode cX2_drawnPart 63 = .ok (.iaload, 1) := by decide +kernel
theorem dX2_drawnPart_64 : decode cX2_drawnPart 64 = .ok (.istore 5, 2) := by decide +kernel
theorem dX2_drawnPart_66 : decode cX2_drawnPart 66 = .ok (.iload 5, 2) := by decide +kernel
theorem dX2_drawnPart_68 : decode cX2_drawnPart 68 = .ok (.iconst 1, 1) := by decide +kernel
theorem dX2_drawnPart_69 : decode cX2_drawnPart 69 = .ok (.if_icmp .ge 7, 3) := by decide +kernel
theorem dX2_drawnPart_72 : decode cX2_drawnPart 72 = .ok (.iconst (-1), 1) := by decide +kernel
theorem dX2_drawnPart_73 : decode cX2_drawnPart 73 = .ok (.goto 10, 3) := by decide +kernel
theorem dX2_drawnPart_76 : decode cX2_drawnPart 76 = .ok (.aload_n 0, 1) := by decide +kernel
theorem dX2_drawnPart_77 : decode cX2_drawnPart 77 = .ok (.iload_n 1, 1) := by decide +kernel
theorem dX2_drawnPart_78 : decode cX2_drawnPart 78 = .ok (.iconst 1, 1) := by decide +kernel
theorem dX2_drawnPart_79 : decode cX2_drawnPart 79 = .ok (.isub, 1) := by decide +kernel
theorem dX2_drawnPart_80 : decode cX2_drawnPart 80 = .ok (.invokevirtual 108, 3) := by decide +kernel
theorem dX2_drawnPart_83 : decode cX2_drawnPart 83 = .ok (.istore 6, 2) := by decide +kernel
theorem dX2_drawnPart_85 : decode cX2_drawnPart 85 = .ok (.iload 5, 2) := by decide +kernel
theorem dX2_drawnPart_87 : decode cX2_drawnPart 87 = .ok (.iconst 2, 1) := by decide +kernel
theorem dX2_drawnPart_88 : decode cX2_drawnPart 88 = .ok (.if_icmp .ge 7, 3) := by decide +kernel
theorem dX2_drawnPart_91 : decode cX2_drawnPart 91 = .ok (.iconst (-1), 1) := by decide +kernel
theorem dX2_drawnPart_92 : decode cX2_drawnPart 92 = .ok (.goto 10, 3) := by decide +kernel
theorem dX2_drawnPart_95 : decode cX2_drawnPart 95 = .ok (.aload_n 0, 1) := by decide +kernel
theorem dX2_drawnPart_96 : decode cX2_drawnPart 96 = .ok (.iload_n 1, 1) := by decide +kernel
theorem dX2_drawnPart_97 : decode cX2_drawnPart 97 = .ok (.iconst 1, 1) := by decide +kernel
theorem dX2_drawnPart_98 : decode cX2_drawnPart 98 = .ok (.isub, 1) := by decide +kernel
theorem dX2_drawnPart_99 : decode cX2_drawnPart 99 = .ok (.invokevirtual 108, 3) := by decide +kernel
theorem dX2_drawnPart_102 : decode cX2_drawnPart 102 = .ok (.istore 7, 2) := by decide +kernel
theorem dX2_drawnPart_104 : decode cX2_drawnPart 104 = .ok (.iload 5, 2) := by decide +kernel
theorem dX2_drawnPart_106 : decode cX2_drawnPart 106 = .ok (.iconst 3, 1) := by decide +kernel
theorem dX2_drawnPart_107 : decode cX2_drawnPart 107 = .ok (.if_icmp .ge 7, 3) := by decide +kernel
theorem dX2_drawnPart_110 : decode cX2_drawnPart 110 = .ok (.iconst (-1), 1) := by decide +kernel
theorem dX2_drawnPart_111 : decode cX2_drawnPart 111 = .ok (.goto 10, 3) := by decide +kernel
theorem dX2_drawnPart_114 : decode cX2_drawnPart 114 = .ok (.aload_n 0, 1) := by decide +kernel
theorem dX2_drawnPart_115 : decode cX2_drawnPart 115 = .ok (.iload_n 1, 1) := by decide +kernel
theorem dX2_drawnPart_116 : decode cX2_drawnPart 116 = .ok (.iconst 1, 1) := by decide +kernel
theorem dX2_drawnPart_117 : decode cX2_drawnPart 117 = .ok (.isub, 1) := by decide +kernel
theorem dX2_drawnPart_118 : decode cX2_drawnPart 118 = .ok (.invokevirtual 108, 3) := by decide +kernel
theorem dX2_drawnPart_121 : decode cX2_drawnPart 121 = .ok (.istore 8, 2) := by decide +kernel
theorem dX2_drawnPart_123 : decode cX2_drawnPart 123 = .ok (.aload_n 0, 1) := by decide +kernel
theorem dX2_drawnPart_124 : decode cX2_drawnPart 124 = .ok (.getfield 28, 3) := by decide +kernel
theorem dX2_drawnPart_127 : decode cX2_drawnPart 127 = .ok (.iload 4, 2) := by decide +kernel
theorem dX2_drawnPart_129 : decode cX2_drawnPart 129 = .ok (.iload 6, 2) := by decide +kernel
theorem dX2_drawnPart_131 : decode cX2_drawnPart 131 = .ok (.iload 7, 2) := by decide +kernel
theorem dX2_drawnPart_133 : decode cX2_drawnPart 133 = .ok (.iload 8, 2) := by decide +kernel
theorem dX2_drawnPart_135 : decode cX2_drawnPart 135 = .ok (.invokevirtual 52, 3) := by decide +kernel
theorem dX2_drawnPart_138 : decode cX2_drawnPart 138 = .ok (.ireturn, 1) := by decide +kernel
theorem dX2_drawOf_0 : decode cX2_drawOf 0 = .ok (.aload_n 0, 1) := by decide +kernel
theorem dX2_drawOf_1 : decode cX2_drawOf 1 = .ok (.aload_n 0, 1) := by decide +kernel
theorem dX2_drawOf_2 : decode cX2_drawOf 2 = .ok (.getfield 25, 3) := by decide +kernel
theorem dX2_drawOf_5 : decode cX2_drawOf 5 = .ok (.ldc 124, 2) := by decide +kernel
theorem dX2_drawOf_7 : decode cX2_drawOf 7 = .ok (.imul, 1) := by decide +kernel
theorem dX2_drawOf_8 : decode cX2_drawOf 8 = .ok (.sipush 12345, 3) := by decide +kernel
theorem dX2_drawOf_11 : decode cX2_drawOf 11 = .ok (.iadd, 1) := by decide +kernel
theorem dX2_drawOf_12 : decode cX2_drawOf 12 = .ok (.putfield 25, 3) := by decide +kernel
theorem dX2_drawOf_15 : decode cX2_drawOf 15 = .ok (.iload_n 1, 1) := by decide +kernel
theorem dX2_drawOf_16 : decode cX2_drawOf 16 = .ok (.ifCond .le 19, 3) := by decide +kernel
theorem dX2_drawOf_19 : decode cX2_drawOf 19 = .ok (.aload_n 0, 1) := by decide +kernel
theorem dX2_drawOf_20 : decode cX2_drawOf 20 = .ok (.getfield 25, 3) := by decide +kernel
theorem dX2_drawOf_23 : decode cX2_drawOf 23 = .ok (.bipush 16, 2) := by decide +kernel
theorem dX2_drawOf_25 : decode cX2_drawOf 25 = .ok (.iushr, 1) := by decide +kernel
theorem dX2_drawOf_26 : decode cX2_drawOf 26 = .ok (.sipush 32767, 3) := by decide +kernel
theorem dX2_drawOf_29 : decode cX2_drawOf 29 = .ok (.iand, 1) := by decide +kernel
theorem dX2_drawOf_30 : decode cX2_drawOf 30 = .ok (.iload_n 1, 1) := by decide +kernel
theorem dX2_drawOf_31 : decode cX2_drawOf 31 = .ok (.irem, 1) := by decide +kernel
theorem dX2_drawOf_32 : decode cX2_drawOf 32 = .ok (.goto 4, 3) := by decide +kernel
theorem dX2_drawOf_36 : decode cX2_drawOf 36 = .ok (.ireturn, 1) := by decide +kernel
theorem dX3_init_0 : decode cX3_init 0 = .ok (.aload_n 0, 1) := by decide +kernel
theorem dX3_init_1 : decode cX3_init 1 = .ok (.invokespecial 3, 3) := by decide +kernel
theorem dX3_init_4 : decode cX3_init 4 = .ok (.aload_n 0, 1) := by decide +kernel
theorem dX3_init_5 : decode cX3_init 5 = .ok (.bipush 8, 2) := by decide +kernel
theorem dX3_init_7 : decode cX3_init 7 = .ok (.newarray .int, 2) := by decide +kernel
theorem dX3_init_9 : decode cX3_init 9 = .ok (.putfield 9, 3) := by decide +kernel
theorem dX3_init_12 : decode cX3_init 12 = .ok (.aload_n 0, 1) := by decide +kernel
theorem dX3_init_13 : decode cX3_init 13 = .ok (.aload_n 1, 1) := by decide +kernel
theorem dX3_init_14 : decode cX3_init 14 = .ok (.putfield 15, 3) := by decide +kernel
theorem dX3_init_17 : decode cX3_init 17 = .ok (.return_, 1) := by decide +kernel
theorem dX3_matches_0 : decode cX3_matches 0 = .ok (.aload_n 0, 1) := by decide +kernel
theorem dX3_matches_1 : decode cX3_matches 1 = .ok (.getfield 9, 3) := by decide +kernel
theorem dX3_matches_4 : decode cX3_matches 4 = .ok (.iconst (-1), 1) := by decide +kernel
theorem dX3_matches_5 : decode cX3_matches 5 = .ok (.invokestatic 19, 3) := by decide +kernel
theorem dX3_matches_8 : decode cX3_matches 8 = .ok (.aload_n 0, 1) := by decide +kernel
theorem dX3_matches_9 : decode cX3_matches 9 = .ok (.iload_n 1, 1) := by decide +kernel
theorem dX3_matches_10 : decode cX3_matches 10 = .ok (.iload_n 2, 1) := by decide +kernel
theorem dX3_matches_11 : decode cX3_matches 11 = .ok (.iconst 1, 1) := by decide +kernel
theorem dX3_matches_12 : decode cX3_matches 12 = .ok (.invokevirtual 25, 3) := by decide +kernel
theorem dX3_matches_15 : decode cX3_matches 15 = .ok (.ireturn, 1) := by decide +kernel
theorem dX3_fitsPart_0 : decode cX3_fitsPart 0 = .ok (.iload_n 3, 1) := by decide +kernel
theorem dX3_fitsPart_1 : decode cX3_fitsPart 1 = .ok (.bipush 6, 2) := by decide +kernel
theorem dX3_fitsPart_3 : decode cX3_fitsPart 3 = .ok (.if_icmp .le 5, 3) := by decide +kernel
theorem dX3_fitsPart_6 : decode cX3_fitsPart 6 = .ok (.iconst 0, 1) := by decide +kernel
theorem dX3_fitsPart_7 : decode cX3_fitsPart 7 = .ok (.ireturn, 1) := by decide +kernel
theorem dX3_fitsPart_8 : decode cX3_fitsPart 8 = .ok (.aload_n 0, 1) := by decide +kernel
theorem dX3_fitsPart_9 : decode cX3_fitsPart 9 = .ok (.getfield 15, 3) := by decide +kernel
theorem dX3_fitsPart_12 : decode cX3_fitsPart 12 = .ok (.iload_n 1, 1) := by decide +kernel
theorem dX3_fitsPart_13 : decode cX3_fitsPart 13 = .ok (.invokevirtual 29, 3) := by decide +kernel
theorem dX3_fitsPart_16 : decode cX3_fitsPart 16 = .ok (.ifCond .eq 20, 3) := by decide +kernel
theorem dX3_fitsPart_19 : decode cX3_fitsPart 19 = .ok (.aload_n 0, 1) := by decide +kernel
theorem dX3_fitsPart_20 : decode cX3_fitsPart 20 = .ok (.aload_n 0, 1) := by decide +kernel
theorem dX3_fitsPart_21 : decode cX3_fitsPart 21 = .ok (.getfield 15, 3) := by decide +kernel
theorem dX3_fitsPart_24 : decode cX3_fitsPart 24 = .ok (.getfield 35, 3) := by decide +kernel
theorem dX3_fitsPart_27 : decode cX3_fitsPart 27 = .ok (.iload_n 1, 1) := by decide +kernel
theorem dX3_fitsPart_28 : decode cX3_fitsPart 28 = .ok (.iaload, 1) := by decide +kernel
theorem dX3_fitsPart_29 : decode cX3_fitsPart 29 = .ok (.iconst (-1), 1) := by decide +kernel
theorem dX3_fitsPart_30 : decode cX3_fitsPart 30 = .ok (.ixor, 1) := by decide +kernel
theorem dX3_fitsPart_31 : decode cX3_fitsPart 31 = .ok (.iload_n 2, 1) := by decide +kernel
theorem dX3_fitsPart_32 : decode cX3_fitsPart 32 = .ok (.invokevirtual 38, 3) := by decide +kernel
theorem dX3_fitsPart_35 : decode cX3_fitsPart 35 = .ok (.ireturn, 1) := by decide +kernel
theorem dX3_fitsPart_36 : decode cX3_fitsPart 36 = .ok (.aload_n 0, 1) := by decide +kernel
theorem dX3_fitsPart_37 : decode cX3_fitsPart 37 = .ok (.getfield 15, 3) := by decide +kernel
theorem dX3_fitsPart_40 : decode cX3_fitsPart 40 = .ok (.getfield 35, 3) := by decide +kernel
theorem dX3_fitsPart_43 : decode cX3_fitsPart 43 = .ok (.iload_n 1, 1) := by decide +kernel
theorem dX3_fitsPart_44 : decode cX3_fitsPart 44 = .ok (.iaload, 1) := by decide +kernel
theorem dX3_fitsPart_45 : decode cX3_fitsPart 45 = .ok (.aload_n 0, 1) := by decide +kernel
theorem dX3_fitsPart_46 : decode cX3_fitsPart 46 = .ok (.getfield 15, 3) := by decide +kernel
theorem dX3_fitsPart_49 : decode cX3_fitsPart 49 = .ok (.getfield 35, 3) := by decide +kernel
theorem dX3_fitsPart_52 : decode cX3_fitsPart 52 = .ok (.iload_n 2, 1) := by decide +kernel
theorem dX3_fitsPart_53 : decode cX3_fitsPart 53 = .ok (.iaload, 1) := by decide +kernel
theorem dX3_fitsPart_54 : decode cX3_fitsPart 54 = .ok (.if_icmp .eq 5, 3) := by decide +kernel
theorem dX3_fitsPart_57 : decode cX3_fitsPart 57 = .ok (.iconst 0, 1) := by decide +kernel
theorem dX3_fitsPart_58 : decode cX3_fitsPart 58 = .ok (.ireturn, 1) := by decide +kernel
theorem dX3_fitsPart_59 : decode cX3_fitsPart 59 = .ok (.iconst 0, 1) := by decide +kernel
theorem dX3_fitsPart_60 : decode cX3_fitsPart 60 = .ok (.istore 4, 2) := by decide +kernel
theorem dX3_fitsPart_62 : decode cX3_fitsPart 62 = .ok (.iload 4, 2) := by decide +kernel
theorem dX3_fitsPart_64 : decode cX3_fitsPart 64 = .ok (.aload_n 0, 1) := by decide +kernel
theorem dX3_fitsPart_65 : decode cX3_fitsPart 65 = .ok (.getfield 15, 3) := by decide +kernel
theorem dX3_fitsPart_68 : decode cX3_fitsPart 68 = .ok (.getfield 42, 3) := by decide +kernel
theorem dX3_fitsPart_71 : decode cX3_fitsPart 71 = .ok (.iload_n 1, 1) := by decide +kernel
theorem dX3_fitsPart_72 : decode cX3_fitsPart 72 = .ok (.iaload, 1) := by decide +kernel
theorem dX3_fitsPart_73 : decode cX3_fitsPart 73 = .ok (.if_icmp .ge 41, 3) := by decide +kernel
theorem dX3_fitsPart_76 : decode cX3_fitsPart 76 = .ok (.aload_n 0, 1) := by decide +kernel
theorem dX3_fitsPart_77 : decode cX3_fitsPart 77 = .ok (.aload_n 0, 1) := by decide +kernel
theorem dX3_fitsPart_78 : decode cX3_fitsPart 78 = .ok (.getfield 15, 3) := by decide +kernel
theorem dX3_fitsPart_81 : decode cX3_fitsPart 81 = .ok (.iload_n 1, 1) := by decide +kernel
theorem dX3_fitsPart_82 : decode cX3_fitsPart 82 = .ok (.iload 4, 2) := by decide +kernel
theorem dX3_fitsPart_84 : decode cX3_fitsPart 84 = .ok (.invokevirtual 45, 3) := by decide +kernel
theorem dX3_fitsPart_87 : decode cX3_fitsPart 87 = .ok (.aload_n 0, 1) := by decide +kernel
theorem dX3_fitsPart_88 : decode cX3_fitsPart 88 = .ok (.getfield 15, 3) := by decide +kernel
theorem dX3_fitsPart_91 : decode cX3_fitsPart 91 = .ok (.iload_n 2, 1) := by decide +kernel
theorem dX3_fitsPart_92 : decode cX3_fitsPart 92 = .ok (.iload 4, 2) := by decide +kernel
theorem dX3_fitsPart_94 : decode cX3_fitsPart 94 = .ok (.invokevirtual 45, 3) := by decide +kernel
theorem dX3_fitsPart_97 : decode cX3_fitsPart 97 = .ok (.iload_n 3, 1) := by decide +kernel
theorem dX3_fitsPart_98 : decode cX3_fitsPart 98 = .ok (.iconst 1, 1) := by decide +kernel
theorem dX3_fitsPart_99 : decode cX3_fitsPart 99 = .ok (.iadd, 1) := by decide +kernel
theorem dX3_fitsPart_100 : decode cX3_fitsPart 100 = .ok (.invokevirtual 25, 3) := by decide +kernel
theorem dX3_fitsPart_103 : decode cX3_fitsPart 103 = .ok (.ifCond .ne 5, 3) := by decide +kernel
theorem dX3_fitsPart_106 : decode cX3_fitsPart 106 = .ok (.iconst 0, 1) := by decide +kernel
theorem dX3_fitsPart_107 : decode cX3_fitsPart 107 = .ok (.ireturn, 1) := by decide +kernel
theorem dX3_fitsPart_108 : decode cX3_fitsPart 108 = .ok (.iinc 4 1, 3) := by decide +kernel
theorem dX3_fitsPart_111 : decode cX3_fitsPart 111 = .ok (.goto (-49), 3) := by decide +kernel
theorem dX3_fitsPart_114 : decode cX3_fitsPart 114 = .ok (.iconst 1, 1) := by decide +kernel
theorem dX3_fitsPart_115 : decode cX3_fitsPart 115 = .ok (.ireturn, 1) := by decide +kernel
theorem dX3_takes_0 : decode cX3_takes 0 = .ok (.aload_n 0, 1) := by decide +kernel
theorem dX3_takes_1 : decode cX3_takes 1 = .ok (.getfield 9, 3) := by decide +kernel
theorem dX3_takes_4 : decode cX3_takes 4 = .ok (.iload_n 1, 1) := by decide +kernel
theorem dX3_takes_5 : decode cX3_takes 5 = .ok (.iaload, 1) := by decide +kernel
theorem dX3_takes_6 : decode cX3_takes 6 = .ok (.iconst (-1), 1) := by decide +kernel
theorem dX3_takes_7 : decode cX3_takes 7 = .ok (.if_icmp .ne 10, 3) := by decide +kernel
theorem dX3_takes_10 : decode cX3_takes 10 = .ok (.aload_n 0, 1) := by decide +kernel
theorem dX3_takes_11 : decode cX3_takes 11 = .ok (.getfield 9, 3) := by decide +kernel
theorem dX3_takes_14 : decode cX3_takes 14 = .ok (.iload_n 1, 1) := by decide +kernel
theorem dX3_takes_15 : decode cX3_takes 15 = .ok (.iload_n 2, 1) := by decide +kernel
theorem dX3_takes_16 : decode cX3_takes 16 = .ok (.iastore, 1) := by decide +kernel
theorem dX3_takes_17 : decode cX3_takes 17 = .ok (.aload_n 0, 1) := by decide +kernel
theorem dX3_takes_18 : decode cX3_takes 18 = .ok (.getfield 9, 3) := by decide +kernel
theorem dX3_takes_21 : decode cX3_takes 21 = .ok (.iload_n 1, 1) := by decide +kernel
theorem dX3_takes_22 : decode cX3_takes 22 = .ok (.iaload, 1) := by decide +kernel
theorem dX3_takes_23 : decode cX3_takes 23 = .ok (.iload_n 2, 1) := by decide +kernel
theorem dX3_takes_24 : decode cX3_takes 24 = .ok (.if_icmp .ne 7, 3) := by decide +kernel
theorem dX3_takes_27 : decode cX3_takes 27 = .ok (.iconst 1, 1) := by decide +kernel
theorem dX3_takes_28 : decode cX3_takes 28 = .ok (.goto 4, 3) := by decide +kernel
theorem dX3_takes_31 : decode cX3_takes 31 = .ok (.iconst 0, 1) := by decide +kernel
theorem dX3_takes_32 : decode cX3_takes 32 = .ok (.ireturn, 1) := by decide +kernel
end
