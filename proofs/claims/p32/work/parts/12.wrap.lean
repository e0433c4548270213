section
/-! ===== the shape that the made objects have ===== -/
def tb_shL : List tb_Sh := [(11, 16, [some 1, some 5, some 63, some 121, some 125, some 137, some 139, some 141, some 145, some 155, some 158, some 163, some 162, none, none, none]), (8, 4, [some 2, some 3, some 4, none]), (100, 10, []), (100, 10, []), (100, 10, []), (0, 7, [some 6, some 18, some 20, some 61, some 62, none, none]), (9, 13, [some 1, some 7, some 8, some 9, some 10, some 11, some 12, some 13, some 14, some 15, some 16, some 17, none]), (100, 401, []), (100, 401, []), (100, 1203, []), (100, 401, []), (100, 401, []), (100, 401, []), (100, 401, []), (100, 401, []), (100, 401, []), (100, 256, []), (100, 401, []), (1, 1, [some 19]), (100, 61, []), (101, 40, [some 21, some 22, some 23, some 24, some 25, some 26, some 27, some 28, some 29, some 30, some 31, some 32, some 33, some 34, some 35, some 36, some 37, some 38, some 39, some 40, some 41, some 42, some 43, some 44, some 45, some 46, some 47, some 48, some 49, some 50, some 51, some 52, some 53, some 54, some 55, some 56, some 57, some 58, some 59, some 60]), (100, 61, []), (100, 61, []), (100, 61, []), (100, 61, []), (100, 61, []), (100, 61, []), (100, 61, []), (100, 61, []), (100, 61, []), (100, 61, []), (100, 61, []), (100, 61, []), (100, 61, []), (100, 61, []), (100, 61, []), (100, 61, []), (100, 61, []), (100, 61, []), (100, 61, []), (100, 61, []), (100, 61, []), (100, 61, []), (100, 61, []), (100, 61, []), (100, 61, []), (100, 61, []), (100, 61, []), (100, 61, []), (100, 61, []), (100, 61, []), (100, 61, []), (100, 61, []), (100, 61, []), (100, 61, []), (100, 61, []), (100, 61, []), (100, 61, []), (100, 61, []), (100, 61, []), (100, 61, []), (100, 61, []), (100, 4, []), (0, 7, [some 64, some 76, some 78, some 119, some 120, none, none]), (9, 13, [some 1, some 65, some 66, some 67, some 68, some 69, some 70, some 71, some 72, some 73, some 74, some 75, none]), (100, 401, []), (100, 401, []), (100, 1203, []), (100, 401, []), (100, 401, []), (100, 401, []), (100, 401, []), (100, 401, []), (100, 401, []), (100, 256, []), (100, 401, []), (1, 1, [some 77]), (100, 61, []), (101, 40, [some 79, some 80, some 81, some 82, some 83, some 84, some 85, some 86, some 87, some 88, some 89, some 90, some 91, some 92, some 93, some 94, some 95, some 96, some 97, some 98, some 99, some 100, some 101, some 102, some 103, some 104, some 105, some 106, some 107, some 108, some 109, some 110, some 111, some 112, some 113, some 114, some 115, some 116, some 117, some 118]), (100, 61, []), (100, 61, []), (100, 61, []), (100, 61, []), (100, 61, []), (100, 61, []), (100, 61, []), (100, 61, []), (100, 61, []), (100, 61, []), (100, 61, []), (100, 61, []), (100, 61, []), (100, 61, []), (100, 61, []), (100, 61, []), (100, 61, []), (100, 61, []), (100, 61, []), (100, 61, []), (100, 61, []), (100, 61, []), (100, 61, []), (100, 61, []), (100, 61, []), (100, 61, []), (100, 61, []), (100, 61, []), (100, 61, []), (100, 61, []), (100, 61, []), (100, 61, []), (100, 61, []), (100, 61, []), (100, 61, []), (100, 61, []), (100, 61, []), (100, 61, []), (100, 61, []), (100, 61, []), (100, 61, []), (100, 4, []), (8, 4, [some 122, some 123, some 124, none]), (100, 10, []), (100, 10, []), (100, 10, []), (9, 13, [some 1, some 126, some 127, some 128, some 129, some 130, some 131, some 132, some 133, some 134, some 135, some 136, none]), (100, 401, []), (100, 401, []), (100, 1203, []), (100, 401, []), (100, 401, []), (100, 401, []), (100, 401, []), (100, 401, []), (100, 401, []), (100, 256, []), (100, 401, []), (1, 1, [some 138]), (100, 61, []), (3, 2, [some 6, some 140]), (100, 8, []), (2, 6, [some 6, some 142, some 143, some 144, none, none]), (100, 8, []), (100, 8, []), (100, 8, []), (10, 12, [some 6, some 146, some 147, some 148, some 149, some 150, some 151, some 152, some 153, some 154, none, none]), (100, 800, []), (100, 800, []), (100, 800, []), (100, 800, []), (100, 800, []), (100, 2401, []), (100, 2401, []), (100, 800, []), (100, 800, []), (7, 5, [some 5, some 6, some 139, some 145, some 156]), (4, 5, [some 6, some 157, none, none, none]), (100, 8, []), (6, 9, [some 5, some 6, some 139, some 141, some 159, some 160, some 161, none, none]), (100, 612, []), (100, 612, []), (100, 1836, []), (100, 700, []), (5, 11, [some 162, some 5, some 1, some 155, none, none, none, none, none, none, none]), (12, 47, [some 165, some 166, some 167, some 168, some 169, some 170, some 171, some 172, none, none, none, none, none, none, none, none, none, none, some 173, none, none, none, some 174, some 175, some 176, some 177, some 178, some 179, some 180, some 181, none, some 182, none, none, none, none, none, none, none, none, none, none, none, none, none, none, none]), (100, 5400, []), (100, 1200, []), (100, 3600, []), (100, 1200, []), (100, 20, []), (100, 20, []), (100, 20, []), (100, 8, []), (100, 700, []), (100, 8, []), (100, 8, []), (100, 8, []), (100, 800, []), (100, 800, []), (100, 800, []), (100, 800, []), (100, 4000, []), (100, 16, []), (102, 1, [])]
def tb_N0 : Nat := 184
def tb_shT : Nat → tb_Sh := fun k => tb_shL.getD k (100, 3, [])
def tb_cI (sh : Nat → tb_Sh) (c ci k : Nat) : Bool := (c != tb_sc) && ((sh c).1 == ci) && decide (k < (sh c).2.1) && !(tb_isr ci k)
def tb_cR (sh : Nat → tb_Sh) (c ci k r : Nat) : Bool := (c != tb_sc) && ((sh c).1 == ci) && decide (k < (sh c).2.1) && tb_isr ci k && ((sh c).2.2[k]? == some (some r))
def tb_cA (sh : Nat → tb_Sh) (c len : Nat) : Bool := (c != tb_sc) && ((sh c).1 == 100) && ((sh c).2.1 == len) && decide (len ≤ 100000)
def tb_cB (sh : Nat → tb_Sh) (c len j r : Nat) : Bool := (c != tb_sc) && ((sh c).1 == 101) && ((sh c).2.1 == len) && decide (len ≤ 100000) && ((sh c).2.2[j]? == some (some r))
def tb_cO (sh : Nat → tb_Sh) (c ci : Nat) : Bool := (c != tb_sc) && ((sh c).1 == ci)
theorem tb_sh3 {s : tb_Sh} {a b : Nat} (h1 : s.1 = a) (h2 : s.2.1 = b) : s = (a, b, s.2.2) := by
  obtain ⟨x, y, z⟩ := s
  cases h1
  cases h2
  rfl
section TBW
variable {l : Launch} {G : tb_G} {y : tb_Mt} {R : Room} {xt : Option (Nat × (Nat → Int32))} {Z : tb_CT → State → Prop} {k1 k2 n : Nat} {sh : Nat → tb_Sh} {I : tb_I} {pc : Nat} {L : List (Option Value)} {S : List Value}
theorem tb_fI {idx ci k c9 : Nat} {fin : Bool} (hd : decode y.2.1 pc = .ok (.getfield idx, 3)) (hf : tb_FL y.1.cls idx ci k fin) (h : tb_cI sh c9 ci k = true) (kk : tb_At l G y R xt Z k1 k2 n sh I (pc + 3) L (.int (I c9 k) :: S)) : tb_At l G y R xt Z k1 k2 n sh I pc L (.ref c9 :: S) := by
  simp only [tb_cI, Bool.and_eq_true, bne_iff_ne, ne_eq, beq_iff_eq, decide_eq_true_eq, Bool.not_eq_true'] at h
  exact tb_getI hd hf (tb_sh3 h.1.1.2 rfl) h.1.1.1 h.1.2 h.2 kk
theorem tb_fIv {idx ci k c9 : Nat} {fin : Bool} {v : Int32} (hd : decode y.2.1 pc = .ok (.getfield idx, 3)) (hf : tb_FL y.1.cls idx ci k fin) (h : tb_cI sh c9 ci k = true) (hv : I c9 k = v) (kk : tb_At l G y R xt Z k1 k2 n sh I (pc + 3) L (.int v :: S)) : tb_At l G y R xt Z k1 k2 n sh I pc L (.ref c9 :: S) := by
  subst hv
  exact tb_fI hd hf h kk
theorem tb_fR {idx ci k c9 r : Nat} {fin : Bool} (hd : decode y.2.1 pc = .ok (.getfield idx, 3)) (hf : tb_FL y.1.cls idx ci k fin) (h : tb_cR sh c9 ci k r = true) (kk : tb_At l G y R xt Z k1 k2 n sh I (pc + 3) L (.ref r :: S)) : tb_At l G y R xt Z k1 k2 n sh I pc L (.ref c9 :: S) := by
  simp only [tb_cR, Bool.and_eq_true, bne_iff_ne, ne_eq, beq_iff_eq, decide_eq_true_eq] at h
  exact tb_getR hd hf (tb_sh3 h.1.1.1.2 rfl) h.1.1.1.1 h.1.1.2 h.1.2 h.2 kk
theorem tb_pI {idx ci k c9 : Nat} {x : Int32} (hd : decode y.2.1 pc = .ok (.putfield idx, 3)) (hf : tb_FL y.1.cls idx ci k false) (h : tb_cI sh c9 ci k = true) (ht : tb_ft ci k = .int) (kk : tb_At l G y R xt Z k1 k2 n sh (tb_up I c9 k x) (pc + 3) L S) : tb_At l G y R xt Z k1 k2 n sh I pc L (.int x :: .ref c9 :: S) := by
  simp only [tb_cI, Bool.and_eq_true, bne_iff_ne, ne_eq, beq_iff_eq, decide_eq_true_eq, Bool.not_eq_true'] at h
  exact tb_putI hd hf (tb_sh3 h.1.1.2 rfl) h.1.1.1 h.1.2 ht kk
theorem tb_pZ {idx ci k c9 : Nat} {x : Int32} (hd : decode y.2.1 pc = .ok (.putfield idx, 3)) (hf : tb_FL y.1.cls idx ci k false) (h : tb_cI sh c9 ci k = true) (ht : tb_ft ci k = .boolean) (hx : x = 0 ∨ x = 1) (kk : tb_At l G y R xt Z k1 k2 n sh (tb_up I c9 k x) (pc + 3) L S) : tb_At l G y R xt Z k1 k2 n sh I pc L (.int x :: .ref c9 :: S) := by
  simp only [tb_cI, Bool.and_eq_true, bne_iff_ne, ne_eq, beq_iff_eq, decide_eq_true_eq, Bool.not_eq_true'] at h
  exact tb_putZ hd hf (tb_sh3 h.1.1.2 rfl) h.1.1.1 h.1.2 ht hx kk
theorem tb_aL {i : Int32} {j len c9 : Nat} (hd : decode y.2.1 pc = .ok (.iaload, 1)) (h : tb_cA sh c9 len = true) (hi : i = nI j) (hj : j < len) (kk : tb_At l G y R xt Z k1 k2 n sh I (pc + 1) L (.int (I c9 j) :: S)) : tb_At l G y R xt Z k1 k2 n sh I pc L (.int i :: .ref c9 :: S) := by
  simp only [tb_cA, Bool.and_eq_true, bne_iff_ne, ne_eq, beq_iff_eq, decide_eq_true_eq] at h
  exact tb_iald hd (tb_sh3 h.1.1.2 h.1.2) h.1.1.1 hi hj (Nat.le_trans h.2 (by decide)) kk
theorem tb_aLv {i v : Int32} {j len c9 : Nat} (hd : decode y.2.1 pc = .ok (.iaload, 1)) (h : tb_cA sh c9 len = true) (hi : i = nI j) (hj : j < len) (hv : I c9 j = v) (kk : tb_At l G y R xt Z k1 k2 n sh I (pc + 1) L (.int v :: S)) : tb_At l G y R xt Z k1 k2 n sh I pc L (.int i :: .ref c9 :: S) := by
  subst hv
  exact tb_aL hd h hi hj kk
theorem tb_aS {i x : Int32} {j len c9 : Nat} (hd : decode y.2.1 pc = .ok (.iastore, 1)) (h : tb_cA sh c9 len = true) (hi : i = nI j) (hj : j < len) (kk : tb_At l G y R xt Z k1 k2 n sh (tb_up I c9 j x) (pc + 1) L S) : tb_At l G y R xt Z k1 k2 n sh I pc L (.int x :: .int i :: .ref c9 :: S) := by
  simp only [tb_cA, Bool.and_eq_true, bne_iff_ne, ne_eq, beq_iff_eq, decide_eq_true_eq] at h
  exact tb_iast hd (tb_sh3 h.1.1.2 h.1.2) h.1.1.1 hi hj (Nat.le_trans h.2 (by decide)) kk
theorem tb_aN {len c9 : Nat} (hd : decode y.2.1 pc = .ok (.arraylength, 1)) (h : tb_cA sh c9 len = true) (kk : tb_At l G y R xt Z k1 k2 n sh I (pc + 1) L (.int (nI len) :: S)) : tb_At l G y R xt Z k1 k2 n sh I pc L (.ref c9 :: S) := by
  simp only [tb_cA, Bool.and_eq_true, bne_iff_ne, ne_eq, beq_iff_eq, decide_eq_true_eq] at h
  exact tb_alen hd (tb_sh3 h.1.1.2 h.1.2) h.1.1.1 kk
theorem tb_aR {i : Int32} {j len c9 r : Nat} (hd : decode y.2.1 pc = .ok (.aaload, 1)) (h : tb_cB sh c9 len j r = true) (hi : i = nI j) (hj : j < len) (kk : tb_At l G y R xt Z k1 k2 n sh I (pc + 1) L (.ref r :: S)) : tb_At l G y R xt Z k1 k2 n sh I pc L (.int i :: .ref c9 :: S) := by
  simp only [tb_cB, Bool.and_eq_true, bne_iff_ne, ne_eq, beq_iff_eq, decide_eq_true_eq] at h
  exact tb_aald hd (tb_sh3 h.1.1.1.2 h.1.1.2) h.1.1.1.1 hi hj (Nat.le_trans h.1.2 (by decide)) h.2 kk
theorem tb_cp {idx c0 c9 n0' n1' sp dp ln : Nat} {is id9 il : Int32} (hd : decode y.2.1 pc = .ok (.invokestatic idx, 3)) (hw1 : Cond.methodLink y.1.cls idx arraycopyName ∈ tb_W) (h0 : tb_cA sh c0 n0' = true) (h9 : tb_cA sh c9 n1' = true) (h1 : is = nI sp) (h2 : id9 = nI dp) (h3 : il = nI ln) (h4 : sp + ln ≤ n0') (h5 : dp + ln ≤ n1') (hfr : 1 ≤ R.frames) (hlo : (S.map fun v => v.category).sum + (nativeFrameWords "java/lang/System" "arraycopy" 5 + 11) ≤ R.locals)
    (kk : tb_At l G y R xt Z k1 k2 n sh (tb_row I c9 (va_cpy (I c0) (I c9) sp dp ln)) (pc + 3) L S) : tb_At l G y R xt Z k1 k2 n sh I pc L (.int il :: .int id9 :: .ref c9 :: .int is :: .ref c0 :: S) := by
  simp only [tb_cA, Bool.and_eq_true, bne_iff_ne, ne_eq, beq_iff_eq, decide_eq_true_eq] at h0 h9
  exact tb_copy hd hw1 wk_copy2 wk_copy3 wk_copy4 (tb_sh3 h0.1.1.2 h0.1.2) (tb_sh3 h9.1.1.2 h9.1.2) h0.1.1.1 h9.1.1.1 h1 h2 h3 h4 h5 h0.2 h9.2 hfr hlo kk
theorem tb_mx {idx : Nat} {a b v : Int32} (hd : decode y.2.1 pc = .ok (.invokestatic idx, 3)) (hw1 : Cond.methodLink y.1.cls idx Lib.Math.max.name ∈ tb_W) (hfr : 1 ≤ R.frames) (hlo : (S.map fun v => v.category).sum + 13 ≤ R.locals) (hc : k1 ≤ R.cells) (hs : k2 ≤ R.slots) (hv : (if a < b then b else a) = v)
    (kk : tb_At l G y R xt Z k1 k2 n sh I (pc + 3) L (.int v :: S)) : tb_At l G y R xt Z k1 k2 n sh I pc L (.int b :: .int a :: S) := by
  subst hv
  exact tb_mmax hd hw1 wk_max2 wk_math wk_max4 hfr hlo hc hs kk
theorem tb_mn {idx : Nat} {a b v : Int32} (hd : decode y.2.1 pc = .ok (.invokestatic idx, 3)) (hw1 : Cond.methodLink y.1.cls idx Lib.Math.min.name ∈ tb_W) (hfr : 1 ≤ R.frames) (hlo : (S.map fun v => v.category).sum + 13 ≤ R.locals) (hc : k1 ≤ R.cells) (hs : k2 ≤ R.slots) (hv : (if b < a then b else a) = v)
    (kk : tb_At l G y R xt Z k1 k2 n sh I (pc + 3) L (.int v :: S)) : tb_At l G y R xt Z k1 k2 n sh I pc L (.int b :: .int a :: S) := by
  subst hv
  exact tb_mmin hd hw1 wk_min2 wk_math wk_min4 hfr hlo hc hs kk
theorem tb_cS {idx nA d mc ms m1 m2 : Nat} {y' : tb_Mt} {as St : List Value} {Q' : tb_Q} (hM : tb_Ok l G y' d mc ms as n sh I Q' tb_Nx) (hv : tb_SL y.1.cls idx y' nA) (hd : decode y.2.1 pc = .ok (.invokestatic idx, 3)) (hna : as.length = nA) (hst : St = as.reverse ++ S)
    (hcat : (S.map fun v => v.category).sum ≤ 8) (hR : d + 1 ≤ R.frames ∧ 8 + (y'.2.2.1 + 11) + 40 * d ≤ R.locals) (h1 : k1 + mc = m1) (h2 : k2 + ms = m2) (hce : m1 ≤ R.cells) (hsl : m2 ≤ R.slots)
    (kk : ∀ (r : Option Value) (n' : Nat) (sh' : Nat → tb_Sh) (I' : tb_I), Q' r n' sh' I' → tb_At l G y R xt Z m1 m2 n' sh' I' (pc + 3) L (r.toList ++ S)) : tb_At l G y R xt Z k1 k2 n sh I pc L St :=
  tb_callS hM hv hd hna hst hcat hR h1 h2 hce hsl kk (fun _ _ _ _ h => h.elim)

theorem tb_iaddv {a b v : Int32} (hd : decode y.2.1 pc = .ok (.iadd, 1)) (hv : a + b = v) (kk : tb_At l G y R xt Z k1 k2 n sh I (pc + 1) L (.int v :: S)) : tb_At l G y R xt Z k1 k2 n sh I pc L (.int b :: .int a :: S) := by
  subst hv
  exact tb_iadd hd kk
theorem tb_isubv {a b v : Int32} (hd : decode y.2.1 pc = .ok (.isub, 1)) (hv : a - b = v) (kk : tb_At l G y R xt Z k1 k2 n sh I (pc + 1) L (.int v :: S)) : tb_At l G y R xt Z k1 k2 n sh I pc L (.int b :: .int a :: S) := by
  subst hv
  exact tb_isub hd kk
theorem tb_imulv {a b v : Int32} (hd : decode y.2.1 pc = .ok (.imul, 1)) (hv : a * b = v) (kk : tb_At l G y R xt Z k1 k2 n sh I (pc + 1) L (.int v :: S)) : tb_At l G y R xt Z k1 k2 n sh I pc L (.int b :: .int a :: S) := by
  subst hv
  exact tb_imul hd kk
theorem tb_iandv {a b v : Int32} (hd : decode y.2.1 pc = .ok (.iand, 1)) (hv : a &&& b = v) (kk : tb_At l G y R xt Z k1 k2 n sh I (pc + 1) L (.int v :: S)) : tb_At l G y R xt Z k1 k2 n sh I pc L (.int b :: .int a :: S) := by
  subst hv
  exact tb_iand hd kk
theorem tb_iorv {a b v : Int32} (hd : decode y.2.1 pc = .ok (.ior, 1)) (hv : a ||| b = v) (kk : tb_At l G y R xt Z k1 k2 n sh I (pc + 1) L (.int v :: S)) : tb_At l G y R xt Z k1 k2 n sh I pc L (.int b :: .int a :: S) := by
  subst hv
  exact tb_ior hd kk
theorem tb_ixorv {a b v : Int32} (hd : decode y.2.1 pc = .ok (.ixor, 1)) (hv : a ^^^ b = v) (kk : tb_At l G y R xt Z k1 k2 n sh I (pc + 1) L (.int v :: S)) : tb_At l G y R xt Z k1 k2 n sh I pc L (.int b :: .int a :: S) := by
  subst hv
  exact tb_ixor hd kk
theorem tb_ishlv {a b v : Int32} (hd : decode y.2.1 pc = .ok (.ishl, 1)) (hv : a <<< (b &&& 31) = v) (kk : tb_At l G y R xt Z k1 k2 n sh I (pc + 1) L (.int v :: S)) : tb_At l G y R xt Z k1 k2 n sh I pc L (.int b :: .int a :: S) := by
  subst hv
  exact tb_ishl hd kk
theorem tb_ishrv {a b v : Int32} (hd : decode y.2.1 pc = .ok (.ishr, 1)) (hv : a >>> (b &&& 31) = v) (kk : tb_At l G y R xt Z k1 k2 n sh I (pc + 1) L (.int v :: S)) : tb_At l G y R xt Z k1 k2 n sh I pc L (.int b :: .int a :: S) := by
  subst hv
  exact tb_ishr hd kk
theorem tb_iremv {a b v : Int32} (hd : decode y.2.1 pc = .ok (.irem, 1)) (h0 : ¬ b = 0) (hv : a - a / b * b = v) (kk : tb_At l G y R xt Z k1 k2 n sh I (pc + 1) L (.int v :: S)) : tb_At l G y R xt Z k1 k2 n sh I pc L (.int b :: .int a :: S) := by
  subst hv
  exact tb_irem hd h0 kk
theorem tb_idivv {a b v : Int32} (hd : decode y.2.1 pc = .ok (.idiv, 1)) (h0 : ¬ b = 0) (hv : a / b = v) (kk : tb_At l G y R xt Z k1 k2 n sh I (pc + 1) L (.int v :: S)) : tb_At l G y R xt Z k1 k2 n sh I pc L (.int b :: .int a :: S) := by
  subst hv
  exact tb_idiv hd h0 kk
end TBW
theorem r_0_0 : tb_cR tb_shT 0 11 0 1 = true := by decide +kernel
theorem r_0_1 : tb_cR tb_shT 0 11 1 5 = true := by decide +kernel
theorem r_0_2 : tb_cR tb_shT 0 11 2 63 = true := by decide +kernel
theorem r_0_3 : tb_cR tb_shT 0 11 3 121 = true := by decide +kernel
theorem r_0_4 : tb_cR tb_shT 0 11 4 125 = true := by decide +kernel
theorem r_0_5 : tb_cR tb_shT 0 11 5 137 = true := by decide +kernel
theorem r_0_6 : tb_cR tb_shT 0 11 6 139 = true := by decide +kernel
theorem r_0_7 : tb_cR tb_shT 0 11 7 141 = true := by decide +kernel
theorem r_0_8 : tb_cR tb_shT 0 11 8 145 = true := by decide +kernel
theorem r_0_9 : tb_cR tb_shT 0 11 9 155 = true := by decide +kernel
theorem r_0_10 : tb_cR tb_shT 0 11 10 158 = true := by decide +kernel
theorem r_0_11 : tb_cR tb_shT 0 11 11 163 = true := by decide +kernel
theorem r_0_12 : tb_cR tb_shT 0 11 12 162 = true := by decide +kernel
theorem i_0_13 : tb_cI tb_shT 0 11 13 = true := by decide +kernel
theorem i_0_14 : tb_cI tb_shT 0 11 14 = true := by decide +kernel
theorem i_0_15 : tb_cI tb_shT 0 11 15 = true := by decide +kernel
theorem o_0 : tb_cO tb_shT 0 11 = true := by decide +kernel
theorem r_1_0 : tb_cR tb_shT 1 8 0 2 = true := by decide +kernel
theorem r_1_1 : tb_cR tb_shT 1 8 1 3 = true := by decide +kernel
theorem r_1_2 : tb_cR tb_shT 1 8 2 4 = true := by decide +kernel
theorem i_1_3 : tb_cI tb_shT 1 8 3 = true := by decide +kernel
theorem o_1 : tb_cO tb_shT 1 8 = true := by decide +kernel
theorem a_2 : tb_cA tb_shT 2 10 = true := by decide +kernel
theorem a_3 : tb_cA tb_shT 3 10 = true := by decide +kernel
theorem a_4 : tb_cA tb_shT 4 10 = true := by decide +kernel
theorem r_5_0 : tb_cR tb_shT 5 0 0 6 = true := by decide +kernel
theorem r_5_1 : tb_cR tb_shT 5 0 1 18 = true := by decide +kernel
theorem r_5_2 : tb_cR tb_shT 5 0 2 20 = true := by decide +kernel
theorem r_5_3 : tb_cR tb_shT 5 0 3 61 = true := by decide +kernel
theorem r_5_4 : tb_cR tb_shT 5 0 4 62 = true := by decide +kernel
theorem i_5_5 : tb_cI tb_shT 5 0 5 = true := by decide +kernel
theorem i_5_6 : tb_cI tb_shT 5 0 6 = true := by decide +kernel
theorem o_5 : tb_cO tb_shT 5 0 = true := by decide +kernel
theorem r_6_0 : tb_cR tb_shT 6 9 0 1 = true := by decide +kernel
theorem r_6_1 : tb_cR tb_shT 6 9 1 7 = true := by decide +kernel
theorem r_6_2 : tb_cR tb_shT 6 9 2 8 = true := by decide +kernel
theorem r_6_3 : tb_cR tb_shT 6 9 3 9 = true := by decide +kernel
theorem r_6_4 : tb_cR tb_shT 6 9 4 10 = true := by decide +kernel
theorem r_6_5 : tb_cR tb_shT 6 9 5 11 = true := by decide +kernel
theorem r_6_6 : tb_cR tb_shT 6 9 6 12 = true := by decide +kernel
theorem r_6_7 : tb_cR tb_shT 6 9 7 13 = true := by decide +kernel
theorem r_6_8 : tb_cR tb_shT 6 9 8 14 = true := by decide +kernel
theorem r_6_9 : tb_cR tb_shT 6 9 9 15 = true := by decide +kernel
theorem r_6_10 : tb_cR tb_shT 6 9 10 16 = true := by decide +kernel
theorem r_6_11 : tb_cR tb_shT 6 9 11 17 = true := by decide +kernel
theorem i_6_12 : tb_cI tb_shT 6 9 12 = true := by decide +kernel
theorem o_6 : tb_cO tb_shT 6 9 = true := by decide +kernel
theorem a_7 : tb_cA tb_shT 7 401 = true := by decide +kernel
theorem a_8 : tb_cA tb_shT 8 401 = true := by decide +kernel
theorem a_9 : tb_cA tb_shT 9 1203 = true := by decide +kernel
theorem a_10 : tb_cA tb_shT 10 401 = true := by decide +kernel
theorem a_11 : tb_cA tb_shT 11 401 = true := by decide +kernel
theorem a_12 : tb_cA tb_shT 12 401 = true := by decide +kernel
theorem a_13 : tb_cA tb_shT 13 401 = true := by decide +kernel
theorem a_14 : tb_cA tb_shT 14 401 = true := by decide +kernel
theorem a_15 : tb_cA tb_shT 15 401 = true := by decide +kernel
theorem a_16 : tb_cA tb_shT 16 256 = true := by decide +kernel
theorem a_17 : tb_cA tb_shT 17 401 = true := by decide +kernel
theorem r_18_0 : tb_cR tb_shT 18 1 0 19 = true := by decide +kernel
theorem o_18 : tb_cO tb_shT 18 1 = true := by decide +kernel
theorem a_19 : tb_cA tb_shT 19 61 = true := by decide +kernel
theorem a_61 : tb_cA tb_shT 61 61 = true := by decide +kernel
theorem a_62 : tb_cA tb_shT 62 4 = true := by decide +kernel
theorem r_63_0 : tb_cR tb_shT 63 0 0 64 = true := by decide +kernel
theorem r_63_1 : tb_cR tb_shT 63 0 1 76 = true := by decide +kernel
theorem r_63_2 : tb_cR tb_shT 63 0 2 78 = true := by decide +kernel
theorem r_63_4 : tb_cR tb_shT 63 0 4 120 = true := by decide +kernel
theorem i_63_5 : tb_cI tb_shT 63 0 5 = true := by decide +kernel
theorem i_63_6 : tb_cI tb_shT 63 0 6 = true := by decide +kernel
theorem o_63 : tb_cO tb_shT 63 0 = true := by decide +kernel
theorem r_64_1 : tb_cR tb_shT 64 9 1 65 = true := by decide +kernel
theorem r_64_2 : tb_cR tb_shT 64 9 2 66 = true := by decide +kernel
theorem r_64_3 : tb_cR tb_shT 64 9 3 67 = true := by decide +kernel
theorem r_64_4 : tb_cR tb_shT 64 9 4 68 = true := by decide +kernel
theorem r_64_5 : tb_cR tb_shT 64 9 5 69 = true := by decide +kernel
theorem r_64_6 : tb_cR tb_shT 64 9 6 70 = true := by decide +kernel
theorem r_64_7 : tb_cR tb_shT 64 9 7 71 = true := by decide +kernel
theorem r_64_8 : tb_cR tb_shT 64 9 8 72 = true := by decide +kernel
theorem r_64_9 : tb_cR tb_shT 64 9 9 73 = true := by decide +kernel
theorem r_64_10 : tb_cR tb_shT 64 9 10 74 = true := by decide +kernel
theorem i_64_12 : tb_cI tb_shT 64 9 12 = true := by decide +kernel
theorem o_64 : tb_cO tb_shT 64 9 = true := by decide +kernel
theorem a_65 : tb_cA tb_shT 65 401 = true := by decide +kernel
theorem a_66 : tb_cA tb_shT 66 401 = true := by decide +kernel
theorem a_67 : tb_cA tb_shT 67 1203 = true := by decide +kernel
theorem a_68 : tb_cA tb_shT 68 401 = true := by decide +kernel
theorem a_69 : tb_cA tb_shT 69 401 = true := by decide +kernel
theorem a_70 : tb_cA tb_shT 70 401 = true := by decide +kernel
theorem a_71 : tb_cA tb_shT 71 401 = true := by decide +kernel
theorem a_72 : tb_cA tb_shT 72 401 = true := by decide +kernel
theorem a_73 : tb_cA tb_shT 73 401 = true := by decide +kernel
theorem a_74 : tb_cA tb_shT 74 256 = true := by decide +kernel
theorem r_76_0 : tb_cR tb_shT 76 1 0 77 = true := by decide +kernel
theorem o_76 : tb_cO tb_shT 76 1 = true := by decide +kernel
theorem a_77 : tb_cA tb_shT 77 61 = true := by decide +kernel
theorem a_120 : tb_cA tb_shT 120 4 = true := by decide +kernel
theorem r_121_0 : tb_cR tb_shT 121 8 0 122 = true := by decide +kernel
theorem r_121_1 : tb_cR tb_shT 121 8 1 123 = true := by decide +kernel
theorem r_121_2 : tb_cR tb_shT 121 8 2 124 = true := by decide +kernel
theorem i_121_3 : tb_cI tb_shT 121 8 3 = true := by decide +kernel
theorem o_121 : tb_cO tb_shT 121 8 = true := by decide +kernel
theorem a_122 : tb_cA tb_shT 122 10 = true := by decide +kernel
theorem a_123 : tb_cA tb_shT 123 10 = true := by decide +kernel
theorem a_124 : tb_cA tb_shT 124 10 = true := by decide +kernel
theorem r_125_1 : tb_cR tb_shT 125 9 1 126 = true := by decide +kernel
theorem r_125_2 : tb_cR tb_shT 125 9 2 127 = true := by decide +kernel
theorem r_125_3 : tb_cR tb_shT 125 9 3 128 = true := by decide +kernel
theorem r_125_4 : tb_cR tb_shT 125 9 4 129 = true := by decide +kernel
theorem r_125_5 : tb_cR tb_shT 125 9 5 130 = true := by decide +kernel
theorem r_125_6 : tb_cR tb_shT 125 9 6 131 = true := by decide +kernel
theorem r_125_7 : tb_cR tb_shT 125 9 7 132 = true := by decide +kernel
theorem r_125_8 : tb_cR tb_shT 125 9 8 133 = true := by decide +kernel
theorem r_125_9 : tb_cR tb_shT 125 9 9 134 = true := by decide +kernel
theorem r_125_10 : tb_cR tb_shT 125 9 10 135 = true := by decide +kernel
theorem i_125_12 : tb_cI tb_shT 125 9 12 = true := by decide +kernel
theorem o_125 : tb_cO tb_shT 125 9 = true := by decide +kernel
theorem a_126 : tb_cA tb_shT 126 401 = true := by decide +kernel
theorem a_127 : tb_cA tb_shT 127 401 = true := by decide +kernel
theorem a_128 : tb_cA tb_shT 128 1203 = true := by decide +kernel
theorem a_129 : tb_cA tb_shT 129 401 = true := by decide +kernel
theorem a_130 : tb_cA tb_shT 130 401 = true := by decide +kernel
theorem a_131 : tb_cA tb_shT 131 401 = true := by decide +kernel
theorem a_132 : tb_cA tb_shT 132 401 = true := by decide +kernel
theorem a_133 : tb_cA tb_shT 133 401 = true := by decide +kernel
theorem a_134 : tb_cA tb_shT 134 401 = true := by decide +kernel
theorem a_135 : tb_cA tb_shT 135 256 = true := by decide +kernel
theorem r_137_0 : tb_cR tb_shT 137 1 0 138 = true := by decide +kernel
theorem o_137 : tb_cO tb_shT 137 1 = true := by decide +kernel
theorem a_138 : tb_cA tb_shT 138 61 = true := by decide +kernel
theorem r_139_0 : tb_cR tb_shT 139 3 0 6 = true := by decide +kernel
theorem r_139_1 : tb_cR tb_shT 139 3 1 140 = true := by decide +kernel
theorem o_139 : tb_cO tb_shT 139 3 = true := by decide +kernel
theorem a_140 : tb_cA tb_shT 140 8 = true := by decide +kernel
theorem r_141_0 : tb_cR tb_shT 141 2 0 6 = true := by decide +kernel
theorem r_141_1 : tb_cR tb_shT 141 2 1 142 = true := by decide +kernel
theorem r_141_2 : tb_cR tb_shT 141 2 2 143 = true := by decide +kernel
theorem r_141_3 : tb_cR tb_shT 141 2 3 144 = true := by decide +kernel
theorem i_141_4 : tb_cI tb_shT 141 2 4 = true := by decide +kernel
theorem i_141_5 : tb_cI tb_shT 141 2 5 = true := by decide +kernel
theorem o_141 : tb_cO tb_shT 141 2 = true := by decide +kernel
theorem a_142 : tb_cA tb_shT 142 8 = true := by decide +kernel
theorem a_143 : tb_cA tb_shT 143 8 = true := by decide +kernel
theorem a_144 : tb_cA tb_shT 144 8 = true := by decide +kernel
theorem r_145_0 : tb_cR tb_shT 145 10 0 6 = true := by decide +kernel
theorem r_145_1 : tb_cR tb_shT 145 10 1 146 = true := by decide +kernel
theorem r_145_2 : tb_cR tb_shT 145 10 2 147 = true := by decide +kernel
theorem r_145_3 : tb_cR tb_shT 145 10 3 148 = true := by decide +kernel
theorem r_145_4 : tb_cR tb_shT 145 10 4 149 = true := by decide +kernel
theorem r_145_5 : tb_cR tb_shT 145 10 5 150 = true := by decide +kernel
theorem r_145_6 : tb_cR tb_shT 145 10 6 151 = true := by decide +kernel
theorem r_145_7 : tb_cR tb_shT 145 10 7 152 = true := by decide +kernel
theorem r_145_8 : tb_cR tb_shT 145 10 8 153 = true := by decide +kernel
theorem r_145_9 : tb_cR tb_shT 145 10 9 154 = true := by decide +kernel
theorem i_145_10 : tb_cI tb_shT 145 10 10 = true := by decide +kernel
theorem i_145_11 : tb_cI tb_shT 145 10 11 = true := by decide +kernel
theorem o_145 : tb_cO tb_shT 145 10 = true := by decide +kernel
theorem a_146 : tb_cA tb_shT 146 800 = true := by decide +kernel
theorem a_147 : tb_cA tb_shT 147 800 = true := by decide +kernel
theorem a_148 : tb_cA tb_shT 148 800 = true := by decide +kernel
theorem a_149 : tb_cA tb_shT 149 800 = true := by decide +kernel
theorem a_150 : tb_cA tb_shT 150 800 = true := by decide +kernel
theorem a_151 : tb_cA tb_shT 151 2401 = true := by decide +kernel
theorem a_152 : tb_cA tb_shT 152 2401 = true := by decide +kernel
theorem a_153 : tb_cA tb_shT 153 800 = true := by decide +kernel
theorem a_154 : tb_cA tb_shT 154 800 = true := by decide +kernel
theorem r_155_0 : tb_cR tb_shT 155 7 0 5 = true := by decide +kernel
theorem r_155_1 : tb_cR tb_shT 155 7 1 6 = true := by decide +kernel
theorem r_155_2 : tb_cR tb_shT 155 7 2 139 = true := by decide +kernel
theorem r_155_3 : tb_cR tb_shT 155 7 3 145 = true := by decide +kernel
theorem r_155_4 : tb_cR tb_shT 155 7 4 156 = true := by decide +kernel
theorem o_155 : tb_cO tb_shT 155 7 = true := by decide +kernel
theorem r_156_0 : tb_cR tb_shT 156 4 0 6 = true := by decide +kernel
theorem r_156_1 : tb_cR tb_shT 156 4 1 157 = true := by decide +kernel
theorem i_156_2 : tb_cI tb_shT 156 4 2 = true := by decide +kernel
theorem i_156_3 : tb_cI tb_shT 156 4 3 = true := by decide +kernel
theorem i_156_4 : tb_cI tb_shT 156 4 4 = true := by decide +kernel
theorem o_156 : tb_cO tb_shT 156 4 = true := by decide +kernel
theorem a_157 : tb_cA tb_shT 157 8 = true := by decide +kernel
theorem r_158_0 : tb_cR tb_shT 158 6 0 5 = true := by decide +kernel
theorem r_158_1 : tb_cR tb_shT 158 6 1 6 = true := by decide +kernel
theorem r_158_2 : tb_cR tb_shT 158 6 2 139 = true := by decide +kernel
theorem r_158_3 : tb_cR tb_shT 158 6 3 141 = true := by decide +kernel
theorem r_158_4 : tb_cR tb_shT 158 6 4 159 = true := by decide +kernel
theorem r_158_5 : tb_cR tb_shT 158 6 5 160 = true := by decide +kernel
theorem r_158_6 : tb_cR tb_shT 158 6 6 161 = true := by decide +kernel
theorem i_158_7 : tb_cI tb_shT 158 6 7 = true := by decide +kernel
theorem i_158_8 : tb_cI tb_shT 158 6 8 = true := by decide +kernel
theorem o_158 : tb_cO tb_shT 158 6 = true := by decide +kernel
theorem a_159 : tb_cA tb_shT 159 612 = true := by decide +kernel
theorem a_160 : tb_cA tb_shT 160 612 = true := by decide +kernel
theorem a_161 : tb_cA tb_shT 161 1836 = true := by decide +kernel
theorem a_162 : tb_cA tb_shT 162 700 = true := by decide +kernel
theorem r_163_0 : tb_cR tb_shT 163 5 0 162 = true := by decide +kernel
theorem r_163_1 : tb_cR tb_shT 163 5 1 5 = true := by decide +kernel
theorem r_163_2 : tb_cR tb_shT 163 5 2 1 = true := by decide +kernel
theorem r_163_3 : tb_cR tb_shT 163 5 3 155 = true := by decide +kernel
theorem i_163_4 : tb_cI tb_shT 163 5 4 = true := by decide +kernel
theorem i_163_5 : tb_cI tb_shT 163 5 5 = true := by decide +kernel
theorem i_163_6 : tb_cI tb_shT 163 5 6 = true := by decide +kernel
theorem i_163_7 : tb_cI tb_shT 163 5 7 = true := by decide +kernel
theorem i_163_8 : tb_cI tb_shT 163 5 8 = true := by decide +kernel
theorem i_163_9 : tb_cI tb_shT 163 5 9 = true := by decide +kernel
theorem i_163_10 : tb_cI tb_shT 163 5 10 = true := by decide +kernel
theorem o_163 : tb_cO tb_shT 163 5 = true := by decide +kernel
theorem r_164_0 : tb_cR tb_shT 164 12 0 165 = true := by decide +kernel
theorem r_164_1 : tb_cR tb_shT 164 12 1 166 = true := by decide +kernel
theorem r_164_2 : tb_cR tb_shT 164 12 2 167 = true := by decide +kernel
theorem r_164_3 : tb_cR tb_shT 164 12 3 168 = true := by decide +kernel
theorem r_164_4 : tb_cR tb_shT 164 12 4 169 = true := by decide +kernel
theorem r_164_5 : tb_cR tb_shT 164 12 5 170 = true := by decide +kernel
theorem r_164_6 : tb_cR tb_shT 164 12 6 171 = true := by decide +kernel
theorem r_164_7 : tb_cR tb_shT 164 12 7 172 = true := by decide +kernel
theorem i_164_8 : tb_cI tb_shT 164 12 8 = true := by decide +kernel
theorem i_164_9 : tb_cI tb_shT 164 12 9 = true := by decide +kernel
theorem i_164_10 : tb_cI tb_shT 164 12 10 = true := by decide +kernel
theorem i_164_11 : tb_cI tb_shT 164 12 11 = true := by decide +kernel
theorem i_164_12 : tb_cI tb_shT 164 12 12 = true := by decide +kernel
theorem i_164_13 : tb_cI tb_shT 164 12 13 = true := by decide +kernel
theorem i_164_14 : tb_cI tb_shT 164 12 14 = true := by decide +kernel
theorem i_164_15 : tb_cI tb_shT 164 12 15 = true := by decide +kernel
theorem i_164_16 : tb_cI tb_shT 164 12 16 = true := by decide +kernel
theorem i_164_17 : tb_cI tb_shT 164 12 17 = true := by decide +kernel
theorem r_164_18 : tb_cR tb_shT 164 12 18 173 = true := by decide +kernel
theorem i_164_19 : tb_cI tb_shT 164 12 19 = true := by decide +kernel
theorem i_164_20 : tb_cI tb_shT 164 12 20 = true := by decide +kernel
theorem i_164_21 : tb_cI tb_shT 164 12 21 = true := by decide +kernel
theorem r_164_22 : tb_cR tb_shT 164 12 22 174 = true := by decide +kernel
theorem r_164_23 : tb_cR tb_shT 164 12 23 175 = true := by decide +kernel
theorem r_164_24 : tb_cR tb_shT 164 12 24 176 = true := by decide +kernel
theorem r_164_25 : tb_cR tb_shT 164 12 25 177 = true := by decide +kernel
theorem r_164_26 : tb_cR tb_shT 164 12 26 178 = true := by decide +kernel
theorem r_164_27 : tb_cR tb_shT 164 12 27 179 = true := by decide +kernel
theorem r_164_28 : tb_cR tb_shT 164 12 28 180 = true := by decide +kernel
theorem i_164_30 : tb_cI tb_shT 164 12 30 = true := by decide +kernel
theorem r_164_31 : tb_cR tb_shT 164 12 31 182 = true := by decide +kernel
theorem i_164_32 : tb_cI tb_shT 164 12 32 = true := by decide +kernel
theorem i_164_33 : tb_cI tb_shT 164 12 33 = true := by decide +kernel
theorem i_164_34 : tb_cI tb_shT 164 12 34 = true := by decide +kernel
theorem i_164_35 : tb_cI tb_shT 164 12 35 = true := by decide +kernel
theorem i_164_36 : tb_cI tb_shT 164 12 36 = true := by decide +kernel
theorem i_164_37 : tb_cI tb_shT 164 12 37 = true := by decide +kernel
theorem i_164_38 : tb_cI tb_shT 164 12 38 = true := by decide +kernel
theorem i_164_39 : tb_cI tb_shT 164 12 39 = true := by decide +kernel
theorem i_164_40 : tb_cI tb_shT 164 12 40 = true := by decide +kernel
theorem i_164_41 : tb_cI tb_shT 164 12 41 = true := by decide +kernel
theorem i_164_42 : tb_cI tb_shT 164 12 42 = true := by decide +kernel
theorem i_164_43 : tb_cI tb_shT 164 12 43 = true := by decide +kernel
theorem i_164_44 : tb_cI tb_shT 164 12 44 = true := by decide +kernel
theorem i_164_45 : tb_cI tb_shT 164 12 45 = true := by decide +kernel
theorem i_164_46 : tb_cI tb_shT 164 12 46 = true := by decide +kernel
theorem o_164 : tb_cO tb_shT 164 12 = true := by decide +kernel
theorem a_165 : tb_cA tb_shT 165 5400 = true := by decide +kernel
theorem a_166 : tb_cA tb_shT 166 1200 = true := by decide +kernel
theorem a_167 : tb_cA tb_shT 167 3600 = true := by decide +kernel
theorem a_168 : tb_cA tb_shT 168 1200 = true := by decide +kernel
theorem a_169 : tb_cA tb_shT 169 20 = true := by decide +kernel
theorem a_170 : tb_cA tb_shT 170 20 = true := by decide +kernel
theorem a_171 : tb_cA tb_shT 171 20 = true := by decide +kernel
theorem a_172 : tb_cA tb_shT 172 8 = true := by decide +kernel
theorem a_173 : tb_cA tb_shT 173 700 = true := by decide +kernel
theorem a_174 : tb_cA tb_shT 174 8 = true := by decide +kernel
theorem a_175 : tb_cA tb_shT 175 8 = true := by decide +kernel
theorem a_176 : tb_cA tb_shT 176 8 = true := by decide +kernel
theorem a_177 : tb_cA tb_shT 177 800 = true := by decide +kernel
theorem a_178 : tb_cA tb_shT 178 800 = true := by decide +kernel
theorem a_179 : tb_cA tb_shT 179 800 = true := by decide +kernel
theorem a_180 : tb_cA tb_shT 180 800 = true := by decide +kernel
theorem a_182 : tb_cA tb_shT 182 16 = true := by decide +kernel
end
section
theorem tb_c1 {as : List Value} (h : as.all (fun v => v.category == 1) = true) : ∀ v ∈ as, v.category = 1 := fun v hv => by simpa using List.all_eq_true.mp h v hv
def tb_Rd (v : Option Value) (n : Nat) (sh : Nat → tb_Sh) (I : tb_I) : tb_Q := fun r n' sh' I' => r = v ∧ n' = n ∧ sh' = sh ∧ I' = I
def tb_fl (I : tb_I) (c i : Nat) (v : Int32) : tb_I := tb_row I c (fun j => if j < i then v else I c j)
theorem tb_fl_0 (I : tb_I) (c : Nat) (v : Int32) : tb_fl I c 0 v = I := by
  funext k
  unfold tb_fl tb_row
  by_cases h : k = c
  · subst h
    simp
  · simp [h]
theorem tb_fl_s (I : tb_I) (c i : Nat) (v : Int32) : tb_up (tb_fl I c i v) c i v = tb_fl I c (i + 1) v := by
  funext k
  unfold tb_up tb_fl tb_row
  by_cases h : k = c
  · subst h
    funext j
    simp only [if_true, upd]
    by_cases hj : j = i
    · subst hj
      simp
    · by_cases h2 : j < i
      · simp [hj, h2, Nat.lt_succ_of_lt h2]
      · have : ¬ j < i + 1 := by omega
        simp [hj, h2, this]
  · simp [h]
theorem tb_cA_len {sh : Nat → tb_Sh} {c len : Nat} (h : tb_cA sh c len = true) : len ≤ 100000 := by
  simp only [tb_cA, Bool.and_eq_true, decide_eq_true_eq] at h
  exact h.2
set_option maxHeartbeats 4000000 in
set_option maxRecDepth 100000 in
/-- Arrays.fill(int[], int) -/
theorem kJ_fill {l : Launch} {G : tb_G} (hl : l.stackTraces = false) (n : Nat) (sh : Nat → tb_Sh) (I : tb_I) (c len : Nat) (v : Int32) (a_c : tb_cA sh c len = true) : tb_Ok l G M_J7_fill_53178 0 0 0 [.ref c, .int v] n sh I (tb_Rd none n sh (tb_fl I c len v)) tb_Nx := by
  refine tb_Ok.of hl (by decide +kernel) rfl (tb_c1 rfl) (Nat.le_of_ble_eq_true rfl) ?_
  show tb_At l G M_J7_fill_53178 (tb_rm 0 0 0) none _ 0 0 n sh I 0 [some (.ref c), some (.int v), none, none] []
  have hlen := tb_cA_len a_c
  have loop : ∀ (m i : Nat), i + m = len → tb_At l G M_J7_fill_53178 (tb_rm 0 0 0) none (tb_ZM G 0 0 (tb_Rd none n sh (tb_fl I c len v)) tb_Nx) 0 0 n sh (tb_fl I c i v) 5 [some (.ref c), some (.int v), some (.int (nI i)), some (.int (nI len))] [] := by
    intro m
    induction m with
    | zero =>
      intro i hi
      have hi : i = len := by omega
      subst hi
      refine tb_iload_n (pc := 5) dJ7_fill_53178_5 rfl rfl ?_
      refine tb_iload_n (pc := 6) dJ7_fill_53178_6 rfl rfl ?_
      refine tb_icmp_geT (pc := 7) (tgt := 20) (nI_le (Nat.le_refl _) (by omega)) dJ7_fill_53178_7 (by decide) ?_
      exact tb_vret (pc := 20) dJ7_fill_53178_20 rfl (Nat.le_of_ble_eq_true rfl) (Nat.le_of_ble_eq_true rfl) ⟨rfl, rfl, rfl, rfl⟩
    | succ m ih =>
      intro i hi
      refine tb_iload_n (pc := 5) dJ7_fill_53178_5 rfl rfl ?_
      refine tb_iload_n (pc := 6) dJ7_fill_53178_6 rfl rfl ?_
      refine tb_icmp_geF (pc := 7) (tgt := 20) (nI_ge (by omega) (by omega)) dJ7_fill_53178_7 (by decide) ?_
      refine tb_aload_n (pc := 10) dJ7_fill_53178_10 rfl rfl ?_
      refine tb_iload_n (pc := 11) dJ7_fill_53178_11 rfl rfl ?_
      refine tb_iload_n (pc := 12) dJ7_fill_53178_12 rfl rfl ?_
      refine tb_aS (pc := 13) (j := i) dJ7_fill_53178_13 a_c rfl (by omega) ?_
      rw [tb_fl_s]
      refine tb_iinc (pc := 14) (v := nI (i + 1)) (L2 := [_, _, _, _]) dJ7_fill_53178_14 rfl (nI_1 i) rfl ?_
      refine tb_goto (pc := 17) (tgt := 5) dJ7_fill_53178_17 (by decide) ?_
      exact ih (i + 1) (by omega)
  refine tb_iconst (pc := 0) (v := 0) dJ7_fill_53178_0 (by decide) ?_
  refine tb_istore_n (pc := 1) (L2 := [_, _, _, _]) dJ7_fill_53178_1 rfl (by decide) rfl ?_
  refine tb_aload_n (pc := 2) dJ7_fill_53178_2 rfl rfl ?_
  refine tb_aN (pc := 3) dJ7_fill_53178_3 a_c ?_
  refine tb_istore_n (pc := 4) (L2 := [_, _, _, _]) dJ7_fill_53178_4 rfl (by decide) rfl ?_
  have h0 := loop len 0 (by omega)
  rw [tb_fl_0] at h0
  exact h0

def tb_anew (I : tb_I) (c : Nat) : tb_I := tb_up (tb_up (tb_up (tb_up (tb_up (tb_up (tb_up (tb_up (tb_up (tb_fl I c 61 0) c 7 (-1)) c 8 (-1)) c 9 (-1)) c 10 (-1)) c 11 (-1)) c 12 (-1)) c 13 (-1)) c 14 (-1)) c 1 4
set_option maxHeartbeats 4000000 in
set_option maxRecDepth 100000 in
theorem k_fillAnew {l : Launch} {G : tb_G} (hl : l.stackTraces = false) (n : Nat) (I : tb_I) (sh : Nat → tb_Sh) (c : Nat) (a_c : tb_cA sh c 61 = true) : tb_Ok l G M_X1_fillAnew 1 0 0 [.ref c] n sh I (tb_Rd none n sh (tb_anew I c)) tb_Nx := by
  refine tb_Ok.of hl (by decide +kernel) rfl (tb_c1 rfl) (Nat.le_of_ble_eq_true rfl) ?_
  show tb_At l G M_X1_fillAnew (tb_rm 1 0 0) none _ 0 0 n sh I 0 [some (.ref c), none] []
  refine tb_aload_n (pc := 0) dX1_fillAnew_0 rfl rfl ?_
  refine tb_iconst (pc := 1) (v := 0) dX1_fillAnew_1 (by decide) ?_
  refine tb_cS (pc := 2) (kJ_fill hl n sh I c 61 0 a_c) sl_X1_19 dX1_fillAnew_2 rfl rfl (Nat.le_of_ble_eq_true rfl) ⟨(Nat.le_of_ble_eq_true rfl), (Nat.le_of_ble_eq_true rfl)⟩ rfl rfl (Nat.le_of_ble_eq_true rfl) (Nat.le_of_ble_eq_true rfl) (fun r9 n9 sh9 I9 hq9 => ?_)
  obtain ⟨rfl, rfl, rfl, rfl⟩ := hq9
  refine tb_iconst (pc := 5) (v := 0) dX1_fillAnew_5 (by decide) ?_
  refine tb_istore_n (pc := 6) (L2 := [_, _]) dX1_fillAnew_6 rfl (by decide) rfl ?_
  refine tb_iload_n (pc := 7) dX1_fillAnew_7 rfl rfl ?_
  refine tb_bipush (pc := 8) (v := 8) dX1_fillAnew_8 (by decide) ?_
  refine tb_icmp_geF (pc := 10) (tgt := 26) (by decide) dX1_fillAnew_10 (by decide) ?_
  refine tb_aload_n (pc := 13) dX1_fillAnew_13 rfl rfl ?_
  refine tb_bipush (pc := 14) (v := 7) dX1_fillAnew_14 (by decide) ?_
  refine tb_iload_n (pc := 16) dX1_fillAnew_16 rfl rfl ?_
  refine tb_iaddv (pc := 17) (v := 7) dX1_fillAnew_17 (by decide) ?_
  refine tb_iconst (pc := 18) (v := (-1)) dX1_fillAnew_18 (by decide) ?_
  refine tb_aS (pc := 19) (j := 7) dX1_fillAnew_19 a_c (by decide) (by decide) ?_
  refine tb_iinc (pc := 20) (v := 1) (L2 := [_, _]) dX1_fillAnew_20 rfl (by decide) rfl ?_
  refine tb_goto (pc := 23) (tgt := 7) dX1_fillAnew_23 (by decide) ?_
  refine tb_iload_n (pc := 7) dX1_fillAnew_7 rfl rfl ?_
  refine tb_bipush (pc := 8) (v := 8) dX1_fillAnew_8 (by decide) ?_
  refine tb_icmp_geF (pc := 10) (tgt := 26) (by decide) dX1_fillAnew_10 (by decide) ?_
  refine tb_aload_n (pc := 13) dX1_fillAnew_13 rfl rfl ?_
  refine tb_bipush (pc := 14) (v := 7) dX1_fillAnew_14 (by decide) ?_
  refine tb_iload_n (pc := 16) dX1_fillAnew_16 rfl rfl ?_
  refine tb_iaddv (pc := 17) (v := 8) dX1_fillAnew_17 (by decide) ?_
  refine tb_iconst (pc := 18) (v := (-1)) dX1_fillAnew_18 (by decide) ?_
  refine tb_aS (pc := 19) (j := 8) dX1_fillAnew_19 a_c (by decide) (by decide) ?_
  refine tb_iinc (pc := 20) (v := 2) (L2 := [_, _]) dX1_fillAnew_20 rfl (by decide) rfl ?_
  refine tb_goto (pc := 23) (tgt := 7) dX1_fillAnew_23 (by decide) ?_
  refine tb_iload_n (pc := 7) dX1_fillAnew_7 rfl rfl ?_
  refine tb_bipush (pc := 8) (v := 8) dX1_fillAnew_8 (by decide) ?_
  refine tb_icmp_geF (pc := 10) (tgt := 26) (by decide) dX1_fillAnew_10 (by decide) ?_
  refine tb_aload_n (pc := 13) dX1_fillAnew_13 rfl rfl ?_
  refine tb_bipush (pc := 14) (v := 7) dX1_fillAnew_14 (by decide) ?_
  refine tb_iload_n (pc := 16) dX1_fillAnew_16 rfl rfl ?_
  refine tb_iaddv (pc := 17) (v := 9) dX1_fillAnew_17 (by decide) ?_
  refine tb_iconst (pc := 18) (v := (-1)) dX1_fillAnew_18 (by decide) ?_
  refine tb_aS (pc := 19) (j := 9) dX1_fillAnew_19 a_c (by decide) (by decide) ?_
  refine tb_iinc (pc := 20) (v := 3) (L2 := [_, _]) dX1_fillAnew_20 rfl (by decide) rfl ?_
  refine tb_goto (pc := 23) (tgt := 7) dX1_fillAnew_23 (by decide) ?_
  refine tb_iload_n (pc := 7) dX1_fillAnew_7 rfl rfl ?_
  refine tb_bipush (pc := 8) (v := 8) dX1_fillAnew_8 (by decide) ?_
  refine tb_icmp_geF (pc := 10) (tgt := 26) (by decide) dX1_fillAnew_10 (by decide) ?_
  refine tb_aload_n (pc := 13) dX1_fillAnew_13 rfl rfl ?_
  refine tb_bipush (pc := 14) (v := 7) dX1_fillAnew_14 (by decide) ?_
  refine tb_iload_n (pc := 16) dX1_fillAnew_16 rfl rfl ?_
  refine tb_iaddv (pc := 17) (v := 10) dX1_fillAnew_17 (by decide) ?_
  refine tb_iconst (pc := 18) (v := (-1)) dX1_fillAnew_18 (by decide) ?_
  refine tb_aS (pc := 19) (j := 10) dX1_fillAnew_19 a_c (by decide) (by decide) ?_
  refine tb_iinc (pc := 20) (v := 4) (L2 := [_, _]) dX1_fillAnew_20 rfl (by decide) rfl ?_
  refine tb_goto (pc := 23) (tgt := 7) dX1_fillAnew_23 (by decide) ?_
  refine tb_iload_n (pc := 7) dX1_fillAnew_7 rfl rfl ?_
  refine tb_bipush (pc := 8) (v := 8) dX1_fillAnew_8 (by decide) ?_
  refine tb_icmp_geF (pc := 10) (tgt := 26) (by decide) dX1_fillAnew_10 (by decide) ?_
  refine tb_aload_n (pc := 13) dX1_fillAnew_13 rfl rfl ?_
  refine tb_bipush (pc := 14) (v := 7) dX1_fillAnew_14 (by decide) ?_
  refine tb_iload_n (pc := 16) dX1_fillAnew_16 rfl rfl ?_
  refine tb_iaddv (pc := 17) (v := 11) dX1_fillAnew_17 (by decide) ?_
  refine tb_iconst (pc := 18) (v := (-1)) dX1_fillAnew_18 (by decide) ?_
  refine tb_aS (pc := 19) (j := 11) dX1_fillAnew_19 a_c (by decide) (by decide) ?_
  refine tb_iinc (pc := 20) (v := 5) (L2 := [_, _]) dX1_fillAnew_20 rfl (by decide) rfl ?_
  refine tb_goto (pc := 23) (tgt := 7) dX1_fillAnew_23 (by decide) ?_
  refine tb_iload_n (pc := 7) dX1_fillAnew_7 rfl rfl ?_
  refine tb_bipush (pc := 8) (v := 8) dX1_fillAnew_8 (by decide) ?_
  refine tb_icmp_geF (pc := 10) (tgt := 26) (by decide) dX1_fillAnew_10 (by decide) ?_
  refine tb_aload_n (pc := 13) dX1_fillAnew_13 rfl rfl ?_
  refine tb_bipush (pc := 14) (v := 7) dX1_fillAnew_14 (by decide) ?_
  refine tb_iload_n (pc := 16) dX1_fillAnew_16 rfl rfl ?_
  refine tb_iaddv (pc := 17) (v := 12) dX1_fillAnew_17 (by decide) ?_
  refine tb_iconst (pc := 18) (v := (-1)) dX1_fillAnew_18 (by decide) ?_
  refine tb_aS (pc := 19) (j := 12) dX1_fillAnew_19 a_c (by decide) (by decide) ?_
  refine tb_iinc (pc := 20) (v := 6) (L2 := [_, _]) dX1_fillAnew_20 rfl (by decide) rfl ?_
  refine tb_goto (pc := 23) (tgt := 7) dX1_fillAnew_23 (by decide) ?_
  refine tb_iload_n (pc := 7) dX1_fillAnew_7 rfl rfl ?_
  refine tb_bipush (pc := 8) (v := 8) dX1_fillAnew_8 (by decide) ?_
  refine tb_icmp_geF (pc := 10) (tgt := 26) (by decide) dX1_fillAnew_10 (by decide) ?_
  refine tb_aload_n (pc := 13) dX1_fillAnew_13 rfl rfl ?_
  refine tb_bipush (pc := 14) (v := 7) dX1_fillAnew_14 (by decide) ?_
  refine tb_iload_n (pc := 16) dX1_fillAnew_16 rfl rfl ?_
  refine tb_iaddv (pc := 17) (v := 13) dX1_fillAnew_17 (by decide) ?_
  refine tb_iconst (pc := 18) (v := (-1)) dX1_fillAnew_18 (by decide) ?_
  refine tb_aS (pc := 19) (j := 13) dX1_fillAnew_19 a_c (by decide) (by decide) ?_
  refine tb_iinc (pc := 20) (v := 7) (L2 := [_, _]) dX1_fillAnew_20 rfl (by decide) rfl ?_
  refine tb_goto (pc := 23) (tgt := 7) dX1_fillAnew_23 (by decide) ?_
  refine tb_iload_n (pc := 7) dX1_fillAnew_7 rfl rfl ?_
  refine tb_bipush (pc := 8) (v := 8) dX1_fillAnew_8 (by decide) ?_
  refine tb_icmp_geF (pc := 10) (tgt := 26) (by decide) dX1_fillAnew_10 (by decide) ?_
  refine tb_aload_n (pc := 13) dX1_fillAnew_13 rfl rfl ?_
  refine tb_bipush (pc := 14) (v := 7) dX1_fillAnew_14 (by decide) ?_
  refine tb_iload_n (pc := 16) dX1_fillAnew_16 rfl rfl ?_
  refine tb_iaddv (pc := 17) (v := 14) dX1_fillAnew_17 (by decide) ?_
  refine tb_iconst (pc := 18) (v := (-1)) dX1_fillAnew_18 (by decide) ?_
  refine tb_aS (pc := 19) (j := 14) dX1_fillAnew_19 a_c (by decide) (by decide) ?_
  refine tb_iinc (pc := 20) (v := 8) (L2 := [_, _]) dX1_fillAnew_20 rfl (by decide) rfl ?_
  refine tb_goto (pc := 23) (tgt := 7) dX1_fillAnew_23 (by decide) ?_
  refine tb_iload_n (pc := 7) dX1_fillAnew_7 rfl rfl ?_
  refine tb_bipush (pc := 8) (v := 8) dX1_fillAnew_8 (by decide) ?_
  refine tb_icmp_geT (pc := 10) (tgt := 26) (by decide) dX1_fillAnew_10 (by decide) ?_
  refine tb_aload_n (pc := 26) dX1_fillAnew_26 rfl rfl ?_
  refine tb_iconst (pc := 27) (v := 1) dX1_fillAnew_27 (by decide) ?_
  refine tb_iconst (pc := 28) (v := 4) dX1_fillAnew_28 (by decide) ?_
  refine tb_aS (pc := 29) (j := 1) dX1_fillAnew_29 a_c (by decide) (by decide) ?_
  exact tb_vret (pc := 30) dX1_fillAnew_30 rfl (Nat.le_of_ble_eq_true rfl) (Nat.le_of_ble_eq_true rfl) ⟨rfl, rfl, rfl, rfl⟩

def s_kc_sym1 (sh : Nat → tb_Sh) : Nat → tb_Sh := tb_sup (tb_sup (tb_sup (tb_sup (tb_sup (tb_sup (sh) 2 (100, 10, [])) 1 (8, 4, [some 2, none, none, none])) 3 (100, 10, [])) 1 (8, 4, [some 2, some 3, none, none])) 4 (100, 10, [])) 1 (8, 4, [some 2, some 3, some 4, none])
def i_kc_sym1 (I : tb_I) : tb_I := tb_up (tb_row (tb_row (tb_row (I) 2 (fun _ => 0)) 3 (fun _ => 0)) 4 (fun _ => 0)) 1 3 0
set_option maxHeartbeats 4000000 in
set_option maxRecDepth 100000 in
theorem kc_sym1 {l : Launch} {G : tb_G} (hl : l.stackTraces = false) (sh : Nat → tb_Sh) (I : tb_I) (h1 : sh 1 = (8, 4, [none, none, none, none])) : tb_Ok l G M_X8_init 1 3 30 [.ref 1] 2 sh I (tb_Rd none 5 (s_kc_sym1 sh) (i_kc_sym1 I)) tb_Nx := by
  refine tb_Ok.of hl (by decide +kernel) rfl (tb_c1 rfl) (Nat.le_of_ble_eq_true rfl) ?_
  show tb_At l G M_X8_init (tb_rm 1 3 30) none _ 0 0 2 sh I 0 [some (.ref 1)] []
  refine tb_aload_n (pc := 0) dX8_init_0 rfl rfl ?_
  refine tb_objInit (pc := 1) dX8_init_1 ml_X8_3 wk_obj2 wk_obj3 (Nat.le_of_ble_eq_true rfl) (Nat.le_of_ble_eq_true rfl) ?_
  refine tb_aload_n (pc := 4) dX8_init_4 rfl rfl ?_
  refine tb_bipush (pc := 5) (v := 10) dX8_init_5 (by decide) ?_
  refine tb_newa (pc := 7) (len := 10) (m1 := 1) (m2 := 10) (n' := 3) dX8_init_7 wk_arr_int (Nat.le_of_ble_eq_true rfl) (by decide) (by decide) rfl rfl rfl (Nat.le_of_ble_eq_true rfl) (Nat.le_of_ble_eq_true rfl) ?_
  refine tb_putR (pc := 9) (rs := [none, none, none, none]) (rs2 := [some 2, none, none, none]) dX8_init_9 rfl ff_X8_9 h1 (by decide) (by decide) (by decide) (by decide) rfl rfl ?_
  refine tb_aload_n (pc := 12) dX8_init_12 rfl rfl ?_
  refine tb_bipush (pc := 13) (v := 10) dX8_init_13 (by decide) ?_
  refine tb_newa (pc := 15) (len := 10) (m1 := 2) (m2 := 20) (n' := 4) dX8_init_15 wk_arr_int (Nat.le_of_ble_eq_true rfl) (by decide) (by decide) rfl rfl rfl (Nat.le_of_ble_eq_true rfl) (Nat.le_of_ble_eq_true rfl) ?_
  refine tb_putR (pc := 17) (rs := [some 2, none, none, none]) (rs2 := [some 2, some 3, none, none]) dX8_init_17 rfl ff_X8_15 rfl (by decide) (by decide) (by decide) (by decide) rfl rfl ?_
  refine tb_aload_n (pc := 20) dX8_init_20 rfl rfl ?_
  refine tb_bipush (pc := 21) (v := 10) dX8_init_21 (by decide) ?_
  refine tb_newa (pc := 23) (len := 10) (m1 := 3) (m2 := 30) (n' := 5) dX8_init_23 wk_arr_int (Nat.le_of_ble_eq_true rfl) (by decide) (by decide) rfl rfl rfl (Nat.le_of_ble_eq_true rfl) (Nat.le_of_ble_eq_true rfl) ?_
  refine tb_putR (pc := 25) (rs := [some 2, some 3, none, none]) (rs2 := [some 2, some 3, some 4, none]) dX8_init_25 rfl ff_X8_18 rfl (by decide) (by decide) (by decide) (by decide) rfl rfl ?_
  refine tb_aload_n (pc := 28) dX8_init_28 rfl rfl ?_
  refine tb_iconst (pc := 29) (v := 0) dX8_init_29 (by decide) ?_
  refine tb_putI (pc := 30) dX8_init_30 fl_X8_21 rfl (by decide) (by decide) rfl ?_
  exact tb_vret (pc := 33) dX8_init_33 rfl (Nat.le_of_ble_eq_true rfl) (Nat.le_of_ble_eq_true rfl) ⟨rfl, rfl, rfl, rfl⟩
def s_kc_sym121 (sh : Nat → tb_Sh) : Nat → tb_Sh := tb_sup (tb_sup (tb_sup (tb_sup (tb_sup (tb_sup (sh) 122 (100, 10, [])) 121 (8, 4, [some 122, none, none, none])) 123 (100, 10, [])) 121 (8, 4, [some 122, some 123, none, none])) 124 (100, 10, [])) 121 (8, 4, [some 122, some 123, some 124, none])
def i_kc_sym121 (I : tb_I) : tb_I := tb_up (tb_row (tb_row (tb_row (I) 122 (fun _ => 0)) 123 (fun _ => 0)) 124 (fun _ => 0)) 121 3 0
set_option maxHeartbeats 4000000 in
set_option maxRecDepth 100000 in
theorem kc_sym121 {l : Launch} {G : tb_G} (hl : l.stackTraces = false) (sh : Nat → tb_Sh) (I : tb_I) (h121 : sh 121 = (8, 4, [none, none, none, none])) : tb_Ok l G M_X8_init 1 3 30 [.ref 121] 122 sh I (tb_Rd none 125 (s_kc_sym121 sh) (i_kc_sym121 I)) tb_Nx := by
  refine tb_Ok.of hl (by decide +kernel) rfl (tb_c1 rfl) (Nat.le_of_ble_eq_true rfl) ?_
  show tb_At l G M_X8_init (tb_rm 1 3 30) none _ 0 0 122 sh I 0 [some (.ref 121)] []
  refine tb_aload_n (pc := 0) dX8_init_0 rfl rfl ?_
  refine tb_objInit (pc := 1) dX8_init_1 ml_X8_3 wk_obj2 wk_obj3 (Nat.le_of_ble_eq_true rfl) (Nat.le_of_ble_eq_true rfl) ?_
  refine tb_aload_n (pc := 4) dX8_init_4 rfl rfl ?_
  refine tb_bipush (pc := 5) (v := 10) dX8_init_5 (by decide) ?_
  refine tb_newa (pc := 7) (len := 10) (m1 := 1) (m2 := 10) (n' := 123) dX8_init_7 wk_arr_int (Nat.le_of_ble_eq_true rfl) (by decide) (by decide) rfl rfl rfl (Nat.le_of_ble_eq_true rfl) (Nat.le_of_ble_eq_true rfl) ?_
  refine tb_putR (pc := 9) (rs := [none, none, none, none]) (rs2 := [some 122, none, none, none]) dX8_init_9 rfl ff_X8_9 h121 (by decide) (by decide) (by decide) (by decide) rfl rfl ?_
  refine tb_aload_n (pc := 12) dX8_init_12 rfl rfl ?_
  refine tb_bipush (pc := 13) (v := 10) dX8_init_13 (by decide) ?_
  refine tb_newa (pc := 15) (len := 10) (m1 := 2) (m2 := 20) (n' := 124) dX8_init_15 wk_arr_int (Nat.le_of_ble_eq_true rfl) (by decide) (by decide) rfl rfl rfl (Nat.le_of_ble_eq_true rfl) (Nat.le_of_ble_eq_true rfl) ?_
  refine tb_putR (pc := 17) (rs := [some 122, none, none, none]) (rs2 := [some 122, some 123, none, none]) dX8_init_17 rfl ff_X8_15 rfl (by decide) (by decide) (by decide) (by decide) rfl rfl ?_
  refine tb_aload_n (pc := 20) dX8_init_20 rfl rfl ?_
  refine tb_bipush (pc := 21) (v := 10) dX8_init_21 (by decide) ?_
  refine tb_newa (pc := 23) (len := 10) (m1 := 3) (m2 := 30) (n' := 125) dX8_init_23 wk_arr_int (Nat.le_of_ble_eq_true rfl) (by decide) (by decide) rfl rfl rfl (Nat.le_of_ble_eq_true rfl) (Nat.le_of_ble_eq_true rfl) ?_
  refine tb_putR (pc := 25) (rs := [some 122, some 123, none, none]) (rs2 := [some 122, some 123, some 124, none]) dX8_init_25 rfl ff_X8_18 rfl (by decide) (by decide) (by decide) (by decide) rfl rfl ?_
  refine tb_aload_n (pc := 28) dX8_init_28 rfl rfl ?_
  refine tb_iconst (pc := 29) (v := 0) dX8_init_29 (by decide) ?_
  refine tb_putI (pc := 30) dX8_init_30 fl_X8_21 rfl (by decide) (by decide) rfl ?_
  exact tb_vret (pc := 33) dX8_init_33 rfl (Nat.le_of_ble_eq_true rfl) (Nat.le_of_ble_eq_true rfl) ⟨rfl, rfl, rfl, rfl⟩
def s_kc_ter6 (sh : Nat → tb_Sh) : Nat → tb_Sh := tb_sup (tb_sup (tb_sup (tb_sup (tb_sup (tb_sup (tb_sup (tb_sup (tb_sup (tb_sup (tb_sup (tb_sup (tb_sup (tb_sup (tb_sup (tb_sup (tb_sup (tb_sup (tb_sup (tb_sup (tb_sup (tb_sup (tb_sup (sh) 7 (100, 401, [])) 6 (9, 13, [none, some 7, none, none, none, none, none, none, none, none, none, none, none])) 8 (100, 401, [])) 6 (9, 13, [none, some 7, some 8, none, none, none, none, none, none, none, none, none, none])) 9 (100, 1203, [])) 6 (9, 13, [none, some 7, some 8, some 9, none, none, none, none, none, none, none, none, none])) 10 (100, 401, [])) 6 (9, 13, [none, some 7, some 8, some 9, some 10, none, none, none, none, none, none, none, none])) 11 (100, 401, [])) 6 (9, 13, [none, some 7, some 8, some 9, some 10, some 11, none, none, none, none, none, none, none])) 12 (100, 401, [])) 6 (9, 13, [none, some 7, some 8, some 9, some 10, some 11, some 12, none, none, none, none, none, none])) 13 (100, 401, [])) 6 (9, 13, [none, some 7, some 8, some 9, some 10, some 11, some 12, some 13, none, none, none, none, none])) 14 (100, 401, [])) 6 (9, 13, [none, some 7, some 8, some 9, some 10, some 11, some 12, some 13, some 14, none, none, none, none])) 15 (100, 401, [])) 6 (9, 13, [none, some 7, some 8, some 9, some 10, some 11, some 12, some 13, some 14, some 15, none, none, none])) 16 (100, 256, [])) 6 (9, 13, [none, some 7, some 8, some 9, some 10, some 11, some 12, some 13, some 14, some 15, some 16, none, none])) 17 (100, 401, [])) 6 (9, 13, [none, some 7, some 8, some 9, some 10, some 11, some 12, some 13, some 14, some 15, some 16, some 17, none])) 6 (9, 13, [some 1, some 7, some 8, some 9, some 10, some 11, some 12, some 13, some 14, some 15, some 16, some 17, none])
def i_kc_ter6 (I : tb_I) : tb_I := tb_fl (tb_up (tb_row (tb_row (tb_row (tb_row (tb_row (tb_row (tb_row (tb_row (tb_row (tb_row (tb_row (I) 7 (fun _ => 0)) 8 (fun _ => 0)) 9 (fun _ => 0)) 10 (fun _ => 0)) 11 (fun _ => 0)) 12 (fun _ => 0)) 13 (fun _ => 0)) 14 (fun _ => 0)) 15 (fun _ => 0)) 16 (fun _ => 0)) 17 (fun _ => 0)) 6 12 0) 16 256 (-1)
set_option maxHeartbeats 4000000 in
set_option maxRecDepth 100000 in
theorem kc_ter6 {l : Launch} {G : tb_G} (hl : l.stackTraces = false) (sh : Nat → tb_Sh) (I : tb_I) (h6 : sh 6 = (9, 13, [none, none, none, none, none, none, none, none, none, none, none, none, none])) : tb_Ok l G M_X9_init 1 11 5068 [.ref 6, .ref 1] 7 sh I (tb_Rd none 18 (s_kc_ter6 sh) (i_kc_ter6 I)) tb_Nx := by
  refine tb_Ok.of hl (by decide +kernel) rfl (tb_c1 rfl) (Nat.le_of_ble_eq_true rfl) ?_
  show tb_At l G M_X9_init (tb_rm 1 11 5068) none _ 0 0 7 sh I 0 [some (.ref 6), some (.ref 1)] []
  refine tb_aload_n (pc := 0) dX9_init_0 rfl rfl ?_
  refine tb_objInit (pc := 1) dX9_init_1 ml_X9_3 wk_obj2 wk_obj3 (Nat.le_of_ble_eq_true rfl) (Nat.le_of_ble_eq_true rfl) ?_
  refine tb_aload_n (pc := 4) dX9_init_4 rfl rfl ?_
  refine tb_sipush (pc := 5) (v := 401) dX9_init_5 (by decide) ?_
  refine tb_newa (pc := 8) (len := 401) (m1 := 1) (m2 := 401) (n' := 8) dX9_init_8 wk_arr_int (Nat.le_of_ble_eq_true rfl) (by decide) (by decide) rfl rfl rfl (Nat.le_of_ble_eq_true rfl) (Nat.le_of_ble_eq_true rfl) ?_
  refine tb_putR (pc := 10) (rs := [none, none, none, none, none, none, none, none, none, none, none, none, none]) (rs2 := [none, some 7, none, none, none, none, none, none, none, none, none, none, none]) dX9_init_10 rfl ff_X9_11 h6 (by decide) (by decide) (by decide) (by decide) rfl rfl ?_
  refine tb_aload_n (pc := 13) dX9_init_13 rfl rfl ?_
  refine tb_sipush (pc := 14) (v := 401) dX9_init_14 (by decide) ?_
  refine tb_newa (pc := 17) (len := 401) (m1 := 2) (m2 := 802) (n' := 9) dX9_init_17 wk_arr_int (Nat.le_of_ble_eq_true rfl) (by decide) (by decide) rfl rfl rfl (Nat.le_of_ble_eq_true rfl) (Nat.le_of_ble_eq_true rfl) ?_
  refine tb_putR (pc := 19) (rs := [none, some 7, none, none, none, none, none, none, none, none, none, none, none]) (rs2 := [none, some 7, some 8, none, none, none, none, none, none, none, none, none, none]) dX9_init_19 rfl ff_X9_15 rfl (by decide) (by decide) (by decide) (by decide) rfl rfl ?_
  refine tb_aload_n (pc := 22) dX9_init_22 rfl rfl ?_
  refine tb_sipush (pc := 23) (v := 1203) dX9_init_23 (by decide) ?_
  refine tb_newa (pc := 26) (len := 1203) (m1 := 3) (m2 := 2005) (n' := 10) dX9_init_26 wk_arr_int (Nat.le_of_ble_eq_true rfl) (by decide) (by decide) rfl rfl rfl (Nat.le_of_ble_eq_true rfl) (Nat.le_of_ble_eq_true rfl) ?_
  refine tb_putR (pc := 28) (rs := [none, some 7, some 8, none, none, none, none, none, none, none, none, none, none]) (rs2 := [none, some 7, some 8, some 9, none, none, none, none, none, none, none, none, none]) dX9_init_28 rfl ff_X9_18 rfl (by decide) (by decide) (by decide) (by decide) rfl rfl ?_
  refine tb_aload_n (pc := 31) dX9_init_31 rfl rfl ?_
  refine tb_sipush (pc := 32) (v := 401) dX9_init_32 (by decide) ?_
  refine tb_newa (pc := 35) (len := 401) (m1 := 4) (m2 := 2406) (n' := 11) dX9_init_35 wk_arr_int (Nat.le_of_ble_eq_true rfl) (by decide) (by decide) rfl rfl rfl (Nat.le_of_ble_eq_true rfl) (Nat.le_of_ble_eq_true rfl) ?_
  refine tb_putR (pc := 37) (rs := [none, some 7, some 8, some 9, none, none, none, none, none, none, none, none, none]) (rs2 := [none, some 7, some 8, some 9, some 10, none, none, none, none, none, none, none, none]) dX9_init_37 rfl ff_X9_21 rfl (by decide) (by decide) (by decide) (by decide) rfl rfl ?_
  refine tb_aload_n (pc := 40) dX9_init_40 rfl rfl ?_
  refine tb_sipush (pc := 41) (v := 401) dX9_init_41 (by decide) ?_
  refine tb_newa (pc := 44) (len := 401) (m1 := 5) (m2 := 2807) (n' := 12) dX9_init_44 wk_arr_int (Nat.le_of_ble_eq_true rfl) (by decide) (by decide) rfl rfl rfl (Nat.le_of_ble_eq_true rfl) (Nat.le_of_ble_eq_true rfl) ?_
  refine tb_putR (pc := 46) (rs := [none, some 7, some 8, some 9, some 10, none, none, none, none, none, none, none, none]) (rs2 := [none, some 7, some 8, some 9, some 10, some 11, none, none, none, none, none, none, none]) dX9_init_46 rfl ff_X9_24 rfl (by decide) (by decide) (by decide) (by decide) rfl rfl ?_
  refine tb_aload_n (pc := 49) dX9_init_49 rfl rfl ?_
  refine tb_sipush (pc := 50) (v := 401) dX9_init_50 (by decide) ?_
  refine tb_newa (pc := 53) (len := 401) (m1 := 6) (m2 := 3208) (n' := 13) dX9_init_53 wk_arr_int (Nat.le_of_ble_eq_true rfl) (by decide) (by decide) rfl rfl rfl (Nat.le_of_ble_eq_true rfl) (Nat.le_of_ble_eq_true rfl) ?_
  refine tb_putR (pc := 55) (rs := [none, some 7, some 8, some 9, some 10, some 11, none, none, none, none, none, none, none]) (rs2 := [none, some 7, some 8, some 9, some 10, some 11, some 12, none, none, none, none, none, none]) dX9_init_55 rfl ff_X9_27 rfl (by decide) (by decide) (by decide) (by decide) rfl rfl ?_
  refine tb_aload_n (pc := 58) dX9_init_58 rfl rfl ?_
  refine tb_sipush (pc := 59) (v := 401) dX9_init_59 (by decide) ?_
  refine tb_newa (pc := 62) (len := 401) (m1 := 7) (m2 := 3609) (n' := 14) dX9_init_62 wk_arr_int (Nat.le_of_ble_eq_true rfl) (by decide) (by decide) rfl rfl rfl (Nat.le_of_ble_eq_true rfl) (Nat.le_of_ble_eq_true rfl) ?_
  refine tb_putR (pc := 64) (rs := [none, some 7, some 8, some 9, some 10, some 11, some 12, none, none, none, none, none, none]) (rs2 := [none, some 7, some 8, some 9, some 10, some 11, some 12, some 13, none, none, none, none, none]) dX9_init_64 rfl ff_X9_30 rfl (by decide) (by decide) (by decide) (by decide) rfl rfl ?_
  refine tb_aload_n (pc := 67) dX9_init_67 rfl rfl ?_
  refine tb_sipush (pc := 68) (v := 401) dX9_init_68 (by decide) ?_
  refine tb_newa (pc := 71) (len := 401) (m1 := 8) (m2 := 4010) (n' := 15) dX9_init_71 wk_arr_int (Nat.le_of_ble_eq_true rfl) (by decide) (by decide) rfl rfl rfl (Nat.le_of_ble_eq_true rfl) (Nat.le_of_ble_eq_true rfl) ?_
  refine tb_putR (pc := 73) (rs := [none, some 7, some 8, some 9, some 10, some 11, some 12, some 13, none, none, none, none, none]) (rs2 := [none, some 7, some 8, some 9, some 10, some 11, some 12, some 13, some 14, none, none, none, none]) dX9_init_73 rfl ff_X9_33 rfl (by decide) (by decide) (by decide) (by decide) rfl rfl ?_
  refine tb_aload_n (pc := 76) dX9_init_76 rfl rfl ?_
  refine tb_sipush (pc := 77) (v := 401) dX9_init_77 (by decide) ?_
  refine tb_newa (pc := 80) (len := 401) (m1 := 9) (m2 := 4411) (n' := 16) dX9_init_80 wk_arr_int (Nat.le_of_ble_eq_true rfl) (by decide) (by decide) rfl rfl rfl (Nat.le_of_ble_eq_true rfl) (Nat.le_of_ble_eq_true rfl) ?_
  refine tb_putR (pc := 82) (rs := [none, some 7, some 8, some 9, some 10, some 11, some 12, some 13, some 14, none, none, none, none]) (rs2 := [none, some 7, some 8, some 9, some 10, some 11, some 12, some 13, some 14, some 15, none, none, none]) dX9_init_82 rfl ff_X9_36 rfl (by decide) (by decide) (by decide) (by decide) rfl rfl ?_
  refine tb_aload_n (pc := 85) dX9_init_85 rfl rfl ?_
  refine tb_sipush (pc := 86) (v := 256) dX9_init_86 (by decide) ?_
  refine tb_newa (pc := 89) (len := 256) (m1 := 10) (m2 := 4667) (n' := 17) dX9_init_89 wk_arr_int (Nat.le_of_ble_eq_true rfl) (by decide) (by decide) rfl rfl rfl (Nat.le_of_ble_eq_true rfl) (Nat.le_of_ble_eq_true rfl) ?_
  refine tb_putR (pc := 91) (rs := [none, some 7, some 8, some 9, some 10, some 11, some 12, some 13, some 14, some 15, none, none, none]) (rs2 := [none, some 7, some 8, some 9, some 10, some 11, some 12, some 13, some 14, some 15, some 16, none, none]) dX9_init_91 rfl ff_X9_39 rfl (by decide) (by decide) (by decide) (by decide) rfl rfl ?_
  refine tb_aload_n (pc := 94) dX9_init_94 rfl rfl ?_
  refine tb_sipush (pc := 95) (v := 401) dX9_init_95 (by decide) ?_
  refine tb_newa (pc := 98) (len := 401) (m1 := 11) (m2 := 5068) (n' := 18) dX9_init_98 wk_arr_int (Nat.le_of_ble_eq_true rfl) (by decide) (by decide) rfl rfl rfl (Nat.le_of_ble_eq_true rfl) (Nat.le_of_ble_eq_true rfl) ?_
  refine tb_putR (pc := 100) (rs := [none, some 7, some 8, some 9, some 10, some 11, some 12, some 13, some 14, some 15, some 16, none, none]) (rs2 := [none, some 7, some 8, some 9, some 10, some 11, some 12, some 13, some 14, some 15, some 16, some 17, none]) dX9_init_100 rfl ff_X9_42 rfl (by decide) (by decide) (by decide) (by decide) rfl rfl ?_
  refine tb_aload_n (pc := 103) dX9_init_103 rfl rfl ?_
  refine tb_iconst (pc := 104) (v := 0) dX9_init_104 (by decide) ?_
  refine tb_putI (pc := 105) dX9_init_105 fl_X9_45 rfl (by decide) (by decide) rfl ?_
  refine tb_aload_n (pc := 108) dX9_init_108 rfl rfl ?_
  refine tb_aload_n (pc := 109) dX9_init_109 rfl rfl ?_
  refine tb_putR (pc := 110) (rs := [none, some 7, some 8, some 9, some 10, some 11, some 12, some 13, some 14, some 15, some 16, some 17, none]) (rs2 := [some 1, some 7, some 8, some 9, some 10, some 11, some 12, some 13, some 14, some 15, some 16, some 17, none]) dX9_init_110 rfl ff_X9_49 rfl (by decide) (by decide) (by decide) (by decide) rfl rfl ?_
  refine tb_aload_n (pc := 113) dX9_init_113 rfl rfl ?_
  refine tb_getR (pc := 114) (rs := [some 1, some 7, some 8, some 9, some 10, some 11, some 12, some 13, some 14, some 15, some 16, some 17, none]) dX9_init_114 fl_X9_39 rfl (by decide) (by decide) rfl rfl ?_
  refine tb_iconst (pc := 117) (v := (-1)) dX9_init_117 (by decide) ?_
  refine tb_cS (pc := 118) (kJ_fill hl _ _ _ 16 256 (-1) (by rfl)) sl_X9_53 dX9_init_118 rfl rfl (Nat.le_of_ble_eq_true rfl) ⟨(Nat.le_of_ble_eq_true rfl), (Nat.le_of_ble_eq_true rfl)⟩ rfl rfl (Nat.le_of_ble_eq_true rfl) (Nat.le_of_ble_eq_true rfl) (fun r9 n9 sh9 I9 hq9 => ?_)
  obtain ⟨rfl, rfl, rfl, rfl⟩ := hq9
  exact tb_vret (pc := 121) dX9_init_121 rfl (Nat.le_of_ble_eq_true rfl) (Nat.le_of_ble_eq_true rfl) ⟨rfl, rfl, rfl, rfl⟩
def s_kc_ter64 (sh : Nat → tb_Sh) : Nat → tb_Sh := tb_sup (tb_sup (tb_sup (tb_sup (tb_sup (tb_sup (tb_sup (tb_sup (tb_sup (tb_sup (tb_sup (tb_sup (tb_sup (tb_sup (tb_sup (tb_sup (tb_sup (tb_sup (tb_sup (tb_sup (tb_sup (tb_sup (tb_sup (sh) 65 (100, 401, [])) 64 (9, 13, [none, some 65, none, none, none, none, none, none, none, none, none, none, none])) 66 (100, 401, [])) 64 (9, 13, [none, some 65, some 66, none, none, none, none, none, none, none, none, none, none])) 67 (100, 1203, [])) 64 (9, 13, [none, some 65, some 66, some 67, none, none, none, none, none, none, none, none, none])) 68 (100, 401, [])) 64 (9, 13, [none, some 65, some 66, some 67, some 68, none, none, none, none, none, none, none, none])) 69 (100, 401, [])) 64 (9, 13, [none, some 65, some 66, some 67, some 68, some 69, none, none, none, none, none, none, none])) 70 (100, 401, [])) 64 (9, 13, [none, some 65, some 66, some 67, some 68, some 69, some 70, none, none, none, none, none, none])) 71 (100, 401, [])) 64 (9, 13, [none, some 65, some 66, some 67, some 68, some 69, some 70, some 71, none, none, none, none, none])) 72 (100, 401, [])) 64 (9, 13, [none, some 65, some 66, some 67, some 68, some 69, some 70, some 71, some 72, none, none, none, none])) 73 (100, 401, [])) 64 (9, 13, [none, some 65, some 66, some 67, some 68, some 69, some 70, some 71, some 72, some 73, none, none, none])) 74 (100, 256, [])) 64 (9, 13, [none, some 65, some 66, some 67, some 68, some 69, some 70, some 71, some 72, some 73, some 74, none, none])) 75 (100, 401, [])) 64 (9, 13, [none, some 65, some 66, some 67, some 68, some 69, some 70, some 71, some 72, some 73, some 74, some 75, none])) 64 (9, 13, [some 1, some 65, some 66, some 67, some 68, some 69, some 70, some 71, some 72, some 73, some 74, some 75, none])
def i_kc_ter64 (I : tb_I) : tb_I := tb_fl (tb_up (tb_row (tb_row (tb_row (tb_row (tb_row (tb_row (tb_row (tb_row (tb_row (tb_row (tb_row (I) 65 (fun _ => 0)) 66 (fun _ => 0)) 67 (fun _ => 0)) 68 (fun _ => 0)) 69 (fun _ => 0)) 70 (fun _ => 0)) 71 (fun _ => 0)) 72 (fun _ => 0)) 73 (fun _ => 0)) 74 (fun _ => 0)) 75 (fun _ => 0)) 64 12 0) 74 256 (-1)
set_option maxHeartbeats 4000000 in
set_option maxRecDepth 100000 in
theorem kc_ter64 {l : Launch} {G : tb_G} (hl : l.stackTraces = false) (sh : Nat → tb_Sh) (I : tb_I) (h64 : sh 64 = (9, 13, [none, none, none, none, none, none, none, none, none, none, none, none, none])) : tb_Ok l G M_X9_init 1 11 5068 [.ref 64, .ref 1] 65 sh I (tb_Rd none 76 (s_kc_ter64 sh) (i_kc_ter64 I)) tb_Nx := by
  refine tb_Ok.of hl (by decide +kernel) rfl (tb_c1 rfl) (Nat.le_of_ble_eq_true rfl) ?_
  show tb_At l G M_X9_init (tb_rm 1 11 5068) none _ 0 0 65 sh I 0 [some (.ref 64), some (.ref 1)] []
  refine tb_aload_n (pc := 0) dX9_init_0 rfl rfl ?_
  refine tb_objInit (pc := 1) dX9_init_1 ml_X9_3 wk_obj2 wk_obj3 (Nat.le_of_ble_eq_true rfl) (Nat.le_of_ble_eq_true rfl) ?_
  refine tb_aload_n (pc := 4) dX9_init_4 rfl rfl ?_
  refine tb_sipush (pc := 5) (v := 401) dX9_init_5 (by decide) ?_
  refine tb_newa (pc := 8) (len := 401) (m1 := 1) (m2 := 401) (n' := 66) dX9_init_8 wk_arr_int (Nat.le_of_ble_eq_true rfl) (by decide) (by decide) rfl rfl rfl (Nat.le_of_ble_eq_true rfl) (Nat.le_of_ble_eq_true rfl) ?_
  refine tb_putR (pc := 10) (rs := [none, none, none, none, none, none, none, none, none, none, none, none, none]) (rs2 := [none, some 65, none, none, none, none, none, none, none, none, none, none, none]) dX9_init_10 rfl ff_X9_11 h64 (by decide) (by decide) (by decide) (by decide) rfl rfl ?_
  refine tb_aload_n (pc := 13) dX9_init_13 rfl rfl ?_
  refine tb_sipush (pc := 14) (v := 401) dX9_init_14 (by decide) ?_
  refine tb_newa (pc := 17) (len := 401) (m1 := 2) (m2 := 802) (n' := 67) dX9_init_17 wk_arr_int (Nat.le_of_ble_eq_true rfl) (by decide) (by decide) rfl rfl rfl (Nat.le_of_ble_eq_true rfl) (Nat.le_of_ble_eq_true rfl) ?_
  refine tb_putR (pc := 19) (rs := [none, some 65, none, none, none, none, none, none, none, none, none, none, none]) (rs2 := [none, some 65, some 66, none, none, none, none, none, none, none, none, none, none]) dX9_init_19 rfl ff_X9_15 rfl (by decide) (by decide) (by decide) (by decide) rfl rfl ?_
  refine tb_aload_n (pc := 22) dX9_init_22 rfl rfl ?_
  refine tb_sipush (pc := 23) (v := 1203) dX9_init_23 (by decide) ?_
  refine tb_newa (pc := 26) (len := 1203) (m1 := 3) (m2 := 2005) (n' := 68) dX9_init_26 wk_arr_int (Nat.le_of_ble_eq_true rfl) (by decide) (by decide) rfl rfl rfl (Nat.le_of_ble_eq_true rfl) (Nat.le_of_ble_eq_true rfl) ?_
  refine tb_putR (pc := 28) (rs := [none, some 65, some 66, none, none, none, none, none, none, none, none, none, none]) (rs2 := [none, some 65, some 66, some 67, none, none, none, none, none, none, none, none, none]) dX9_init_28 rfl ff_X9_18 rfl (by decide) (by decide) (by decide) (by decide) rfl rfl ?_
  refine tb_aload_n (pc := 31) dX9_init_31 rfl rfl ?_
  refine tb_sipush (pc := 32) (v := 401) dX9_init_32 (by decide) ?_
  refine tb_newa (pc := 35) (len := 401) (m1 := 4) (m2 := 2406) (n' := 69) dX9_init_35 wk_arr_int (Nat.le_of_ble_eq_true rfl) (by decide) (by decide) rfl rfl rfl (Nat.le_of_ble_eq_true rfl) (Nat.le_of_ble_eq_true rfl) ?_
  refine tb_putR (pc := 37) (rs := [none, some 65, some 66, some 67, none, none, none, none, none, none, none, none, none]) (rs2 := [none, some 65, some 66, some 67, some 68, none, none, none, none, none, none, none, none]) dX9_init_37 rfl ff_X9_21 rfl (by decide) (by decide) (by decide) (by decide) rfl rfl ?_
  refine tb_aload_n (pc := 40) dX9_init_40 rfl rfl ?_
  refine tb_sipush (pc := 41) (v := 401) dX9_init_41 (by decide) ?_
  refine tb_newa (pc := 44) (len := 401) (m1 := 5) (m2 := 2807) (n' := 70) dX9_init_44 wk_arr_int (Nat.le_of_ble_eq_true rfl) (by decide) (by decide) rfl rfl rfl (Nat.le_of_ble_eq_true rfl) (Nat.le_of_ble_eq_true rfl) ?_
  refine tb_putR (pc := 46) (rs := [none, some 65, some 66, some 67, some 68, none, none, none, none, none, none, none, none]) (rs2 := [none, some 65, some 66, some 67, some 68, some 69, none, none, none, none, none, none, none]) dX9_init_46 rfl ff_X9_24 rfl (by decide) (by decide) (by decide) (by decide) rfl rfl ?_
  refine tb_aload_n (pc := 49) dX9_init_49 rfl rfl ?_
  refine tb_sipush (pc := 50) (v := 401) dX9_init_50 (by decide) ?_
  refine tb_newa (pc := 53) (len := 401) (m1 := 6) (m2 := 3208) (n' := 71) dX9_init_53 wk_arr_int (Nat.le_of_ble_eq_true rfl) (by decide) (by decide) rfl rfl rfl (Nat.le_of_ble_eq_true rfl) (Nat.le_of_ble_eq_true rfl) ?_
  refine tb_putR (pc := 55) (rs := [none, some 65, some 66, some 67, some 68, some 69, none, none, none, none, none, none, none]) (rs2 := [none, some 65, some 66, some 67, some 68, some 69, some 70, none, none, none, none, none, none]) dX9_init_55 rfl ff_X9_27 rfl (by decide) (by decide) (by decide) (by decide) rfl rfl ?_
  refine tb_aload_n (pc := 58) dX9_init_58 rfl rfl ?_
  refine tb_sipush (pc := 59) (v := 401) dX9_init_59 (by decide) ?_
  refine tb_newa (pc := 62) (len := 401) (m1 := 7) (m2 := 3609) (n' := 72) dX9_init_62 wk_arr_int (Nat.le_of_ble_eq_true rfl) (by decide) (by decide) rfl rfl rfl (Nat.le_of_ble_eq_true rfl) (Nat.le_of_ble_eq_true rfl) ?_
  refine tb_putR (pc := 64) (rs := [none, some 65, some 66, some 67, some 68, some 69, some 70, none, none, none, none, none, none]) (rs2 := [none, some 65, some 66, some 67, some 68, some 69, some 70, some 71, none, none, none, none, none]) dX9_init_64 rfl ff_X9_30 rfl (by decide) (by decide) (by decide) (by decide) rfl rfl ?_
  refine tb_aload_n (pc := 67) dX9_init_67 rfl rfl ?_
  refine tb_sipush (pc := 68) (v := 401) dX9_init_68 (by decide) ?_
  refine tb_newa (pc := 71) (len := 401) (m1 := 8) (m2 := 4010) (n' := 73) dX9_init_71 wk_arr_int (Nat.le_of_ble_eq_true rfl) (by decide) (by decide) rfl rfl rfl (Nat.le_of_ble_eq_true rfl) (Nat.le_of_ble_eq_true rfl) ?_
  refine tb_putR (pc := 73) (rs := [none, some 65, some 66, some 67, some 68, some 69, some 70, some 71, none, none, none, none, none]) (rs2 := [none, some 65, some 66, some 67, some 68, some 69, some 70, some 71, some 72, none, none, none, none]) dX9_init_73 rfl ff_X9_33 rfl (by decide) (by decide) (by decide) (by decide) rfl rfl ?_
  refine tb_aload_n (pc := 76) dX9_init_76 rfl rfl ?_
  refine tb_sipush (pc := 77) (v := 401) dX9_init_77 (by decide) ?_
  refine tb_newa (pc := 80) (len := 401) (m1 := 9) (m2 := 4411) (n' := 74) dX9_init_80 wk_arr_int (Nat.le_of_ble_eq_true rfl) (by decide) (by decide) rfl rfl rfl (Nat.le_of_ble_eq_true rfl) (Nat.le_of_ble_eq_true rfl) ?_
  refine tb_putR (pc := 82) (rs := [none, some 65, some 66, some 67, some 68, some 69, some 70, some 71, some 72, none, none, none, none]) (rs2 := [none, some 65, some 66, some 67, some 68, some 69, some 70, some 71, some 72, some 73, none, none, none]) dX9_init_82 rfl ff_X9_36 rfl (by decide) (by decide) (by decide) (by decide) rfl rfl ?_
  refine tb_aload_n (pc := 85) dX9_init_85 rfl rfl ?_
  refine tb_sipush (pc := 86) (v := 256) dX9_init_86 (by decide) ?_
  refine tb_newa (pc := 89) (len := 256) (m1 := 10) (m2 := 4667) (n' := 75) dX9_init_89 wk_arr_int (Nat.le_of_ble_eq_true rfl) (by decide) (by decide) rfl rfl rfl (Nat.le_of_ble_eq_true rfl) (Nat.le_of_ble_eq_true rfl) ?_
  refine tb_putR (pc := 91) (rs := [none, some 65, some 66, some 67, some 68, some 69, some 70, some 71, some 72, some 73, none, none, none]) (rs2 := [none, some 65, some 66, some 67, some 68, some 69, some 70, some 71, some 72, some 73, some 74, none, none]) dX9_init_91 rfl ff_X9_39 rfl (by decide) (by decide) (by decide) (by decide) rfl rfl ?_
  refine tb_aload_n (pc := 94) dX9_init_94 rfl rfl ?_
  refine tb_sipush (pc := 95) (v := 401) dX9_init_95 (by decide) ?_
  refine tb_newa (pc := 98) (len := 401) (m1 := 11) (m2 := 5068) (n' := 76) dX9_init_98 wk_arr_int (Nat.le_of_ble_eq_true rfl) (by decide) (by decide) rfl rfl rfl (Nat.le_of_ble_eq_true rfl) (Nat.le_of_ble_eq_true rfl) ?_
  refine tb_putR (pc := 100) (rs := [none, some 65, some 66, some 67, some 68, some 69, some 70, some 71, some 72, some 73, some 74, none, none]) (rs2 := [none, some 65, some 66, some 67, some 68, some 69, some 70, some 71, some 72, some 73, some 74, some 75, none]) dX9_init_100 rfl ff_X9_42 rfl (by decide) (by decide) (by decide) (by decide) rfl rfl ?_
  refine tb_aload_n (pc := 103) dX9_init_103 rfl rfl ?_
  refine tb_iconst (pc := 104) (v := 0) dX9_init_104 (by decide) ?_
  refine tb_putI (pc := 105) dX9_init_105 fl_X9_45 rfl (by decide) (by decide) rfl ?_
  refine tb_aload_n (pc := 108) dX9_init_108 rfl rfl ?_
  refine tb_aload_n (pc := 109) dX9_init_109 rfl rfl ?_
  refine tb_putR (pc := 110) (rs := [none, some 65, some 66, some 67, some 68, some 69, some 70, some 71, some 72, some 73, some 74, some 75, none]) (rs2 := [some 1, some 65, some 66, some 67, some 68, some 69, some 70, some 71, some 72, some 73, some 74, some 75, none]) dX9_init_110 rfl ff_X9_49 rfl (by decide) (by decide) (by decide) (by decide) rfl rfl ?_
  refine tb_aload_n (pc := 113) dX9_init_113 rfl rfl ?_
  refine tb_getR (pc := 114) (rs := [some 1, some 65, some 66, some 67, some 68, some 69, some 70, some 71, some 72, some 73, some 74, some 75, none]) dX9_init_114 fl_X9_39 rfl (by decide) (by decide) rfl rfl ?_
  refine tb_iconst (pc := 117) (v := (-1)) dX9_init_117 (by decide) ?_
  refine tb_cS (pc := 118) (kJ_fill hl _ _ _ 74 256 (-1) (by rfl)) sl_X9_53 dX9_init_118 rfl rfl (Nat.le_of_ble_eq_true rfl) ⟨(Nat.le_of_ble_eq_true rfl), (Nat.le_of_ble_eq_true rfl)⟩ rfl rfl (Nat.le_of_ble_eq_true rfl) (Nat.le_of_ble_eq_true rfl) (fun r9 n9 sh9 I9 hq9 => ?_)
  obtain ⟨rfl, rfl, rfl, rfl⟩ := hq9
  exact tb_vret (pc := 121) dX9_init_121 rfl (Nat.le_of_ble_eq_true rfl) (Nat.le_of_ble_eq_true rfl) ⟨rfl, rfl, rfl, rfl⟩
def s_kc_ter125 (sh : Nat → tb_Sh) : Nat → tb_Sh := tb_sup (tb_sup (tb_sup (tb_sup (tb_sup (tb_sup (tb_sup (tb_sup (tb_sup (tb_sup (tb_sup (tb_sup (tb_sup (tb_sup (tb_sup (tb_sup (tb_sup (tb_sup (tb_sup (tb_sup (tb_sup (tb_sup (tb_sup (sh) 126 (100, 401, [])) 125 (9, 13, [none, some 126, none, none, none, none, none, none, none, none, none, none, none])) 127 (100, 401, [])) 125 (9, 13, [none, some 126, some 127, none, none, none, none, none, none, none, none, none, none])) 128 (100, 1203, [])) 125 (9, 13, [none, some 126, some 127, some 128, none, none, none, none, none, none, none, none, none])) 129 (100, 401, [])) 125 (9, 13, [none, some 126, some 127, some 128, some 129, none, none, none, none, none, none, none, none])) 130 (100, 401, [])) 125 (9, 13, [none, some 126, some 127, some 128, some 129, some 130, none, none, none, none, none, none, none])) 131 (100, 401, [])) 125 (9, 13, [none, some 126, some 127, some 128, some 129, some 130, some 131, none, none, none, none, none, none])) 132 (100, 401, [])) 125 (9, 13, [none, some 126, some 127, some 128, some 129, some 130, some 131, some 132, none, none, none, none, none])) 133 (100, 401, [])) 125 (9, 13, [none, some 126, some 127, some 128, some 129, some 130, some 131, some 132, some 133, none, none, none, none])) 134 (100, 401, [])) 125 (9, 13, [none, some 126, some 127, some 128, some 129, some 130, some 131, some 132, some 133, some 134, none, none, none])) 135 (100, 256, [])) 125 (9, 13, [none, some 126, some 127, some 128, some 129, some 130, some 131, some 132, some 133, some 134, some 135, none, none])) 136 (100, 401, [])) 125 (9, 13, [none, some 126, some 127, some 128, some 129, some 130, some 131, some 132, some 133, some 134, some 135, some 136, none])) 125 (9, 13, [some 1, some 126, some 127, some 128, some 129, some 130, some 131, some 132, some 133, some 134, some 135, some 136, none])
def i_kc_ter125 (I : tb_I) : tb_I := tb_fl (tb_up (tb_row (tb_row (tb_row (tb_row (tb_row (tb_row (tb_row (tb_row (tb_row (tb_row (tb_row (I) 126 (fun _ => 0)) 127 (fun _ => 0)) 128 (fun _ => 0)) 129 (fun _ => 0)) 130 (fun _ => 0)) 131 (fun _ => 0)) 132 (fun _ => 0)) 133 (fun _ => 0)) 134 (fun _ => 0)) 135 (fun _ => 0)) 136 (fun _ => 0)) 125 12 0) 135 256 (-1)
set_option maxHeartbeats 4000000 in
set_option maxRecDepth 100000 in
theorem kc_ter125 {l : Launch} {G : tb_G} (hl : l.stackTraces = false) (sh : Nat → tb_Sh) (I : tb_I) (h125 : sh 125 = (9, 13, [none, none, none, none, none, none, none, none, none, none, none, none, none])) : tb_Ok l G M_X9_init 1 11 5068 [.ref 125, .ref 1] 126 sh I (tb_Rd none 137 (s_kc_ter125 sh) (i_kc_ter125 I)) tb_Nx := by
  refine tb_Ok.of hl (by decide +kernel) rfl (tb_c1 rfl) (Nat.le_of_ble_eq_true rfl) ?_
  show tb_At l G M_X9_init (tb_rm 1 11 5068) none _ 0 0 126 sh I 0 [some (.ref 125), some (.ref 1)] []
  refine tb_aload_n (pc := 0) dX9_init_0 rfl rfl ?_
  refine tb_objInit (pc := 1) dX9_init_1 ml_X9_3 wk_obj2 wk_obj3 (Nat.le_of_ble_eq_true rfl) (Nat.le_of_ble_eq_true rfl) ?_
  refine tb_aload_n (pc := 4) dX9_init_4 rfl rfl ?_
  refine tb_sipush (pc := 5) (v := 401) dX9_init_5 (by decide) ?_
  refine tb_newa (pc := 8) (len := 401) (m1 := 1) (m2 := 401) (n' := 127) dX9_init_8 wk_arr_int (Nat.le_of_ble_eq_true rfl) (by decide) (by decide) rfl rfl rfl (Nat.le_of_ble_eq_true rfl) (Nat.le_of_ble_eq_true rfl) ?_
  refine tb_putR (pc := 10) (rs := [none, none, none, none, none, none, none, none, none, none, none, none, none]) (rs2 := [none, some 126, none, none, none, none, none, none, none, none, none, none, none]) dX9_init_10 rfl ff_X9_11 h125 (by decide) (by decide) (by decide) (by decide) rfl rfl ?_
  refine tb_aload_n (pc := 13) dX9_init_13 rfl rfl ?_
  refine tb_sipush (pc := 14) (v := 401) dX9_init_14 (by decide) ?_
  refine tb_newa (pc := 17) (len := 401) (m1 := 2) (m2 := 802) (n' := 128) dX9_init_17 wk_arr_int (Nat.le_of_ble_eq_true rfl) (by decide) (by decide) rfl rfl rfl (Nat.le_of_ble_eq_true rfl) (Nat.le_of_ble_eq_true rfl) ?_
  refine tb_putR (pc := 19) (rs := [none, some 126, none, none, none, none, none, none, none, none, none, none, none]) (rs2 := [none, some 126, some 127, none, none, none, none, none, none, none, none, none, none]) dX9_init_19 rfl ff_X9_15 rfl (by decide) (by decide) (by decide) (by decide) rfl rfl ?_
  refine tb_aload_n (pc := 22) dX9_init_22 rfl rfl ?_
  refine tb_sipush (pc := 23) (v := 1203) dX9_init_23 (by decide) ?_
  refine tb_newa (pc := 26) (len := 1203) (m1 := 3) (m2 := 2005) (n' := 129) dX9_init_26 wk_arr_int (Nat.le_of_ble_eq_true rfl) (by decide) (by decide) rfl rfl rfl (Nat.le_of_ble_eq_true rfl) (Nat.le_of_ble_eq_true rfl) ?_
  refine tb_putR (pc := 28) (rs := [none, some 126, some 127, none, none, none, none, none, none, none, none, none, none]) (rs2 := [none, some 126, some 127, some 128, none, none, none, none, none, none, none, none, none]) dX9_init_28 rfl ff_X9_18 rfl (by decide) (by decide) (by decide) (by decide) rfl rfl ?_
  refine tb_aload_n (pc := 31) dX9_init_31 rfl rfl ?_
  refine tb_sipush (pc := 32) (v := 401) dX9_init_32 (by decide) ?_
  refine tb_newa (pc := 35) (len := 401) (m1 := 4) (m2 := 2406) (n' := 130) dX9_init_35 wk_arr_int (Nat.le_of_ble_eq_true rfl) (by decide) (by decide) rfl rfl rfl (Nat.le_of_ble_eq_true rfl) (Nat.le_of_ble_eq_true rfl) ?_
  refine tb_putR (pc := 37) (rs := [none, some 126, some 127, some 128, none, none, none, none, none, none, none, none, none]) (rs2 := [none, some 126, some 127, some 128, some 129, none, none, none, none, none, none, none, none]) dX9_init_37 rfl ff_X9_21 rfl (by decide) (by decide) (by decide) (by decide) rfl rfl ?_
  refine tb_aload_n (pc := 40) dX9_init_40 rfl rfl ?_
  refine tb_sipush (pc := 41) (v := 401) dX9_init_41 (by decide) ?_
  refine tb_newa (pc := 44) (len := 401) (m1 := 5) (m2 := 2807) (n' := 131) dX9_init_44 wk_arr_int (Nat.le_of_ble_eq_true rfl) (by decide) (by decide) rfl rfl rfl (Nat.le_of_ble_eq_true rfl) (Nat.le_of_ble_eq_true rfl) ?_
  refine tb_putR (pc := 46) (rs := [none, some 126, some 127, some 128, some 129, none, none, none, none, none, none, none, none]) (rs2 := [none, some 126, some 127, some 128, some 129, some 130, none, none, none, none, none, none, none]) dX9_init_46 rfl ff_X9_24 rfl (by decide) (by decide) (by decide) (by decide) rfl rfl ?_
  refine tb_aload_n (pc := 49) dX9_init_49 rfl rfl ?_
  refine tb_sipush (pc := 50) (v := 401) dX9_init_50 (by decide) ?_
  refine tb_newa (pc := 53) (len := 401) (m1 := 6) (m2 := 3208) (n' := 132) dX9_init_53 wk_arr_int (Nat.le_of_ble_eq_true rfl) (by decide) (by decide) rfl rfl rfl (Nat.le_of_ble_eq_true rfl) (Nat.le_of_ble_eq_true rfl) ?_
  refine tb_putR (pc := 55) (rs := [none, some 126, some 127, some 128, some 129, some 130, none, none, none, none, none, none, none]) (rs2 := [none, some 126, some 127, some 128, some 129, some 130, some 131, none, none, none, none, none, none]) dX9_init_55 rfl ff_X9_27 rfl (by decide) (by decide) (by decide) (by decide) rfl rfl ?_
  refine tb_aload_n (pc := 58) dX9_init_58 rfl rfl ?_
  refine tb_sipush (pc := 59) (v := 401) dX9_init_59 (by decide) ?_
  refine tb_newa (pc := 62) (len := 401) (m1 := 7) (m2 := 3609) (n' := 133) dX9_init_62 wk_arr_int (Nat.le_of_ble_eq_true rfl) (by decide) (by decide) rfl rfl rfl (Nat.le_of_ble_eq_true rfl) (Nat.le_of_ble_eq_true rfl) ?_
  refine tb_putR (pc := 64) (rs := [none, some 126, some 127, some 128, some 129, some 130, some 131, none, none, none, none, none, none]) (rs2 := [none, some 126, some 127, some 128, some 129, some 130, some 131, some 132, none, none, none, none, none]) dX9_init_64 rfl ff_X9_30 rfl (by decide) (by decide) (by decide) (by decide) rfl rfl ?_
  refine tb_aload_n (pc := 67) dX9_init_67 rfl rfl ?_
  refine tb_sipush (pc := 68) (v := 401) dX9_init_68 (by decide) ?_
  refine tb_newa (pc := 71) (len := 401) (m1 := 8) (m2 := 4010) (n' := 134) dX9_init_71 wk_arr_int (Nat.le_of_ble_eq_true rfl) (by decide) (by decide) rfl rfl rfl (Nat.le_of_ble_eq_true rfl) (Nat.le_of_ble_eq_true rfl) ?_
  refine tb_putR (pc := 73) (rs := [none, some 126, some 127, some 128, some 129, some 130, some 131, some 132, none, none, none, none, none]) (rs2 := [none, some 126, some 127, some 128, some 129, some 130, some 131, some 132, some 133, none, none, none, none]) dX9_init_73 rfl ff_X9_33 rfl (by decide) (by decide) (by decide) (by decide) rfl rfl ?_
  refine tb_aload_n (pc := 76) dX9_init_76 rfl rfl ?_
  refine tb_sipush (pc := 77) (v := 401) dX9_init_77 (by decide) ?_
  refine tb_newa (pc := 80) (len := 401) (m1 := 9) (m2 := 4411) (n' := 135) dX9_init_80 wk_arr_int (Nat.le_of_ble_eq_true rfl) (by decide) (by decide) rfl rfl rfl (Nat.le_of_ble_eq_true rfl) (Nat.le_of_ble_eq_true rfl) ?_
  refine tb_putR (pc := 82) (rs := [none, some 126, some 127, some 128, some 129, some 130, some 131, some 132, some 133, none, none, none, none]) (rs2 := [none, some 126, some 127, some 128, some 129, some 130, some 131, some 132, some 133, some 134, none, none, none]) dX9_init_82 rfl ff_X9_36 rfl (by decide) (by decide) (by decide) (by decide) rfl rfl ?_
  refine tb_aload_n (pc := 85) dX9_init_85 rfl rfl ?_
  refine tb_sipush (pc := 86) (v := 256) dX9_init_86 (by decide) ?_
  refine tb_newa (pc := 89) (len := 256) (m1 := 10) (m2 := 4667) (n' := 136) dX9_init_89 wk_arr_int (Nat.le_of_ble_eq_true rfl) (by decide) (by decide) rfl rfl rfl (Nat.le_of_ble_eq_true rfl) (Nat.le_of_ble_eq_true rfl) ?_
  refine tb_putR (pc := 91) (rs := [none, some 126, some 127, some 128, some 129, some 130, some 131, some 132, some 133, some 134, none, none, none]) (rs2 := [none, some 126, some 127, some 128, some 129, some 130, some 131, some 132, some 133, some 134, some 135, none, none]) dX9_init_91 rfl ff_X9_39 rfl (by decide) (by decide) (by decide) (by decide) rfl rfl ?_
  refine tb_aload_n (pc := 94) dX9_init_94 rfl rfl ?_
  refine tb_sipush (pc := 95) (v := 401) dX9_init_95 (by decide) ?_
  refine tb_newa (pc := 98) (len := 401) (m1 := 11) (m2 := 5068) (n' := 137) dX9_init_98 wk_arr_int (Nat.le_of_ble_eq_true rfl) (by decide) (by decide) rfl rfl rfl (Nat.le_of_ble_eq_true rfl) (Nat.le_of_ble_eq_true rfl) ?_
  refine tb_putR (pc := 100) (rs := [none, some 126, some 127, some 128, some 129, some 130, some 131, some 132, some 133, some 134, some 135, none, none]) (rs2 := [none, some 126, some 127, some 128, some 129, some 130, some 131, some 132, some 133, some 134, some 135, some 136, none]) dX9_init_100 rfl ff_X9_42 rfl (by decide) (by decide) (by decide) (by decide) rfl rfl ?_
  refine tb_aload_n (pc := 103) dX9_init_103 rfl rfl ?_
  refine tb_iconst (pc := 104) (v := 0) dX9_init_104 (by decide) ?_
  refine tb_putI (pc := 105) dX9_init_105 fl_X9_45 rfl (by decide) (by decide) rfl ?_
  refine tb_aload_n (pc := 108) dX9_init_108 rfl rfl ?_
  refine tb_aload_n (pc := 109) dX9_init_109 rfl rfl ?_
  refine tb_putR (pc := 110) (rs := [none, some 126, some 127, some 128, some 129, some 130, some 131, some 132, some 133, some 134, some 135, some 136, none]) (rs2 := [some 1, some 126, some 127, some 128, some 129, some 130, some 131, some 132, some 133, some 134, some 135, some 136, none]) dX9_init_110 rfl ff_X9_49 rfl (by decide) (by decide) (by decide) (by decide) rfl rfl ?_
  refine tb_aload_n (pc := 113) dX9_init_113 rfl rfl ?_
  refine tb_getR (pc := 114) (rs := [some 1, some 126, some 127, some 128, some 129, some 130, some 131, some 132, some 133, some 134, some 135, some 136, none]) dX9_init_114 fl_X9_39 rfl (by decide) (by decide) rfl rfl ?_
  refine tb_iconst (pc := 117) (v := (-1)) dX9_init_117 (by decide) ?_
  refine tb_cS (pc := 118) (kJ_fill hl _ _ _ 135 256 (-1) (by rfl)) sl_X9_53 dX9_init_118 rfl rfl (Nat.le_of_ble_eq_true rfl) ⟨(Nat.le_of_ble_eq_true rfl), (Nat.le_of_ble_eq_true rfl)⟩ rfl rfl (Nat.le_of_ble_eq_true rfl) (Nat.le_of_ble_eq_true rfl) (fun r9 n9 sh9 I9 hq9 => ?_)
  obtain ⟨rfl, rfl, rfl, rfl⟩ := hq9
  exact tb_vret (pc := 121) dX9_init_121 rfl (Nat.le_of_ble_eq_true rfl) (Nat.le_of_ble_eq_true rfl) ⟨rfl, rfl, rfl, rfl⟩
def s_kc_led18 (sh : Nat → tb_Sh) : Nat → tb_Sh := tb_sup (tb_sup (sh) 19 (100, 61, [])) 18 (1, 1, [some 19])
def i_kc_led18 (I : tb_I) : tb_I := tb_anew (tb_row (I) 19 (fun _ => 0)) 19
set_option maxHeartbeats 4000000 in
set_option maxRecDepth 100000 in
theorem kc_led18 {l : Launch} {G : tb_G} (hl : l.stackTraces = false) (sh : Nat → tb_Sh) (I : tb_I) (h18 : sh 18 = (1, 1, [none])) : tb_Ok l G M_X1_init 2 1 61 [.ref 18] 19 sh I (tb_Rd none 20 (s_kc_led18 sh) (i_kc_led18 I)) tb_Nx := by
  refine tb_Ok.of hl (by decide +kernel) rfl (tb_c1 rfl) (Nat.le_of_ble_eq_true rfl) ?_
  show tb_At l G M_X1_init (tb_rm 2 1 61) none _ 0 0 19 sh I 0 [some (.ref 18)] []
  refine tb_aload_n (pc := 0) dX1_init_0 rfl rfl ?_
  refine tb_objInit (pc := 1) dX1_init_1 ml_X1_5 wk_obj2 wk_obj3 (Nat.le_of_ble_eq_true rfl) (Nat.le_of_ble_eq_true rfl) ?_
  refine tb_aload_n (pc := 4) dX1_init_4 rfl rfl ?_
  refine tb_bipush (pc := 5) (v := 61) dX1_init_5 (by decide) ?_
  refine tb_newa (pc := 7) (len := 61) (m1 := 1) (m2 := 61) (n' := 20) dX1_init_7 wk_arr_int (Nat.le_of_ble_eq_true rfl) (by decide) (by decide) rfl rfl rfl (Nat.le_of_ble_eq_true rfl) (Nat.le_of_ble_eq_true rfl) ?_
  refine tb_putR (pc := 9) (rs := [none]) (rs2 := [some 19]) dX1_init_9 rfl ff_X1_11 h18 (by decide) (by decide) (by decide) (by decide) rfl rfl ?_
  refine tb_aload_n (pc := 12) dX1_init_12 rfl rfl ?_
  refine tb_getR (pc := 13) (rs := [some 19]) dX1_init_13 fl_X1_11 rfl (by decide) (by decide) rfl rfl ?_
  refine tb_cS (pc := 16) (k_fillAnew hl _ _ _ 19 (by rfl)) sl_X1_15 dX1_init_16 rfl rfl (Nat.le_of_ble_eq_true rfl) ⟨(Nat.le_of_ble_eq_true rfl), (Nat.le_of_ble_eq_true rfl)⟩ rfl rfl (Nat.le_of_ble_eq_true rfl) (Nat.le_of_ble_eq_true rfl) (fun r9 n9 sh9 I9 hq9 => ?_)
  obtain ⟨rfl, rfl, rfl, rfl⟩ := hq9
  exact tb_vret (pc := 19) dX1_init_19 rfl (Nat.le_of_ble_eq_true rfl) (Nat.le_of_ble_eq_true rfl) ⟨rfl, rfl, rfl, rfl⟩
def s_kc_led76 (sh : Nat → tb_Sh) : Nat → tb_Sh := tb_sup (tb_sup (sh) 77 (100, 61, [])) 76 (1, 1, [some 77])
def i_kc_led76 (I : tb_I) : tb_I := tb_anew (tb_row (I) 77 (fun _ => 0)) 77
set_option maxHeartbeats 4000000 in
set_option maxRecDepth 100000 in
theorem kc_led76 {l : Launch} {G : tb_G} (hl : l.stackTraces = false) (sh : Nat → tb_Sh) (I : tb_I) (h76 : sh 76 = (1, 1, [none])) : tb_Ok l G M_X1_init 2 1 61 [.ref 76] 77 sh I (tb_Rd none 78 (s_kc_led76 sh) (i_kc_led76 I)) tb_Nx := by
  refine tb_Ok.of hl (by decide +kernel) rfl (tb_c1 rfl) (Nat.le_of_ble_eq_true rfl) ?_
  show tb_At l G M_X1_init (tb_rm 2 1 61) none _ 0 0 77 sh I 0 [some (.ref 76)] []
  refine tb_aload_n (pc := 0) dX1_init_0 rfl rfl ?_
  refine tb_objInit (pc := 1) dX1_init_1 ml_X1_5 wk_obj2 wk_obj3 (Nat.le_of_ble_eq_true rfl) (Nat.le_of_ble_eq_true rfl) ?_
  refine tb_aload_n (pc := 4) dX1_init_4 rfl rfl ?_
  refine tb_bipush (pc := 5) (v := 61) dX1_init_5 (by decide) ?_
  refine tb_newa (pc := 7) (len := 61) (m1 := 1) (m2 := 61) (n' := 78) dX1_init_7 wk_arr_int (Nat.le_of_ble_eq_true rfl) (by decide) (by decide) rfl rfl rfl (Nat.le_of_ble_eq_true rfl) (Nat.le_of_ble_eq_true rfl) ?_
  refine tb_putR (pc := 9) (rs := [none]) (rs2 := [some 77]) dX1_init_9 rfl ff_X1_11 h76 (by decide) (by decide) (by decide) (by decide) rfl rfl ?_
  refine tb_aload_n (pc := 12) dX1_init_12 rfl rfl ?_
  refine tb_getR (pc := 13) (rs := [some 77]) dX1_init_13 fl_X1_11 rfl (by decide) (by decide) rfl rfl ?_
  refine tb_cS (pc := 16) (k_fillAnew hl _ _ _ 77 (by rfl)) sl_X1_15 dX1_init_16 rfl rfl (Nat.le_of_ble_eq_true rfl) ⟨(Nat.le_of_ble_eq_true rfl), (Nat.le_of_ble_eq_true rfl)⟩ rfl rfl (Nat.le_of_ble_eq_true rfl) (Nat.le_of_ble_eq_true rfl) (fun r9 n9 sh9 I9 hq9 => ?_)
  obtain ⟨rfl, rfl, rfl, rfl⟩ := hq9
  exact tb_vret (pc := 19) dX1_init_19 rfl (Nat.le_of_ble_eq_true rfl) (Nat.le_of_ble_eq_true rfl) ⟨rfl, rfl, rfl, rfl⟩
def s_kc_led137 (sh : Nat → tb_Sh) : Nat → tb_Sh := tb_sup (tb_sup (sh) 138 (100, 61, [])) 137 (1, 1, [some 138])
def i_kc_led137 (I : tb_I) : tb_I := tb_anew (tb_row (I) 138 (fun _ => 0)) 138
set_option maxHeartbeats 4000000 in
set_option maxRecDepth 100000 in
theorem kc_led137 {l : Launch} {G : tb_G} (hl : l.stackTraces = false) (sh : Nat → tb_Sh) (I : tb_I) (h137 : sh 137 = (1, 1, [none])) : tb_Ok l G M_X1_init 2 1 61 [.ref 137] 138 sh I (tb_Rd none 139 (s_kc_led137 sh) (i_kc_led137 I)) tb_Nx := by
  refine tb_Ok.of hl (by decide +kernel) rfl (tb_c1 rfl) (Nat.le_of_ble_eq_true rfl) ?_
  show tb_At l G M_X1_init (tb_rm 2 1 61) none _ 0 0 138 sh I 0 [some (.ref 137)] []
  refine tb_aload_n (pc := 0) dX1_init_0 rfl rfl ?_
  refine tb_objInit (pc := 1) dX1_init_1 ml_X1_5 wk_obj2 wk_obj3 (Nat.le_of_ble_eq_true rfl) (Nat.le_of_ble_eq_true rfl) ?_
  refine tb_aload_n (pc := 4) dX1_init_4 rfl rfl ?_
  refine tb_bipush (pc := 5) (v := 61) dX1_init_5 (by decide) ?_
  refine tb_newa (pc := 7) (len := 61) (m1 := 1) (m2 := 61) (n' := 139) dX1_init_7 wk_arr_int (Nat.le_of_ble_eq_true rfl) (by decide) (by decide) rfl rfl rfl (Nat.le_of_ble_eq_true rfl) (Nat.le_of_ble_eq_true rfl) ?_
  refine tb_putR (pc := 9) (rs := [none]) (rs2 := [some 138]) dX1_init_9 rfl ff_X1_11 h137 (by decide) (by decide) (by decide) (by decide) rfl rfl ?_
  refine tb_aload_n (pc := 12) dX1_init_12 rfl rfl ?_
  refine tb_getR (pc := 13) (rs := [some 138]) dX1_init_13 fl_X1_11 rfl (by decide) (by decide) rfl rfl ?_
  refine tb_cS (pc := 16) (k_fillAnew hl _ _ _ 138 (by rfl)) sl_X1_15 dX1_init_16 rfl rfl (Nat.le_of_ble_eq_true rfl) ⟨(Nat.le_of_ble_eq_true rfl), (Nat.le_of_ble_eq_true rfl)⟩ rfl rfl (Nat.le_of_ble_eq_true rfl) (Nat.le_of_ble_eq_true rfl) (fun r9 n9 sh9 I9 hq9 => ?_)
  obtain ⟨rfl, rfl, rfl, rfl⟩ := hq9
  exact tb_vret (pc := 19) dX1_init_19 rfl (Nat.le_of_ble_eq_true rfl) (Nat.le_of_ble_eq_true rfl) ⟨rfl, rfl, rfl, rfl⟩
def s_kc_cor5 (sh : Nat → tb_Sh) : Nat → tb_Sh := tb_sup (tb_sup (tb_sup (tb_sup (tb_sup (tb_sup (tb_sup (tb_shM (sh) 20 40 61) 5 (0, 7, [none, none, some 20, none, none, none, none])) 61 (100, 61, [])) 5 (0, 7, [none, none, some 20, some 61, none, none, none])) 62 (100, 4, [])) 5 (0, 7, [none, none, some 20, some 61, some 62, none, none])) 5 (0, 7, [some 6, none, some 20, some 61, some 62, none, none])) 5 (0, 7, [some 6, some 18, some 20, some 61, some 62, none, none])
def i_kc_cor5 (I : tb_I) : tb_I := tb_up (tb_up (tb_row (tb_row (tb_IM (I) 20 40) 61 (fun _ => 0)) 62 (fun _ => 0)) 5 5 0) 5 6 0
set_option maxHeartbeats 4000000 in
set_option maxRecDepth 100000 in
theorem kc_cor5 {l : Launch} {G : tb_G} (hl : l.stackTraces = false) (sh : Nat → tb_Sh) (I : tb_I) (h5 : sh 5 = (0, 7, [none, none, none, none, none, none, none])) : tb_Ok l G M_X0_init 1 43 2545 [.ref 5, .ref 6, .ref 18] 20 sh I (tb_Rd none 63 (s_kc_cor5 sh) (i_kc_cor5 I)) tb_Nx := by
  refine tb_Ok.of hl (by decide +kernel) rfl (tb_c1 rfl) (Nat.le_of_ble_eq_true rfl) ?_
  show tb_At l G M_X0_init (tb_rm 1 43 2545) none _ 0 0 20 sh I 0 [some (.ref 5), some (.ref 6), some (.ref 18)] []
  refine tb_aload_n (pc := 0) dX0_init_0 rfl rfl ?_
  refine tb_objInit (pc := 1) dX0_init_1 ml_X0_3 wk_obj2 wk_obj3 (Nat.le_of_ble_eq_true rfl) (Nat.le_of_ble_eq_true rfl) ?_
  refine tb_aload_n (pc := 4) dX0_init_4 rfl rfl ?_
  refine tb_bipush (pc := 5) (v := 40) dX0_init_5 (by decide) ?_
  refine tb_bipush (pc := 7) (v := 61) dX0_init_7 (by decide) ?_
  refine tb_mna (pc := 9) (N := 40) (K := 61) (m1 := 41) (m2 := 2480) (n' := 61) dX0_init_9 cw_X0_11 wk_arr_int (Nat.le_of_ble_eq_true rfl) (by decide) (by decide) (by decide) (by decide) rfl rfl rfl (Nat.le_of_ble_eq_true rfl) (Nat.le_of_ble_eq_true rfl) ?_
  refine tb_putR (pc := 13) (rs := [none, none, none, none, none, none, none]) (rs2 := [none, none, some 20, none, none, none, none]) dX0_init_13 rfl ff_X0_13 h5 (by decide) (by decide) (by decide) (by decide) rfl rfl ?_
  refine tb_aload_n (pc := 16) dX0_init_16 rfl rfl ?_
  refine tb_bipush (pc := 17) (v := 61) dX0_init_17 (by decide) ?_
  refine tb_newa (pc := 19) (len := 61) (m1 := 42) (m2 := 2541) (n' := 62) dX0_init_19 wk_arr_int (Nat.le_of_ble_eq_true rfl) (by decide) (by decide) rfl rfl rfl (Nat.le_of_ble_eq_true rfl) (Nat.le_of_ble_eq_true rfl) ?_
  refine tb_putR (pc := 21) (rs := [none, none, some 20, none, none, none, none]) (rs2 := [none, none, some 20, some 61, none, none, none]) dX0_init_21 rfl ff_X0_18 rfl (by decide) (by decide) (by decide) (by decide) rfl rfl ?_
  refine tb_aload_n (pc := 24) dX0_init_24 rfl rfl ?_
  refine tb_iconst (pc := 25) (v := 4) dX0_init_25 (by decide) ?_
  refine tb_newa (pc := 26) (len := 4) (m1 := 43) (m2 := 2545) (n' := 63) dX0_init_26 wk_arr_int (Nat.le_of_ble_eq_true rfl) (by decide) (by decide) rfl rfl rfl (Nat.le_of_ble_eq_true rfl) (Nat.le_of_ble_eq_true rfl) ?_
  refine tb_putR (pc := 28) (rs := [none, none, some 20, some 61, none, none, none]) (rs2 := [none, none, some 20, some 61, some 62, none, none]) dX0_init_28 rfl ff_X0_22 rfl (by decide) (by decide) (by decide) (by decide) rfl rfl ?_
  refine tb_aload_n (pc := 31) dX0_init_31 rfl rfl ?_
  refine tb_iconst (pc := 32) (v := 0) dX0_init_32 (by decide) ?_
  refine tb_putI (pc := 33) dX0_init_33 fl_X0_25 rfl (by decide) (by decide) rfl ?_
  refine tb_aload_n (pc := 36) dX0_init_36 rfl rfl ?_
  refine tb_iconst (pc := 37) (v := 0) dX0_init_37 (by decide) ?_
  refine tb_putI (pc := 38) dX0_init_38 fl_X0_29 rfl (by decide) (by decide) rfl ?_
  refine tb_aload_n (pc := 41) dX0_init_41 rfl rfl ?_
  refine tb_aload_n (pc := 42) dX0_init_42 rfl rfl ?_
  refine tb_putR (pc := 43) (rs := [none, none, some 20, some 61, some 62, none, none]) (rs2 := [some 6, none, some 20, some 61, some 62, none, none]) dX0_init_43 rfl ff_X0_32 rfl (by decide) (by decide) (by decide) (by decide) rfl rfl ?_
  refine tb_aload_n (pc := 46) dX0_init_46 rfl rfl ?_
  refine tb_aload_n (pc := 47) dX0_init_47 rfl rfl ?_
  refine tb_putR (pc := 48) (rs := [some 6, none, some 20, some 61, some 62, none, none]) (rs2 := [some 6, some 18, some 20, some 61, some 62, none, none]) dX0_init_48 rfl ff_X0_36 rfl (by decide) (by decide) (by decide) (by decide) rfl rfl ?_
  exact tb_vret (pc := 51) dX0_init_51 rfl (Nat.le_of_ble_eq_true rfl) (Nat.le_of_ble_eq_true rfl) ⟨rfl, rfl, rfl, rfl⟩
def s_kc_cor63 (sh : Nat → tb_Sh) : Nat → tb_Sh := tb_sup (tb_sup (tb_sup (tb_sup (tb_sup (tb_sup (tb_sup (tb_shM (sh) 78 40 61) 63 (0, 7, [none, none, some 78, none, none, none, none])) 119 (100, 61, [])) 63 (0, 7, [none, none, some 78, some 119, none, none, none])) 120 (100, 4, [])) 63 (0, 7, [none, none, some 78, some 119, some 120, none, none])) 63 (0, 7, [some 64, none, some 78, some 119, some 120, none, none])) 63 (0, 7, [some 64, some 76, some 78, some 119, some 120, none, none])
def i_kc_cor63 (I : tb_I) : tb_I := tb_up (tb_up (tb_row (tb_row (tb_IM (I) 78 40) 119 (fun _ => 0)) 120 (fun _ => 0)) 63 5 0) 63 6 0
set_option maxHeartbeats 4000000 in
set_option maxRecDepth 100000 in
theorem kc_cor63 {l : Launch} {G : tb_G} (hl : l.stackTraces = false) (sh : Nat → tb_Sh) (I : tb_I) (h63 : sh 63 = (0, 7, [none, none, none, none, none, none, none])) : tb_Ok l G M_X0_init 1 43 2545 [.ref 63, .ref 64, .ref 76] 78 sh I (tb_Rd none 121 (s_kc_cor63 sh) (i_kc_cor63 I)) tb_Nx := by
  refine tb_Ok.of hl (by decide +kernel) rfl (tb_c1 rfl) (Nat.le_of_ble_eq_true rfl) ?_
  show tb_At l G M_X0_init (tb_rm 1 43 2545) none _ 0 0 78 sh I 0 [some (.ref 63), some (.ref 64), some (.ref 76)] []
  refine tb_aload_n (pc := 0) dX0_init_0 rfl rfl ?_
  refine tb_objInit (pc := 1) dX0_init_1 ml_X0_3 wk_obj2 wk_obj3 (Nat.le_of_ble_eq_true rfl) (Nat.le_of_ble_eq_true rfl) ?_
  refine tb_aload_n (pc := 4) dX0_init_4 rfl rfl ?_
  refine tb_bipush (pc := 5) (v := 40) dX0_init_5 (by decide) ?_
  refine tb_bipush (pc := 7) (v := 61) dX0_init_7 (by decide) ?_
  refine tb_mna (pc := 9) (N := 40) (K := 61) (m1 := 41) (m2 := 2480) (n' := 119) dX0_init_9 cw_X0_11 wk_arr_int (Nat.le_of_ble_eq_true rfl) (by decide) (by decide) (by decide) (by decide) rfl rfl rfl (Nat.le_of_ble_eq_true rfl) (Nat.le_of_ble_eq_true rfl) ?_
  refine tb_putR (pc := 13) (rs := [none, none, none, none, none, none, none]) (rs2 := [none, none, some 78, none, none, none, none]) dX0_init_13 rfl ff_X0_13 h63 (by decide) (by decide) (by decide) (by decide) rfl rfl ?_
  refine tb_aload_n (pc := 16) dX0_init_16 rfl rfl ?_
  refine tb_bipush (pc := 17) (v := 61) dX0_init_17 (by decide) ?_
  refine tb_newa (pc := 19) (len := 61) (m1 := 42) (m2 := 2541) (n' := 120) dX0_init_19 wk_arr_int (Nat.le_of_ble_eq_true rfl) (by decide) (by decide) rfl rfl rfl (Nat.le_of_ble_eq_true rfl) (Nat.le_of_ble_eq_true rfl) ?_
  refine tb_putR (pc := 21) (rs := [none, none, some 78, none, none, none, none]) (rs2 := [none, none, some 78, some 119, none, none, none]) dX0_init_21 rfl ff_X0_18 rfl (by decide) (by decide) (by decide) (by decide) rfl rfl ?_
  refine tb_aload_n (pc := 24) dX0_init_24 rfl rfl ?_
  refine tb_iconst (pc := 25) (v := 4) dX0_init_25 (by decide) ?_
  refine tb_newa (pc := 26) (len := 4) (m1 := 43) (m2 := 2545) (n' := 121) dX0_init_26 wk_arr_int (Nat.le_of_ble_eq_true rfl) (by decide) (by decide) rfl rfl rfl (Nat.le_of_ble_eq_true rfl) (Nat.le_of_ble_eq_true rfl) ?_
  refine tb_putR (pc := 28) (rs := [none, none, some 78, some 119, none, none, none]) (rs2 := [none, none, some 78, some 119, some 120, none, none]) dX0_init_28 rfl ff_X0_22 rfl (by decide) (by decide) (by decide) (by decide) rfl rfl ?_
  refine tb_aload_n (pc := 31) dX0_init_31 rfl rfl ?_
  refine tb_iconst (pc := 32) (v := 0) dX0_init_32 (by decide) ?_
  refine tb_putI (pc := 33) dX0_init_33 fl_X0_25 rfl (by decide) (by decide) rfl ?_
  refine tb_aload_n (pc := 36) dX0_init_36 rfl rfl ?_
  refine tb_iconst (pc := 37) (v := 0) dX0_init_37 (by decide) ?_
  refine tb_putI (pc := 38) dX0_init_38 fl_X0_29 rfl (by decide) (by decide) rfl ?_
  refine tb_aload_n (pc := 41) dX0_init_41 rfl rfl ?_
  refine tb_aload_n (pc := 42) dX0_init_42 rfl rfl ?_
  refine tb_putR (pc := 43) (rs := [none, none, some 78, some 119, some 120, none, none]) (rs2 := [some 64, none, some 78, some 119, some 120, none, none]) dX0_init_43 rfl ff_X0_32 rfl (by decide) (by decide) (by decide) (by decide) rfl rfl ?_
  refine tb_aload_n (pc := 46) dX0_init_46 rfl rfl ?_
  refine tb_aload_n (pc := 47) dX0_init_47 rfl rfl ?_
  refine tb_putR (pc := 48) (rs := [some 64, none, some 78, some 119, some 120, none, none]) (rs2 := [some 64, some 76, some 78, some 119, some 120, none, none]) dX0_init_48 rfl ff_X0_36 rfl (by decide) (by decide) (by decide) (by decide) rfl rfl ?_
  exact tb_vret (pc := 51) dX0_init_51 rfl (Nat.le_of_ble_eq_true rfl) (Nat.le_of_ble_eq_true rfl) ⟨rfl, rfl, rfl, rfl⟩
def s_kc_mat (sh : Nat → tb_Sh) : Nat → tb_Sh := tb_sup (tb_sup (tb_sup (sh) 140 (100, 8, [])) 139 (3, 2, [none, some 140])) 139 (3, 2, [some 6, some 140])
def i_kc_mat (I : tb_I) : tb_I := tb_row (I) 140 (fun _ => 0)
set_option maxHeartbeats 4000000 in
set_option maxRecDepth 100000 in
theorem kc_mat {l : Launch} {G : tb_G} (hl : l.stackTraces = false) (sh : Nat → tb_Sh) (I : tb_I) (h139 : sh 139 = (3, 2, [none, none])) : tb_Ok l G M_X3_init 1 1 8 [.ref 139, .ref 6] 140 sh I (tb_Rd none 141 (s_kc_mat sh) (i_kc_mat I)) tb_Nx := by
  refine tb_Ok.of hl (by decide +kernel) rfl (tb_c1 rfl) (Nat.le_of_ble_eq_true rfl) ?_
  show tb_At l G M_X3_init (tb_rm 1 1 8) none _ 0 0 140 sh I 0 [some (.ref 139), some (.ref 6)] []
  refine tb_aload_n (pc := 0) dX3_init_0 rfl rfl ?_
  refine tb_objInit (pc := 1) dX3_init_1 ml_X3_3 wk_obj2 wk_obj3 (Nat.le_of_ble_eq_true rfl) (Nat.le_of_ble_eq_true rfl) ?_
  refine tb_aload_n (pc := 4) dX3_init_4 rfl rfl ?_
  refine tb_bipush (pc := 5) (v := 8) dX3_init_5 (by decide) ?_
  refine tb_newa (pc := 7) (len := 8) (m1 := 1) (m2 := 8) (n' := 141) dX3_init_7 wk_arr_int (Nat.le_of_ble_eq_true rfl) (by decide) (by decide) rfl rfl rfl (Nat.le_of_ble_eq_true rfl) (Nat.le_of_ble_eq_true rfl) ?_
  refine tb_putR (pc := 9) (rs := [none, none]) (rs2 := [none, some 140]) dX3_init_9 rfl ff_X3_9 h139 (by decide) (by decide) (by decide) (by decide) rfl rfl ?_
  refine tb_aload_n (pc := 12) dX3_init_12 rfl rfl ?_
  refine tb_aload_n (pc := 13) dX3_init_13 rfl rfl ?_
  refine tb_putR (pc := 14) (rs := [none, some 140]) (rs2 := [some 6, some 140]) dX3_init_14 rfl ff_X3_15 rfl (by decide) (by decide) (by decide) (by decide) rfl rfl ?_
  exact tb_vret (pc := 17) dX3_init_17 rfl (Nat.le_of_ble_eq_true rfl) (Nat.le_of_ble_eq_true rfl) ⟨rfl, rfl, rfl, rfl⟩
def s_kc_mak (sh : Nat → tb_Sh) : Nat → tb_Sh := tb_sup (tb_sup (tb_sup (tb_sup (tb_sup (tb_sup (tb_sup (sh) 142 (100, 8, [])) 141 (2, 6, [none, some 142, none, none, none, none])) 143 (100, 8, [])) 141 (2, 6, [none, some 142, some 143, none, none, none])) 144 (100, 8, [])) 141 (2, 6, [none, some 142, some 143, some 144, none, none])) 141 (2, 6, [some 6, some 142, some 143, some 144, none, none])
def i_kc_mak (I : tb_I) : tb_I := tb_up (tb_up (tb_row (tb_row (tb_row (I) 142 (fun _ => 0)) 143 (fun _ => 0)) 144 (fun _ => 0)) 141 4 0) 141 5 0
set_option maxHeartbeats 4000000 in
set_option maxRecDepth 100000 in
theorem kc_mak {l : Launch} {G : tb_G} (hl : l.stackTraces = false) (sh : Nat → tb_Sh) (I : tb_I) (h141 : sh 141 = (2, 6, [none, none, none, none, none, none])) : tb_Ok l G M_X2_init 1 3 24 [.ref 141, .ref 6] 142 sh I (tb_Rd none 145 (s_kc_mak sh) (i_kc_mak I)) tb_Nx := by
  refine tb_Ok.of hl (by decide +kernel) rfl (tb_c1 rfl) (Nat.le_of_ble_eq_true rfl) ?_
  show tb_At l G M_X2_init (tb_rm 1 3 24) none _ 0 0 142 sh I 0 [some (.ref 141), some (.ref 6)] []
  refine tb_aload_n (pc := 0) dX2_init_0 rfl rfl ?_
  refine tb_objInit (pc := 1) dX2_init_1 ml_X2_3 wk_obj2 wk_obj3 (Nat.le_of_ble_eq_true rfl) (Nat.le_of_ble_eq_true rfl) ?_
  refine tb_aload_n (pc := 4) dX2_init_4 rfl rfl ?_
  refine tb_bipush (pc := 5) (v := 8) dX2_init_5 (by decide) ?_
  refine tb_newa (pc := 7) (len := 8) (m1 := 1) (m2 := 8) (n' := 143) dX2_init_7 wk_arr_int (Nat.le_of_ble_eq_true rfl) (by decide) (by decide) rfl rfl rfl (Nat.le_of_ble_eq_true rfl) (Nat.le_of_ble_eq_true rfl) ?_
  refine tb_putR (pc := 9) (rs := [none, none, none, none, none, none]) (rs2 := [none, some 142, none, none, none, none]) dX2_init_9 rfl ff_X2_9 h141 (by decide) (by decide) (by decide) (by decide) rfl rfl ?_
  refine tb_aload_n (pc := 12) dX2_init_12 rfl rfl ?_
  refine tb_bipush (pc := 13) (v := 8) dX2_init_13 (by decide) ?_
  refine tb_newa (pc := 15) (len := 8) (m1 := 2) (m2 := 16) (n' := 144) dX2_init_15 wk_arr_int (Nat.le_of_ble_eq_true rfl) (by decide) (by decide) rfl rfl rfl (Nat.le_of_ble_eq_true rfl) (Nat.le_of_ble_eq_true rfl) ?_
  refine tb_putR (pc := 17) (rs := [none, some 142, none, none, none, none]) (rs2 := [none, some 142, some 143, none, none, none]) dX2_init_17 rfl ff_X2_15 rfl (by decide) (by decide) (by decide) (by decide) rfl rfl ?_
  refine tb_aload_n (pc := 20) dX2_init_20 rfl rfl ?_
  refine tb_bipush (pc := 21) (v := 8) dX2_init_21 (by decide) ?_
  refine tb_newa (pc := 23) (len := 8) (m1 := 3) (m2 := 24) (n' := 145) dX2_init_23 wk_arr_int (Nat.le_of_ble_eq_true rfl) (by decide) (by decide) rfl rfl rfl (Nat.le_of_ble_eq_true rfl) (Nat.le_of_ble_eq_true rfl) ?_
  refine tb_putR (pc := 25) (rs := [none, some 142, some 143, none, none, none]) (rs2 := [none, some 142, some 143, some 144, none, none]) dX2_init_25 rfl ff_X2_18 rfl (by decide) (by decide) (by decide) (by decide) rfl rfl ?_
  refine tb_aload_n (pc := 28) dX2_init_28 rfl rfl ?_
  refine tb_iconst (pc := 29) (v := 0) dX2_init_29 (by decide) ?_
  refine tb_putI (pc := 30) dX2_init_30 fl_X2_21 rfl (by decide) (by decide) rfl ?_
  refine tb_aload_n (pc := 33) dX2_init_33 rfl rfl ?_
  refine tb_iconst (pc := 34) (v := 0) dX2_init_34 (by decide) ?_
  refine tb_putI (pc := 35) dX2_init_35 fl_X2_25 rfl (by decide) (by decide) rfl ?_
  refine tb_aload_n (pc := 38) dX2_init_38 rfl rfl ?_
  refine tb_aload_n (pc := 39) dX2_init_39 rfl rfl ?_
  refine tb_putR (pc := 40) (rs := [none, some 142, some 143, some 144, none, none]) (rs2 := [some 6, some 142, some 143, some 144, none, none]) dX2_init_40 rfl ff_X2_28 rfl (by decide) (by decide) (by decide) (by decide) rfl rfl ?_
  exact tb_vret (pc := 43) dX2_init_43 rfl (Nat.le_of_ble_eq_true rfl) (Nat.le_of_ble_eq_true rfl) ⟨rfl, rfl, rfl, rfl⟩
def s_kc_uni (sh : Nat → tb_Sh) : Nat → tb_Sh := tb_sup (tb_sup (tb_sup (tb_sup (tb_sup (tb_sup (tb_sup (tb_sup (tb_sup (tb_sup (tb_sup (tb_sup (tb_sup (tb_sup (tb_sup (tb_sup (tb_sup (tb_sup (tb_sup (sh) 146 (100, 800, [])) 145 (10, 12, [none, some 146, none, none, none, none, none, none, none, none, none, none])) 147 (100, 800, [])) 145 (10, 12, [none, some 146, some 147, none, none, none, none, none, none, none, none, none])) 148 (100, 800, [])) 145 (10, 12, [none, some 146, some 147, some 148, none, none, none, none, none, none, none, none])) 149 (100, 800, [])) 145 (10, 12, [none, some 146, some 147, some 148, some 149, none, none, none, none, none, none, none])) 150 (100, 800, [])) 145 (10, 12, [none, some 146, some 147, some 148, some 149, some 150, none, none, none, none, none, none])) 151 (100, 2401, [])) 145 (10, 12, [none, some 146, some 147, some 148, some 149, some 150, some 151, none, none, none, none, none])) 152 (100, 2401, [])) 145 (10, 12, [none, some 146, some 147, some 148, some 149, some 150, some 151, some 152, none, none, none, none])) 153 (100, 800, [])) 145 (10, 12, [none, some 146, some 147, some 148, some 149, some 150, some 151, some 152, some 153, none, none, none])) 154 (100, 800, [])) 145 (10, 12, [none, some 146, some 147, some 148, some 149, some 150, some 151, some 152, some 153, some 154, none, none])) 145 (10, 12, [some 6, some 146, some 147, some 148, some 149, some 150, some 151, some 152, some 153, some 154, none, none])
def i_kc_uni (I : tb_I) : tb_I := tb_up (tb_up (tb_row (tb_row (tb_row (tb_row (tb_row (tb_row (tb_row (tb_row (tb_row (I) 146 (fun _ => 0)) 147 (fun _ => 0)) 148 (fun _ => 0)) 149 (fun _ => 0)) 150 (fun _ => 0)) 151 (fun _ => 0)) 152 (fun _ => 0)) 153 (fun _ => 0)) 154 (fun _ => 0)) 145 10 0) 145 11 0
set_option maxHeartbeats 4000000 in
set_option maxRecDepth 100000 in
theorem kc_uni {l : Launch} {G : tb_G} (hl : l.stackTraces = false) (sh : Nat → tb_Sh) (I : tb_I) (h145 : sh 145 = (10, 12, [none, none, none, none, none, none, none, none, none, none, none, none])) : tb_Ok l G M_X10_init 1 9 10402 [.ref 145, .ref 6] 146 sh I (tb_Rd none 155 (s_kc_uni sh) (i_kc_uni I)) tb_Nx := by
  refine tb_Ok.of hl (by decide +kernel) rfl (tb_c1 rfl) (Nat.le_of_ble_eq_true rfl) ?_
  show tb_At l G M_X10_init (tb_rm 1 9 10402) none _ 0 0 146 sh I 0 [some (.ref 145), some (.ref 6)] []
  refine tb_aload_n (pc := 0) dX10_init_0 rfl rfl ?_
  refine tb_objInit (pc := 1) dX10_init_1 ml_X10_3 wk_obj2 wk_obj3 (Nat.le_of_ble_eq_true rfl) (Nat.le_of_ble_eq_true rfl) ?_
  refine tb_aload_n (pc := 4) dX10_init_4 rfl rfl ?_
  refine tb_sipush (pc := 5) (v := 800) dX10_init_5 (by decide) ?_
  refine tb_newa (pc := 8) (len := 800) (m1 := 1) (m2 := 800) (n' := 147) dX10_init_8 wk_arr_int (Nat.le_of_ble_eq_true rfl) (by decide) (by decide) rfl rfl rfl (Nat.le_of_ble_eq_true rfl) (Nat.le_of_ble_eq_true rfl) ?_
  refine tb_putR (pc := 10) (rs := [none, none, none, none, none, none, none, none, none, none, none, none]) (rs2 := [none, some 146, none, none, none, none, none, none, none, none, none, none]) dX10_init_10 rfl ff_X10_11 h145 (by decide) (by decide) (by decide) (by decide) rfl rfl ?_
  refine tb_aload_n (pc := 13) dX10_init_13 rfl rfl ?_
  refine tb_sipush (pc := 14) (v := 800) dX10_init_14 (by decide) ?_
  refine tb_newa (pc := 17) (len := 800) (m1 := 2) (m2 := 1600) (n' := 148) dX10_init_17 wk_arr_int (Nat.le_of_ble_eq_true rfl) (by decide) (by decide) rfl rfl rfl (Nat.le_of_ble_eq_true rfl) (Nat.le_of_ble_eq_true rfl) ?_
  refine tb_putR (pc := 19) (rs := [none, some 146, none, none, none, none, none, none, none, none, none, none]) (rs2 := [none, some 146, some 147, none, none, none, none, none, none, none, none, none]) dX10_init_19 rfl ff_X10_15 rfl (by decide) (by decide) (by decide) (by decide) rfl rfl ?_
  refine tb_aload_n (pc := 22) dX10_init_22 rfl rfl ?_
  refine tb_sipush (pc := 23) (v := 800) dX10_init_23 (by decide) ?_
  refine tb_newa (pc := 26) (len := 800) (m1 := 3) (m2 := 2400) (n' := 149) dX10_init_26 wk_arr_int (Nat.le_of_ble_eq_true rfl) (by decide) (by decide) rfl rfl rfl (Nat.le_of_ble_eq_true rfl) (Nat.le_of_ble_eq_true rfl) ?_
  refine tb_putR (pc := 28) (rs := [none, some 146, some 147, none, none, none, none, none, none, none, none, none]) (rs2 := [none, some 146, some 147, some 148, none, none, none, none, none, none, none, none]) dX10_init_28 rfl ff_X10_18 rfl (by decide) (by decide) (by decide) (by decide) rfl rfl ?_
  refine tb_aload_n (pc := 31) dX10_init_31 rfl rfl ?_
  refine tb_sipush (pc := 32) (v := 800) dX10_init_32 (by decide) ?_
  refine tb_newa (pc := 35) (len := 800) (m1 := 4) (m2 := 3200) (n' := 150) dX10_init_35 wk_arr_int (Nat.le_of_ble_eq_true rfl) (by decide) (by decide) rfl rfl rfl (Nat.le_of_ble_eq_true rfl) (Nat.le_of_ble_eq_true rfl) ?_
  refine tb_putR (pc := 37) (rs := [none, some 146, some 147, some 148, none, none, none, none, none, none, none, none]) (rs2 := [none, some 146, some 147, some 148, some 149, none, none, none, none, none, none, none]) dX10_init_37 rfl ff_X10_21 rfl (by decide) (by decide) (by decide) (by decide) rfl rfl ?_
  refine tb_aload_n (pc := 40) dX10_init_40 rfl rfl ?_
  refine tb_sipush (pc := 41) (v := 800) dX10_init_41 (by decide) ?_
  refine tb_newa (pc := 44) (len := 800) (m1 := 5) (m2 := 4000) (n' := 151) dX10_init_44 wk_arr_int (Nat.le_of_ble_eq_true rfl) (by decide) (by decide) rfl rfl rfl (Nat.le_of_ble_eq_true rfl) (Nat.le_of_ble_eq_true rfl) ?_
  refine tb_putR (pc := 46) (rs := [none, some 146, some 147, some 148, some 149, none, none, none, none, none, none, none]) (rs2 := [none, some 146, some 147, some 148, some 149, some 150, none, none, none, none, none, none]) dX10_init_46 rfl ff_X10_24 rfl (by decide) (by decide) (by decide) (by decide) rfl rfl ?_
  refine tb_aload_n (pc := 49) dX10_init_49 rfl rfl ?_
  refine tb_sipush (pc := 50) (v := 2401) dX10_init_50 (by decide) ?_
  refine tb_newa (pc := 53) (len := 2401) (m1 := 6) (m2 := 6401) (n' := 152) dX10_init_53 wk_arr_int (Nat.le_of_ble_eq_true rfl) (by decide) (by decide) rfl rfl rfl (Nat.le_of_ble_eq_true rfl) (Nat.le_of_ble_eq_true rfl) ?_
  refine tb_putR (pc := 55) (rs := [none, some 146, some 147, some 148, some 149, some 150, none, none, none, none, none, none]) (rs2 := [none, some 146, some 147, some 148, some 149, some 150, some 151, none, none, none, none, none]) dX10_init_55 rfl ff_X10_27 rfl (by decide) (by decide) (by decide) (by decide) rfl rfl ?_
  refine tb_aload_n (pc := 58) dX10_init_58 rfl rfl ?_
  refine tb_sipush (pc := 59) (v := 2401) dX10_init_59 (by decide) ?_
  refine tb_newa (pc := 62) (len := 2401) (m1 := 7) (m2 := 8802) (n' := 153) dX10_init_62 wk_arr_int (Nat.le_of_ble_eq_true rfl) (by decide) (by decide) rfl rfl rfl (Nat.le_of_ble_eq_true rfl) (Nat.le_of_ble_eq_true rfl) ?_
  refine tb_putR (pc := 64) (rs := [none, some 146, some 147, some 148, some 149, some 150, some 151, none, none, none, none, none]) (rs2 := [none, some 146, some 147, some 148, some 149, some 150, some 151, some 152, none, none, none, none]) dX10_init_64 rfl ff_X10_30 rfl (by decide) (by decide) (by decide) (by decide) rfl rfl ?_
  refine tb_aload_n (pc := 67) dX10_init_67 rfl rfl ?_
  refine tb_sipush (pc := 68) (v := 800) dX10_init_68 (by decide) ?_
  refine tb_newa (pc := 71) (len := 800) (m1 := 8) (m2 := 9602) (n' := 154) dX10_init_71 wk_arr_int (Nat.le_of_ble_eq_true rfl) (by decide) (by decide) rfl rfl rfl (Nat.le_of_ble_eq_true rfl) (Nat.le_of_ble_eq_true rfl) ?_
  refine tb_putR (pc := 73) (rs := [none, some 146, some 147, some 148, some 149, some 150, some 151, some 152, none, none, none, none]) (rs2 := [none, some 146, some 147, some 148, some 149, some 150, some 151, some 152, some 153, none, none, none]) dX10_init_73 rfl ff_X10_33 rfl (by decide) (by decide) (by decide) (by decide) rfl rfl ?_
  refine tb_aload_n (pc := 76) dX10_init_76 rfl rfl ?_
  refine tb_sipush (pc := 77) (v := 800) dX10_init_77 (by decide) ?_
  refine tb_newa (pc := 80) (len := 800) (m1 := 9) (m2 := 10402) (n' := 155) dX10_init_80 wk_arr_int (Nat.le_of_ble_eq_true rfl) (by decide) (by decide) rfl rfl rfl (Nat.le_of_ble_eq_true rfl) (Nat.le_of_ble_eq_true rfl) ?_
  refine tb_putR (pc := 82) (rs := [none, some 146, some 147, some 148, some 149, some 150, some 151, some 152, some 153, none, none, none]) (rs2 := [none, some 146, some 147, some 148, some 149, some 150, some 151, some 152, some 153, some 154, none, none]) dX10_init_82 rfl ff_X10_36 rfl (by decide) (by decide) (by decide) (by decide) rfl rfl ?_
  refine tb_aload_n (pc := 85) dX10_init_85 rfl rfl ?_
  refine tb_iconst (pc := 86) (v := 0) dX10_init_86 (by decide) ?_
  refine tb_putI (pc := 87) dX10_init_87 fl_X10_39 rfl (by decide) (by decide) rfl ?_
  refine tb_aload_n (pc := 90) dX10_init_90 rfl rfl ?_
  refine tb_iconst (pc := 91) (v := 0) dX10_init_91 (by decide) ?_
  refine tb_putI (pc := 92) dX10_init_92 fl_X10_43 rfl (by decide) (by decide) rfl ?_
  refine tb_aload_n (pc := 95) dX10_init_95 rfl rfl ?_
  refine tb_aload_n (pc := 96) dX10_init_96 rfl rfl ?_
  refine tb_putR (pc := 97) (rs := [none, some 146, some 147, some 148, some 149, some 150, some 151, some 152, some 153, some 154, none, none]) (rs2 := [some 6, some 146, some 147, some 148, some 149, some 150, some 151, some 152, some 153, some 154, none, none]) dX10_init_97 rfl ff_X10_46 rfl (by decide) (by decide) (by decide) (by decide) rfl rfl ?_
  exact tb_vret (pc := 100) dX10_init_100 rfl (Nat.le_of_ble_eq_true rfl) (Nat.le_of_ble_eq_true rfl) ⟨rfl, rfl, rfl, rfl⟩
def s_kc_ord (sh : Nat → tb_Sh) : Nat → tb_Sh := tb_sup (tb_sup (tb_sup (sh) 157 (100, 8, [])) 156 (4, 5, [none, some 157, none, none, none])) 156 (4, 5, [some 6, some 157, none, none, none])
def i_kc_ord (I : tb_I) : tb_I := tb_up (tb_up (tb_up (tb_row (I) 157 (fun _ => 0)) 156 2 0) 156 3 (-1)) 156 4 0
set_option maxHeartbeats 4000000 in
set_option maxRecDepth 100000 in
theorem kc_ord {l : Launch} {G : tb_G} (hl : l.stackTraces = false) (sh : Nat → tb_Sh) (I : tb_I) (h156 : sh 156 = (4, 5, [none, none, none, none, none])) : tb_Ok l G M_X4_init 1 1 8 [.ref 156, .ref 6] 157 sh I (tb_Rd none 158 (s_kc_ord sh) (i_kc_ord I)) tb_Nx := by
  refine tb_Ok.of hl (by decide +kernel) rfl (tb_c1 rfl) (Nat.le_of_ble_eq_true rfl) ?_
  show tb_At l G M_X4_init (tb_rm 1 1 8) none _ 0 0 157 sh I 0 [some (.ref 156), some (.ref 6)] []
  refine tb_aload_n (pc := 0) dX4_init_0 rfl rfl ?_
  refine tb_objInit (pc := 1) dX4_init_1 ml_X4_3 wk_obj2 wk_obj3 (Nat.le_of_ble_eq_true rfl) (Nat.le_of_ble_eq_true rfl) ?_
  refine tb_aload_n (pc := 4) dX4_init_4 rfl rfl ?_
  refine tb_bipush (pc := 5) (v := 8) dX4_init_5 (by decide) ?_
  refine tb_newa (pc := 7) (len := 8) (m1 := 1) (m2 := 8) (n' := 158) dX4_init_7 wk_arr_int (Nat.le_of_ble_eq_true rfl) (by decide) (by decide) rfl rfl rfl (Nat.le_of_ble_eq_true rfl) (Nat.le_of_ble_eq_true rfl) ?_
  refine tb_putR (pc := 9) (rs := [none, none, none, none, none]) (rs2 := [none, some 157, none, none, none]) dX4_init_9 rfl ff_X4_9 h156 (by decide) (by decide) (by decide) (by decide) rfl rfl ?_
  refine tb_aload_n (pc := 12) dX4_init_12 rfl rfl ?_
  refine tb_iconst (pc := 13) (v := 0) dX4_init_13 (by decide) ?_
  refine tb_putI (pc := 14) dX4_init_14 fl_X4_15 rfl (by decide) (by decide) rfl ?_
  refine tb_aload_n (pc := 17) dX4_init_17 rfl rfl ?_
  refine tb_iconst (pc := 18) (v := (-1)) dX4_init_18 (by decide) ?_
  refine tb_putI (pc := 19) dX4_init_19 fl_X4_19 rfl (by decide) (by decide) rfl ?_
  refine tb_aload_n (pc := 22) dX4_init_22 rfl rfl ?_
  refine tb_iconst (pc := 23) (v := 0) dX4_init_23 (by decide) ?_
  refine tb_putI (pc := 24) dX4_init_24 fl_X4_22 rfl (by decide) (by decide) rfl ?_
  refine tb_aload_n (pc := 27) dX4_init_27 rfl rfl ?_
  refine tb_aload_n (pc := 28) dX4_init_28 rfl rfl ?_
  refine tb_putR (pc := 29) (rs := [none, some 157, none, none, none]) (rs2 := [some 6, some 157, none, none, none]) dX4_init_29 rfl ff_X4_25 rfl (by decide) (by decide) (by decide) (by decide) rfl rfl ?_
  exact tb_vret (pc := 32) dX4_init_32 rfl (Nat.le_of_ble_eq_true rfl) (Nat.le_of_ble_eq_true rfl) ⟨rfl, rfl, rfl, rfl⟩
def s_kc_rul (sh : Nat → tb_Sh) : Nat → tb_Sh := tb_sup (tb_sup (tb_sup (tb_sup (tb_sup (sh) 155 (7, 5, [some 5, none, none, none, none])) 155 (7, 5, [some 5, some 6, none, none, none])) 155 (7, 5, [some 5, some 6, some 139, none, none])) 155 (7, 5, [some 5, some 6, some 139, some 145, none])) 155 (7, 5, [some 5, some 6, some 139, some 145, some 156])
def i_kc_rul (I : tb_I) : tb_I := I
set_option maxHeartbeats 4000000 in
set_option maxRecDepth 100000 in
theorem kc_rul {l : Launch} {G : tb_G} (hl : l.stackTraces = false) (sh : Nat → tb_Sh) (I : tb_I) (h155 : sh 155 = (7, 5, [none, none, none, none, none])) (h5 : sh 5 = (0, 7, [some 6, some 18, some 20, some 61, some 62, none, none])) : tb_Ok l G M_X7_init 1 0 0 [.ref 155, .ref 5, .ref 139, .ref 145, .ref 156] 158 sh I (tb_Rd none 158 (s_kc_rul sh) (i_kc_rul I)) tb_Nx := by
  refine tb_Ok.of hl (by decide +kernel) rfl (tb_c1 rfl) (Nat.le_of_ble_eq_true rfl) ?_
  show tb_At l G M_X7_init (tb_rm 1 0 0) none _ 0 0 158 sh I 0 [some (.ref 155), some (.ref 5), some (.ref 139), some (.ref 145), some (.ref 156)] []
  refine tb_aload_n (pc := 0) dX7_init_0 rfl rfl ?_
  refine tb_objInit (pc := 1) dX7_init_1 ml_X7_3 wk_obj2 wk_obj3 (Nat.le_of_ble_eq_true rfl) (Nat.le_of_ble_eq_true rfl) ?_
  refine tb_aload_n (pc := 4) dX7_init_4 rfl rfl ?_
  refine tb_aload_n (pc := 5) dX7_init_5 rfl rfl ?_
  refine tb_putR (pc := 6) (rs := [none, none, none, none, none]) (rs2 := [some 5, none, none, none, none]) dX7_init_6 rfl ff_X7_9 h155 (by decide) (by decide) (by decide) (by decide) rfl rfl ?_
  refine tb_aload_n (pc := 9) dX7_init_9 rfl rfl ?_
  refine tb_aload_n (pc := 10) dX7_init_10 rfl rfl ?_
  refine tb_getR (pc := 11) (rs := [some 6, some 18, some 20, some 61, some 62, none, none]) dX7_init_11 fl_X7_15 h5 (by decide) (by decide) rfl rfl ?_
  refine tb_putR (pc := 14) (rs := [some 5, none, none, none, none]) (rs2 := [some 5, some 6, none, none, none]) dX7_init_14 rfl ff_X7_21 rfl (by decide) (by decide) (by decide) (by decide) rfl rfl ?_
  refine tb_aload_n (pc := 17) dX7_init_17 rfl rfl ?_
  refine tb_aload_n (pc := 18) dX7_init_18 rfl rfl ?_
  refine tb_putR (pc := 19) (rs := [some 5, some 6, none, none, none]) (rs2 := [some 5, some 6, some 139, none, none]) dX7_init_19 rfl ff_X7_22 rfl (by decide) (by decide) (by decide) (by decide) rfl rfl ?_
  refine tb_aload_n (pc := 22) dX7_init_22 rfl rfl ?_
  refine tb_aload_n (pc := 23) dX7_init_23 rfl rfl ?_
  refine tb_putR (pc := 24) (rs := [some 5, some 6, some 139, none, none]) (rs2 := [some 5, some 6, some 139, some 145, none]) dX7_init_24 rfl ff_X7_26 rfl (by decide) (by decide) (by decide) (by decide) rfl rfl ?_
  refine tb_aload_n (pc := 27) dX7_init_27 rfl rfl ?_
  refine tb_aload (pc := 28) dX7_init_28 rfl ?_
  refine tb_putR (pc := 30) (rs := [some 5, some 6, some 139, some 145, none]) (rs2 := [some 5, some 6, some 139, some 145, some 156]) dX7_init_30 rfl ff_X7_30 rfl (by decide) (by decide) (by decide) (by decide) rfl rfl ?_
  exact tb_vret (pc := 33) dX7_init_33 rfl (Nat.le_of_ble_eq_true rfl) (Nat.le_of_ble_eq_true rfl) ⟨rfl, rfl, rfl, rfl⟩
def s_kc_rew (sh : Nat → tb_Sh) : Nat → tb_Sh := tb_sup (tb_sup (tb_sup (tb_sup (tb_sup (tb_sup (tb_sup (tb_sup (tb_sup (tb_sup (sh) 159 (100, 612, [])) 158 (6, 9, [none, none, none, none, some 159, none, none, none, none])) 160 (100, 612, [])) 158 (6, 9, [none, none, none, none, some 159, some 160, none, none, none])) 161 (100, 1836, [])) 158 (6, 9, [none, none, none, none, some 159, some 160, some 161, none, none])) 158 (6, 9, [some 5, none, none, none, some 159, some 160, some 161, none, none])) 158 (6, 9, [some 5, some 6, none, none, some 159, some 160, some 161, none, none])) 158 (6, 9, [some 5, some 6, some 139, none, some 159, some 160, some 161, none, none])) 158 (6, 9, [some 5, some 6, some 139, some 141, some 159, some 160, some 161, none, none])
def i_kc_rew (I : tb_I) : tb_I := tb_up (tb_up (tb_row (tb_row (tb_row (I) 159 (fun _ => 0)) 160 (fun _ => 0)) 161 (fun _ => 0)) 158 7 0) 158 8 0
set_option maxHeartbeats 4000000 in
set_option maxRecDepth 100000 in
theorem kc_rew {l : Launch} {G : tb_G} (hl : l.stackTraces = false) (sh : Nat → tb_Sh) (I : tb_I) (h158 : sh 158 = (6, 9, [none, none, none, none, none, none, none, none, none])) (h5 : sh 5 = (0, 7, [some 6, some 18, some 20, some 61, some 62, none, none])) : tb_Ok l G M_X6_init 1 3 3060 [.ref 158, .ref 5, .ref 139, .ref 141] 159 sh I (tb_Rd none 162 (s_kc_rew sh) (i_kc_rew I)) tb_Nx := by
  refine tb_Ok.of hl (by decide +kernel) rfl (tb_c1 rfl) (Nat.le_of_ble_eq_true rfl) ?_
  show tb_At l G M_X6_init (tb_rm 1 3 3060) none _ 0 0 159 sh I 0 [some (.ref 158), some (.ref 5), some (.ref 139), some (.ref 141)] []
  refine tb_aload_n (pc := 0) dX6_init_0 rfl rfl ?_
  refine tb_objInit (pc := 1) dX6_init_1 ml_X6_3 wk_obj2 wk_obj3 (Nat.le_of_ble_eq_true rfl) (Nat.le_of_ble_eq_true rfl) ?_
  refine tb_aload_n (pc := 4) dX6_init_4 rfl rfl ?_
  refine tb_sipush (pc := 5) (v := 612) dX6_init_5 (by decide) ?_
  refine tb_newa (pc := 8) (len := 612) (m1 := 1) (m2 := 612) (n' := 160) dX6_init_8 wk_arr_int (Nat.le_of_ble_eq_true rfl) (by decide) (by decide) rfl rfl rfl (Nat.le_of_ble_eq_true rfl) (Nat.le_of_ble_eq_true rfl) ?_
  refine tb_putR (pc := 10) (rs := [none, none, none, none, none, none, none, none, none]) (rs2 := [none, none, none, none, some 159, none, none, none, none]) dX6_init_10 rfl ff_X6_11 h158 (by decide) (by decide) (by decide) (by decide) rfl rfl ?_
  refine tb_aload_n (pc := 13) dX6_init_13 rfl rfl ?_
  refine tb_sipush (pc := 14) (v := 612) dX6_init_14 (by decide) ?_
  refine tb_newa (pc := 17) (len := 612) (m1 := 2) (m2 := 1224) (n' := 161) dX6_init_17 wk_arr_int (Nat.le_of_ble_eq_true rfl) (by decide) (by decide) rfl rfl rfl (Nat.le_of_ble_eq_true rfl) (Nat.le_of_ble_eq_true rfl) ?_
  refine tb_putR (pc := 19) (rs := [none, none, none, none, some 159, none, none, none, none]) (rs2 := [none, none, none, none, some 159, some 160, none, none, none]) dX6_init_19 rfl ff_X6_15 rfl (by decide) (by decide) (by decide) (by decide) rfl rfl ?_
  refine tb_aload_n (pc := 22) dX6_init_22 rfl rfl ?_
  refine tb_sipush (pc := 23) (v := 1836) dX6_init_23 (by decide) ?_
  refine tb_newa (pc := 26) (len := 1836) (m1 := 3) (m2 := 3060) (n' := 162) dX6_init_26 wk_arr_int (Nat.le_of_ble_eq_true rfl) (by decide) (by decide) rfl rfl rfl (Nat.le_of_ble_eq_true rfl) (Nat.le_of_ble_eq_true rfl) ?_
  refine tb_putR (pc := 28) (rs := [none, none, none, none, some 159, some 160, none, none, none]) (rs2 := [none, none, none, none, some 159, some 160, some 161, none, none]) dX6_init_28 rfl ff_X6_18 rfl (by decide) (by decide) (by decide) (by decide) rfl rfl ?_
  refine tb_aload_n (pc := 31) dX6_init_31 rfl rfl ?_
  refine tb_iconst (pc := 32) (v := 0) dX6_init_32 (by decide) ?_
  refine tb_putI (pc := 33) dX6_init_33 fl_X6_21 rfl (by decide) (by decide) rfl ?_
  refine tb_aload_n (pc := 36) dX6_init_36 rfl rfl ?_
  refine tb_iconst (pc := 37) (v := 0) dX6_init_37 (by decide) ?_
  refine tb_putI (pc := 38) dX6_init_38 fl_X6_25 rfl (by decide) (by decide) rfl ?_
  refine tb_aload_n (pc := 41) dX6_init_41 rfl rfl ?_
  refine tb_aload_n (pc := 42) dX6_init_42 rfl rfl ?_
  refine tb_putR (pc := 43) (rs := [none, none, none, none, some 159, some 160, some 161, none, none]) (rs2 := [some 5, none, none, none, some 159, some 160, some 161, none, none]) dX6_init_43 rfl ff_X6_28 rfl (by decide) (by decide) (by decide) (by decide) rfl rfl ?_
  refine tb_aload_n (pc := 46) dX6_init_46 rfl rfl ?_
  refine tb_aload_n (pc := 47) dX6_init_47 rfl rfl ?_
  refine tb_getR (pc := 48) (rs := [some 6, some 18, some 20, some 61, some 62, none, none]) dX6_init_48 fl_X6_32 h5 (by decide) (by decide) rfl rfl ?_
  refine tb_putR (pc := 51) (rs := [some 5, none, none, none, some 159, some 160, some 161, none, none]) (rs2 := [some 5, some 6, none, none, some 159, some 160, some 161, none, none]) dX6_init_51 rfl ff_X6_38 rfl (by decide) (by decide) (by decide) (by decide) rfl rfl ?_
  refine tb_aload_n (pc := 54) dX6_init_54 rfl rfl ?_
  refine tb_aload_n (pc := 55) dX6_init_55 rfl rfl ?_
  refine tb_putR (pc := 56) (rs := [some 5, some 6, none, none, some 159, some 160, some 161, none, none]) (rs2 := [some 5, some 6, some 139, none, some 159, some 160, some 161, none, none]) dX6_init_56 rfl ff_X6_39 rfl (by decide) (by decide) (by decide) (by decide) rfl rfl ?_
  refine tb_aload_n (pc := 59) dX6_init_59 rfl rfl ?_
  refine tb_aload_n (pc := 60) dX6_init_60 rfl rfl ?_
  refine tb_putR (pc := 61) (rs := [some 5, some 6, some 139, none, some 159, some 160, some 161, none, none]) (rs2 := [some 5, some 6, some 139, some 141, some 159, some 160, some 161, none, none]) dX6_init_61 rfl ff_X6_43 rfl (by decide) (by decide) (by decide) (by decide) rfl rfl ?_
  exact tb_vret (pc := 64) dX6_init_64 rfl (Nat.le_of_ble_eq_true rfl) (Nat.le_of_ble_eq_true rfl) ⟨rfl, rfl, rfl, rfl⟩
def s_kc_rea (sh : Nat → tb_Sh) : Nat → tb_Sh := tb_sup (tb_sup (tb_sup (tb_sup (sh) 163 (5, 11, [some 162, none, none, none, none, none, none, none, none, none, none])) 163 (5, 11, [some 162, some 5, none, none, none, none, none, none, none, none, none])) 163 (5, 11, [some 162, some 5, some 1, none, none, none, none, none, none, none, none])) 163 (5, 11, [some 162, some 5, some 1, some 155, none, none, none, none, none, none, none])
def i_kc_rea (I : tb_I) : tb_I := tb_up (tb_up (tb_up (tb_up (tb_up (tb_up (tb_up (I) 163 4 0) 163 5 0) 163 6 0) 163 7 0) 163 8 0) 163 9 (-1)) 163 10 0
set_option maxHeartbeats 4000000 in
set_option maxRecDepth 100000 in
theorem kc_rea {l : Launch} {G : tb_G} (hl : l.stackTraces = false) (sh : Nat → tb_Sh) (I : tb_I) (h163 : sh 163 = (5, 11, [none, none, none, none, none, none, none, none, none, none, none])) (h5 : sh 5 = (0, 7, [some 6, some 18, some 20, some 61, some 62, none, none])) (h6 : sh 6 = (9, 13, [some 1, some 7, some 8, some 9, some 10, some 11, some 12, some 13, some 14, some 15, some 16, some 17, none])) : tb_Ok l G M_X5_init 1 0 0 [.ref 163, .ref 162, .ref 5, .ref 155] 164 sh I (tb_Rd none 164 (s_kc_rea sh) (i_kc_rea I)) tb_Nx := by
  refine tb_Ok.of hl (by decide +kernel) rfl (tb_c1 rfl) (Nat.le_of_ble_eq_true rfl) ?_
  show tb_At l G M_X5_init (tb_rm 1 0 0) none _ 0 0 164 sh I 0 [some (.ref 163), some (.ref 162), some (.ref 5), some (.ref 155)] []
  refine tb_aload_n (pc := 0) dX5_init_0 rfl rfl ?_
  refine tb_objInit (pc := 1) dX5_init_1 ml_X5_3 wk_obj2 wk_obj3 (Nat.le_of_ble_eq_true rfl) (Nat.le_of_ble_eq_true rfl) ?_
  refine tb_aload_n (pc := 4) dX5_init_4 rfl rfl ?_
  refine tb_iconst (pc := 5) (v := 0) dX5_init_5 (by decide) ?_
  refine tb_putI (pc := 6) dX5_init_6 fl_X5_9 h163 (by decide) (by decide) rfl ?_
  refine tb_aload_n (pc := 9) dX5_init_9 rfl rfl ?_
  refine tb_iconst (pc := 10) (v := 0) dX5_init_10 (by decide) ?_
  refine tb_putI (pc := 11) dX5_init_11 fl_X5_15 h163 (by decide) (by decide) rfl ?_
  refine tb_aload_n (pc := 14) dX5_init_14 rfl rfl ?_
  refine tb_iconst (pc := 15) (v := 0) dX5_init_15 (by decide) ?_
  refine tb_putI (pc := 16) dX5_init_16 fl_X5_18 h163 (by decide) (by decide) rfl ?_
  refine tb_aload_n (pc := 19) dX5_init_19 rfl rfl ?_
  refine tb_iconst (pc := 20) (v := 0) dX5_init_20 (by decide) ?_
  refine tb_putI (pc := 21) dX5_init_21 fl_X5_21 h163 (by decide) (by decide) rfl ?_
  refine tb_aload_n (pc := 24) dX5_init_24 rfl rfl ?_
  refine tb_iconst (pc := 25) (v := 0) dX5_init_25 (by decide) ?_
  refine tb_putI (pc := 26) dX5_init_26 fl_X5_24 h163 (by decide) (by decide) rfl ?_
  refine tb_aload_n (pc := 29) dX5_init_29 rfl rfl ?_
  refine tb_iconst (pc := 30) (v := (-1)) dX5_init_30 (by decide) ?_
  refine tb_putI (pc := 31) dX5_init_31 fl_X5_27 h163 (by decide) (by decide) rfl ?_
  refine tb_aload_n (pc := 34) dX5_init_34 rfl rfl ?_
  refine tb_iconst (pc := 35) (v := 0) dX5_init_35 (by decide) ?_
  refine tb_putZ (pc := 36) dX5_init_36 fl_X5_30 h163 (by decide) (by decide) rfl (Or.inl rfl) ?_
  refine tb_aload_n (pc := 39) dX5_init_39 rfl rfl ?_
  refine tb_aload_n (pc := 40) dX5_init_40 rfl rfl ?_
  refine tb_putR (pc := 41) (rs := [none, none, none, none, none, none, none, none, none, none, none]) (rs2 := [some 162, none, none, none, none, none, none, none, none, none, none]) dX5_init_41 rfl ff_X5_34 h163 (by decide) (by decide) (by decide) (by decide) rfl rfl ?_
  refine tb_aload_n (pc := 44) dX5_init_44 rfl rfl ?_
  refine tb_aload_n (pc := 45) dX5_init_45 rfl rfl ?_
  refine tb_putR (pc := 46) (rs := [some 162, none, none, none, none, none, none, none, none, none, none]) (rs2 := [some 162, some 5, none, none, none, none, none, none, none, none, none]) dX5_init_46 rfl ff_X5_38 rfl (by decide) (by decide) (by decide) (by decide) rfl rfl ?_
  refine tb_aload_n (pc := 49) dX5_init_49 rfl rfl ?_
  refine tb_aload_n (pc := 50) dX5_init_50 rfl rfl ?_
  refine tb_getR (pc := 51) (rs := [some 6, some 18, some 20, some 61, some 62, none, none]) dX5_init_51 fl_X5_42 h5 (by decide) (by decide) rfl rfl ?_
  refine tb_getR (pc := 54) (rs := [some 1, some 7, some 8, some 9, some 10, some 11, some 12, some 13, some 14, some 15, some 16, some 17, none]) dX5_init_54 fl_X5_48 h6 (by decide) (by decide) rfl rfl ?_
  refine tb_putR (pc := 57) (rs := [some 162, some 5, none, none, none, none, none, none, none, none, none]) (rs2 := [some 162, some 5, some 1, none, none, none, none, none, none, none, none]) dX5_init_57 rfl ff_X5_54 rfl (by decide) (by decide) (by decide) (by decide) rfl rfl ?_
  refine tb_aload_n (pc := 60) dX5_init_60 rfl rfl ?_
  refine tb_aload_n (pc := 61) dX5_init_61 rfl rfl ?_
  refine tb_putR (pc := 62) (rs := [some 162, some 5, some 1, none, none, none, none, none, none, none, none]) (rs2 := [some 162, some 5, some 1, some 155, none, none, none, none, none, none, none]) dX5_init_62 rfl ff_X5_55 rfl (by decide) (by decide) (by decide) (by decide) rfl rfl ?_
  exact tb_vret (pc := 65) dX5_init_65 rfl (Nat.le_of_ble_eq_true rfl) (Nat.le_of_ble_eq_true rfl) ⟨rfl, rfl, rfl, rfl⟩
def s_kc_tb (sh : Nat → tb_Sh) : Nat → tb_Sh := tb_sup (s_kc_rea (tb_sup (tb_sup (tb_sup (tb_sup (s_kc_rew (tb_sup (tb_sup (s_kc_rul (s_kc_ord (tb_sup (tb_sup (tb_sup (s_kc_uni (tb_sup (tb_sup (s_kc_mak (tb_sup (tb_sup (s_kc_mat (tb_sup (tb_sup (s_kc_led137 (tb_sup (tb_sup (s_kc_ter125 (tb_sup (tb_sup (s_kc_sym121 (tb_sup (tb_sup (s_kc_cor63 (s_kc_led76 (tb_sup (s_kc_ter64 (tb_sup (tb_sup (tb_sup (s_kc_cor5 (s_kc_led18 (tb_sup (s_kc_ter6 (tb_sup (tb_sup (tb_sup (s_kc_sym1 (tb_sup (sh) 1 (8, 4, List.replicate 4 none))) 0 (11, 16, [some 1, none, none, none, none, none, none, none, none, none, none, none, none, none, none, none])) 5 (0, 7, List.replicate 7 none)) 6 (9, 13, List.replicate 13 none))) 18 (1, 1, List.replicate 1 none)))) 0 (11, 16, [some 1, some 5, none, none, none, none, none, none, none, none, none, none, none, none, none, none])) 63 (0, 7, List.replicate 7 none)) 64 (9, 13, List.replicate 13 none))) 76 (1, 1, List.replicate 1 none)))) 0 (11, 16, [some 1, some 5, some 63, none, none, none, none, none, none, none, none, none, none, none, none, none])) 121 (8, 4, List.replicate 4 none))) 0 (11, 16, [some 1, some 5, some 63, some 121, none, none, none, none, none, none, none, none, none, none, none, none])) 125 (9, 13, List.replicate 13 none))) 0 (11, 16, [some 1, some 5, some 63, some 121, some 125, none, none, none, none, none, none, none, none, none, none, none])) 137 (1, 1, List.replicate 1 none))) 0 (11, 16, [some 1, some 5, some 63, some 121, some 125, some 137, none, none, none, none, none, none, none, none, none, none])) 139 (3, 2, List.replicate 2 none))) 0 (11, 16, [some 1, some 5, some 63, some 121, some 125, some 137, some 139, none, none, none, none, none, none, none, none, none])) 141 (2, 6, List.replicate 6 none))) 0 (11, 16, [some 1, some 5, some 63, some 121, some 125, some 137, some 139, some 141, none, none, none, none, none, none, none, none])) 145 (10, 12, List.replicate 12 none))) 0 (11, 16, [some 1, some 5, some 63, some 121, some 125, some 137, some 139, some 141, some 145, none, none, none, none, none, none, none])) 155 (7, 5, List.replicate 5 none)) 156 (4, 5, List.replicate 5 none)))) 0 (11, 16, [some 1, some 5, some 63, some 121, some 125, some 137, some 139, some 141, some 145, some 155, none, none, none, none, none, none])) 158 (6, 9, List.replicate 9 none))) 0 (11, 16, [some 1, some 5, some 63, some 121, some 125, some 137, some 139, some 141, some 145, some 155, some 158, none, none, none, none, none])) 162 (100, 700, [])) 0 (11, 16, [some 1, some 5, some 63, some 121, some 125, some 137, some 139, some 141, some 145, some 155, some 158, none, some 162, none, none, none])) 163 (5, 11, List.replicate 11 none))) 0 (11, 16, [some 1, some 5, some 63, some 121, some 125, some 137, some 139, some 141, some 145, some 155, some 158, some 163, some 162, none, none, none])
def i_kc_tb (I : tb_I) : tb_I := tb_up (tb_up (tb_up (i_kc_rea (tb_row (tb_row (i_kc_rew (tb_row (i_kc_rul (i_kc_ord (tb_row (tb_row (i_kc_uni (tb_row (i_kc_mak (tb_row (i_kc_mat (tb_row (i_kc_led137 (tb_row (i_kc_ter125 (tb_row (i_kc_sym121 (tb_row (i_kc_cor63 (i_kc_led76 (tb_row (i_kc_ter64 (tb_row (tb_row (i_kc_cor5 (i_kc_led18 (tb_row (i_kc_ter6 (tb_row (tb_row (i_kc_sym1 (tb_row (I) 1 (fun _ => 0))) 5 (fun _ => 0)) 6 (fun _ => 0))) 18 (fun _ => 0)))) 63 (fun _ => 0)) 64 (fun _ => 0))) 76 (fun _ => 0)))) 121 (fun _ => 0))) 125 (fun _ => 0))) 137 (fun _ => 0))) 139 (fun _ => 0))) 141 (fun _ => 0))) 145 (fun _ => 0))) 155 (fun _ => 0)) 156 (fun _ => 0)))) 158 (fun _ => 0))) 162 (fun _ => 0)) 163 (fun _ => 0))) 0 13 0) 0 14 (-1)) 0 15 0
set_option maxHeartbeats 4000000 in
set_option maxRecDepth 100000 in
theorem kc_tb {l : Launch} {G : tb_G} (hl : l.stackTraces = false) (sh : Nat → tb_Sh) (I : tb_I) (h0 : sh 0 = (11, 16, [none, none, none, none, none, none, none, none, none, none, none, none, none, none, none, none])) : tb_Ok l G M_X11_init 4 163 34853 [.ref 0] 1 sh I (tb_Rd none 164 (s_kc_tb sh) (i_kc_tb I)) tb_Nx := by
  refine tb_Ok.of hl (by decide +kernel) rfl (tb_c1 rfl) (Nat.le_of_ble_eq_true rfl) ?_
  show tb_At l G M_X11_init (tb_rm 4 163 34853) none _ 0 0 1 sh I 0 [some (.ref 0)] []
  refine tb_aload_n (pc := 0) dX11_init_0 rfl rfl ?_
  refine tb_objInit (pc := 1) dX11_init_1 ml_X11_1 wk_obj2 wk_obj3 (Nat.le_of_ble_eq_true rfl) (Nat.le_of_ble_eq_true rfl) ?_
  refine tb_aload_n (pc := 4) dX11_init_4 rfl rfl ?_
  refine tb_new (pc := 5) (m1 := 1) (m2 := 4) (n' := 2) dX11_init_5 nw_X11_7 (Nat.le_of_ble_eq_true rfl) rfl rfl rfl (Nat.le_of_ble_eq_true rfl) (Nat.le_of_ble_eq_true rfl) ?_
  refine tb_dup (pc := 8) dX11_init_8 rfl ?_
  refine tb_callIN (pc := 9) (host := "TermBank") (kc_sym1 hl _ _ rfl) (fun _ _ h => h.2.2.2.2.2.2.1) wk_sym rfl rfl cd_X8_init dX11_init_9 rfl rfl (Nat.le_of_ble_eq_true rfl) ⟨(Nat.le_of_ble_eq_true rfl), (Nat.le_of_ble_eq_true rfl)⟩ (m1 := 4) (m2 := 34) rfl rfl (Nat.le_of_ble_eq_true rfl) (Nat.le_of_ble_eq_true rfl) (fun r9 n9 sh9 I9 hq9 => ?_)
  obtain ⟨rfl, rfl, rfl, rfl⟩ := hq9
  refine tb_putR (pc := 12) (rs := [none, none, none, none, none, none, none, none, none, none, none, none, none, none, none, none]) (rs2 := [some 1, none, none, none, none, none, none, none, none, none, none, none, none, none, none, none]) dX11_init_12 rfl ff_X11_10 h0 (by decide) (by decide) (by decide) (by decide) rfl rfl ?_
  refine tb_aload_n (pc := 15) dX11_init_15 rfl rfl ?_
  refine tb_new (pc := 16) (m1 := 5) (m2 := 41) (n' := 6) dX11_init_16 nw_X11_16 (Nat.le_of_ble_eq_true rfl) rfl rfl rfl (Nat.le_of_ble_eq_true rfl) (Nat.le_of_ble_eq_true rfl) ?_
  refine tb_dup (pc := 19) dX11_init_19 rfl ?_
  refine tb_new (pc := 20) (m1 := 6) (m2 := 54) (n' := 7) dX11_init_20 nw_X11_18 (Nat.le_of_ble_eq_true rfl) rfl rfl rfl (Nat.le_of_ble_eq_true rfl) (Nat.le_of_ble_eq_true rfl) ?_
  refine tb_dup (pc := 23) dX11_init_23 rfl ?_
  refine tb_aload_n (pc := 24) dX11_init_24 rfl rfl ?_
  refine tb_getR (pc := 25) (rs := [some 1, none, none, none, none, none, none, none, none, none, none, none, none, none, none, none]) dX11_init_25 fl_X11_10 rfl (by decide) (by decide) rfl rfl ?_
  refine tb_callI (pc := 28) (kc_ter6 hl _ _ rfl) il_X11_20 dX11_init_28 rfl rfl (Nat.le_of_ble_eq_true rfl) ⟨(Nat.le_of_ble_eq_true rfl), (Nat.le_of_ble_eq_true rfl)⟩ (m1 := 17) (m2 := 5122) rfl rfl (Nat.le_of_ble_eq_true rfl) (Nat.le_of_ble_eq_true rfl) (fun r9 n9 sh9 I9 hq9 => ?_)
  obtain ⟨rfl, rfl, rfl, rfl⟩ := hq9
  refine tb_new (pc := 31) (m1 := 18) (m2 := 5123) (n' := 19) dX11_init_31 nw_X11_23 (Nat.le_of_ble_eq_true rfl) rfl rfl rfl (Nat.le_of_ble_eq_true rfl) (Nat.le_of_ble_eq_true rfl) ?_
  refine tb_dup (pc := 34) dX11_init_34 rfl ?_
  refine tb_callI (pc := 35) (kc_led18 hl _ _ rfl) il_X11_25 dX11_init_35 rfl rfl (Nat.le_of_ble_eq_true rfl) ⟨(Nat.le_of_ble_eq_true rfl), (Nat.le_of_ble_eq_true rfl)⟩ (m1 := 19) (m2 := 5184) rfl rfl (Nat.le_of_ble_eq_true rfl) (Nat.le_of_ble_eq_true rfl) (fun r9 n9 sh9 I9 hq9 => ?_)
  obtain ⟨rfl, rfl, rfl, rfl⟩ := hq9
  refine tb_callI (pc := 38) (kc_cor5 hl _ _ rfl) il_X11_26 dX11_init_38 rfl rfl (Nat.le_of_ble_eq_true rfl) ⟨(Nat.le_of_ble_eq_true rfl), (Nat.le_of_ble_eq_true rfl)⟩ (m1 := 62) (m2 := 7729) rfl rfl (Nat.le_of_ble_eq_true rfl) (Nat.le_of_ble_eq_true rfl) (fun r9 n9 sh9 I9 hq9 => ?_)
  obtain ⟨rfl, rfl, rfl, rfl⟩ := hq9
  refine tb_putR (pc := 41) (rs := [some 1, none, none, none, none, none, none, none, none, none, none, none, none, none, none, none]) (rs2 := [some 1, some 5, none, none, none, none, none, none, none, none, none, none, none, none, none, none]) dX11_init_41 rfl ff_X11_29 rfl (by decide) (by decide) (by decide) (by decide) rfl rfl ?_
  refine tb_aload_n (pc := 44) dX11_init_44 rfl rfl ?_
  refine tb_new (pc := 45) (m1 := 63) (m2 := 7736) (n' := 64) dX11_init_45 nw_X11_16 (Nat.le_of_ble_eq_true rfl) rfl rfl rfl (Nat.le_of_ble_eq_true rfl) (Nat.le_of_ble_eq_true rfl) ?_
  refine tb_dup (pc := 48) dX11_init_48 rfl ?_
  refine tb_new (pc := 49) (m1 := 64) (m2 := 7749) (n' := 65) dX11_init_49 nw_X11_18 (Nat.le_of_ble_eq_true rfl) rfl rfl rfl (Nat.le_of_ble_eq_true rfl) (Nat.le_of_ble_eq_true rfl) ?_
  refine tb_dup (pc := 52) dX11_init_52 rfl ?_
  refine tb_aload_n (pc := 53) dX11_init_53 rfl rfl ?_
  refine tb_getR (pc := 54) (rs := [some 1, some 5, none, none, none, none, none, none, none, none, none, none, none, none, none, none]) dX11_init_54 fl_X11_10 rfl (by decide) (by decide) rfl rfl ?_
  refine tb_callI (pc := 57) (kc_ter64 hl _ _ rfl) il_X11_20 dX11_init_57 rfl rfl (Nat.le_of_ble_eq_true rfl) ⟨(Nat.le_of_ble_eq_true rfl), (Nat.le_of_ble_eq_true rfl)⟩ (m1 := 75) (m2 := 12817) rfl rfl (Nat.le_of_ble_eq_true rfl) (Nat.le_of_ble_eq_true rfl) (fun r9 n9 sh9 I9 hq9 => ?_)
  obtain ⟨rfl, rfl, rfl, rfl⟩ := hq9
  refine tb_new (pc := 60) (m1 := 76) (m2 := 12818) (n' := 77) dX11_init_60 nw_X11_23 (Nat.le_of_ble_eq_true rfl) rfl rfl rfl (Nat.le_of_ble_eq_true rfl) (Nat.le_of_ble_eq_true rfl) ?_
  refine tb_dup (pc := 63) dX11_init_63 rfl ?_
  refine tb_callI (pc := 64) (kc_led76 hl _ _ rfl) il_X11_25 dX11_init_64 rfl rfl (Nat.le_of_ble_eq_true rfl) ⟨(Nat.le_of_ble_eq_true rfl), (Nat.le_of_ble_eq_true rfl)⟩ (m1 := 77) (m2 := 12879) rfl rfl (Nat.le_of_ble_eq_true rfl) (Nat.le_of_ble_eq_true rfl) (fun r9 n9 sh9 I9 hq9 => ?_)
  obtain ⟨rfl, rfl, rfl, rfl⟩ := hq9
  refine tb_callI (pc := 67) (kc_cor63 hl _ _ rfl) il_X11_26 dX11_init_67 rfl rfl (Nat.le_of_ble_eq_true rfl) ⟨(Nat.le_of_ble_eq_true rfl), (Nat.le_of_ble_eq_true rfl)⟩ (m1 := 120) (m2 := 15424) rfl rfl (Nat.le_of_ble_eq_true rfl) (Nat.le_of_ble_eq_true rfl) (fun r9 n9 sh9 I9 hq9 => ?_)
  obtain ⟨rfl, rfl, rfl, rfl⟩ := hq9
  refine tb_putR (pc := 70) (rs := [some 1, some 5, none, none, none, none, none, none, none, none, none, none, none, none, none, none]) (rs2 := [some 1, some 5, some 63, none, none, none, none, none, none, none, none, none, none, none, none, none]) dX11_init_70 rfl ff_X11_33 rfl (by decide) (by decide) (by decide) (by decide) rfl rfl ?_
  refine tb_aload_n (pc := 73) dX11_init_73 rfl rfl ?_
  refine tb_new (pc := 74) (m1 := 121) (m2 := 15428) (n' := 122) dX11_init_74 nw_X11_7 (Nat.le_of_ble_eq_true rfl) rfl rfl rfl (Nat.le_of_ble_eq_true rfl) (Nat.le_of_ble_eq_true rfl) ?_
  refine tb_dup (pc := 77) dX11_init_77 rfl ?_
  refine tb_callIN (pc := 78) (host := "TermBank") (kc_sym121 hl _ _ rfl) (fun _ _ h => h.2.2.2.2.2.2.1) wk_sym rfl rfl cd_X8_init dX11_init_78 rfl rfl (Nat.le_of_ble_eq_true rfl) ⟨(Nat.le_of_ble_eq_true rfl), (Nat.le_of_ble_eq_true rfl)⟩ (m1 := 124) (m2 := 15458) rfl rfl (Nat.le_of_ble_eq_true rfl) (Nat.le_of_ble_eq_true rfl) (fun r9 n9 sh9 I9 hq9 => ?_)
  obtain ⟨rfl, rfl, rfl, rfl⟩ := hq9
  refine tb_putR (pc := 81) (rs := [some 1, some 5, some 63, none, none, none, none, none, none, none, none, none, none, none, none, none]) (rs2 := [some 1, some 5, some 63, some 121, none, none, none, none, none, none, none, none, none, none, none, none]) dX11_init_81 rfl ff_X11_36 rfl (by decide) (by decide) (by decide) (by decide) rfl rfl ?_
  refine tb_aload_n (pc := 84) dX11_init_84 rfl rfl ?_
  refine tb_new (pc := 85) (m1 := 125) (m2 := 15471) (n' := 126) dX11_init_85 nw_X11_18 (Nat.le_of_ble_eq_true rfl) rfl rfl rfl (Nat.le_of_ble_eq_true rfl) (Nat.le_of_ble_eq_true rfl) ?_
  refine tb_dup (pc := 88) dX11_init_88 rfl ?_
  refine tb_aload_n (pc := 89) dX11_init_89 rfl rfl ?_
  refine tb_getR (pc := 90) (rs := [some 1, some 5, some 63, some 121, none, none, none, none, none, none, none, none, none, none, none, none]) dX11_init_90 fl_X11_10 rfl (by decide) (by decide) rfl rfl ?_
  refine tb_callI (pc := 93) (kc_ter125 hl _ _ rfl) il_X11_20 dX11_init_93 rfl rfl (Nat.le_of_ble_eq_true rfl) ⟨(Nat.le_of_ble_eq_true rfl), (Nat.le_of_ble_eq_true rfl)⟩ (m1 := 136) (m2 := 20539) rfl rfl (Nat.le_of_ble_eq_true rfl) (Nat.le_of_ble_eq_true rfl) (fun r9 n9 sh9 I9 hq9 => ?_)
  obtain ⟨rfl, rfl, rfl, rfl⟩ := hq9
  refine tb_putR (pc := 96) (rs := [some 1, some 5, some 63, some 121, none, none, none, none, none, none, none, none, none, none, none, none]) (rs2 := [some 1, some 5, some 63, some 121, some 125, none, none, none, none, none, none, none, none, none, none, none]) dX11_init_96 rfl ff_X11_39 rfl (by decide) (by decide) (by decide) (by decide) rfl rfl ?_
  refine tb_aload_n (pc := 99) dX11_init_99 rfl rfl ?_
  refine tb_new (pc := 100) (m1 := 137) (m2 := 20540) (n' := 138) dX11_init_100 nw_X11_23 (Nat.le_of_ble_eq_true rfl) rfl rfl rfl (Nat.le_of_ble_eq_true rfl) (Nat.le_of_ble_eq_true rfl) ?_
  refine tb_dup (pc := 103) dX11_init_103 rfl ?_
  refine tb_callI (pc := 104) (kc_led137 hl _ _ rfl) il_X11_25 dX11_init_104 rfl rfl (Nat.le_of_ble_eq_true rfl) ⟨(Nat.le_of_ble_eq_true rfl), (Nat.le_of_ble_eq_true rfl)⟩ (m1 := 138) (m2 := 20601) rfl rfl (Nat.le_of_ble_eq_true rfl) (Nat.le_of_ble_eq_true rfl) (fun r9 n9 sh9 I9 hq9 => ?_)
  obtain ⟨rfl, rfl, rfl, rfl⟩ := hq9
  refine tb_putR (pc := 107) (rs := [some 1, some 5, some 63, some 121, some 125, none, none, none, none, none, none, none, none, none, none, none]) (rs2 := [some 1, some 5, some 63, some 121, some 125, some 137, none, none, none, none, none, none, none, none, none, none]) dX11_init_107 rfl ff_X11_43 rfl (by decide) (by decide) (by decide) (by decide) rfl rfl ?_
  refine tb_aload_n (pc := 110) dX11_init_110 rfl rfl ?_
  refine tb_new (pc := 111) (m1 := 139) (m2 := 20603) (n' := 140) dX11_init_111 nw_X11_47 (Nat.le_of_ble_eq_true rfl) rfl rfl rfl (Nat.le_of_ble_eq_true rfl) (Nat.le_of_ble_eq_true rfl) ?_
  refine tb_dup (pc := 114) dX11_init_114 rfl ?_
  refine tb_aload_n (pc := 115) dX11_init_115 rfl rfl ?_
  refine tb_getR (pc := 116) (rs := [some 1, some 5, some 63, some 121, some 125, some 137, none, none, none, none, none, none, none, none, none, none]) dX11_init_116 fl_X11_29 rfl (by decide) (by decide) rfl rfl ?_
  refine tb_getR (pc := 119) (rs := [some 6, some 18, some 20, some 61, some 62, none, none]) dX11_init_119 fl_X11_49 rfl (by decide) (by decide) rfl rfl ?_
  refine tb_callI (pc := 122) (kc_mat hl _ _ rfl) il_X11_52 dX11_init_122 rfl rfl (Nat.le_of_ble_eq_true rfl) ⟨(Nat.le_of_ble_eq_true rfl), (Nat.le_of_ble_eq_true rfl)⟩ (m1 := 140) (m2 := 20611) rfl rfl (Nat.le_of_ble_eq_true rfl) (Nat.le_of_ble_eq_true rfl) (fun r9 n9 sh9 I9 hq9 => ?_)
  obtain ⟨rfl, rfl, rfl, rfl⟩ := hq9
  refine tb_putR (pc := 125) (rs := [some 1, some 5, some 63, some 121, some 125, some 137, none, none, none, none, none, none, none, none, none, none]) (rs2 := [some 1, some 5, some 63, some 121, some 125, some 137, some 139, none, none, none, none, none, none, none, none, none]) dX11_init_125 rfl ff_X11_55 rfl (by decide) (by decide) (by decide) (by decide) rfl rfl ?_
  refine tb_aload_n (pc := 128) dX11_init_128 rfl rfl ?_
  refine tb_new (pc := 129) (m1 := 141) (m2 := 20617) (n' := 142) dX11_init_129 nw_X11_59 (Nat.le_of_ble_eq_true rfl) rfl rfl rfl (Nat.le_of_ble_eq_true rfl) (Nat.le_of_ble_eq_true rfl) ?_
  refine tb_dup (pc := 132) dX11_init_132 rfl ?_
  refine tb_aload_n (pc := 133) dX11_init_133 rfl rfl ?_
  refine tb_getR (pc := 134) (rs := [some 1, some 5, some 63, some 121, some 125, some 137, some 139, none, none, none, none, none, none, none, none, none]) dX11_init_134 fl_X11_29 rfl (by decide) (by decide) rfl rfl ?_
  refine tb_getR (pc := 137) (rs := [some 6, some 18, some 20, some 61, some 62, none, none]) dX11_init_137 fl_X11_49 rfl (by decide) (by decide) rfl rfl ?_
  refine tb_callI (pc := 140) (kc_mak hl _ _ rfl) il_X11_61 dX11_init_140 rfl rfl (Nat.le_of_ble_eq_true rfl) ⟨(Nat.le_of_ble_eq_true rfl), (Nat.le_of_ble_eq_true rfl)⟩ (m1 := 144) (m2 := 20641) rfl rfl (Nat.le_of_ble_eq_true rfl) (Nat.le_of_ble_eq_true rfl) (fun r9 n9 sh9 I9 hq9 => ?_)
  obtain ⟨rfl, rfl, rfl, rfl⟩ := hq9
  refine tb_putR (pc := 143) (rs := [some 1, some 5, some 63, some 121, some 125, some 137, some 139, none, none, none, none, none, none, none, none, none]) (rs2 := [some 1, some 5, some 63, some 121, some 125, some 137, some 139, some 141, none, none, none, none, none, none, none, none]) dX11_init_143 rfl ff_X11_62 rfl (by decide) (by decide) (by decide) (by decide) rfl rfl ?_
  refine tb_aload_n (pc := 146) dX11_init_146 rfl rfl ?_
  refine tb_new (pc := 147) (m1 := 145) (m2 := 20653) (n' := 146) dX11_init_147 nw_X11_66 (Nat.le_of_ble_eq_true rfl) rfl rfl rfl (Nat.le_of_ble_eq_true rfl) (Nat.le_of_ble_eq_true rfl) ?_
  refine tb_dup (pc := 150) dX11_init_150 rfl ?_
  refine tb_aload_n (pc := 151) dX11_init_151 rfl rfl ?_
  refine tb_getR (pc := 152) (rs := [some 1, some 5, some 63, some 121, some 125, some 137, some 139, some 141, none, none, none, none, none, none, none, none]) dX11_init_152 fl_X11_29 rfl (by decide) (by decide) rfl rfl ?_
  refine tb_getR (pc := 155) (rs := [some 6, some 18, some 20, some 61, some 62, none, none]) dX11_init_155 fl_X11_49 rfl (by decide) (by decide) rfl rfl ?_
  refine tb_callI (pc := 158) (kc_uni hl _ _ rfl) il_X11_68 dX11_init_158 rfl rfl (Nat.le_of_ble_eq_true rfl) ⟨(Nat.le_of_ble_eq_true rfl), (Nat.le_of_ble_eq_true rfl)⟩ (m1 := 154) (m2 := 31055) rfl rfl (Nat.le_of_ble_eq_true rfl) (Nat.le_of_ble_eq_true rfl) (fun r9 n9 sh9 I9 hq9 => ?_)
  obtain ⟨rfl, rfl, rfl, rfl⟩ := hq9
  refine tb_putR (pc := 161) (rs := [some 1, some 5, some 63, some 121, some 125, some 137, some 139, some 141, none, none, none, none, none, none, none, none]) (rs2 := [some 1, some 5, some 63, some 121, some 125, some 137, some 139, some 141, some 145, none, none, none, none, none, none, none]) dX11_init_161 rfl ff_X11_69 rfl (by decide) (by decide) (by decide) (by decide) rfl rfl ?_
  refine tb_aload_n (pc := 164) dX11_init_164 rfl rfl ?_
  refine tb_new (pc := 165) (m1 := 155) (m2 := 31060) (n' := 156) dX11_init_165 nw_X11_73 (Nat.le_of_ble_eq_true rfl) rfl rfl rfl (Nat.le_of_ble_eq_true rfl) (Nat.le_of_ble_eq_true rfl) ?_
  refine tb_dup (pc := 168) dX11_init_168 rfl ?_
  refine tb_aload_n (pc := 169) dX11_init_169 rfl rfl ?_
  refine tb_getR (pc := 170) (rs := [some 1, some 5, some 63, some 121, some 125, some 137, some 139, some 141, some 145, none, none, none, none, none, none, none]) dX11_init_170 fl_X11_29 rfl (by decide) (by decide) rfl rfl ?_
  refine tb_aload_n (pc := 173) dX11_init_173 rfl rfl ?_
  refine tb_getR (pc := 174) (rs := [some 1, some 5, some 63, some 121, some 125, some 137, some 139, some 141, some 145, none, none, none, none, none, none, none]) dX11_init_174 fl_X11_55 rfl (by decide) (by decide) rfl rfl ?_
  refine tb_aload_n (pc := 177) dX11_init_177 rfl rfl ?_
  refine tb_getR (pc := 178) (rs := [some 1, some 5, some 63, some 121, some 125, some 137, some 139, some 141, some 145, none, none, none, none, none, none, none]) dX11_init_178 fl_X11_69 rfl (by decide) (by decide) rfl rfl ?_
  refine tb_new (pc := 181) (m1 := 156) (m2 := 31065) (n' := 157) dX11_init_181 nw_X11_75 (Nat.le_of_ble_eq_true rfl) rfl rfl rfl (Nat.le_of_ble_eq_true rfl) (Nat.le_of_ble_eq_true rfl) ?_
  refine tb_dup (pc := 184) dX11_init_184 rfl ?_
  refine tb_aload_n (pc := 185) dX11_init_185 rfl rfl ?_
  refine tb_getR (pc := 186) (rs := [some 1, some 5, some 63, some 121, some 125, some 137, some 139, some 141, some 145, none, none, none, none, none, none, none]) dX11_init_186 fl_X11_29 rfl (by decide) (by decide) rfl rfl ?_
  refine tb_getR (pc := 189) (rs := [some 6, some 18, some 20, some 61, some 62, none, none]) dX11_init_189 fl_X11_49 rfl (by decide) (by decide) rfl rfl ?_
  refine tb_callI (pc := 192) (kc_ord hl _ _ rfl) il_X11_77 dX11_init_192 rfl rfl (Nat.le_of_ble_eq_true rfl) ⟨(Nat.le_of_ble_eq_true rfl), (Nat.le_of_ble_eq_true rfl)⟩ (m1 := 157) (m2 := 31073) rfl rfl (Nat.le_of_ble_eq_true rfl) (Nat.le_of_ble_eq_true rfl) (fun r9 n9 sh9 I9 hq9 => ?_)
  obtain ⟨rfl, rfl, rfl, rfl⟩ := hq9
  refine tb_callI (pc := 195) (kc_rul hl _ _ rfl rfl) il_X11_78 dX11_init_195 rfl rfl (Nat.le_of_ble_eq_true rfl) ⟨(Nat.le_of_ble_eq_true rfl), (Nat.le_of_ble_eq_true rfl)⟩ (m1 := 157) (m2 := 31073) rfl rfl (Nat.le_of_ble_eq_true rfl) (Nat.le_of_ble_eq_true rfl) (fun r9 n9 sh9 I9 hq9 => ?_)
  obtain ⟨rfl, rfl, rfl, rfl⟩ := hq9
  refine tb_putR (pc := 198) (rs := [some 1, some 5, some 63, some 121, some 125, some 137, some 139, some 141, some 145, none, none, none, none, none, none, none]) (rs2 := [some 1, some 5, some 63, some 121, some 125, some 137, some 139, some 141, some 145, some 155, none, none, none, none, none, none]) dX11_init_198 rfl ff_X11_81 rfl (by decide) (by decide) (by decide) (by decide) rfl rfl ?_
  refine tb_aload_n (pc := 201) dX11_init_201 rfl rfl ?_
  refine tb_new (pc := 202) (m1 := 158) (m2 := 31082) (n' := 159) dX11_init_202 nw_X11_85 (Nat.le_of_ble_eq_true rfl) rfl rfl rfl (Nat.le_of_ble_eq_true rfl) (Nat.le_of_ble_eq_true rfl) ?_
  refine tb_dup (pc := 205) dX11_init_205 rfl ?_
  refine tb_aload_n (pc := 206) dX11_init_206 rfl rfl ?_
  refine tb_getR (pc := 207) (rs := [some 1, some 5, some 63, some 121, some 125, some 137, some 139, some 141, some 145, some 155, none, none, none, none, none, none]) dX11_init_207 fl_X11_29 rfl (by decide) (by decide) rfl rfl ?_
  refine tb_aload_n (pc := 210) dX11_init_210 rfl rfl ?_
  refine tb_getR (pc := 211) (rs := [some 1, some 5, some 63, some 121, some 125, some 137, some 139, some 141, some 145, some 155, none, none, none, none, none, none]) dX11_init_211 fl_X11_55 rfl (by decide) (by decide) rfl rfl ?_
  refine tb_aload_n (pc := 214) dX11_init_214 rfl rfl ?_
  refine tb_getR (pc := 215) (rs := [some 1, some 5, some 63, some 121, some 125, some 137, some 139, some 141, some 145, some 155, none, none, none, none, none, none]) dX11_init_215 fl_X11_62 rfl (by decide) (by decide) rfl rfl ?_
  refine tb_callI (pc := 218) (kc_rew hl _ _ rfl rfl) il_X11_87 dX11_init_218 rfl rfl (Nat.le_of_ble_eq_true rfl) ⟨(Nat.le_of_ble_eq_true rfl), (Nat.le_of_ble_eq_true rfl)⟩ (m1 := 161) (m2 := 34142) rfl rfl (Nat.le_of_ble_eq_true rfl) (Nat.le_of_ble_eq_true rfl) (fun r9 n9 sh9 I9 hq9 => ?_)
  obtain ⟨rfl, rfl, rfl, rfl⟩ := hq9
  refine tb_putR (pc := 221) (rs := [some 1, some 5, some 63, some 121, some 125, some 137, some 139, some 141, some 145, some 155, none, none, none, none, none, none]) (rs2 := [some 1, some 5, some 63, some 121, some 125, some 137, some 139, some 141, some 145, some 155, some 158, none, none, none, none, none]) dX11_init_221 rfl ff_X11_90 rfl (by decide) (by decide) (by decide) (by decide) rfl rfl ?_
  refine tb_aload_n (pc := 224) dX11_init_224 rfl rfl ?_
  refine tb_sipush (pc := 225) (v := 700) dX11_init_225 (by decide) ?_
  refine tb_newa (pc := 228) (len := 700) (m1 := 162) (m2 := 34842) (n' := 163) dX11_init_228 wk_arr_int (Nat.le_of_ble_eq_true rfl) (by decide) (by decide) rfl rfl rfl (Nat.le_of_ble_eq_true rfl) (Nat.le_of_ble_eq_true rfl) ?_
  refine tb_putR (pc := 230) (rs := [some 1, some 5, some 63, some 121, some 125, some 137, some 139, some 141, some 145, some 155, some 158, none, none, none, none, none]) (rs2 := [some 1, some 5, some 63, some 121, some 125, some 137, some 139, some 141, some 145, some 155, some 158, none, some 162, none, none, none]) dX11_init_230 rfl ff_X11_94 rfl (by decide) (by decide) (by decide) (by decide) rfl rfl ?_
  refine tb_aload_n (pc := 233) dX11_init_233 rfl rfl ?_
  refine tb_new (pc := 234) (m1 := 163) (m2 := 34853) (n' := 164) dX11_init_234 nw_X11_98 (Nat.le_of_ble_eq_true rfl) rfl rfl rfl (Nat.le_of_ble_eq_true rfl) (Nat.le_of_ble_eq_true rfl) ?_
  refine tb_dup (pc := 237) dX11_init_237 rfl ?_
  refine tb_aload_n (pc := 238) dX11_init_238 rfl rfl ?_
  refine tb_getR (pc := 239) (rs := [some 1, some 5, some 63, some 121, some 125, some 137, some 139, some 141, some 145, some 155, some 158, none, some 162, none, none, none]) dX11_init_239 fl_X11_94 rfl (by decide) (by decide) rfl rfl ?_
  refine tb_aload_n (pc := 242) dX11_init_242 rfl rfl ?_
  refine tb_getR (pc := 243) (rs := [some 1, some 5, some 63, some 121, some 125, some 137, some 139, some 141, some 145, some 155, some 158, none, some 162, none, none, none]) dX11_init_243 fl_X11_29 rfl (by decide) (by decide) rfl rfl ?_
  refine tb_aload_n (pc := 246) dX11_init_246 rfl rfl ?_
  refine tb_getR (pc := 247) (rs := [some 1, some 5, some 63, some 121, some 125, some 137, some 139, some 141, some 145, some 155, some 158, none, some 162, none, none, none]) dX11_init_247 fl_X11_81 rfl (by decide) (by decide) rfl rfl ?_
  refine tb_callI (pc := 250) (kc_rea hl _ _ rfl rfl rfl) il_X11_100 dX11_init_250 rfl rfl (Nat.le_of_ble_eq_true rfl) ⟨(Nat.le_of_ble_eq_true rfl), (Nat.le_of_ble_eq_true rfl)⟩ (m1 := 163) (m2 := 34853) rfl rfl (Nat.le_of_ble_eq_true rfl) (Nat.le_of_ble_eq_true rfl) (fun r9 n9 sh9 I9 hq9 => ?_)
  obtain ⟨rfl, rfl, rfl, rfl⟩ := hq9
  refine tb_putR (pc := 253) (rs := [some 1, some 5, some 63, some 121, some 125, some 137, some 139, some 141, some 145, some 155, some 158, none, some 162, none, none, none]) (rs2 := [some 1, some 5, some 63, some 121, some 125, some 137, some 139, some 141, some 145, some 155, some 158, some 163, some 162, none, none, none]) dX11_init_253 rfl ff_X11_103 rfl (by decide) (by decide) (by decide) (by decide) rfl rfl ?_
  refine tb_aload_n (pc := 256) dX11_init_256 rfl rfl ?_
  refine tb_iconst (pc := 257) (v := 0) dX11_init_257 (by decide) ?_
  refine tb_putI (pc := 258) dX11_init_258 fl_X11_107 rfl (by decide) (by decide) rfl ?_
  refine tb_aload_n (pc := 261) dX11_init_261 rfl rfl ?_
  refine tb_iconst (pc := 262) (v := (-1)) dX11_init_262 (by decide) ?_
  refine tb_putI (pc := 263) dX11_init_263 fl_X11_111 rfl (by decide) (by decide) rfl ?_
  refine tb_aload_n (pc := 266) dX11_init_266 rfl rfl ?_
  refine tb_iconst (pc := 267) (v := 0) dX11_init_267 (by decide) ?_
  refine tb_putZ (pc := 268) dX11_init_268 fl_X11_114 rfl (by decide) (by decide) rfl (Or.inl rfl) ?_
  exact tb_vret (pc := 271) dX11_init_271 rfl (Nat.le_of_ble_eq_true rfl) (Nat.le_of_ble_eq_true rfl) ⟨rfl, rfl, rfl, rfl⟩
def s_kc_mo (sh : Nat → tb_Sh) : Nat → tb_Sh := tb_sup (tb_sup (tb_sup (tb_sup (tb_sup (tb_sup (tb_sup (tb_sup (tb_sup (tb_sup (tb_sup (tb_sup (tb_sup (tb_sup (tb_sup (tb_sup (tb_sup (tb_sup (tb_sup (tb_sup (tb_sup (tb_sup (tb_sup (tb_sup (tb_sup (tb_sup (tb_sup (tb_sup (tb_sup (tb_sup (tb_sup (tb_sup (tb_sup (tb_sup (tb_sup (tb_sup (sh) 165 (100, 5400, [])) 164 (12, 47, [some 165, none, none, none, none, none, none, none, none, none, none, none, none, none, none, none, none, none, none, none, none, none, none, none, none, none, none, none, none, none, none, none, none, none, none, none, none, none, none, none, none, none, none, none, none, none, none])) 166 (100, 1200, [])) 164 (12, 47, [some 165, some 166, none, none, none, none, none, none, none, none, none, none, none, none, none, none, none, none, none, none, none, none, none, none, none, none, none, none, none, none, none, none, none, none, none, none, none, none, none, none, none, none, none, none, none, none, none])) 167 (100, 3600, [])) 164 (12, 47, [some 165, some 166, some 167, none, none, none, none, none, none, none, none, none, none, none, none, none, none, none, none, none, none, none, none, none, none, none, none, none, none, none, none, none, none, none, none, none, none, none, none, none, none, none, none, none, none, none, none])) 168 (100, 1200, [])) 164 (12, 47, [some 165, some 166, some 167, some 168, none, none, none, none, none, none, none, none, none, none, none, none, none, none, none, none, none, none, none, none, none, none, none, none, none, none, none, none, none, none, none, none, none, none, none, none, none, none, none, none, none, none, none])) 169 (100, 20, [])) 164 (12, 47, [some 165, some 166, some 167, some 168, some 169, none, none, none, none, none, none, none, none, none, none, none, none, none, none, none, none, none, none, none, none, none, none, none, none, none, none, none, none, none, none, none, none, none, none, none, none, none, none, none, none, none, none])) 170 (100, 20, [])) 164 (12, 47, [some 165, some 166, some 167, some 168, some 169, some 170, none, none, none, none, none, none, none, none, none, none, none, none, none, none, none, none, none, none, none, none, none, none, none, none, none, none, none, none, none, none, none, none, none, none, none, none, none, none, none, none, none])) 171 (100, 20, [])) 164 (12, 47, [some 165, some 166, some 167, some 168, some 169, some 170, some 171, none, none, none, none, none, none, none, none, none, none, none, none, none, none, none, none, none, none, none, none, none, none, none, none, none, none, none, none, none, none, none, none, none, none, none, none, none, none, none, none])) 172 (100, 8, [])) 164 (12, 47, [some 165, some 166, some 167, some 168, some 169, some 170, some 171, some 172, none, none, none, none, none, none, none, none, none, none, none, none, none, none, none, none, none, none, none, none, none, none, none, none, none, none, none, none, none, none, none, none, none, none, none, none, none, none, none])) 173 (100, 700, [])) 164 (12, 47, [some 165, some 166, some 167, some 168, some 169, some 170, some 171, some 172, none, none, none, none, none, none, none, none, none, none, some 173, none, none, none, none, none, none, none, none, none, none, none, none, none, none, none, none, none, none, none, none, none, none, none, none, none, none, none, none])) 174 (100, 8, [])) 164 (12, 47, [some 165, some 166, some 167, some 168, some 169, some 170, some 171, some 172, none, none, none, none, none, none, none, none, none, none, some 173, none, none, none, some 174, none, none, none, none, none, none, none, none, none, none, none, none, none, none, none, none, none, none, none, none, none, none, none, none])) 175 (100, 8, [])) 164 (12, 47, [some 165, some 166, some 167, some 168, some 169, some 170, some 171, some 172, none, none, none, none, none, none, none, none, none, none, some 173, none, none, none, some 174, some 175, none, none, none, none, none, none, none, none, none, none, none, none, none, none, none, none, none, none, none, none, none, none, none])) 176 (100, 8, [])) 164 (12, 47, [some 165, some 166, some 167, some 168, some 169, some 170, some 171, some 172, none, none, none, none, none, none, none, none, none, none, some 173, none, none, none, some 174, some 175, some 176, none, none, none, none, none, none, none, none, none, none, none, none, none, none, none, none, none, none, none, none, none, none])) 177 (100, 800, [])) 164 (12, 47, [some 165, some 166, some 167, some 168, some 169, some 170, some 171, some 172, none, none, none, none, none, none, none, none, none, none, some 173, none, none, none, some 174, some 175, some 176, some 177, none, none, none, none, none, none, none, none, none, none, none, none, none, none, none, none, none, none, none, none, none])) 178 (100, 800, [])) 164 (12, 47, [some 165, some 166, some 167, some 168, some 169, some 170, some 171, some 172, none, none, none, none, none, none, none, none, none, none, some 173, none, none, none, some 174, some 175, some 176, some 177, some 178, none, none, none, none, none, none, none, none, none, none, none, none, none, none, none, none, none, none, none, none])) 179 (100, 800, [])) 164 (12, 47, [some 165, some 166, some 167, some 168, some 169, some 170, some 171, some 172, none, none, none, none, none, none, none, none, none, none, some 173, none, none, none, some 174, some 175, some 176, some 177, some 178, some 179, none, none, none, none, none, none, none, none, none, none, none, none, none, none, none, none, none, none, none])) 180 (100, 800, [])) 164 (12, 47, [some 165, some 166, some 167, some 168, some 169, some 170, some 171, some 172, none, none, none, none, none, none, none, none, none, none, some 173, none, none, none, some 174, some 175, some 176, some 177, some 178, some 179, some 180, none, none, none, none, none, none, none, none, none, none, none, none, none, none, none, none, none, none])) 181 (100, 4000, [])) 164 (12, 47, [some 165, some 166, some 167, some 168, some 169, some 170, some 171, some 172, none, none, none, none, none, none, none, none, none, none, some 173, none, none, none, some 174, some 175, some 176, some 177, some 178, some 179, some 180, some 181, none, none, none, none, none, none, none, none, none, none, none, none, none, none, none, none, none])) 182 (100, 16, [])) 164 (12, 47, [some 165, some 166, some 167, some 168, some 169, some 170, some 171, some 172, none, none, none, none, none, none, none, none, none, none, some 173, none, none, none, some 174, some 175, some 176, some 177, some 178, some 179, some 180, some 181, none, some 182, none, none, none, none, none, none, none, none, none, none, none, none, none, none, none])
def i_kc_mo (I : tb_I) : tb_I := tb_up (tb_row (tb_row (tb_row (tb_row (tb_row (tb_row (tb_row (tb_row (tb_row (tb_up (tb_row (tb_row (tb_row (tb_row (tb_row (tb_row (tb_row (tb_row (tb_row (I) 165 (fun _ => 0)) 166 (fun _ => 0)) 167 (fun _ => 0)) 168 (fun _ => 0)) 169 (fun _ => 0)) 170 (fun _ => 0)) 171 (fun _ => 0)) 172 (fun _ => 0)) 173 (fun _ => 0)) 164 20 (-1)) 174 (fun _ => 0)) 175 (fun _ => 0)) 176 (fun _ => 0)) 177 (fun _ => 0)) 178 (fun _ => 0)) 179 (fun _ => 0)) 180 (fun _ => 0)) 181 (fun _ => 0)) 182 (fun _ => 0)) 165 39 4
set_option maxHeartbeats 4000000 in
set_option maxRecDepth 100000 in
theorem kc_mo {l : Launch} {G : tb_G} (hl : l.stackTraces = false) (sh : Nat → tb_Sh) (I : tb_I) (h164 : sh 164 = (12, 47, [none, none, none, none, none, none, none, none, none, none, none, none, none, none, none, none, none, none, none, none, none, none, none, none, none, none, none, none, none, none, none, none, none, none, none, none, none, none, none, none, none, none, none, none, none, none, none])) : tb_Ok l G M_X12_init 1 18 19408 [.ref 164] 165 sh I (tb_Rd none 183 (s_kc_mo sh) (i_kc_mo I)) tb_Nx := by
  refine tb_Ok.of hl (by decide +kernel) rfl (tb_c1 rfl) (Nat.le_of_ble_eq_true rfl) ?_
  show tb_At l G M_X12_init (tb_rm 1 18 19408) none _ 0 0 165 sh I 0 [some (.ref 164)] []
  refine tb_aload_n (pc := 0) dX12_init_0 rfl rfl ?_
  refine tb_objInit (pc := 1) dX12_init_1 ml_X12_3 wk_obj2 wk_obj3 (Nat.le_of_ble_eq_true rfl) (Nat.le_of_ble_eq_true rfl) ?_
  refine tb_aload_n (pc := 4) dX12_init_4 rfl rfl ?_
  refine tb_sipush (pc := 5) (v := 5400) dX12_init_5 (by decide) ?_
  refine tb_newa (pc := 8) (len := 5400) (m1 := 1) (m2 := 5400) (n' := 166) dX12_init_8 wk_arr_int (Nat.le_of_ble_eq_true rfl) (by decide) (by decide) rfl rfl rfl (Nat.le_of_ble_eq_true rfl) (Nat.le_of_ble_eq_true rfl) ?_
  refine tb_putR (pc := 10) (rs := [none, none, none, none, none, none, none, none, none, none, none, none, none, none, none, none, none, none, none, none, none, none, none, none, none, none, none, none, none, none, none, none, none, none, none, none, none, none, none, none, none, none, none, none, none, none, none]) (rs2 := [some 165, none, none, none, none, none, none, none, none, none, none, none, none, none, none, none, none, none, none, none, none, none, none, none, none, none, none, none, none, none, none, none, none, none, none, none, none, none, none, none, none, none, none, none, none, none, none]) dX12_init_10 rfl ff_X12_9 h164 (by decide) (by decide) (by decide) (by decide) rfl rfl ?_
  refine tb_aload_n (pc := 13) dX12_init_13 rfl rfl ?_
  refine tb_sipush (pc := 14) (v := 1200) dX12_init_14 (by decide) ?_
  refine tb_newa (pc := 17) (len := 1200) (m1 := 2) (m2 := 6600) (n' := 167) dX12_init_17 wk_arr_int (Nat.le_of_ble_eq_true rfl) (by decide) (by decide) rfl rfl rfl (Nat.le_of_ble_eq_true rfl) (Nat.le_of_ble_eq_true rfl) ?_
  refine tb_putR (pc := 19) (rs := [some 165, none, none, none, none, none, none, none, none, none, none, none, none, none, none, none, none, none, none, none, none, none, none, none, none, none, none, none, none, none, none, none, none, none, none, none, none, none, none, none, none, none, none, none, none, none, none]) (rs2 := [some 165, some 166, none, none, none, none, none, none, none, none, none, none, none, none, none, none, none, none, none, none, none, none, none, none, none, none, none, none, none, none, none, none, none, none, none, none, none, none, none, none, none, none, none, none, none, none, none]) dX12_init_19 rfl ff_X12_13 rfl (by decide) (by decide) (by decide) (by decide) rfl rfl ?_
  refine tb_aload_n (pc := 22) dX12_init_22 rfl rfl ?_
  refine tb_sipush (pc := 23) (v := 3600) dX12_init_23 (by decide) ?_
  refine tb_newa (pc := 26) (len := 3600) (m1 := 3) (m2 := 10200) (n' := 168) dX12_init_26 wk_arr_int (Nat.le_of_ble_eq_true rfl) (by decide) (by decide) rfl rfl rfl (Nat.le_of_ble_eq_true rfl) (Nat.le_of_ble_eq_true rfl) ?_
  refine tb_putR (pc := 28) (rs := [some 165, some 166, none, none, none, none, none, none, none, none, none, none, none, none, none, none, none, none, none, none, none, none, none, none, none, none, none, none, none, none, none, none, none, none, none, none, none, none, none, none, none, none, none, none, none, none, none]) (rs2 := [some 165, some 166, some 167, none, none, none, none, none, none, none, none, none, none, none, none, none, none, none, none, none, none, none, none, none, none, none, none, none, none, none, none, none, none, none, none, none, none, none, none, none, none, none, none, none, none, none, none]) dX12_init_28 rfl ff_X12_16 rfl (by decide) (by decide) (by decide) (by decide) rfl rfl ?_
  refine tb_aload_n (pc := 31) dX12_init_31 rfl rfl ?_
  refine tb_sipush (pc := 32) (v := 1200) dX12_init_32 (by decide) ?_
  refine tb_newa (pc := 35) (len := 1200) (m1 := 4) (m2 := 11400) (n' := 169) dX12_init_35 wk_arr_int (Nat.le_of_ble_eq_true rfl) (by decide) (by decide) rfl rfl rfl (Nat.le_of_ble_eq_true rfl) (Nat.le_of_ble_eq_true rfl) ?_
  refine tb_putR (pc := 37) (rs := [some 165, some 166, some 167, none, none, none, none, none, none, none, none, none, none, none, none, none, none, none, none, none, none, none, none, none, none, none, none, none, none, none, none, none, none, none, none, none, none, none, none, none, none, none, none, none, none, none, none]) (rs2 := [some 165, some 166, some 167, some 168, none, none, none, none, none, none, none, none, none, none, none, none, none, none, none, none, none, none, none, none, none, none, none, none, none, none, none, none, none, none, none, none, none, none, none, none, none, none, none, none, none, none, none]) dX12_init_37 rfl ff_X12_19 rfl (by decide) (by decide) (by decide) (by decide) rfl rfl ?_
  refine tb_aload_n (pc := 40) dX12_init_40 rfl rfl ?_
  refine tb_bipush (pc := 41) (v := 20) dX12_init_41 (by decide) ?_
  refine tb_newa (pc := 43) (len := 20) (m1 := 5) (m2 := 11420) (n' := 170) dX12_init_43 wk_arr_int (Nat.le_of_ble_eq_true rfl) (by decide) (by decide) rfl rfl rfl (Nat.le_of_ble_eq_true rfl) (Nat.le_of_ble_eq_true rfl) ?_
  refine tb_putR (pc := 45) (rs := [some 165, some 166, some 167, some 168, none, none, none, none, none, none, none, none, none, none, none, none, none, none, none, none, none, none, none, none, none, none, none, none, none, none, none, none, none, none, none, none, none, none, none, none, none, none, none, none, none, none, none]) (rs2 := [some 165, some 166, some 167, some 168, some 169, none, none, none, none, none, none, none, none, none, none, none, none, none, none, none, none, none, none, none, none, none, none, none, none, none, none, none, none, none, none, none, none, none, none, none, none, none, none, none, none, none, none]) dX12_init_45 rfl ff_X12_22 rfl (by decide) (by decide) (by decide) (by decide) rfl rfl ?_
  refine tb_aload_n (pc := 48) dX12_init_48 rfl rfl ?_
  refine tb_bipush (pc := 49) (v := 20) dX12_init_49 (by decide) ?_
  refine tb_newa (pc := 51) (len := 20) (m1 := 6) (m2 := 11440) (n' := 171) dX12_init_51 wk_arr_int (Nat.le_of_ble_eq_true rfl) (by decide) (by decide) rfl rfl rfl (Nat.le_of_ble_eq_true rfl) (Nat.le_of_ble_eq_true rfl) ?_
  refine tb_putR (pc := 53) (rs := [some 165, some 166, some 167, some 168, some 169, none, none, none, none, none, none, none, none, none, none, none, none, none, none, none, none, none, none, none, none, none, none, none, none, none, none, none, none, none, none, none, none, none, none, none, none, none, none, none, none, none, none]) (rs2 := [some 165, some 166, some 167, some 168, some 169, some 170, none, none, none, none, none, none, none, none, none, none, none, none, none, none, none, none, none, none, none, none, none, none, none, none, none, none, none, none, none, none, none, none, none, none, none, none, none, none, none, none, none]) dX12_init_53 rfl ff_X12_25 rfl (by decide) (by decide) (by decide) (by decide) rfl rfl ?_
  refine tb_aload_n (pc := 56) dX12_init_56 rfl rfl ?_
  refine tb_bipush (pc := 57) (v := 20) dX12_init_57 (by decide) ?_
  refine tb_newa (pc := 59) (len := 20) (m1 := 7) (m2 := 11460) (n' := 172) dX12_init_59 wk_arr_int (Nat.le_of_ble_eq_true rfl) (by decide) (by decide) rfl rfl rfl (Nat.le_of_ble_eq_true rfl) (Nat.le_of_ble_eq_true rfl) ?_
  refine tb_putR (pc := 61) (rs := [some 165, some 166, some 167, some 168, some 169, some 170, none, none, none, none, none, none, none, none, none, none, none, none, none, none, none, none, none, none, none, none, none, none, none, none, none, none, none, none, none, none, none, none, none, none, none, none, none, none, none, none, none]) (rs2 := [some 165, some 166, some 167, some 168, some 169, some 170, some 171, none, none, none, none, none, none, none, none, none, none, none, none, none, none, none, none, none, none, none, none, none, none, none, none, none, none, none, none, none, none, none, none, none, none, none, none, none, none, none, none]) dX12_init_61 rfl ff_X12_28 rfl (by decide) (by decide) (by decide) (by decide) rfl rfl ?_
  refine tb_aload_n (pc := 64) dX12_init_64 rfl rfl ?_
  refine tb_bipush (pc := 65) (v := 8) dX12_init_65 (by decide) ?_
  refine tb_newa (pc := 67) (len := 8) (m1 := 8) (m2 := 11468) (n' := 173) dX12_init_67 wk_arr_int (Nat.le_of_ble_eq_true rfl) (by decide) (by decide) rfl rfl rfl (Nat.le_of_ble_eq_true rfl) (Nat.le_of_ble_eq_true rfl) ?_
  refine tb_putR (pc := 69) (rs := [some 165, some 166, some 167, some 168, some 169, some 170, some 171, none, none, none, none, none, none, none, none, none, none, none, none, none, none, none, none, none, none, none, none, none, none, none, none, none, none, none, none, none, none, none, none, none, none, none, none, none, none, none, none]) (rs2 := [some 165, some 166, some 167, some 168, some 169, some 170, some 171, some 172, none, none, none, none, none, none, none, none, none, none, none, none, none, none, none, none, none, none, none, none, none, none, none, none, none, none, none, none, none, none, none, none, none, none, none, none, none, none, none]) dX12_init_69 rfl ff_X12_31 rfl (by decide) (by decide) (by decide) (by decide) rfl rfl ?_
  refine tb_aload_n (pc := 72) dX12_init_72 rfl rfl ?_
  refine tb_sipush (pc := 73) (v := 700) dX12_init_73 (by decide) ?_
  refine tb_newa (pc := 76) (len := 700) (m1 := 9) (m2 := 12168) (n' := 174) dX12_init_76 wk_arr_int (Nat.le_of_ble_eq_true rfl) (by decide) (by decide) rfl rfl rfl (Nat.le_of_ble_eq_true rfl) (Nat.le_of_ble_eq_true rfl) ?_
  refine tb_putR (pc := 78) (rs := [some 165, some 166, some 167, some 168, some 169, some 170, some 171, some 172, none, none, none, none, none, none, none, none, none, none, none, none, none, none, none, none, none, none, none, none, none, none, none, none, none, none, none, none, none, none, none, none, none, none, none, none, none, none, none]) (rs2 := [some 165, some 166, some 167, some 168, some 169, some 170, some 171, some 172, none, none, none, none, none, none, none, none, none, none, some 173, none, none, none, none, none, none, none, none, none, none, none, none, none, none, none, none, none, none, none, none, none, none, none, none, none, none, none, none]) dX12_init_78 rfl ff_X12_34 rfl (by decide) (by decide) (by decide) (by decide) rfl rfl ?_
  refine tb_aload_n (pc := 81) dX12_init_81 rfl rfl ?_
  refine tb_iconst (pc := 82) (v := (-1)) dX12_init_82 (by decide) ?_
  refine tb_putI (pc := 83) dX12_init_83 fl_X12_37 rfl (by decide) (by decide) rfl ?_
  refine tb_aload_n (pc := 86) dX12_init_86 rfl rfl ?_
  refine tb_bipush (pc := 87) (v := 8) dX12_init_87 (by decide) ?_
  refine tb_newa (pc := 89) (len := 8) (m1 := 10) (m2 := 12176) (n' := 175) dX12_init_89 wk_arr_int (Nat.le_of_ble_eq_true rfl) (by decide) (by decide) rfl rfl rfl (Nat.le_of_ble_eq_true rfl) (Nat.le_of_ble_eq_true rfl) ?_
  refine tb_putR (pc := 91) (rs := [some 165, some 166, some 167, some 168, some 169, some 170, some 171, some 172, none, none, none, none, none, none, none, none, none, none, some 173, none, none, none, none, none, none, none, none, none, none, none, none, none, none, none, none, none, none, none, none, none, none, none, none, none, none, none, none]) (rs2 := [some 165, some 166, some 167, some 168, some 169, some 170, some 171, some 172, none, none, none, none, none, none, none, none, none, none, some 173, none, none, none, some 174, none, none, none, none, none, none, none, none, none, none, none, none, none, none, none, none, none, none, none, none, none, none, none, none]) dX12_init_91 rfl ff_X12_41 rfl (by decide) (by decide) (by decide) (by decide) rfl rfl ?_
  refine tb_aload_n (pc := 94) dX12_init_94 rfl rfl ?_
  refine tb_bipush (pc := 95) (v := 8) dX12_init_95 (by decide) ?_
  refine tb_newa (pc := 97) (len := 8) (m1 := 11) (m2 := 12184) (n' := 176) dX12_init_97 wk_arr_int (Nat.le_of_ble_eq_true rfl) (by decide) (by decide) rfl rfl rfl (Nat.le_of_ble_eq_true rfl) (Nat.le_of_ble_eq_true rfl) ?_
  refine tb_putR (pc := 99) (rs := [some 165, some 166, some 167, some 168, some 169, some 170, some 171, some 172, none, none, none, none, none, none, none, none, none, none, some 173, none, none, none, some 174, none, none, none, none, none, none, none, none, none, none, none, none, none, none, none, none, none, none, none, none, none, none, none, none]) (rs2 := [some 165, some 166, some 167, some 168, some 169, some 170, some 171, some 172, none, none, none, none, none, none, none, none, none, none, some 173, none, none, none, some 174, some 175, none, none, none, none, none, none, none, none, none, none, none, none, none, none, none, none, none, none, none, none, none, none, none]) dX12_init_99 rfl ff_X12_44 rfl (by decide) (by decide) (by decide) (by decide) rfl rfl ?_
  refine tb_aload_n (pc := 102) dX12_init_102 rfl rfl ?_
  refine tb_bipush (pc := 103) (v := 8) dX12_init_103 (by decide) ?_
  refine tb_newa (pc := 105) (len := 8) (m1 := 12) (m2 := 12192) (n' := 177) dX12_init_105 wk_arr_int (Nat.le_of_ble_eq_true rfl) (by decide) (by decide) rfl rfl rfl (Nat.le_of_ble_eq_true rfl) (Nat.le_of_ble_eq_true rfl) ?_
  refine tb_putR (pc := 107) (rs := [some 165, some 166, some 167, some 168, some 169, some 170, some 171, some 172, none, none, none, none, none, none, none, none, none, none, some 173, none, none, none, some 174, some 175, none, none, none, none, none, none, none, none, none, none, none, none, none, none, none, none, none, none, none, none, none, none, none]) (rs2 := [some 165, some 166, some 167, some 168, some 169, some 170, some 171, some 172, none, none, none, none, none, none, none, none, none, none, some 173, none, none, none, some 174, some 175, some 176, none, none, none, none, none, none, none, none, none, none, none, none, none, none, none, none, none, none, none, none, none, none]) dX12_init_107 rfl ff_X12_47 rfl (by decide) (by decide) (by decide) (by decide) rfl rfl ?_
  refine tb_aload_n (pc := 110) dX12_init_110 rfl rfl ?_
  refine tb_sipush (pc := 111) (v := 800) dX12_init_111 (by decide) ?_
  refine tb_newa (pc := 114) (len := 800) (m1 := 13) (m2 := 12992) (n' := 178) dX12_init_114 wk_arr_int (Nat.le_of_ble_eq_true rfl) (by decide) (by decide) rfl rfl rfl (Nat.le_of_ble_eq_true rfl) (Nat.le_of_ble_eq_true rfl) ?_
  refine tb_putR (pc := 116) (rs := [some 165, some 166, some 167, some 168, some 169, some 170, some 171, some 172, none, none, none, none, none, none, none, none, none, none, some 173, none, none, none, some 174, some 175, some 176, none, none, none, none, none, none, none, none, none, none, none, none, none, none, none, none, none, none, none, none, none, none]) (rs2 := [some 165, some 166, some 167, some 168, some 169, some 170, some 171, some 172, none, none, none, none, none, none, none, none, none, none, some 173, none, none, none, some 174, some 175, some 176, some 177, none, none, none, none, none, none, none, none, none, none, none, none, none, none, none, none, none, none, none, none, none]) dX12_init_116 rfl ff_X12_50 rfl (by decide) (by decide) (by decide) (by decide) rfl rfl ?_
  refine tb_aload_n (pc := 119) dX12_init_119 rfl rfl ?_
  refine tb_sipush (pc := 120) (v := 800) dX12_init_120 (by decide) ?_
  refine tb_newa (pc := 123) (len := 800) (m1 := 14) (m2 := 13792) (n' := 179) dX12_init_123 wk_arr_int (Nat.le_of_ble_eq_true rfl) (by decide) (by decide) rfl rfl rfl (Nat.le_of_ble_eq_true rfl) (Nat.le_of_ble_eq_true rfl) ?_
  refine tb_putR (pc := 125) (rs := [some 165, some 166, some 167, some 168, some 169, some 170, some 171, some 172, none, none, none, none, none, none, none, none, none, none, some 173, none, none, none, some 174, some 175, some 176, some 177, none, none, none, none, none, none, none, none, none, none, none, none, none, none, none, none, none, none, none, none, none]) (rs2 := [some 165, some 166, some 167, some 168, some 169, some 170, some 171, some 172, none, none, none, none, none, none, none, none, none, none, some 173, none, none, none, some 174, some 175, some 176, some 177, some 178, none, none, none, none, none, none, none, none, none, none, none, none, none, none, none, none, none, none, none, none]) dX12_init_125 rfl ff_X12_53 rfl (by decide) (by decide) (by decide) (by decide) rfl rfl ?_
  refine tb_aload_n (pc := 128) dX12_init_128 rfl rfl ?_
  refine tb_sipush (pc := 129) (v := 800) dX12_init_129 (by decide) ?_
  refine tb_newa (pc := 132) (len := 800) (m1 := 15) (m2 := 14592) (n' := 180) dX12_init_132 wk_arr_int (Nat.le_of_ble_eq_true rfl) (by decide) (by decide) rfl rfl rfl (Nat.le_of_ble_eq_true rfl) (Nat.le_of_ble_eq_true rfl) ?_
  refine tb_putR (pc := 134) (rs := [some 165, some 166, some 167, some 168, some 169, some 170, some 171, some 172, none, none, none, none, none, none, none, none, none, none, some 173, none, none, none, some 174, some 175, some 176, some 177, some 178, none, none, none, none, none, none, none, none, none, none, none, none, none, none, none, none, none, none, none, none]) (rs2 := [some 165, some 166, some 167, some 168, some 169, some 170, some 171, some 172, none, none, none, none, none, none, none, none, none, none, some 173, none, none, none, some 174, some 175, some 176, some 177, some 178, some 179, none, none, none, none, none, none, none, none, none, none, none, none, none, none, none, none, none, none, none]) dX12_init_134 rfl ff_X12_56 rfl (by decide) (by decide) (by decide) (by decide) rfl rfl ?_
  refine tb_aload_n (pc := 137) dX12_init_137 rfl rfl ?_
  refine tb_sipush (pc := 138) (v := 800) dX12_init_138 (by decide) ?_
  refine tb_newa (pc := 141) (len := 800) (m1 := 16) (m2 := 15392) (n' := 181) dX12_init_141 wk_arr_int (Nat.le_of_ble_eq_true rfl) (by decide) (by decide) rfl rfl rfl (Nat.le_of_ble_eq_true rfl) (Nat.le_of_ble_eq_true rfl) ?_
  refine tb_putR (pc := 143) (rs := [some 165, some 166, some 167, some 168, some 169, some 170, some 171, some 172, none, none, none, none, none, none, none, none, none, none, some 173, none, none, none, some 174, some 175, some 176, some 177, some 178, some 179, none, none, none, none, none, none, none, none, none, none, none, none, none, none, none, none, none, none, none]) (rs2 := [some 165, some 166, some 167, some 168, some 169, some 170, some 171, some 172, none, none, none, none, none, none, none, none, none, none, some 173, none, none, none, some 174, some 175, some 176, some 177, some 178, some 179, some 180, none, none, none, none, none, none, none, none, none, none, none, none, none, none, none, none, none, none]) dX12_init_143 rfl ff_X12_59 rfl (by decide) (by decide) (by decide) (by decide) rfl rfl ?_
  refine tb_aload_n (pc := 146) dX12_init_146 rfl rfl ?_
  refine tb_sipush (pc := 147) (v := 4000) dX12_init_147 (by decide) ?_
  refine tb_newa (pc := 150) (len := 4000) (m1 := 17) (m2 := 19392) (n' := 182) dX12_init_150 wk_arr_int (Nat.le_of_ble_eq_true rfl) (by decide) (by decide) rfl rfl rfl (Nat.le_of_ble_eq_true rfl) (Nat.le_of_ble_eq_true rfl) ?_
  refine tb_putR (pc := 152) (rs := [some 165, some 166, some 167, some 168, some 169, some 170, some 171, some 172, none, none, none, none, none, none, none, none, none, none, some 173, none, none, none, some 174, some 175, some 176, some 177, some 178, some 179, some 180, none, none, none, none, none, none, none, none, none, none, none, none, none, none, none, none, none, none]) (rs2 := [some 165, some 166, some 167, some 168, some 169, some 170, some 171, some 172, none, none, none, none, none, none, none, none, none, none, some 173, none, none, none, some 174, some 175, some 176, some 177, some 178, some 179, some 180, some 181, none, none, none, none, none, none, none, none, none, none, none, none, none, none, none, none, none]) dX12_init_152 rfl ff_X12_62 rfl (by decide) (by decide) (by decide) (by decide) rfl rfl ?_
  refine tb_aload_n (pc := 155) dX12_init_155 rfl rfl ?_
  refine tb_bipush (pc := 156) (v := 16) dX12_init_156 (by decide) ?_
  refine tb_newa (pc := 158) (len := 16) (m1 := 18) (m2 := 19408) (n' := 183) dX12_init_158 wk_arr_int (Nat.le_of_ble_eq_true rfl) (by decide) (by decide) rfl rfl rfl (Nat.le_of_ble_eq_true rfl) (Nat.le_of_ble_eq_true rfl) ?_
  refine tb_putR (pc := 160) (rs := [some 165, some 166, some 167, some 168, some 169, some 170, some 171, some 172, none, none, none, none, none, none, none, none, none, none, some 173, none, none, none, some 174, some 175, some 176, some 177, some 178, some 179, some 180, some 181, none, none, none, none, none, none, none, none, none, none, none, none, none, none, none, none, none]) (rs2 := [some 165, some 166, some 167, some 168, some 169, some 170, some 171, some 172, none, none, none, none, none, none, none, none, none, none, some 173, none, none, none, some 174, some 175, some 176, some 177, some 178, some 179, some 180, some 181, none, some 182, none, none, none, none, none, none, none, none, none, none, none, none, none, none, none]) dX12_init_160 rfl ff_X12_65 rfl (by decide) (by decide) (by decide) (by decide) rfl rfl ?_
  refine tb_aload_n (pc := 163) dX12_init_163 rfl rfl ?_
  refine tb_getR (pc := 164) (rs := [some 165, some 166, some 167, some 168, some 169, some 170, some 171, some 172, none, none, none, none, none, none, none, none, none, none, some 173, none, none, none, some 174, some 175, some 176, some 177, some 178, some 179, some 180, some 181, none, some 182, none, none, none, none, none, none, none, none, none, none, none, none, none, none, none]) dX12_init_164 fl_X12_9 rfl (by decide) (by decide) rfl rfl ?_
  refine tb_bipush (pc := 167) (v := 39) dX12_init_167 (by decide) ?_
  refine tb_iconst (pc := 169) (v := 4) dX12_init_169 (by decide) ?_
  refine tb_iast (pc := 170) (j := 39) (len := 5400) (rs := []) dX12_init_170 rfl (by decide) (by decide) (by decide) (by decide) ?_
  exact tb_vret (pc := 171) dX12_init_171 rfl (Nat.le_of_ble_eq_true rfl) (Nat.le_of_ble_eq_true rfl) ⟨rfl, rfl, rfl, rfl⟩
end
section
/-! ===== throw new NoSuchElementException(text) ===== -/
def tb_six : ByteArray := ⟨#[0x2a, 0x2b, 0xb7, 0x00, 0x0d, 0xb1]⟩
theorem tb_six_0 : decode tb_six 0 = .ok (.aload_n 0, 1) := by decide +kernel
theorem tb_six_1 : decode tb_six 1 = .ok (.aload_n 1, 1) := by decide +kernel
theorem tb_six_2 : decode tb_six 2 = .ok (.invokespecial 13, 3) := by decide +kernel
theorem tb_six_5 : decode tb_six 5 = .ok (.return_, 1) := by decide +kernel
def tb_ownA (own : String) (ic : Nat) (X Y : String) (r : List String) : List Cond :=
  Bundle.throwableAtoms ++ Bundle.throwableSAtoms ++ (Bundle.passSAtoms X Y 13 tb_six ++ Bundle.chainSAtoms Y r) ++
  [.methodLink own ic (Bundle.initS X), .instantiable X 6, .castable X X, .selects X Bundle.tFill0 Bundle.tFill0, .selects X Bundle.tFill Bundle.tFill,
   .lays X Bundle.tN "cause" "Ljava/lang/Throwable;", .lays X Bundle.tN "stackTrace" Bundle.steD, .lays X Bundle.tN "suppressedExceptions" Bundle.listD, .lays X Bundle.tN "detailMessage" "Ljava/lang/String;",
   .isRef (.static Bundle.tN "UNASSIGNED_STACK" Bundle.steD), .isRef (.static Bundle.tN "SUPPRESSED_SENTINEL" Bundle.listD),
   .fieldLink Bundle.tN 198 Bundle.tN "backtrace" "Ljava/lang/Object;", .lays Bundle.tN Bundle.tN "backtrace" "Ljava/lang/Object;", .lays X Bundle.tN "backtrace" "Ljava/lang/Object;"]
def tb_atN (own : String) (ic : Nat) (X Y : String) (r : List String) : List Cond := (tb_ownA own ic X Y r).filter vx_no
section TNA
variable {p : Program} {l : Launch} {e : Env} {R : Room} {s : State} {m₀ : MethodId} {args : Array Value} {below : List Frame} {meth : Method} {c : Code} {W : State} {locs : List Loc} {cells slots : Nat}
set_option maxHeartbeats 1000000 in
theorem tb_ctorMade (X : Stand p l e R s m₀ args below meth c W locs cells slots) (hexec : p.tables.exec = Jvm.exec) (htr : e.platform.stackTraces = false) {own cls Y9 : String} {r9 : List String} {ic : Nat}
    (hown : s.vm.findClass own = some m₀.cls) (hcls : Bundle.fit cls = true) (hnames : ∀ n ∈ Y9 :: r9, Bundle.fit n = true)
    (h : ∀ a ∈ tb_ownA own ic cls Y9 r9, a.before args s = true)
    (hlocs : ∀ x ∈ locs, ∀ cell, s.heap[x.base]? = some cell → cell.vm.isStatics = false)
    {a : Addr} {cX : ClassId} {kX : Class} (hfoundX : s.vm.findClass cls = some cX) (hkX : s.vm.classes[cX]? = some kX) (hcell : W.heap[a]? = some (freshCell cX kX)) (hnew : s.heap.size ≤ a)
    {msg : Value} (hmsg : msg.isRef = true)
    {g : JFrame} (hg : g.method = m₀) (hsize : g.locals.size = c.maxLocals) {rest : List Value} (hstack : g.stack = msg :: .ref a :: .ref a :: rest)
    (hd6 : decode c.code g.pc = .ok (.invokespecial ic, 3))
    (hRframes : (Y9 :: r9).length + 3 < R.frames) (hRlocals : 2 * g.monitorRoom + ((Value.ref a :: rest).map fun v => v.category).sum + (13 * ((Y9 :: r9).length + 1) + 42) ≤ R.locals) :
    ∃ (V : State) (ce : Cell) (L : List Loc), Stand p l e R s m₀ args below meth c (V.setCell a ce) (locs ++ L) cells slots ∧ (∀ y ∈ L, y.base = a) ∧ a < V.heap.size ∧ ce.cls = cX ∧ ce.vm = .none ∧
      ∀ target, Steps p.tables e below ((V.setCell a ce).setTop { g with stack := .ref a :: rest, pc := g.pc + 3 }) target → Steps p.tables e below (W.setTop g) target := by
  have howns : e.platform.frameOwnsMonitors = true := by rw [X.admits.platform]
  have hfin : e.platform.finalization = false := by rw [X.admits.platform]
  have hpl : e.platform.magicAccessors = ({} : Platform).magicAccessors := by rw [X.admits.platform]
  have a' : ∀ x, x ∈ tb_ownA own ic cls Y9 r9 → x.holds args s none s [] = true := fun x hx => h x hx
  obtain ⟨T, Z0, L, -, Y⟩ := ThrowableC.of_atoms (args := args) howns hfin hpl (fun x hx => h x (by simp [tb_ownA, hx]))
  obtain ⟨Z, M, LZ, LM, hnZ⟩ := Init0T.ofS_atoms (args := args) hpl L Y (fun x hx => h x (by simp [tb_ownA, hx]))
  obtain ⟨P1, L1, hP1m, hs1⟩ := PassC.ofS_atoms (args := args) (s := s) hpl (X := cls) (Y := Y9) (Bundle.fit_spec hcls).1 (Bundle.fit_spec (hnames Y9 List.mem_cons_self)).2 tb_six_0 tb_six_1 tb_six_2 tb_six_5 (fun x hx => h x (by simp [tb_ownA, hx]))
  obtain ⟨P2, Ps2, hlen2, L2, hL2, hP2m, hlink2, hlinks2⟩ := Bundle.chainS (args := args) hpl hnZ r9 Y9 (hnames Y9 List.mem_cons_self) (fun n hn => hnames n (List.mem_cons_of_mem _ hn)) (fun x hx => h x (by simp [tb_ownA, hx]))
  obtain ⟨Ps, hPs⟩ : ∃ z, z = P2 :: Ps2 := ⟨_, rfl⟩
  have hlen : Ps.length = (Y9 :: r9).length := by rw [hPs]; simp [hlen2]
  have hL : ∀ P, P ∈ Ps → P.LinksS e.platform s := by
    intro Q hQ
    rw [hPs] at hQ
    rcases List.mem_cons.mp hQ with rfl | hQ
    · exact L2
    · exact hL2 Q hQ
  have hlink1 : P1.sup = firstOf (Z.m T.toThrowableT) (Ps.map (·.toPassT)) := by rw [hPs]; exact Option.some.inj (hs1.symm.trans hP2m)
  have hlink : PassesOn (Z.m T.toThrowableT) (Ps.map (·.toPassT)) := by rw [hPs]; exact ⟨hlink2, hlinks2⟩
  have hfound : s.vm.findClass cls = some P1.m.cls := findClass_of_methodNamed hP1m
  cases Option.some.inj (hfoundX.symm.trans hfound)
  obtain ⟨c1, kX', hc1, hk, hord, -, -, hn6⟩ := Cond.instantiable_spec (a' (.instantiable cls 6) (by simp [tb_ownA]))
  cases Option.some.inj (hc1.symm.trans hfound)
  cases Option.some.inj (hkX.symm.trans hk)
  have hsel0 : selectMethod e.platform s.vm P1.m.cls T.fill0 = .method T.fill0 := by
    obtain ⟨c2, r2, m2, q1, q2, q3, q4, -⟩ := Cond.selects_spec (a' (.selects cls Bundle.tFill0 Bundle.tFill0) (by simp [tb_ownA]))
    cases Option.some.inj (q1.symm.trans hfound)
    cases Option.some.inj (q2.symm.trans (State.methodFound?_of_named Y.fill0 (by decide)))
    cases Option.some.inj (q3.symm.trans Y.fill0)
    rw [Launch.admits_selectMethod X.admits]; exact q4
  have hselF : selectMethod e.platform s.vm P1.m.cls T.fill = .method T.fill := by
    obtain ⟨c2, r2, m2, q1, q2, q3, q4, -⟩ := Cond.selects_spec (a' (.selects cls Bundle.tFill Bundle.tFill) (by simp [tb_ownA]))
    cases Option.some.inj (q1.symm.trans hfound)
    cases Option.some.inj (q2.symm.trans (State.methodFound?_of_named Y.fill (by decide)))
    cases Option.some.inj (q3.symm.trans Y.fill)
    rw [Launch.admits_selectMethod X.admits]; exact q4
  obtain ⟨cellS0, hcS0, hiss⟩ := Y.statics
  obtain ⟨u0, hu0⟩ := Cond.staticRefV Y.unassigned L.unassignedStatic L.statics hcS0 hiss (a' (.isRef (.static Bundle.tN "UNASSIGNED_STACK" Bundle.steD)) (by simp [tb_ownA]))
  obtain ⟨sen, hsen⟩ := Cond.staticRefV Y.sentinel L.sentinelStatic L.statics hcS0 hiss (a' (.isRef (.static Bundle.tN "SUPPRESSED_SENTINEL" Bundle.listD)) (by simp [tb_ownA]))
  obtain ⟨ci198, i198, fB, hk198, hg198, ha198, hsB, -, hnB, htB, hffB⟩ := Cond.ownField (t := .object "java/lang/Object") Y.found L.cls (by decide +kernel) (a' (.fieldLink Bundle.tN 198 Bundle.tN "backtrace" "Ljava/lang/Object;") (by simp [tb_ownA])) (a' (.lays Bundle.tN Bundle.tN "backtrace" "Ljava/lang/Object;") (by simp [tb_ownA])) e.platform hpl
  obtain ⟨cellS, hcS', heS, -, hkeep⟩ := X.same.2.2.2.2.2 T.aS cellS0 hcS0
  have hcellS : W.heap[T.aS]? = some cellS := hcS'
  have hout' : ∀ i, (⟨T.aS, i⟩ : Loc) ∉ locs := fun i hmem => by
    have := hlocs _ hmem cellS0 hcS0
    rw [hiss] at this; cases this
  have hknownS : cellS.vm ≠ .unknown := by
    rw [heS]; intro hu
    rw [show cellS0.vm = .unknown from hu] at hiss
    cases hiss
  have hneS : T.aS ≠ a := Nat.ne_of_lt (Nat.lt_of_lt_of_le (Array.getElem?_eq_some_iff.mp hcS0).1 hnew)
  obtain ⟨iM, hffM⟩ := Y.msg
  obtain ⟨tyC, dC, hdC, hdnC⟩ := Cond.laysAt hfound hk Y.cause (a' (.lays cls Bundle.tN "cause" "Ljava/lang/Throwable;") (by simp [tb_ownA]))
  obtain ⟨tyS, dS, hdS, hdnS⟩ := Cond.laysAt hfound hk Y.stack (a' (.lays cls Bundle.tN "stackTrace" Bundle.steD) (by simp [tb_ownA]))
  obtain ⟨tyP, dP, hdP, hdnP⟩ := Cond.laysAt hfound hk Y.supp (a' (.lays cls Bundle.tN "suppressedExceptions" Bundle.listD) (by simp [tb_ownA]))
  obtain ⟨tyM, dM, hdM, hdnM⟩ := Cond.laysAt hfound hk hffM (a' (.lays cls Bundle.tN "detailMessage" "Ljava/lang/String;") (by simp [tb_ownA]))
  obtain ⟨tyB, dB, hdB, hdnB⟩ := Cond.laysAt hfound hk hffB (a' (.lays cls Bundle.tN "backtrace" "Ljava/lang/Object;") (by simp [tb_ownA]))
  have bC := Cond.laysApart hdB hdC hdnB hdnC (by rw [hnB, Y.causeName]; decide)
  have bS := Cond.laysApart hdB hdS hdnB hdnS (by rw [hnB, Y.stackName]; decide)
  have bP := Cond.laysApart hdB hdP hdnB hdnP (by rw [hnB, Y.suppName]; decide)
  have hskip : SkipFacts T e.platform s (fun u => u) u0 ((preparedCellV T.toThrowableT (freshCell P1.m.cls kX) a u0 sen).withEntry W.cur) :=
    ⟨{ ci198 := ci198, i198 := i198, fBack := fB }, ⟨hk198, hg198, ha198, hsB⟩, by
      have := fresh_default (c := P1.m.cls) tyB
      rw [htB] at this
      simpa [preparedCellV, Cell.setSlot, Cell.withEntry, Array.getElem?_setIfInBounds, bC, bS, bP, bC.symm, bS.symm, bP.symm, defaultValue] using this, fun _ _ => rfl⟩
  obtain ⟨tm, methC, cdC, kC, vm₁, hnC, -, -, -, -, -, -, -, hW₁, st1⟩ := Steps.initColdS (tb := p.tables) (e := e) (below := below) (s := s) (U := W) X.here hexec X.warmed hpl hown (t := Bundle.initS cls) rfl rfl (Bundle.fit_spec hcls).2
    (a' (.methodLink own ic (Bundle.initS cls)) (by simp [tb_ownA])) (h (.instanceMethod (Bundle.initS cls)) (by simp [tb_ownA, Bundle.passSAtoms])) (bytes := tb_six) (maxL := 2) (h (.code (Bundle.initS cls) tb_six 2 none) (by simp [tb_ownA, Bundle.passSAtoms]))
    (f := g) hg (a := a) (msg := msg) (rest := .ref a :: rest) hstack hd6
  cases Option.some.inj (hnC.symm.trans hP1m)
  have X₁ := X.noted hW₁
  obtain ⟨vm₂, X₂, st2⟩ := X₁.ctorMessageOffV hexec (g := { g with stack := .ref a :: rest }) hg hsize T L Z LZ M LM (P1 :: Ps)
    (fun P hP => by rcases List.mem_cons.mp hP with rfl | hP; exact L1; exact hL P hP) ⟨hlink1, hlink⟩ (u0 := u0) (sen := sen) (self := a) hmsg (cell := freshCell P1.m.cls kX) (cellS := cellS)
    hcell (fun _ => by simp) (by simp) rfl rfl hsel0 hselF hcellS hneS hknownS (by rw [hkeep _ (hout' _)]; exact hu0) (by rw [hkeep _ (hout' _)]; exact hsen)
    (Takes.of_laid hk hord tyC (by rw [Y.causeType]; rfl)) (Takes.of_laid hk hord tyS (by rw [Y.stackType]; exact fits_refV_array _ u0)) (Takes.of_laid hk hord tyP (by rw [Y.suppType]; exact fits_refV_object _ sen))
    (Takes.of_laid hk hord tyM (by rw [Y.msgType]; exact fits_refV_object _ ⟨msg, hmsg⟩)) Y.objLocals hskip htr [] hd6
    (by simp only [List.length_cons, hlen]; omega) (by simp only [List.length_cons, hlen]; exact hRlocals)
  have hlt : a < ((W.setVm vm₁).setVm vm₂).heap.size := (Array.getElem?_eq_some_iff.mp hcell).1
  refine ⟨(W.setVm vm₁).setVm vm₂, _, _, X₂, fun y hy => ?_, hlt, rfl, rfl, fun target hwalk => st1 _ (fun acts => ?_)⟩
  · simp only [List.mem_cons, List.not_mem_nil, or_false] at hy
    rcases hy with rfl | rfl | rfl | rfl | rfl <;> rfl
  · rw [doInvoke_state]
    exact st2 _ hwalk
end TNA
section TNB
variable {p : Program} {l : Launch} {e : Env} {R : Room} {s : State} {m : MethodId} {args : Array Value} {below : List Frame} {meth : Method} {c : Code} {H : Heap} {locs : List Loc} {cells slots : Nat} {Q : State → Prop}
variable {ls : Array Slot} {rest : List Value}
theorem tb_back9 {T S : State} {R' : Room} {k n : Nat} (X : Stand p l e R s m args below meth c T locs cells slots) (Y : Stand p l e R' ((T.setVm s.vm).setFrames (.invoking m args :: below)) m args below meth c T [] 0 0) (Z : Stand p l e R' ((T.setVm s.vm).setFrames (.invoking m args :: below)) m args below meth c S [] k n) :
    Stand p l e R s m args below meth c S locs (cells + k) (slots + n) := by
  have hW0 : s.WarmedH ((T.setVm s.vm).setFrames (.invoking m args :: below)).vm := State.WarmedH.refl s
  refine { admits := X.admits, cas := X.cas, clock := X.clock, frames := X.frames, room := X.room, hears := X.hears, method := X.method, code := X.code, here := Z.here, tail := Z.tail, warmed := State.WarmedH.trans hW0 Z.warmed, limits := Z.limits.trans (Y.limits.symm.trans X.limits), bytes := Z.bytes.trans (Y.bytes.symm.trans X.bytes), same := ?_ }
  obtain ⟨e1, e2⟩ := Z.same
  rw [State.setFrames_setFrames] at e1
  have h2 : (T.setVm s.vm).sameButNew (S.setVm s.vm) [] k n := ⟨e1, e2⟩
  have h3 := X.same.trans h2
  rw [List.append_nil] at h3
  exact h3
theorem tb_athrow {cc : ByteArray} {pc : Nat} (hexec : p.tables.exec = Jvm.exec) (hb : c.code = cc) {q : Addr} (hdg : decode cc pc = .ok (.athrow, 1)) (k : vx_W p l e R s m args below meth c H locs cells slots Q (F0 m pc ls rest) q) : W p l e R s m args below meth c H locs cells slots Q (F0 m pc ls (.ref q :: rest)) := by
  intro T hT X
  obtain ⟨t, st, hq⟩ := k T hT X
  refine ⟨t, ?_, hq⟩
  have hdg' : decode c.code pc = .ok (.athrow, 1) := by rw [hb]; exact hdg
  jvm_step X.here [X.here.top, hexec, hdg', athrow.wp_sem]
  exact st
theorem tb_makeN {cc : ByteArray} {pc : Nat} (hexec : p.tables.exec = Jvm.exec) (hb : c.code = cc) (hl : l.stackTraces = false) {own cls text Y9 : String} {r9 : List String} {ik is ic sa : Nat} {A : Nat → Prop}
    (hown : s.vm.findClass own = some m.cls) (hcls : Bundle.fit cls = true) (hnames : ∀ n ∈ Y9 :: r9, Bundle.fit n = true)
    (hk : (Cond.classLink own ik cls).before args s = true) (hini : (Cond.initialized cls).before args s = true) (hstr : vk_R own is text sa s) (hat : ∀ w ∈ tb_atN own ic cls Y9 r9, w.before args s = true)
    (hgood : ∀ w ∈ Cond.classLink own ik cls :: Cond.initialized cls :: tb_atN own ic cls Y9 r9, vx_ot w = true)
    (hU : vx_Zq Bundle.tN "UNASSIGNED_STACK" Bundle.steD A s s.heap) (hN : vx_Zq Bundle.tN "SUPPRESSED_SENTINEL" Bundle.listD A s s.heap) (hS : va_S A s.heap H locs) (hsize : ls.size = c.maxLocals)
    (d0 : decode cc pc = .ok (.new ik, 3)) (d3 : decode cc (pc + 3) = .ok (.dup, 1)) (d4 : decode cc (pc + 4) = .ok (.ldc is, 2)) (d6 : decode cc (pc + 6) = .ok (.invokespecial ic, 3))
    (hRframes : (Y9 :: r9).length + 3 < R.frames) (hRlocals : (rest.map fun v => v.category).sum + (13 * ((Y9 :: r9).length + 1) + 43) ≤ R.locals) (hRcells : cells + 1 ≤ R.cells) (hRslots : slots + 6 ≤ R.slots)
    (kk : ∀ (q : Nat) (H1 : Heap) (ce : Cell), H.size ≤ H1.size → (∀ a : Nat, a < H.size → H1[a]? = H[a]?) → H1[q]? = some ce → ce.vm = .none → s.vm.findClass cls = some ce.cls → W p l e R s m args below meth c H1 locs (cells + 1) (slots + 6) Q (F0 m (pc + 9) ls (.ref q :: rest))) :
    W p l e R s m args below meth c H locs cells slots Q (F0 m pc ls rest) := by
  intro T hT X
  subst hT
  have htr : e.platform.stackTraces = false := (show e.platform.stackTraces = l.stackTraces by rw [X.admits.platform]).trans hl
  have Y := vx_rebase X (R' := { frames := R.frames, locals := R.locals, cells := 1, slots := 6 }) (Nat.le_refl _) (Nat.le_refl _) hRcells hRslots
  obtain ⟨s', hA'⟩ : ∃ z, z = (T.setVm s.vm).setFrames (.invoking m args :: below) := ⟨_, rfl⟩
  rw [← hA'] at Y
  have hvm : s'.vm = s.vm := by rw [hA']; rfl
  have hhp : s'.heap = T.heap := by rw [hA']; rfl
  have hW0 : s.WarmedH s'.vm := by rw [hvm]; exact State.WarmedH.refl s
  have hat' : ∀ w ∈ tb_atN own ic cls Y9 r9, w.before args s' = true := fun w hw => vx_ot_at hW0 hvm.symm (hgood w (List.mem_cons_of_mem _ (List.mem_cons_of_mem _ hw))) (hat w hw)
  have hk' : (Cond.classLink own ik cls).before args s' = true := vx_ot_at hW0 hvm.symm (hgood _ List.mem_cons_self) hk
  have hini' : (Cond.initialized cls).before args s' = true := vx_ot_at hW0 hvm.symm (hgood _ (List.mem_cons_of_mem _ List.mem_cons_self)) hini
  have hU' : vx_Zq Bundle.tN "UNASSIGNED_STACK" Bundle.steD A s' s'.heap := by rw [hhp]; exact vx_Zq.moved hW0.alike (hU.kept hS.2.1)
  have hN' : vx_Zq Bundle.tN "SUPPRESSED_SENTINEL" Bundle.listD A s' s'.heap := by rw [hhp]; exact vx_Zq.moved hW0.alike (hN.kept hS.2.1)
  have h : ∀ w ∈ tb_ownA own ic cls Y9 r9, w.before args s' = true := vx_own hat' (vx_isRefq hU'.1) (vx_isRefq hN'.1) hU'.2.word hN'.2.word
  have hown' : s'.vm.findClass own = some m.cls := by rw [hvm]; exact hown
  have hins : (Cond.instantiable cls 6).before args s' = true := h _ (by simp [tb_ownA])
  obtain ⟨vm₁, cX, kX, hfX, hkX, -, -, X₁, st1⟩ := Y.newCold hexec (own := own) (C := cls) (index := ik) (n := 6) hown' hk' hins hini'
    (g := F0 m pc ls rest) rfl (by rw [hb]; exact d0) (Nat.le_refl _) (Nat.le_refl _)
  generalize hT1 : (T.setVm vm₁).pushCell { cls := cX, slots := kX.instanceTypes.map defaultValue, vm := .none } = T1 at X₁ st1
  have hcat : (Value.ref T.heap.size).category = 1 := rfl
  have hcellA : T1.heap[T.heap.size]? = some (freshCell cX kX) := by rw [← hT1]; exact State.heap_pushCell_size _ _
  have d3' : decode c.code (pc + 3) = .ok (.dup, 1) := by rw [hb]; exact d3
  have d4' : decode c.code (pc + 4) = .ok (.ldc is, 2) := by rw [hb]; exact d4
  have hstr' : vk_R own is text sa s' := vk_R.warm hW0 hstr
  obtain ⟨V, ce, L, Z, hL, hlt, hcl9, hvm9, st⟩ := tb_ctorMade X₁ hexec htr (own := own) (cls := cls) (Y9 := Y9) (r9 := r9) (ic := ic) hown' hcls hnames h (fun x hx => nomatch hx) hfX hkX hcellA (by rw [hhp]; exact Nat.le_refl _) (msg := .ref sa) rfl
    (g := { method := m, pc := pc + 6, locals := ls, stack := .ref sa :: .ref T.heap.size :: .ref T.heap.size :: rest, locked := none }) rfl hsize (rest := rest) rfl
    (by rw [hb]; exact d6) hRframes (by simp only [List.map_cons, List.sum_cons, hcat]; omega)
  have Z0 := Stand.forget (locs := []) Z (fun y hy => by rw [hL y hy, hhp]; exact Nat.le_refl _)
  obtain ⟨f1, f2⟩ := vx_frame Z0.same
  rw [hhp] at f1 f2
  have hcid : s.vm.findClass cls = some ce.cls := by
    rw [hcl9, ← hvm]
    exact hfX
  have hh : (V.setCell T.heap.size ce).heap[T.heap.size]? = some ce := heapAt_setCell_self (s := V) ce hlt
  subst hA'
  have X5 := tb_back9 X Y Z0
  have X6 : Stand p l e R s m args below meth c (V.setCell T.heap.size ce) locs (cells + 1) (slots + 6) := { X5 with same := X5.same.mono (by omega) (by omega) }
  obtain ⟨t, a1, b1⟩ := kk T.heap.size (V.setCell T.heap.size ce).heap ce f1 (fun q hq => f2 q hq (fun z hz => nomatch hz)) hh hvm9 hcid _ rfl X6
  refine ⟨t, st1 _ ?_, b1⟩
  show Steps p.tables e below (T1.setTop { method := m, pc := pc + 3, locals := ls, stack := .ref T.heap.size :: rest, locked := none }) _
  jvm_step X₁.here [X₁.here.top, hexec, d3', Value.category]
  exact X₁.ldcString hexec (own := own) (text := text) (index := is) (a := sa) hown' hstr'.1 hstr'.2
    (g := { method := m, pc := pc + 4, locals := ls, stack := .ref T.heap.size :: .ref T.heap.size :: rest, locked := none }) rfl d4' _ (st _ a1)
theorem tb_makeNW {cc : ByteArray} {pc : Nat} (hexec : p.tables.exec = Jvm.exec) (hb : c.code = cc) (hl : l.stackTraces = false) {own cls text Y9 : String} {r9 : List String} {ik is ic sa : Nat} {A : Nat → Prop}
    (hown : s.vm.findClass own = some m.cls) (hcls : Bundle.fit cls = true) (hnames : ∀ n ∈ Y9 :: r9, Bundle.fit n = true)
    (hk : (Cond.classLink own ik cls).before args s = true) (hini : (Cond.initialized cls).before args s = true) (hstr : vk_R own is text sa s) (hat : ∀ w ∈ tb_atN own ic cls Y9 r9, w.before args s = true)
    (hgood : ∀ w ∈ Cond.classLink own ik cls :: Cond.initialized cls :: tb_atN own ic cls Y9 r9, vx_ot w = true)
    (hU : vx_Zq Bundle.tN "UNASSIGNED_STACK" Bundle.steD A s s.heap) (hN : vx_Zq Bundle.tN "SUPPRESSED_SENTINEL" Bundle.listD A s s.heap) (hS : va_S A s.heap H locs) (hsize : ls.size = c.maxLocals)
    (d0 : decode cc pc = .ok (.new ik, 3)) (d3 : decode cc (pc + 3) = .ok (.dup, 1)) (d4 : decode cc (pc + 4) = .ok (.ldc_w is, 3)) (d6 : decode cc (pc + 7) = .ok (.invokespecial ic, 3))
    (hRframes : (Y9 :: r9).length + 3 < R.frames) (hRlocals : (rest.map fun v => v.category).sum + (13 * ((Y9 :: r9).length + 1) + 43) ≤ R.locals) (hRcells : cells + 1 ≤ R.cells) (hRslots : slots + 6 ≤ R.slots)
    (kk : ∀ (q : Nat) (H1 : Heap) (ce : Cell), H.size ≤ H1.size → (∀ a : Nat, a < H.size → H1[a]? = H[a]?) → H1[q]? = some ce → ce.vm = .none → s.vm.findClass cls = some ce.cls → W p l e R s m args below meth c H1 locs (cells + 1) (slots + 6) Q (F0 m (pc + 10) ls (.ref q :: rest))) :
    W p l e R s m args below meth c H locs cells slots Q (F0 m pc ls rest) := by
  intro T hT X
  subst hT
  have htr : e.platform.stackTraces = false := (show e.platform.stackTraces = l.stackTraces by rw [X.admits.platform]).trans hl
  have Y := vx_rebase X (R' := { frames := R.frames, locals := R.locals, cells := 1, slots := 6 }) (Nat.le_refl _) (Nat.le_refl _) hRcells hRslots
  obtain ⟨s', hA'⟩ : ∃ z, z = (T.setVm s.vm).setFrames (.invoking m args :: below) := ⟨_, rfl⟩
  rw [← hA'] at Y
  have hvm : s'.vm = s.vm := by rw [hA']; rfl
  have hhp : s'.heap = T.heap := by rw [hA']; rfl
  have hW0 : s.WarmedH s'.vm := by rw [hvm]; exact State.WarmedH.refl s
  have hat' : ∀ w ∈ tb_atN own ic cls Y9 r9, w.before args s' = true := fun w hw => vx_ot_at hW0 hvm.symm (hgood w (List.mem_cons_of_mem _ (List.mem_cons_of_mem _ hw))) (hat w hw)
  have hk' : (Cond.classLink own ik cls).before args s' = true := vx_ot_at hW0 hvm.symm (hgood _ List.mem_cons_self) hk
  have hini' : (Cond.initialized cls).before args s' = true := vx_ot_at hW0 hvm.symm (hgood _ (List.mem_cons_of_mem _ List.mem_cons_self)) hini
  have hU' : vx_Zq Bundle.tN "UNASSIGNED_STACK" Bundle.steD A s' s'.heap := by rw [hhp]; exact vx_Zq.moved hW0.alike (hU.kept hS.2.1)
  have hN' : vx_Zq Bundle.tN "SUPPRESSED_SENTINEL" Bundle.listD A s' s'.heap := by rw [hhp]; exact vx_Zq.moved hW0.alike (hN.kept hS.2.1)
  have h : ∀ w ∈ tb_ownA own ic cls Y9 r9, w.before args s' = true := vx_own hat' (vx_isRefq hU'.1) (vx_isRefq hN'.1) hU'.2.word hN'.2.word
  have hown' : s'.vm.findClass own = some m.cls := by rw [hvm]; exact hown
  have hins : (Cond.instantiable cls 6).before args s' = true := h _ (by simp [tb_ownA])
  obtain ⟨vm₁, cX, kX, hfX, hkX, -, -, X₁, st1⟩ := Y.newCold hexec (own := own) (C := cls) (index := ik) (n := 6) hown' hk' hins hini'
    (g := F0 m pc ls rest) rfl (by rw [hb]; exact d0) (Nat.le_refl _) (Nat.le_refl _)
  generalize hT1 : (T.setVm vm₁).pushCell { cls := cX, slots := kX.instanceTypes.map defaultValue, vm := .none } = T1 at X₁ st1
  have hcat : (Value.ref T.heap.size).category = 1 := rfl
  have hcellA : T1.heap[T.heap.size]? = some (freshCell cX kX) := by rw [← hT1]; exact State.heap_pushCell_size _ _
  have d3' : decode c.code (pc + 3) = .ok (.dup, 1) := by rw [hb]; exact d3
  have d4' : decode c.code (pc + 4) = .ok (.ldc_w is, 3) := by rw [hb]; exact d4
  have hstr' : vk_R own is text sa s' := vk_R.warm hW0 hstr
  obtain ⟨V, ce, L, Z, hL, hlt, hcl9, hvm9, st⟩ := tb_ctorMade X₁ hexec htr (own := own) (cls := cls) (Y9 := Y9) (r9 := r9) (ic := ic) hown' hcls hnames h (fun x hx => nomatch hx) hfX hkX hcellA (by rw [hhp]; exact Nat.le_refl _) (msg := .ref sa) rfl
    (g := { method := m, pc := pc + 7, locals := ls, stack := .ref sa :: .ref T.heap.size :: .ref T.heap.size :: rest, locked := none }) rfl hsize (rest := rest) rfl
    (by rw [hb]; exact d6) hRframes (by simp only [List.map_cons, List.sum_cons, hcat]; omega)
  have Z0 := Stand.forget (locs := []) Z (fun y hy => by rw [hL y hy, hhp]; exact Nat.le_refl _)
  obtain ⟨f1, f2⟩ := vx_frame Z0.same
  rw [hhp] at f1 f2
  have hcid : s.vm.findClass cls = some ce.cls := by
    rw [hcl9, ← hvm]
    exact hfX
  have hh : (V.setCell T.heap.size ce).heap[T.heap.size]? = some ce := heapAt_setCell_self (s := V) ce hlt
  subst hA'
  have X5 := tb_back9 X Y Z0
  have X6 : Stand p l e R s m args below meth c (V.setCell T.heap.size ce) locs (cells + 1) (slots + 6) := { X5 with same := X5.same.mono (by omega) (by omega) }
  obtain ⟨t, a1, b1⟩ := kk T.heap.size (V.setCell T.heap.size ce).heap ce f1 (fun q hq => f2 q hq (fun z hz => nomatch hz)) hh hvm9 hcid _ rfl X6
  refine ⟨t, st1 _ ?_, b1⟩
  show Steps p.tables e below (T1.setTop { method := m, pc := pc + 3, locals := ls, stack := .ref T.heap.size :: rest, locked := none }) _
  jvm_step X₁.here [X₁.here.top, hexec, d3', Value.category]
  exact X₁.ldcStringW hexec (own := own) (text := text) (index := is) (a := sa) hown' hstr'.1 hstr'.2
    (g := { method := m, pc := pc + 4, locals := ls, stack := .ref T.heap.size :: .ref T.heap.size :: rest, locked := none }) rfl d4' _ (st _ a1)
end TNB
def tb_TN (own : String) (ik ic : Nat) (cls Y9 : String) (r9 : List String) : Prop := Bundle.fit cls = true ∧ (∀ n ∈ Y9 :: r9, Bundle.fit n = true) ∧ Cond.classLink own ik cls ∈ tb_W ∧ Cond.initialized cls ∈ tb_W ∧ (∀ w ∈ (tb_atN own ic cls Y9 r9).filter goodWord, w ∈ tb_W) ∧ (∀ w ∈ (tb_atN own ic cls Y9 r9).filter (fun w => !goodWord w), w ∈ tb_B) ∧ (∀ w ∈ Cond.classLink own ik cls :: Cond.initialized cls :: tb_atN own ic cls Y9 r9, vx_ot w = true)
section TNC
variable {l : Launch} {G : tb_G} {y : tb_Mt} {R : Room} {xt : Option (Nat × (Nat → Int32))} {Z : tb_CT → State → Prop} {k1 k2 n : Nat} {sh : Nat → tb_Sh} {I : tb_I} {pc : Nat} {L : List (Option Value)} {S : List Value}
theorem tb_mkN {cls text Y9 : String} {r9 : List String} {ik is ic : Nat} (ht : tb_TN y.1.cls ik ic cls Y9 r9) (hstr : (y.1.cls, is, text) ∈ tb_strs)
    (d0 : decode y.2.1 pc = .ok (.new ik, 3)) (d3 : decode y.2.1 (pc + 3) = .ok (.dup, 1)) (d4 : decode y.2.1 (pc + 4) = .ok (.ldc is, 2)) (d6 : decode y.2.1 (pc + 6) = .ok (.invokespecial ic, 3)) (d9 : decode y.2.1 (pc + 9) = .ok (.athrow, 1))
    (hRf : (Y9 :: r9).length + 3 < R.frames) (hRl : (S.map fun v => v.category).sum + (13 * ((Y9 :: r9).length + 1) + 43) ≤ R.locals) (hRc : k1 + 1 ≤ R.cells) (hRs : k2 + 6 ≤ R.slots)
    (kx : tb_Ax l G y R xt Z (k1 + 1) (k2 + 6) n sh I (pc + 9) L S cls) : tb_At l G y R xt Z k1 k2 n sh I pc L S := by
  intro ok p e s m args below meth c A adr0 n0 bx C H locs adr ls ha hP hD hS hl
  obtain ⟨t1, t2, t3, t4, t5, t6, t7⟩ := ht
  have hts := C.2.2.2.2.2.2.2.2.1
  have hE := C.2.2.2.2.2.2.2.2.2.2.2.1
  obtain ⟨sa, hsa⟩ := hE.2.2.1 _ hstr
  refine tb_makeN (cc := y.2.1) C.1 C.2.1 C.2.2.2.2.2.2.2.2.2.2.2.2.1 C.2.2.2.2.2.1 t1 t2 (hts _ t3) (hts _ t4) hsa (vx_hat (fun w hw => hts w (t5 w hw)) t6 (tb_B_at hE)) t7 hE.1 hE.2.1 hS (by rw [C.2.2.1]; exact hl.1) d0 d3 d4 d6 hRf (by rw [tb_cats]; exact hRl) hRc hRs (fun q H1 ce hz hk hce hcv hcl => ?_)
  exact tb_athrow C.1 C.2.1 d9 (kx ok p e s m args below meth c A adr0 n0 bx C H1 locs adr ls ha (hP.kept (fun k q9 hq => hk q9.1 ((hP k q9 hq).lt))) hD ⟨Nat.le_trans hS.1 hz, fun q9 h1 h2 => (hk q9 (Nat.lt_of_lt_of_le h1 hS.1)).trans (hS.2.1 q9 h1 h2), hS.2.2⟩ hl ce q hce hcv hcl)
theorem tb_throwN {cls text Y9 : String} {r9 : List String} {ik is ic mc ms : Nat} {Q : tb_Q} {X : tb_X} (ht : tb_TN y.1.cls ik ic cls Y9 r9) (hstr : (y.1.cls, is, text) ∈ tb_strs) (hh : y.2.2.2.2 = [])
    (d0 : decode y.2.1 pc = .ok (.new ik, 3)) (d3 : decode y.2.1 (pc + 3) = .ok (.dup, 1)) (d4 : decode y.2.1 (pc + 4) = .ok (.ldc is, 2)) (d6 : decode y.2.1 (pc + 6) = .ok (.invokespecial ic, 3)) (d9 : decode y.2.1 (pc + 9) = .ok (.athrow, 1))
    (hRf : (Y9 :: r9).length + 3 < R.frames) (hRl : (S.map fun v => v.category).sum + (13 * ((Y9 :: r9).length + 1) + 43) ≤ R.locals) (hRc : k1 + 1 ≤ R.cells) (hRs : k2 + 6 ≤ R.slots) (hc : k1 + 1 ≤ mc) (hs : k2 + 6 ≤ ms) (hx : X cls n sh I) :
    tb_At l G y R xt (tb_ZM G mc ms Q X) k1 k2 n sh I pc L S := tb_mkN ht hstr d0 d3 d4 d6 d9 hRf hRl hRc hRs (tb_out hh hc hs hx)
theorem tb_mkNW {cls text Y9 : String} {r9 : List String} {ik is ic : Nat} (ht : tb_TN y.1.cls ik ic cls Y9 r9) (hstr : (y.1.cls, is, text) ∈ tb_strs)
    (d0 : decode y.2.1 pc = .ok (.new ik, 3)) (d3 : decode y.2.1 (pc + 3) = .ok (.dup, 1)) (d4 : decode y.2.1 (pc + 4) = .ok (.ldc_w is, 3)) (d6 : decode y.2.1 (pc + 7) = .ok (.invokespecial ic, 3)) (d9 : decode y.2.1 (pc + 10) = .ok (.athrow, 1))
    (hRf : (Y9 :: r9).length + 3 < R.frames) (hRl : (S.map fun v => v.category).sum + (13 * ((Y9 :: r9).length + 1) + 43) ≤ R.locals) (hRc : k1 + 1 ≤ R.cells) (hRs : k2 + 6 ≤ R.slots)
    (kx : tb_Ax l G y R xt Z (k1 + 1) (k2 + 6) n sh I (pc + 10) L S cls) : tb_At l G y R xt Z k1 k2 n sh I pc L S := by
  intro ok p e s m args below meth c A adr0 n0 bx C H locs adr ls ha hP hD hS hl
  obtain ⟨t1, t2, t3, t4, t5, t6, t7⟩ := ht
  have hts := C.2.2.2.2.2.2.2.2.1
  have hE := C.2.2.2.2.2.2.2.2.2.2.2.1
  obtain ⟨sa, hsa⟩ := hE.2.2.1 _ hstr
  refine tb_makeNW (cc := y.2.1) C.1 C.2.1 C.2.2.2.2.2.2.2.2.2.2.2.2.1 C.2.2.2.2.2.1 t1 t2 (hts _ t3) (hts _ t4) hsa (vx_hat (fun w hw => hts w (t5 w hw)) t6 (tb_B_at hE)) t7 hE.1 hE.2.1 hS (by rw [C.2.2.1]; exact hl.1) d0 d3 d4 d6 hRf (by rw [tb_cats]; exact hRl) hRc hRs (fun q H1 ce hz hk hce hcv hcl => ?_)
  exact tb_athrow C.1 C.2.1 d9 (kx ok p e s m args below meth c A adr0 n0 bx C H1 locs adr ls ha (hP.kept (fun k q9 hq => hk q9.1 ((hP k q9 hq).lt))) hD ⟨Nat.le_trans hS.1 hz, fun q9 h1 h2 => (hk q9 (Nat.lt_of_lt_of_le h1 hS.1)).trans (hS.2.1 q9 h1 h2), hS.2.2⟩ hl ce q hce hcv hcl)
theorem tb_throwNW {cls text Y9 : String} {r9 : List String} {ik is ic mc ms : Nat} {Q : tb_Q} {X : tb_X} (ht : tb_TN y.1.cls ik ic cls Y9 r9) (hstr : (y.1.cls, is, text) ∈ tb_strs) (hh : y.2.2.2.2 = [])
    (d0 : decode y.2.1 pc = .ok (.new ik, 3)) (d3 : decode y.2.1 (pc + 3) = .ok (.dup, 1)) (d4 : decode y.2.1 (pc + 4) = .ok (.ldc_w is, 3)) (d6 : decode y.2.1 (pc + 7) = .ok (.invokespecial ic, 3)) (d9 : decode y.2.1 (pc + 10) = .ok (.athrow, 1))
    (hRf : (Y9 :: r9).length + 3 < R.frames) (hRl : (S.map fun v => v.category).sum + (13 * ((Y9 :: r9).length + 1) + 43) ≤ R.locals) (hRc : k1 + 1 ≤ R.cells) (hRs : k2 + 6 ≤ R.slots) (hc : k1 + 1 ≤ mc) (hs : k2 + 6 ≤ ms) (hx : X cls n sh I) :
    tb_At l G y R xt (tb_ZM G mc ms Q X) k1 k2 n sh I pc L S := tb_mkNW ht hstr d0 d3 d4 d6 d9 hRf hRl hRc hRs (tb_out hh hc hs hx)
end TNC
theorem wk_ini_ns : Cond.initialized "java/util/NoSuchElementException" ∈ tb_W := tb_mem 183 (by decide +kernel) (by decide +kernel)
theorem wk_ini_ia : Cond.initialized "java/lang/IllegalArgumentException" ∈ tb_W := tb_mem 176 (by decide +kernel) (by decide +kernel)
theorem wk_ini_L : Cond.initialized "TermBankLaw" ∈ tb_W := tb_mem 158 (by decide +kernel) (by decide +kernel)
theorem th_X11_188_192 : tb_TN RX11 188 192 "java/util/NoSuchElementException" "java/lang/RuntimeException" ["java/lang/Exception"] := ⟨by decide +kernel, by decide +kernel, cw_X11_188, wk_ini_ns, by decide +kernel, by decide +kernel, by decide +kernel⟩
theorem th_X11_122_126 : tb_TH RX11 122 126 "java/lang/IllegalArgumentException" ["java/lang/RuntimeException", "java/lang/Exception"] := ⟨by decide +kernel, by decide +kernel, cw_X11_122, wk_ini_ia, by decide +kernel, by decide +kernel, by decide +kernel⟩
end
section
/-! ===== the walk over whole numbers ===== -/
def zi (z : Int) : Value := .int (Int32.ofInt z)
abbrev zJ : Type := Nat → Int → Int
def zI (J : zJ) : tb_I := fun c k => Int32.ofInt (J c k)
def zj (I : tb_I) : zJ := fun c k => (I c k.toNat).toInt
theorem zI_zj (I : tb_I) : zI (zj I) = I := by
  funext c k
  simp [zI, zj]
theorem z_rg (x : Int32) : -2147483648 ≤ x.toInt ∧ x.toInt < 2147483648 := ⟨x.le_toInt, x.toInt_lt⟩
theorem zj_rg (I : tb_I) (c : Nat) (k : Int) : -2147483648 ≤ zj I c k ∧ zj I c k < 2147483648 := z_rg _
theorem zi_toInt (x : Int32) : zi x.toInt = .int x := by rw [zi, Int32.ofInt_toInt]
theorem zt {z : Int} (h : -2147483648 ≤ z ∧ z < 2147483648) : (Int32.ofInt z).toInt = z := Int32.toInt_ofInt_of_le h.1 h.2
theorem zlt {a b : Int} (ha : -2147483648 ≤ a ∧ a < 2147483648) (hb : -2147483648 ≤ b ∧ b < 2147483648) : Int32.ofInt a < Int32.ofInt b ↔ a < b := by rw [Int32.lt_iff_toInt_lt, zt ha, zt hb]
theorem zle {a b : Int} (ha : -2147483648 ≤ a ∧ a < 2147483648) (hb : -2147483648 ≤ b ∧ b < 2147483648) : Int32.ofInt a ≤ Int32.ofInt b ↔ a ≤ b := by rw [Int32.le_iff_toInt_le, zt ha, zt hb]
theorem zeq {a b : Int} (ha : -2147483648 ≤ a ∧ a < 2147483648) (hb : -2147483648 ≤ b ∧ b < 2147483648) : Int32.ofInt a = Int32.ofInt b ↔ a = b := by rw [← Int32.toInt_inj, zt ha, zt hb]
theorem z0 : Int32.ofInt 0 = (0 : Int32) := by decide
theorem z0r : -2147483648 ≤ (0 : Int) ∧ (0 : Int) < 2147483648 := by decide
theorem zn {z : Int} (h : 0 ≤ z) : Int32.ofInt z = nI z.toNat := by
  obtain ⟨m, rfl⟩ := Int.eq_ofNat_of_zero_le h
  rw [Int.toNat_natCast]
  exact Int32.ofInt_eq_ofNat
def zup (J : zJ) (c : Nat) (k z : Int) : zJ := fun c' => if c' = c then (fun k' => if k' = k then z else J c' k') else J c'
def zcp (J : zJ) (c0 c9 : Nat) (sp dp ln : Int) : zJ := fun c' => if c' = c9 then (fun k' => if dp ≤ k' ∧ k' < dp + ln then J c0 (sp + (k' - dp)) else J c' k') else J c'
def zfl (J : zJ) (c : Nat) (len v : Int) : zJ := fun c' => if c' = c then (fun k' => if k' < len then v else J c' k') else J c'
theorem zup_at {J : zJ} {c : Nat} {k z : Int} : zup J c k z c k = z := by simp [zup]
theorem zup_ne {J : zJ} {c : Nat} {k k' z : Int} (h : ¬ k' = k) : zup J c k z c k' = J c k' := by simp [zup, h]
theorem zup_nc {J : zJ} {c c' : Nat} {k z : Int} (h : ¬ c' = c) : zup J c k z c' = J c' := by simp [zup, h]
theorem zcp_nc {J : zJ} {c0 c9 c' : Nat} {sp dp ln : Int} (h : ¬ c' = c9) : zcp J c0 c9 sp dp ln c' = J c' := by simp [zcp, h]
theorem zcp_in {J : zJ} {c0 c9 : Nat} {sp dp ln k : Int} (h : dp ≤ k ∧ k < dp + ln) : zcp J c0 c9 sp dp ln c9 k = J c0 (sp + (k - dp)) := by simp [zcp, h]
theorem zcp_out {J : zJ} {c0 c9 : Nat} {sp dp ln k : Int} (h : ¬ (dp ≤ k ∧ k < dp + ln)) : zcp J c0 c9 sp dp ln c9 k = J c9 k := by
  simp only [zcp, if_true, h, if_false]
theorem zfl_nc {J : zJ} {c c' : Nat} {len v : Int} (h : ¬ c' = c) : zfl J c len v c' = J c' := by simp [zfl, h]
theorem zfl_in {J : zJ} {c : Nat} {len v k : Int} (h : k < len) : zfl J c len v c k = v := by simp [zfl, h]
theorem zfl_out {J : zJ} {c : Nat} {len v k : Int} (h : ¬ k < len) : zfl J c len v c k = J c k := by simp [zfl, h]
theorem zI_up {J : zJ} {c : Nat} {k z : Int} (h : 0 ≤ k) : tb_up (zI J) c k.toNat (Int32.ofInt z) = zI (zup J c k z) := by
  obtain ⟨m, rfl⟩ := Int.eq_ofNat_of_zero_le h
  funext c' k'
  rw [Int.toNat_natCast]
  show (if c' = c then (fun j => if j = m then Int32.ofInt z else Int32.ofInt (J c j)) else (fun j : Nat => Int32.ofInt (J c' j))) k' = Int32.ofInt ((if c' = c then (fun j : Int => if j = (m : Int) then z else J c' j) else J c') k')
  by_cases h1 : c' = c
  · subst h1
    rw [if_pos rfl, if_pos rfl]
    by_cases h2 : k' = m
    · subst h2
      simp
    · have : ¬ (k' : Int) = (m : Int) := by omega
      simp only [h2, if_false, this]
  · rw [if_neg h1, if_neg h1]
theorem zI_cp {J : zJ} {c0 c9 : Nat} {sp dp ln : Int} (h1 : 0 ≤ sp) (h2 : 0 ≤ dp) (h3 : 0 ≤ ln) : tb_row (zI J) c9 (va_cpy (zI J c0) (zI J c9) sp.toNat dp.toNat ln.toNat) = zI (zcp J c0 c9 sp dp ln) := by
  obtain ⟨a, rfl⟩ := Int.eq_ofNat_of_zero_le h1
  obtain ⟨b, rfl⟩ := Int.eq_ofNat_of_zero_le h2
  obtain ⟨m, rfl⟩ := Int.eq_ofNat_of_zero_le h3
  funext c' k'
  rw [Int.toNat_natCast, Int.toNat_natCast, Int.toNat_natCast]
  show (if c' = c9 then (fun j => if b ≤ j ∧ j < b + m then Int32.ofInt (J c0 ((a + (j - b) : Nat) : Int)) else Int32.ofInt (J c9 j)) else (fun j : Nat => Int32.ofInt (J c' j))) k' = Int32.ofInt ((if c' = c9 then (fun j : Int => if (b : Int) ≤ j ∧ j < (b : Int) + (m : Int) then J c0 ((a : Int) + (j - (b : Int))) else J c' j) else J c') k')
  by_cases e : c' = c9
  · subst e
    rw [if_pos rfl, if_pos rfl]
    show (if b ≤ k' ∧ k' < b + m then Int32.ofInt (J c0 ((a + (k' - b) : Nat) : Int)) else Int32.ofInt (J c' k')) = Int32.ofInt (if (b : Int) ≤ (k' : Int) ∧ (k' : Int) < (b : Int) + (m : Int) then J c0 ((a : Int) + ((k' : Int) - (b : Int))) else J c' k')
    by_cases e2 : b ≤ k' ∧ k' < b + m
    · have e3 : (b : Int) ≤ (k' : Int) ∧ (k' : Int) < (b : Int) + (m : Int) := by omega
      have e4 : ((a + (k' - b) : Nat) : Int) = (a : Int) + ((k' : Int) - (b : Int)) := by omega
      rw [if_pos e2, if_pos e3, e4]
    · have e3 : ¬ ((b : Int) ≤ (k' : Int) ∧ (k' : Int) < (b : Int) + (m : Int)) := by omega
      rw [if_neg e2, if_neg e3]
  · rw [if_neg e, if_neg e]
theorem zI_fl {J : zJ} {c len : Nat} {v : Int} : tb_fl (zI J) c len (Int32.ofInt v) = zI (zfl J c len v) := by
  funext c' k'
  show (if c' = c then (fun j => if j < len then Int32.ofInt v else Int32.ofInt (J c j)) else (fun j : Nat => Int32.ofInt (J c' j))) k' = Int32.ofInt ((if c' = c then (fun j : Int => if j < (len : Int) then v else J c' j) else J c') k')
  by_cases e : c' = c
  · subst e
    rw [if_pos rfl, if_pos rfl]
    show (if k' < len then Int32.ofInt v else Int32.ofInt (J c' k')) = Int32.ofInt (if (k' : Int) < (len : Int) then v else J c' k')
    by_cases e2 : k' < len
    · have e3 : (k' : Int) < (len : Int) := by omega
      rw [if_pos e2, if_pos e3]
    · have e3 : ¬ (k' : Int) < (len : Int) := by omega
      rw [if_neg e2, if_neg e3]
  · rw [if_neg e, if_neg e]
def zok (n : Nat) (J : zJ) : Prop := tb_N0 ≤ n ∧ ∀ c k, -2147483648 ≤ J c k ∧ J c k < 2147483648
theorem zok.up {n : Nat} {J : zJ} (h : zok n J) {c : Nat} {k z : Int} (hz : -2147483648 ≤ z ∧ z < 2147483648) : zok n (zup J c k z) := by
  refine ⟨h.1, fun c' k' => ?_⟩
  by_cases e : c' = c
  · subst e
    by_cases e2 : k' = k
    · subst e2
      rw [zup_at]
      exact hz
    · rw [zup_ne e2]
      exact h.2 _ _
  · rw [zup_nc e]
    exact h.2 _ _
theorem zok.cp {n : Nat} {J : zJ} (h : zok n J) {c0 c9 : Nat} {sp dp ln : Int} : zok n (zcp J c0 c9 sp dp ln) := by
  refine ⟨h.1, fun c' k' => ?_⟩
  by_cases e : c' = c9
  · subst e
    by_cases e2 : dp ≤ k' ∧ k' < dp + ln
    · rw [zcp_in e2]
      exact h.2 _ _
    · rw [zcp_out e2]
      exact h.2 _ _
  · rw [zcp_nc e]
    exact h.2 _ _
theorem zok.fl {n : Nat} {J : zJ} (h : zok n J) {c : Nat} {len v : Int} (hz : -2147483648 ≤ v ∧ v < 2147483648) : zok n (zfl J c len v) := by
  refine ⟨h.1, fun c' k' => ?_⟩
  by_cases e : c' = c
  · subst e
    by_cases e2 : k' < len
    · rw [zfl_in e2]
      exact hz
    · rw [zfl_out e2]
      exact h.2 _ _
  · rw [zfl_nc e]
    exact h.2 _ _
/-- what two ints give, wrapped -/
def zw (z : Int) : Int := (Int32.ofInt z).toInt
theorem zw_rg (z : Int) : -2147483648 ≤ zw z ∧ zw z < 2147483648 := z_rg _
theorem zi_zw (z : Int) : zi (zw z) = zi z := by rw [zi, zw, Int32.ofInt_toInt, zi]
theorem zw_eq {z : Int} (h : -2147483648 ≤ z ∧ z < 2147483648) : zw z = z := zt h
def zand (a b : Int) : Int := (Int32.ofInt a &&& Int32.ofInt b).toInt
def zor (a b : Int) : Int := (Int32.ofInt a ||| Int32.ofInt b).toInt
def zxor (a b : Int) : Int := (Int32.ofInt a ^^^ Int32.ofInt b).toInt
def zshl (a b : Int) : Int := (Int32.ofInt a <<< (Int32.ofInt b &&& 31)).toInt
def zshr (a b : Int) : Int := (Int32.ofInt a >>> (Int32.ofInt b &&& 31)).toInt
def zushr (a b : Int) : Int := ((Int32.ofInt a).toUInt32 >>> ((Int32.ofInt b).toUInt32 &&& Int32.toUInt32 31)).toInt32.toInt
theorem zand_rg (a b : Int) : -2147483648 ≤ zand a b ∧ zand a b < 2147483648 := z_rg _
theorem zor_rg (a b : Int) : -2147483648 ≤ zor a b ∧ zor a b < 2147483648 := z_rg _
theorem zxor_rg (a b : Int) : -2147483648 ≤ zxor a b ∧ zxor a b < 2147483648 := z_rg _
theorem zshl_rg (a b : Int) : -2147483648 ≤ zshl a b ∧ zshl a b < 2147483648 := z_rg _
theorem zshr_rg (a b : Int) : -2147483648 ≤ zshr a b ∧ zshr a b < 2147483648 := z_rg _
theorem z_of (x : Int32) : x = Int32.ofInt x.toInt := (Int32.ofInt_toInt x).symm
theorem z_rem {a b : Int} (ha : 0 ≤ a ∧ a < 2147483648) (hb : 0 < b ∧ b < 2147483648) : Int32.ofInt a - Int32.ofInt a / Int32.ofInt b * Int32.ofInt b = Int32.ofInt (a % b) := by
  obtain ⟨x, rfl⟩ := Int.eq_ofNat_of_zero_le ha.1
  obtain ⟨y, rfl⟩ := Int.eq_ofNat_of_zero_le (Int.le_of_lt hb.1)
  rw [zn ha.1, zn (Int.le_of_lt hb.1), pk_rem (by simp; omega) (by simp; omega) (by simp; omega), Int.toNat_natCast, Int.toNat_natCast, ← Int.natCast_emod, zn (by omega), Int.toNat_natCast]
theorem z_div {a b : Int} (ha : 0 ≤ a ∧ a < 2147483648) (hb : 0 < b ∧ b < 2147483648) : Int32.ofInt a / Int32.ofInt b = Int32.ofInt (a / b) := by
  obtain ⟨x, rfl⟩ := Int.eq_ofNat_of_zero_le ha.1
  obtain ⟨y, rfl⟩ := Int.eq_ofNat_of_zero_le (Int.le_of_lt hb.1)
  rw [zn ha.1, zn (Int.le_of_lt hb.1), pk_div (by simp; omega) (by simp; omega) (by simp; omega), Int.toNat_natCast, Int.toNat_natCast, ← Int.natCast_ediv, zn (Int.natCast_nonneg _), Int.toNat_natCast]
theorem z_and (a : Int) {m : Int} (k : Nat) (hm : (Int32.ofInt m).toBitVec.toNat = 2 ^ k - 1) (hk : k ≤ 30) : 0 ≤ zand a m ∧ zand a m < 2 ^ k := by
  obtain ⟨j, hj, e⟩ := pk_andE (Int32.ofInt a) k hm
  have h1 : (2 : Nat) ^ k ≤ 2 ^ 30 := Nat.pow_le_pow_right (by decide) hk
  unfold zand
  rw [e, nI_toInt (by omega)]
  refine ⟨by omega, ?_⟩
  have h2 : ((j : Nat) : Int) < ((2 ^ k : Nat) : Int) := by omega
  simpa using h2
theorem z_01 {z : Int} (h : z = 0 ∨ z = 1) : Int32.ofInt z = 0 ∨ Int32.ofInt z = 1 := by
  rcases h with rfl | rfl
  · exact Or.inl (by decide)
  · exact Or.inr (by decide)
theorem z_len {len : Nat} {lz : Int} (hl : ((len : Nat) : Int) = lz) : nI len = Int32.ofInt lz := by
  rw [← hl]
  exact Int32.ofInt_eq_ofNat.symm
theorem z_bool {z : Int} (h : z = 0 ∨ z = 1) : narrow .boolean (zi z) = zi z ∧ fits .boolean (zi z) = true := by
  rcases h with rfl | rfl <;> exact ⟨by decide, by decide⟩
/-- at pc, over whole numbers -/
def tz_At (l : Launch) (G : tb_G) (y : tb_Mt) (R : Room) (xt : Option (Nat × (Nat → Int32))) (Z : tb_CT → State → Prop) (k1 k2 n : Nat) (J : zJ) (pc : Nat) (L : List (Option Value)) (S : List Value) : Prop := zok n J → tb_At l G y R xt Z k1 k2 n tb_shT (zI J) pc L S
def zQ (n mc : Nat) (Q : Option Value → zJ → Prop) : tb_Q := fun r n' sh' I' => ∃ J' : zJ, sh' = tb_shT ∧ I' = zI J' ∧ zok n' J' ∧ n ≤ n' ∧ n' ≤ n + mc ∧ Q r J'
def zX (n mc : Nat) (X : String → zJ → Prop) : tb_X := fun E n' sh' I' => ∃ J' : zJ, sh' = tb_shT ∧ I' = zI J' ∧ zok n' J' ∧ n ≤ n' ∧ n' ≤ n + mc ∧ X E J'
def zN : String → zJ → Prop := fun _ _ => False
def tz_Ok (l : Launch) (G : tb_G) (y : tb_Mt) (d mc ms : Nat) (as : List Value) (n : Nat) (J : zJ) (Q : Option Value → zJ → Prop) (X : String → zJ → Prop) : Prop := zok n J → tb_Ok l G y d mc ms as n tb_shT (zI J) (zQ n mc Q) (zX n mc X)
/-- it answers a whole number, or nothing -/
def zqi (P : Int → zJ → Prop) : Option Value → zJ → Prop := fun r J' => ∃ z : Int, r = some (zi z) ∧ (-2147483648 ≤ z ∧ z < 2147483648) ∧ P z J'
def zqv (P : zJ → Prop) : Option Value → zJ → Prop := fun r J' => r = none ∧ P J'
theorem tz_Ok.of {l : Launch} {G : tb_G} {y : tb_Mt} {d mc ms : Nat} {as : List Value} {n : Nat} {J : zJ} {Q : Option Value → zJ → Prop} {X : String → zJ → Prop} (hl : l.stackTraces = false) (hy : plainName y.1.cls = true) (hh : y.2.2.2.2 = []) (hc : ∀ v ∈ as, v.category = 1) (hn : as.length ≤ y.2.2.1)
    (h : tz_At l G y (tb_rm d mc ms) none (tb_ZM G mc ms (zQ n mc Q) (zX n mc X)) 0 0 n J 0 (tb_L0 as y.2.2.1) []) : tz_Ok l G y d mc ms as n J Q X := fun ok => tb_Ok.of hl hy hh hc hn (h ok)
theorem tb_Ok.mono {l : Launch} {G : tb_G} {y : tb_Mt} {d mc ms : Nat} {as : List Value} {n : Nat} {sh : Nat → tb_Sh} {I : tb_I} {Q Q2 : tb_Q} {X X2 : tb_X} (h : tb_Ok l G y d mc ms as n sh I Q X) (hq : ∀ r n' sh' I', Q r n' sh' I' → Q2 r n' sh' I') (hx : ∀ E n' sh' I', X E n' sh' I' → X2 E n' sh' I') : tb_Ok l G y d mc ms as n sh I Q2 X2 := by
  intro h1 h2 adr sz p e ha hc hk s m args below hf happ hP hK
  obtain ⟨n', o, a1, a2, a3, hq9⟩ := h h1 h2 adr sz p e ha hc hk s m args below hf happ hP hK
  refine ⟨n', o, a1, a2, a3, ?_⟩
  rcases hq9 with b | ⟨q, ho, E, ce, L, hx1, b⟩
  · refine Or.inl ?_
    obtain ⟨b1, b2⟩ := b
    refine ⟨?_, b2⟩
    obtain ⟨r, n2, sh2, I2, adr2, c1, c2, c3⟩ := b1
    exact ⟨r, n2, sh2, I2, adr2, c1, hq _ _ _ _ c2, c3⟩
  · refine Or.inr ⟨q, ho, E, ce, L, ?_, b⟩
    obtain ⟨n2, sh2, I2, adr2, c2, c3⟩ := hx1
    exact ⟨n2, sh2, I2, adr2, hx _ _ _ _ c2, c3⟩
theorem tz_Ok.mono {l : Launch} {G : tb_G} {y : tb_Mt} {d mc ms : Nat} {as : List Value} {n : Nat} {J : zJ} {Q Q2 : Option Value → zJ → Prop} {X X2 : String → zJ → Prop} (h : tz_Ok l G y d mc ms as n J Q X) (hq : ∀ r J', zok n J' → Q r J' → Q2 r J') (hx : ∀ E J', zok n J' → X E J' → X2 E J') : tz_Ok l G y d mc ms as n J Q2 X2 := by
  intro ok
  refine (h ok).mono ?_ ?_
  · rintro r n' sh' I' ⟨J', h1, h2, h3, h4, h5, h6⟩
    exact ⟨J', h1, h2, h3, h4, h5, hq r J' ⟨ok.1, h3.2⟩ h6⟩
  · rintro E n' sh' I' ⟨J', h1, h2, h3, h4, h5, h6⟩
    exact ⟨J', h1, h2, h3, h4, h5, hx E J' ⟨ok.1, h3.2⟩ h6⟩
section TZ
variable {l : Launch} {G : tb_G} {y : tb_Mt} {R : Room} {xt : Option (Nat × (Nat → Int32))} {Z : tb_CT → State → Prop} {k1 k2 n : Nat} {J : zJ} {pc : Nat} {L : List (Option Value)} {S : List Value}
theorem tz_iconst {i : Int} (hd : decode y.2.1 pc = .ok (.iconst i, 1)) (k : tz_At l G y R xt Z k1 k2 n J (pc + 1) L (zi i :: S)) : tz_At l G y R xt Z k1 k2 n J pc L S := fun ok => tb_iconst hd rfl (k ok)
theorem tz_bipush {i : Int} (hd : decode y.2.1 pc = .ok (.bipush i, 2)) (hv : (Int8.ofInt i).toInt32 = Int32.ofInt i) (k : tz_At l G y R xt Z k1 k2 n J (pc + 2) L (zi i :: S)) : tz_At l G y R xt Z k1 k2 n J pc L S := fun ok => tb_bipush hd hv (k ok)
theorem tz_sipush {i : Int} (hd : decode y.2.1 pc = .ok (.sipush i, 3)) (hv : (Int16.ofInt i).toInt32 = Int32.ofInt i) (k : tz_At l G y R xt Z k1 k2 n J (pc + 3) L (zi i :: S)) : tz_At l G y R xt Z k1 k2 n J pc L S := fun ok => tb_sipush hd hv (k ok)
theorem tz_ldc {i : Nat} {v : Int32} {z : Int} (hd : decode y.2.1 pc = .ok (.ldc i, 2)) (hw : Cond.constant y.1.cls i v ∈ tb_W) (hz : v = Int32.ofInt z) (k : tz_At l G y R xt Z k1 k2 n J (pc + 2) L (zi z :: S)) : tz_At l G y R xt Z k1 k2 n J pc L S := fun ok => tb_ldc hd (hz ▸ hw) (k ok)
theorem tb_ldcw {sh : Nat → tb_Sh} {I : tb_I} {i : Nat} {v : Int32} (hd : decode y.2.1 pc = .ok (.ldc_w i, 3)) (hw : Cond.constant y.1.cls i v ∈ tb_W)
    (k : tb_At l G y R xt Z k1 k2 n sh I (pc + 3) L (.int v :: S)) : tb_At l G y R xt Z k1 k2 n sh I pc L S := by
  intro ok p e s m args below meth c A adr0 n0 bx C H locs adr ls ha hP hD hS hl
  exact lv_ldcw C.1 C.2.1 C.2.2.2.2.2.1 (C.2.2.2.2.2.2.2.2.1 _ hw) hd (k ⟨ok.1, ok.2.1, .cons trivial ok.2.2⟩ p e s m args below meth c A adr0 n0 bx C H locs adr ls ha hP hD hS hl)
theorem tz_ldcw {i : Nat} {v : Int32} {z : Int} (hd : decode y.2.1 pc = .ok (.ldc_w i, 3)) (hw : Cond.constant y.1.cls i v ∈ tb_W) (hz : v = Int32.ofInt z) (k : tz_At l G y R xt Z k1 k2 n J (pc + 3) L (zi z :: S)) : tz_At l G y R xt Z k1 k2 n J pc L S := fun ok => tb_ldcw hd (hz ▸ hw) (k ok)
theorem tz_iload_n {q : Fin 4} {i : Nat} {x : Int} (hd : decode y.2.1 pc = .ok (.iload_n q, 1)) (hq : (q : Nat) = i) (hL : L[i]? = some (some (zi x))) (k : tz_At l G y R xt Z k1 k2 n J (pc + 1) L (zi x :: S)) : tz_At l G y R xt Z k1 k2 n J pc L S := fun ok => tb_iload_n hd hq hL (k ok)
theorem tz_iload {i : Nat} {x : Int} (hd : decode y.2.1 pc = .ok (.iload i, 2)) (hL : L[i]? = some (some (zi x))) (k : tz_At l G y R xt Z k1 k2 n J (pc + 2) L (zi x :: S)) : tz_At l G y R xt Z k1 k2 n J pc L S := fun ok => tb_iload hd hL (k ok)
theorem tz_aload_n {q : Fin 4} {i x : Nat} (hd : decode y.2.1 pc = .ok (.aload_n q, 1)) (hq : (q : Nat) = i) (hL : L[i]? = some (some (.ref x))) (k : tz_At l G y R xt Z k1 k2 n J (pc + 1) L (.ref x :: S)) : tz_At l G y R xt Z k1 k2 n J pc L S := fun ok => tb_aload_n hd hq hL (k ok)
theorem tz_aload {i x : Nat} (hd : decode y.2.1 pc = .ok (.aload i, 2)) (hL : L[i]? = some (some (.ref x))) (k : tz_At l G y R xt Z k1 k2 n J (pc + 2) L (.ref x :: S)) : tz_At l G y R xt Z k1 k2 n J pc L S := fun ok => tb_aload hd hL (k ok)
theorem tz_istore_n {q : Fin 4} {i : Nat} {x : Int} {L2 : List (Option Value)} (hd : decode y.2.1 pc = .ok (.istore_n q, 1)) (hq : (q : Nat) = i) (hi : i < y.2.2.1) (hL : L.set i (some (zi x)) = L2) (k : tz_At l G y R xt Z k1 k2 n J (pc + 1) L2 S) : tz_At l G y R xt Z k1 k2 n J pc L (zi x :: S) := fun ok => tb_istore_n hd hq hi hL (k ok)
theorem tz_istore {i : Nat} {x : Int} {L2 : List (Option Value)} (hd : decode y.2.1 pc = .ok (.istore i, 2)) (hi : i < y.2.2.1) (hL : L.set i (some (zi x)) = L2) (k : tz_At l G y R xt Z k1 k2 n J (pc + 2) L2 S) : tz_At l G y R xt Z k1 k2 n J pc L (zi x :: S) := fun ok => tb_istore hd hi hL (k ok)
theorem tz_astore_n {q : Fin 4} {i : Nat} {x : Nat} {L2 : List (Option Value)} (hd : decode y.2.1 pc = .ok (.astore_n q, 1)) (hq : (q : Nat) = i) (hi : i < y.2.2.1) (hL : L.set i (some (.ref x)) = L2) (k : tz_At l G y R xt Z k1 k2 n J (pc + 1) L2 S) : tz_At l G y R xt Z k1 k2 n J pc L (.ref x :: S) := fun ok => tb_astore_n hd hq hi hL (k ok)
theorem tz_astore {i : Nat} {x : Nat} {L2 : List (Option Value)} (hd : decode y.2.1 pc = .ok (.astore i, 2)) (hi : i < y.2.2.1) (hL : L.set i (some (.ref x)) = L2) (k : tz_At l G y R xt Z k1 k2 n J (pc + 2) L2 S) : tz_At l G y R xt Z k1 k2 n J pc L (.ref x :: S) := fun ok => tb_astore hd hi hL (k ok)
theorem tz_iinc {i : Nat} {cn x z : Int} {L2 : List (Option Value)} (hd : decode y.2.1 pc = .ok (.iinc i cn, 3)) (hx : L[i]? = some (some (zi x))) (hz : x + cn = z) (hL : L.set i (some (zi z)) = L2) (k : tz_At l G y R xt Z k1 k2 n J (pc + 3) L2 S) : tz_At l G y R xt Z k1 k2 n J pc L S := fun ok => tb_iinc hd hx (by rw [← hz, Int32.ofInt_add]) hL (k ok)
theorem tz_iadd {a b v : Int} (hd : decode y.2.1 pc = .ok (.iadd, 1)) (hv : a + b = v) (k : tz_At l G y R xt Z k1 k2 n J (pc + 1) L (zi v :: S)) : tz_At l G y R xt Z k1 k2 n J pc L (zi b :: zi a :: S) := fun ok => tb_iaddv hd (by rw [← hv]; exact (Int32.ofInt_add a b).symm) (k ok)
theorem tz_isub {a b v : Int} (hd : decode y.2.1 pc = .ok (.isub, 1)) (hv : a - b = v) (k : tz_At l G y R xt Z k1 k2 n J (pc + 1) L (zi v :: S)) : tz_At l G y R xt Z k1 k2 n J pc L (zi b :: zi a :: S) := fun ok => tb_isubv hd (by rw [← hv]; exact (Int32.ofInt_sub a b).symm) (k ok)
theorem tz_imul {a b v : Int} (hd : decode y.2.1 pc = .ok (.imul, 1)) (hv : a * b = v) (k : tz_At l G y R xt Z k1 k2 n J (pc + 1) L (zi v :: S)) : tz_At l G y R xt Z k1 k2 n J pc L (zi b :: zi a :: S) := fun ok => tb_imulv hd (by rw [← hv]; exact (Int32.ofInt_mul a b).symm) (k ok)
theorem tz_iand {a b v : Int} (hd : decode y.2.1 pc = .ok (.iand, 1)) (hv : zand a b = v) (k : tz_At l G y R xt Z k1 k2 n J (pc + 1) L (zi v :: S)) : tz_At l G y R xt Z k1 k2 n J pc L (zi b :: zi a :: S) := fun ok => tb_iandv hd (by rw [← hv]; exact (z_of _)) (k ok)
theorem tz_ior {a b v : Int} (hd : decode y.2.1 pc = .ok (.ior, 1)) (hv : zor a b = v) (k : tz_At l G y R xt Z k1 k2 n J (pc + 1) L (zi v :: S)) : tz_At l G y R xt Z k1 k2 n J pc L (zi b :: zi a :: S) := fun ok => tb_iorv hd (by rw [← hv]; exact (z_of _)) (k ok)
theorem tz_ixor {a b v : Int} (hd : decode y.2.1 pc = .ok (.ixor, 1)) (hv : zxor a b = v) (k : tz_At l G y R xt Z k1 k2 n J (pc + 1) L (zi v :: S)) : tz_At l G y R xt Z k1 k2 n J pc L (zi b :: zi a :: S) := fun ok => tb_ixorv hd (by rw [← hv]; exact (z_of _)) (k ok)
theorem tz_ishl {a b v : Int} (hd : decode y.2.1 pc = .ok (.ishl, 1)) (hv : zshl a b = v) (k : tz_At l G y R xt Z k1 k2 n J (pc + 1) L (zi v :: S)) : tz_At l G y R xt Z k1 k2 n J pc L (zi b :: zi a :: S) := fun ok => tb_ishlv hd (by rw [← hv]; exact (z_of _)) (k ok)
theorem tz_ishr {a b v : Int} (hd : decode y.2.1 pc = .ok (.ishr, 1)) (hv : zshr a b = v) (k : tz_At l G y R xt Z k1 k2 n J (pc + 1) L (zi v :: S)) : tz_At l G y R xt Z k1 k2 n J pc L (zi b :: zi a :: S) := fun ok => tb_ishrv hd (by rw [← hv]; exact (z_of _)) (k ok)
theorem tz_iushr {a b v : Int} (hd : decode y.2.1 pc = .ok (.iushr, 1)) (hv : zushr a b = v) (k : tz_At l G y R xt Z k1 k2 n J (pc + 1) L (zi v :: S)) : tz_At l G y R xt Z k1 k2 n J pc L (zi b :: zi a :: S) := fun ok => tb_iushr hd (by rw [← hv]; exact z_of _) (k ok)
theorem tz_irem {a b v : Int} (hd : decode y.2.1 pc = .ok (.irem, 1)) (ha : 0 ≤ a ∧ a < 2147483648) (hb : 0 < b ∧ b < 2147483648) (hv : a % b = v) (k : tz_At l G y R xt Z k1 k2 n J (pc + 1) L (zi v :: S)) : tz_At l G y R xt Z k1 k2 n J pc L (zi b :: zi a :: S) := fun ok => tb_iremv hd (fun h => by rw [← z0, zeq (by omega) (by omega)] at h; omega) (hv ▸ z_rem ha hb) (k ok)
theorem tz_idiv {a b v : Int} (hd : decode y.2.1 pc = .ok (.idiv, 1)) (ha : 0 ≤ a ∧ a < 2147483648) (hb : 0 < b ∧ b < 2147483648) (hv : a / b = v) (k : tz_At l G y R xt Z k1 k2 n J (pc + 1) L (zi v :: S)) : tz_At l G y R xt Z k1 k2 n J pc L (zi b :: zi a :: S) := fun ok => tb_idivv hd (fun h => by rw [← z0, zeq (by omega) (by omega)] at h; omega) (hv ▸ z_div ha hb) (k ok)
theorem tz_tw {z : Int} (k : tz_At l G y R xt Z k1 k2 n J pc L (zi (zw z) :: S)) : tz_At l G y R xt Z k1 k2 n J pc L (zi z :: S) := by rw [← zi_zw]; exact k
theorem tz_pop {v : Value} (hd : decode y.2.1 pc = .ok (.pop, 1)) (hv : v.category = 1) (k : tz_At l G y R xt Z k1 k2 n J (pc + 1) L S) : tz_At l G y R xt Z k1 k2 n J pc L (v :: S) := fun ok => tb_pop hd hv (k ok)
theorem tz_dup {v : Value} (hd : decode y.2.1 pc = .ok (.dup, 1)) (hv : v.category = 1) (k : tz_At l G y R xt Z k1 k2 n J (pc + 1) L (v :: v :: S)) : tz_At l G y R xt Z k1 k2 n J pc L (v :: S) := fun ok => tb_dup hd hv (k ok)
theorem tz_dup_x1 {v w : Value} (hd : decode y.2.1 pc = .ok (.dup_x1, 1)) (hv : v.category = 1) (hw : w.category = 1) (k : tz_At l G y R xt Z k1 k2 n J (pc + 1) L (v :: w :: v :: S)) : tz_At l G y R xt Z k1 k2 n J pc L (v :: w :: S) := fun ok => tb_dup_x1 hd hv hw (k ok)
theorem tz_dup2 {v w : Value} (hd : decode y.2.1 pc = .ok (.dup2, 1)) (hv : v.category = 1) (hw : w.category = 1) (k : tz_At l G y R xt Z k1 k2 n J (pc + 1) L (v :: w :: v :: w :: S)) : tz_At l G y R xt Z k1 k2 n J pc L (v :: w :: S) := fun ok => tb_dup2 hd hv hw (k ok)
theorem tz_goto {off : Int} {tgt : Nat} (hd : decode y.2.1 pc = .ok (.goto off, 3)) (ht : (pc : Int) + off = (tgt : Int)) (k : tz_At l G y R xt Z k1 k2 n J tgt L S) : tz_At l G y R xt Z k1 k2 n J pc L S := fun ok => tb_goto hd ht (k ok)
theorem tz_icmp_eq {a b off : Int} {tgt : Nat} (hd : decode y.2.1 pc = .ok (.if_icmp .eq off, 3)) (ht : (pc : Int) + off = (tgt : Int)) (ha : (-2147483648 ≤ a ∧ a < 2147483648)) (hb : (-2147483648 ≤ b ∧ b < 2147483648)) (kt : a = b → tz_At l G y R xt Z k1 k2 n J tgt L S) (kf : ¬ a = b → tz_At l G y R xt Z k1 k2 n J (pc + 3) L S) : tz_At l G y R xt Z k1 k2 n J pc L (zi b :: zi a :: S) := fun ok => tb_icmp_eq hd ht (fun h => kt ((zeq ha hb).mp h) ok) (fun h => kf (fun h2 => h ((zeq ha hb).mpr h2)) ok)
theorem tz_icmp_eqT {a b off : Int} {tgt : Nat} (h : a = b) (hd : decode y.2.1 pc = .ok (.if_icmp .eq off, 3)) (ht : (pc : Int) + off = (tgt : Int)) (ha : (-2147483648 ≤ a ∧ a < 2147483648)) (hb : (-2147483648 ≤ b ∧ b < 2147483648)) (k : tz_At l G y R xt Z k1 k2 n J tgt L S) : tz_At l G y R xt Z k1 k2 n J pc L (zi b :: zi a :: S) := tz_icmp_eq hd ht ha hb (fun _ => k) (fun h9 => absurd h h9)
theorem tz_icmp_eqF {a b off : Int} {tgt : Nat} (h : ¬ a = b) (hd : decode y.2.1 pc = .ok (.if_icmp .eq off, 3)) (ht : (pc : Int) + off = (tgt : Int)) (ha : (-2147483648 ≤ a ∧ a < 2147483648)) (hb : (-2147483648 ≤ b ∧ b < 2147483648)) (k : tz_At l G y R xt Z k1 k2 n J (pc + 3) L S) : tz_At l G y R xt Z k1 k2 n J pc L (zi b :: zi a :: S) := tz_icmp_eq hd ht ha hb (fun h9 => absurd h9 h) (fun _ => k)
theorem tz_if_eq {a off : Int} {tgt : Nat} (hd : decode y.2.1 pc = .ok (.ifCond .eq off, 3)) (ht : (pc : Int) + off = (tgt : Int)) (ha : (-2147483648 ≤ a ∧ a < 2147483648)) (kt : a = 0 → tz_At l G y R xt Z k1 k2 n J tgt L S) (kf : ¬ a = 0 → tz_At l G y R xt Z k1 k2 n J (pc + 3) L S) : tz_At l G y R xt Z k1 k2 n J pc L (zi a :: S) := fun ok => tb_if_eq hd ht (fun h => kt ((zeq ha z0r).mp h) ok) (fun h => kf (fun h2 => h ((zeq ha z0r).mpr h2)) ok)
theorem tz_if_eqT {a off : Int} {tgt : Nat} (h : a = 0) (hd : decode y.2.1 pc = .ok (.ifCond .eq off, 3)) (ht : (pc : Int) + off = (tgt : Int)) (ha : (-2147483648 ≤ a ∧ a < 2147483648)) (k : tz_At l G y R xt Z k1 k2 n J tgt L S) : tz_At l G y R xt Z k1 k2 n J pc L (zi a :: S) := tz_if_eq hd ht ha (fun _ => k) (fun h9 => absurd h h9)
theorem tz_if_eqF {a off : Int} {tgt : Nat} (h : ¬ a = 0) (hd : decode y.2.1 pc = .ok (.ifCond .eq off, 3)) (ht : (pc : Int) + off = (tgt : Int)) (ha : (-2147483648 ≤ a ∧ a < 2147483648)) (k : tz_At l G y R xt Z k1 k2 n J (pc + 3) L S) : tz_At l G y R xt Z k1 k2 n J pc L (zi a :: S) := tz_if_eq hd ht ha (fun h9 => absurd h9 h) (fun _ => k)
theorem tz_icmp_ne {a b off : Int} {tgt : Nat} (hd : decode y.2.1 pc = .ok (.if_icmp .ne off, 3)) (ht : (pc : Int) + off = (tgt : Int)) (ha : (-2147483648 ≤ a ∧ a < 2147483648)) (hb : (-2147483648 ≤ b ∧ b < 2147483648)) (kt : ¬ a = b → tz_At l G y R xt Z k1 k2 n J tgt L S) (kf : a = b → tz_At l G y R xt Z k1 k2 n J (pc + 3) L S) : tz_At l G y R xt Z k1 k2 n J pc L (zi b :: zi a :: S) := fun ok => tb_icmp_ne hd ht (fun h => kt (fun h2 => h ((zeq ha hb).mpr h2)) ok) (fun h => kf ((zeq ha hb).mp h) ok)
theorem tz_icmp_neT {a b off : Int} {tgt : Nat} (h : ¬ a = b) (hd : decode y.2.1 pc = .ok (.if_icmp .ne off, 3)) (ht : (pc : Int) + off = (tgt : Int)) (ha : (-2147483648 ≤ a ∧ a < 2147483648)) (hb : (-2147483648 ≤ b ∧ b < 2147483648)) (k : tz_At l G y R xt Z k1 k2 n J tgt L S) : tz_At l G y R xt Z k1 k2 n J pc L (zi b :: zi a :: S) := tz_icmp_ne hd ht ha hb (fun _ => k) (fun h9 => absurd h9 h)
theorem tz_icmp_neF {a b off : Int} {tgt : Nat} (h : a = b) (hd : decode y.2.1 pc = .ok (.if_icmp .ne off, 3)) (ht : (pc : Int) + off = (tgt : Int)) (ha : (-2147483648 ≤ a ∧ a < 2147483648)) (hb : (-2147483648 ≤ b ∧ b < 2147483648)) (k : tz_At l G y R xt Z k1 k2 n J (pc + 3) L S) : tz_At l G y R xt Z k1 k2 n J pc L (zi b :: zi a :: S) := tz_icmp_ne hd ht ha hb (fun h9 => absurd h h9) (fun _ => k)
theorem tz_if_ne {a off : Int} {tgt : Nat} (hd : decode y.2.1 pc = .ok (.ifCond .ne off, 3)) (ht : (pc : Int) + off = (tgt : Int)) (ha : (-2147483648 ≤ a ∧ a < 2147483648)) (kt : ¬ a = 0 → tz_At l G y R xt Z k1 k2 n J tgt L S) (kf : a = 0 → tz_At l G y R xt Z k1 k2 n J (pc + 3) L S) : tz_At l G y R xt Z k1 k2 n J pc L (zi a :: S) := fun ok => tb_if_ne hd ht (fun h => kt (fun h2 => h ((zeq ha z0r).mpr h2)) ok) (fun h => kf ((zeq ha z0r).mp h) ok)
theorem tz_if_neT {a off : Int} {tgt : Nat} (h : ¬ a = 0) (hd : decode y.2.1 pc = .ok (.ifCond .ne off, 3)) (ht : (pc : Int) + off = (tgt : Int)) (ha : (-2147483648 ≤ a ∧ a < 2147483648)) (k : tz_At l G y R xt Z k1 k2 n J tgt L S) : tz_At l G y R xt Z k1 k2 n J pc L (zi a :: S) := tz_if_ne hd ht ha (fun _ => k) (fun h9 => absurd h9 h)
theorem tz_if_neF {a off : Int} {tgt : Nat} (h : a = 0) (hd : decode y.2.1 pc = .ok (.ifCond .ne off, 3)) (ht : (pc : Int) + off = (tgt : Int)) (ha : (-2147483648 ≤ a ∧ a < 2147483648)) (k : tz_At l G y R xt Z k1 k2 n J (pc + 3) L S) : tz_At l G y R xt Z k1 k2 n J pc L (zi a :: S) := tz_if_ne hd ht ha (fun h9 => absurd h h9) (fun _ => k)
theorem tz_icmp_lt {a b off : Int} {tgt : Nat} (hd : decode y.2.1 pc = .ok (.if_icmp .lt off, 3)) (ht : (pc : Int) + off = (tgt : Int)) (ha : (-2147483648 ≤ a ∧ a < 2147483648)) (hb : (-2147483648 ≤ b ∧ b < 2147483648)) (kt : a < b → tz_At l G y R xt Z k1 k2 n J tgt L S) (kf : ¬ a < b → tz_At l G y R xt Z k1 k2 n J (pc + 3) L S) : tz_At l G y R xt Z k1 k2 n J pc L (zi b :: zi a :: S) := fun ok => tb_icmp_lt hd ht (fun h => kt ((zlt ha hb).mp h) ok) (fun h => kf (fun h2 => h ((zlt ha hb).mpr h2)) ok)
theorem tz_icmp_ltT {a b off : Int} {tgt : Nat} (h : a < b) (hd : decode y.2.1 pc = .ok (.if_icmp .lt off, 3)) (ht : (pc : Int) + off = (tgt : Int)) (ha : (-2147483648 ≤ a ∧ a < 2147483648)) (hb : (-2147483648 ≤ b ∧ b < 2147483648)) (k : tz_At l G y R xt Z k1 k2 n J tgt L S) : tz_At l G y R xt Z k1 k2 n J pc L (zi b :: zi a :: S) := tz_icmp_lt hd ht ha hb (fun _ => k) (fun h9 => absurd h h9)
theorem tz_if_lt {a off : Int} {tgt : Nat} (hd : decode y.2.1 pc = .ok (.ifCond .lt off, 3)) (ht : (pc : Int) + off = (tgt : Int)) (ha : (-2147483648 ≤ a ∧ a < 2147483648)) (kt : a < 0 → tz_At l G y R xt Z k1 k2 n J tgt L S) (kf : ¬ a < 0 → tz_At l G y R xt Z k1 k2 n J (pc + 3) L S) : tz_At l G y R xt Z k1 k2 n J pc L (zi a :: S) := fun ok => tb_if_lt hd ht (fun h => kt ((zlt ha z0r).mp h) ok) (fun h => kf (fun h2 => h ((zlt ha z0r).mpr h2)) ok)
theorem tz_if_ltF {a off : Int} {tgt : Nat} (h : ¬ a < 0) (hd : decode y.2.1 pc = .ok (.ifCond .lt off, 3)) (ht : (pc : Int) + off = (tgt : Int)) (ha : (-2147483648 ≤ a ∧ a < 2147483648)) (k : tz_At l G y R xt Z k1 k2 n J (pc + 3) L S) : tz_At l G y R xt Z k1 k2 n J pc L (zi a :: S) := tz_if_lt hd ht ha (fun h9 => absurd h9 h) (fun _ => k)
theorem tz_icmp_ge {a b off : Int} {tgt : Nat} (hd : decode y.2.1 pc = .ok (.if_icmp .ge off, 3)) (ht : (pc : Int) + off = (tgt : Int)) (ha : (-2147483648 ≤ a ∧ a < 2147483648)) (hb : (-2147483648 ≤ b ∧ b < 2147483648)) (kt : b ≤ a → tz_At l G y R xt Z k1 k2 n J tgt L S) (kf : ¬ b ≤ a → tz_At l G y R xt Z k1 k2 n J (pc + 3) L S) : tz_At l G y R xt Z k1 k2 n J pc L (zi b :: zi a :: S) := fun ok => tb_icmp_ge hd ht (fun h => kt ((zle hb ha).mp h) ok) (fun h => kf (fun h2 => h ((zle hb ha).mpr h2)) ok)
theorem tz_icmp_geT {a b off : Int} {tgt : Nat} (h : b ≤ a) (hd : decode y.2.1 pc = .ok (.if_icmp .ge off, 3)) (ht : (pc : Int) + off = (tgt : Int)) (ha : (-2147483648 ≤ a ∧ a < 2147483648)) (hb : (-2147483648 ≤ b ∧ b < 2147483648)) (k : tz_At l G y R xt Z k1 k2 n J tgt L S) : tz_At l G y R xt Z k1 k2 n J pc L (zi b :: zi a :: S) := tz_icmp_ge hd ht ha hb (fun _ => k) (fun h9 => absurd h h9)
theorem tz_icmp_geF {a b off : Int} {tgt : Nat} (h : ¬ b ≤ a) (hd : decode y.2.1 pc = .ok (.if_icmp .ge off, 3)) (ht : (pc : Int) + off = (tgt : Int)) (ha : (-2147483648 ≤ a ∧ a < 2147483648)) (hb : (-2147483648 ≤ b ∧ b < 2147483648)) (k : tz_At l G y R xt Z k1 k2 n J (pc + 3) L S) : tz_At l G y R xt Z k1 k2 n J pc L (zi b :: zi a :: S) := tz_icmp_ge hd ht ha hb (fun h9 => absurd h9 h) (fun _ => k)
theorem tz_if_ge {a off : Int} {tgt : Nat} (hd : decode y.2.1 pc = .ok (.ifCond .ge off, 3)) (ht : (pc : Int) + off = (tgt : Int)) (ha : (-2147483648 ≤ a ∧ a < 2147483648)) (kt : 0 ≤ a → tz_At l G y R xt Z k1 k2 n J tgt L S) (kf : ¬ 0 ≤ a → tz_At l G y R xt Z k1 k2 n J (pc + 3) L S) : tz_At l G y R xt Z k1 k2 n J pc L (zi a :: S) := fun ok => tb_if_ge hd ht (fun h => kt ((zle z0r ha).mp h) ok) (fun h => kf (fun h2 => h ((zle z0r ha).mpr h2)) ok)
theorem tz_if_geT {a off : Int} {tgt : Nat} (h : 0 ≤ a) (hd : decode y.2.1 pc = .ok (.ifCond .ge off, 3)) (ht : (pc : Int) + off = (tgt : Int)) (ha : (-2147483648 ≤ a ∧ a < 2147483648)) (k : tz_At l G y R xt Z k1 k2 n J tgt L S) : tz_At l G y R xt Z k1 k2 n J pc L (zi a :: S) := tz_if_ge hd ht ha (fun _ => k) (fun h9 => absurd h h9)
theorem tz_if_geF {a off : Int} {tgt : Nat} (h : ¬ 0 ≤ a) (hd : decode y.2.1 pc = .ok (.ifCond .ge off, 3)) (ht : (pc : Int) + off = (tgt : Int)) (ha : (-2147483648 ≤ a ∧ a < 2147483648)) (k : tz_At l G y R xt Z k1 k2 n J (pc + 3) L S) : tz_At l G y R xt Z k1 k2 n J pc L (zi a :: S) := tz_if_ge hd ht ha (fun h9 => absurd h9 h) (fun _ => k)
theorem tz_icmp_gt {a b off : Int} {tgt : Nat} (hd : decode y.2.1 pc = .ok (.if_icmp .gt off, 3)) (ht : (pc : Int) + off = (tgt : Int)) (ha : (-2147483648 ≤ a ∧ a < 2147483648)) (hb : (-2147483648 ≤ b ∧ b < 2147483648)) (kt : b < a → tz_At l G y R xt Z k1 k2 n J tgt L S) (kf : ¬ b < a → tz_At l G y R xt Z k1 k2 n J (pc + 3) L S) : tz_At l G y R xt Z k1 k2 n J pc L (zi b :: zi a :: S) := fun ok => tb_icmp_gt hd ht (fun h => kt ((zlt hb ha).mp h) ok) (fun h => kf (fun h2 => h ((zlt hb ha).mpr h2)) ok)
theorem tz_icmp_gtT {a b off : Int} {tgt : Nat} (h : b < a) (hd : decode y.2.1 pc = .ok (.if_icmp .gt off, 3)) (ht : (pc : Int) + off = (tgt : Int)) (ha : (-2147483648 ≤ a ∧ a < 2147483648)) (hb : (-2147483648 ≤ b ∧ b < 2147483648)) (k : tz_At l G y R xt Z k1 k2 n J tgt L S) : tz_At l G y R xt Z k1 k2 n J pc L (zi b :: zi a :: S) := tz_icmp_gt hd ht ha hb (fun _ => k) (fun h9 => absurd h h9)
theorem tz_icmp_gtF {a b off : Int} {tgt : Nat} (h : ¬ b < a) (hd : decode y.2.1 pc = .ok (.if_icmp .gt off, 3)) (ht : (pc : Int) + off = (tgt : Int)) (ha : (-2147483648 ≤ a ∧ a < 2147483648)) (hb : (-2147483648 ≤ b ∧ b < 2147483648)) (k : tz_At l G y R xt Z k1 k2 n J (pc + 3) L S) : tz_At l G y R xt Z k1 k2 n J pc L (zi b :: zi a :: S) := tz_icmp_gt hd ht ha hb (fun h9 => absurd h9 h) (fun _ => k)
theorem tz_if_gt {a off : Int} {tgt : Nat} (hd : decode y.2.1 pc = .ok (.ifCond .gt off, 3)) (ht : (pc : Int) + off = (tgt : Int)) (ha : (-2147483648 ≤ a ∧ a < 2147483648)) (kt : 0 < a → tz_At l G y R xt Z k1 k2 n J tgt L S) (kf : ¬ 0 < a → tz_At l G y R xt Z k1 k2 n J (pc + 3) L S) : tz_At l G y R xt Z k1 k2 n J pc L (zi a :: S) := fun ok => tb_if_gt hd ht (fun h => kt ((zlt z0r ha).mp h) ok) (fun h => kf (fun h2 => h ((zlt z0r ha).mpr h2)) ok)
theorem tz_icmp_le {a b off : Int} {tgt : Nat} (hd : decode y.2.1 pc = .ok (.if_icmp .le off, 3)) (ht : (pc : Int) + off = (tgt : Int)) (ha : (-2147483648 ≤ a ∧ a < 2147483648)) (hb : (-2147483648 ≤ b ∧ b < 2147483648)) (kt : a ≤ b → tz_At l G y R xt Z k1 k2 n J tgt L S) (kf : ¬ a ≤ b → tz_At l G y R xt Z k1 k2 n J (pc + 3) L S) : tz_At l G y R xt Z k1 k2 n J pc L (zi b :: zi a :: S) := fun ok => tb_icmp_le hd ht (fun h => kt ((zle ha hb).mp h) ok) (fun h => kf (fun h2 => h ((zle ha hb).mpr h2)) ok)
theorem tz_icmp_leT {a b off : Int} {tgt : Nat} (h : a ≤ b) (hd : decode y.2.1 pc = .ok (.if_icmp .le off, 3)) (ht : (pc : Int) + off = (tgt : Int)) (ha : (-2147483648 ≤ a ∧ a < 2147483648)) (hb : (-2147483648 ≤ b ∧ b < 2147483648)) (k : tz_At l G y R xt Z k1 k2 n J tgt L S) : tz_At l G y R xt Z k1 k2 n J pc L (zi b :: zi a :: S) := tz_icmp_le hd ht ha hb (fun _ => k) (fun h9 => absurd h h9)
theorem tz_icmp_leF {a b off : Int} {tgt : Nat} (h : ¬ a ≤ b) (hd : decode y.2.1 pc = .ok (.if_icmp .le off, 3)) (ht : (pc : Int) + off = (tgt : Int)) (ha : (-2147483648 ≤ a ∧ a < 2147483648)) (hb : (-2147483648 ≤ b ∧ b < 2147483648)) (k : tz_At l G y R xt Z k1 k2 n J (pc + 3) L S) : tz_At l G y R xt Z k1 k2 n J pc L (zi b :: zi a :: S) := tz_icmp_le hd ht ha hb (fun h9 => absurd h9 h) (fun _ => k)
theorem tz_if_le {a off : Int} {tgt : Nat} (hd : decode y.2.1 pc = .ok (.ifCond .le off, 3)) (ht : (pc : Int) + off = (tgt : Int)) (ha : (-2147483648 ≤ a ∧ a < 2147483648)) (kt : a ≤ 0 → tz_At l G y R xt Z k1 k2 n J tgt L S) (kf : ¬ a ≤ 0 → tz_At l G y R xt Z k1 k2 n J (pc + 3) L S) : tz_At l G y R xt Z k1 k2 n J pc L (zi a :: S) := fun ok => tb_if_le hd ht (fun h => kt ((zle ha z0r).mp h) ok) (fun h => kf (fun h2 => h ((zle ha z0r).mpr h2)) ok)
theorem tz_if_leT {a off : Int} {tgt : Nat} (h : a ≤ 0) (hd : decode y.2.1 pc = .ok (.ifCond .le off, 3)) (ht : (pc : Int) + off = (tgt : Int)) (ha : (-2147483648 ≤ a ∧ a < 2147483648)) (k : tz_At l G y R xt Z k1 k2 n J tgt L S) : tz_At l G y R xt Z k1 k2 n J pc L (zi a :: S) := tz_if_le hd ht ha (fun _ => k) (fun h9 => absurd h h9)
theorem tz_if_leF {a off : Int} {tgt : Nat} (h : ¬ a ≤ 0) (hd : decode y.2.1 pc = .ok (.ifCond .le off, 3)) (ht : (pc : Int) + off = (tgt : Int)) (ha : (-2147483648 ≤ a ∧ a < 2147483648)) (k : tz_At l G y R xt Z k1 k2 n J (pc + 3) L S) : tz_At l G y R xt Z k1 k2 n J pc L (zi a :: S) := tz_if_le hd ht ha (fun h9 => absurd h9 h) (fun _ => k)
theorem tz_tabOut {dflt lo hi x : Int} {offs : Array Int} {len : Nat} {tgt : Nat} (hd : decode y.2.1 pc = .ok (.tableswitch dflt lo hi offs, len)) (hx : (-2147483648 ≤ x ∧ x < 2147483648)) (h : x < lo ∨ hi < x) (ht : (pc : Int) + dflt = (tgt : Int)) (k : tz_At l G y R xt Z k1 k2 n J tgt L S) : tz_At l G y R xt Z k1 k2 n J pc L (zi x :: S) := fun ok => tb_tabOut hd (by rw [zt hx]; exact h) ht (k ok)
theorem tz_tabIn {dflt lo hi off x : Int} {offs : Array Int} {len : Nat} {tgt : Nat} (v : Int) (hd : decode y.2.1 pc = .ok (.tableswitch dflt lo hi offs, len)) (hx : x = v) (h : (lo ≤ v ∧ v ≤ hi) ∧ (-2147483648 ≤ v ∧ v < 2147483648)) (ho : offs[(v - lo).toNat]? = some off) (ht : (pc : Int) + off = (tgt : Int)) (k : tz_At l G y R xt Z k1 k2 n J tgt L S) : tz_At l G y R xt Z k1 k2 n J pc L (zi x :: S) := fun ok => tb_tabIn hd (by rw [hx, zt h.2]; omega) (by rw [hx, zt h.2]; omega) (by rw [hx, zt h.2]; exact ho) ht (k ok)
theorem tz_fI {idx ci k c9 : Nat} {fin : Bool} {kz v : Int} (hd : decode y.2.1 pc = .ok (.getfield idx, 3)) (hf : tb_FL y.1.cls idx ci k fin) (h : tb_cI tb_shT c9 ci k = true) (hk : ((k : Nat) : Int) = kz) (hv : J c9 kz = v) (kk : (-2147483648 ≤ v ∧ v < 2147483648) → tz_At l G y R xt Z k1 k2 n J (pc + 3) L (zi v :: S)) : tz_At l G y R xt Z k1 k2 n J pc L (.ref c9 :: S) := fun ok => tb_fIv hd hf h (by rw [← hv, ← hk]; rfl) (kk (hv ▸ ok.2 c9 kz) ok)
theorem tz_fR {idx ci k c9 r : Nat} {fin : Bool} (hd : decode y.2.1 pc = .ok (.getfield idx, 3)) (hf : tb_FL y.1.cls idx ci k fin) (h : tb_cR tb_shT c9 ci k r = true) (kk : tz_At l G y R xt Z k1 k2 n J (pc + 3) L (.ref r :: S)) : tz_At l G y R xt Z k1 k2 n J pc L (.ref c9 :: S) := fun ok => tb_fR hd hf h (kk ok)
theorem zI_upN {J : zJ} {c k : Nat} {kz z : Int} (hk : ((k : Nat) : Int) = kz) : tb_up (zI J) c k (Int32.ofInt z) = zI (zup J c kz z) := by
  subst hk
  have h := zI_up (J := J) (c := c) (k := ((k : Nat) : Int)) (z := z) (by omega)
  rwa [Int.toNat_natCast] at h
theorem tz_pI {idx ci k c9 : Nat} {kz z : Int} (hd : decode y.2.1 pc = .ok (.putfield idx, 3)) (hf : tb_FL y.1.cls idx ci k false) (h : tb_cI tb_shT c9 ci k = true) (ht : tb_ft ci k = .int) (hk : ((k : Nat) : Int) = kz) (hz : (-2147483648 ≤ z ∧ z < 2147483648)) (kk : tz_At l G y R xt Z k1 k2 n (zup J c9 kz z) (pc + 3) L S) : tz_At l G y R xt Z k1 k2 n J pc L (zi z :: .ref c9 :: S) := fun ok => tb_pI hd hf h ht (by rw [zI_upN hk]; exact kk (ok.up hz))
theorem tz_pZ {idx ci k c9 : Nat} {kz z : Int} (hd : decode y.2.1 pc = .ok (.putfield idx, 3)) (hf : tb_FL y.1.cls idx ci k false) (h : tb_cI tb_shT c9 ci k = true) (ht : tb_ft ci k = .boolean) (hk : ((k : Nat) : Int) = kz) (hz : z = 0 ∨ z = 1) (kk : tz_At l G y R xt Z k1 k2 n (zup J c9 kz z) (pc + 3) L S) : tz_At l G y R xt Z k1 k2 n J pc L (zi z :: .ref c9 :: S) := fun ok => tb_pZ hd hf h ht (z_01 hz) (by rw [zI_upN hk]; exact kk (ok.up (by omega)))
theorem tz_aL {len c9 : Nat} {lz z v : Int} (hd : decode y.2.1 pc = .ok (.iaload, 1)) (h : tb_cA tb_shT c9 len = true) (hl : ((len : Nat) : Int) = lz) (hz : 0 ≤ z ∧ z < lz) (hv : J c9 z = v) (kk : (-2147483648 ≤ v ∧ v < 2147483648) → tz_At l G y R xt Z k1 k2 n J (pc + 1) L (zi v :: S)) : tz_At l G y R xt Z k1 k2 n J pc L (zi z :: .ref c9 :: S) := fun ok => tb_aLv (j := z.toNat) hd h (zn hz.1) (by omega) (by show Int32.ofInt (J c9 (z.toNat : Int)) = _; rw [Int.toNat_of_nonneg hz.1, hv]) (kk (hv ▸ ok.2 c9 z) ok)
theorem tz_aS {len c9 : Nat} {lz z v : Int} (hd : decode y.2.1 pc = .ok (.iastore, 1)) (h : tb_cA tb_shT c9 len = true) (hl : ((len : Nat) : Int) = lz) (hz : 0 ≤ z ∧ z < lz) (hr : (-2147483648 ≤ v ∧ v < 2147483648)) (kk : tz_At l G y R xt Z k1 k2 n (zup J c9 z v) (pc + 1) L S) : tz_At l G y R xt Z k1 k2 n J pc L (zi v :: zi z :: .ref c9 :: S) := fun ok => tb_aS (j := z.toNat) hd h (zn hz.1) (by omega) (by rw [zI_up hz.1]; exact kk (ok.up hr))
theorem tz_aN {len c9 : Nat} {lz : Int} (hd : decode y.2.1 pc = .ok (.arraylength, 1)) (h : tb_cA tb_shT c9 len = true) (hl : ((len : Nat) : Int) = lz) (kk : tz_At l G y R xt Z k1 k2 n J (pc + 1) L (zi lz :: S)) : tz_At l G y R xt Z k1 k2 n J pc L (.ref c9 :: S) := fun ok => tb_aN hd h (by rw [z_len hl]; exact kk ok)
theorem tz_aR {len c9 r : Nat} {lz z : Int} (hd : decode y.2.1 pc = .ok (.aaload, 1)) (h : tb_cB tb_shT c9 len z.toNat r = true) (hl : ((len : Nat) : Int) = lz) (hz : 0 ≤ z ∧ z < lz) (kk : tz_At l G y R xt Z k1 k2 n J (pc + 1) L (.ref r :: S)) : tz_At l G y R xt Z k1 k2 n J pc L (zi z :: .ref c9 :: S) := fun ok => tb_aR (j := z.toNat) hd h (zn hz.1) (by omega) (kk ok)
theorem tz_cp {idx c0 c9 n0 n1 : Nat} {sp dp ln m0 m1 : Int} (hd : decode y.2.1 pc = .ok (.invokestatic idx, 3)) (hw1 : Cond.methodLink y.1.cls idx arraycopyName ∈ tb_W) (h0 : tb_cA tb_shT c0 n0 = true) (h9 : tb_cA tb_shT c9 n1 = true) (e0 : ((n0 : Nat) : Int) = m0) (e1 : ((n1 : Nat) : Int) = m1) (h1 : (0 ≤ sp ∧ 0 ≤ dp ∧ 0 ≤ ln) ∧ sp + ln ≤ m0 ∧ dp + ln ≤ m1) (hfr : 1 ≤ R.frames) (hlo : (S.map fun v => v.category).sum + (nativeFrameWords "java/lang/System" "arraycopy" 5 + 11) ≤ R.locals) (kk : tz_At l G y R xt Z k1 k2 n (zcp J c0 c9 sp dp ln) (pc + 3) L S) : tz_At l G y R xt Z k1 k2 n J pc L (zi ln :: zi dp :: .ref c9 :: zi sp :: .ref c0 :: S) := fun ok => tb_cp (sp := sp.toNat) (dp := dp.toNat) (ln := ln.toNat) hd hw1 h0 h9 (zn h1.1.1) (zn h1.1.2.1) (zn h1.1.2.2) (by omega) (by omega) hfr hlo (by rw [zI_cp h1.1.1 h1.1.2.1 h1.1.2.2]; exact kk ok.cp)
theorem tz_mx {idx : Nat} {a b v : Int} (hd : decode y.2.1 pc = .ok (.invokestatic idx, 3)) (hw1 : Cond.methodLink y.1.cls idx Lib.Math.max.name ∈ tb_W) (hfr : 1 ≤ R.frames) (hlo : (S.map fun v => v.category).sum + 13 ≤ R.locals) (hc : k1 ≤ R.cells) (hs : k2 ≤ R.slots) (ha : (-2147483648 ≤ a ∧ a < 2147483648)) (hb : (-2147483648 ≤ b ∧ b < 2147483648)) (hv : (if a < b then b else a) = v) (kk : tz_At l G y R xt Z k1 k2 n J (pc + 3) L (zi v :: S)) : tz_At l G y R xt Z k1 k2 n J pc L (zi b :: zi a :: S) := fun ok => tb_mx hd hw1 hfr hlo hc hs (by rw [← hv]; simp only [zlt ha hb]; split <;> rfl) (kk ok)
theorem tz_mn {idx : Nat} {a b v : Int} (hd : decode y.2.1 pc = .ok (.invokestatic idx, 3)) (hw1 : Cond.methodLink y.1.cls idx Lib.Math.min.name ∈ tb_W) (hfr : 1 ≤ R.frames) (hlo : (S.map fun v => v.category).sum + 13 ≤ R.locals) (hc : k1 ≤ R.cells) (hs : k2 ≤ R.slots) (ha : (-2147483648 ≤ a ∧ a < 2147483648)) (hb : (-2147483648 ≤ b ∧ b < 2147483648)) (hv : (if b < a then b else a) = v) (kk : tz_At l G y R xt Z k1 k2 n J (pc + 3) L (zi v :: S)) : tz_At l G y R xt Z k1 k2 n J pc L (zi b :: zi a :: S) := fun ok => tb_mn hd hw1 hfr hlo hc hs (by rw [← hv]; simp only [zlt hb ha]; split <;> rfl) (kk ok)
theorem tz_cV {idx nA d ms m1 m2 c9 ci : Nat} {y' : tb_Mt} {as St : List Value} {Q' : Option Value → zJ → Prop} (hM : tz_Ok l G y' d 0 ms (.ref c9 :: as) n J Q' zN) (hv : tb_VL y.1.cls idx y' nA ci) (hd : decode y.2.1 pc = .ok (.invokevirtual idx, 3)) (hs : tb_cO tb_shT c9 ci = true) (hna : as.length = nA) (hst : St = as.reverse ++ .ref c9 :: S)
    (hcat : (S.map fun v => v.category).sum ≤ 8) (hR : d + 1 ≤ R.frames ∧ 8 + (y'.2.2.1 + 11) + 40 * d ≤ R.locals) (h1 : k1 + 0 = m1) (h2 : k2 + ms = m2) (hce : m1 ≤ R.cells) (hsl : m2 ≤ R.slots)
    (kk : ∀ (r : Option Value) (J' : zJ), Q' r J' → tz_At l G y R xt Z m1 m2 n J' (pc + 3) L (r.toList ++ S)) : tz_At l G y R xt Z k1 k2 n J pc L St := fun ok => by
  simp only [tb_cO, Bool.and_eq_true, bne_iff_ne, ne_eq, beq_iff_eq] at hs
  refine tb_callV (hM ok) hv hd (tb_sh3 hs.2 rfl) hs.1 hna hst hcat hR h1 h2 hce hsl ?_ ?_
  · rintro r n' sh' I' ⟨J', rfl, rfl, ok', hn1, hn2, hq⟩
    have : n' = n := by omega
    subst this
    exact kk r J' hq ok'
  · rintro E n' sh' I' ⟨J', -, -, -, -, -, hx⟩
    exact hx.elim
theorem tz_cS {idx nA d ms m1 m2 : Nat} {y' : tb_Mt} {as St : List Value} {Q' : Option Value → zJ → Prop} (hM : tz_Ok l G y' d 0 ms as n J Q' zN) (hv : tb_SL y.1.cls idx y' nA) (hd : decode y.2.1 pc = .ok (.invokestatic idx, 3)) (hna : as.length = nA) (hst : St = as.reverse ++ S)
    (hcat : (S.map fun v => v.category).sum ≤ 8) (hR : d + 1 ≤ R.frames ∧ 8 + (y'.2.2.1 + 11) + 40 * d ≤ R.locals) (h1 : k1 + 0 = m1) (h2 : k2 + ms = m2) (hce : m1 ≤ R.cells) (hsl : m2 ≤ R.slots)
    (kk : ∀ (r : Option Value) (J' : zJ), Q' r J' → tz_At l G y R xt Z m1 m2 n J' (pc + 3) L (r.toList ++ S)) : tz_At l G y R xt Z k1 k2 n J pc L St := fun ok => by
  refine tb_callS (hM ok) hv hd hna hst hcat hR h1 h2 hce hsl ?_ ?_
  · rintro r n' sh' I' ⟨J', rfl, rfl, ok', hn1, hn2, hq⟩
    have : n' = n := by omega
    subst this
    exact kk r J' hq ok'
  · rintro E n' sh' I' ⟨J', -, -, -, -, -, hx⟩
    exact hx.elim
def tz_Ax (l : Launch) (G : tb_G) (y : tb_Mt) (R : Room) (xt : Option (Nat × (Nat → Int32))) (Z : tb_CT → State → Prop) (k1 k2 n : Nat) (J : zJ) (pc : Nat) (L : List (Option Value)) (S : List Value) (E : String) : Prop := zok n J → tb_Ax l G y R xt Z k1 k2 n tb_shT (zI J) pc L S E
theorem tz_cVX {idx nA d mc ms m1 m2 c9 ci : Nat} {y' : tb_Mt} {as St : List Value} {Q' : Option Value → zJ → Prop} {X' : String → zJ → Prop} (hM : tz_Ok l G y' d mc ms (.ref c9 :: as) n J Q' X') (hv : tb_VL y.1.cls idx y' nA ci) (hd : decode y.2.1 pc = .ok (.invokevirtual idx, 3)) (hs : tb_cO tb_shT c9 ci = true) (hna : as.length = nA) (hst : St = as.reverse ++ .ref c9 :: S)
    (hcat : (S.map fun v => v.category).sum ≤ 8) (hR : d + 1 ≤ R.frames ∧ 8 + (y'.2.2.1 + 11) + 40 * d ≤ R.locals) (h1 : k1 + mc = m1) (h2 : k2 + ms = m2) (hce : m1 ≤ R.cells) (hsl : m2 ≤ R.slots)
    (kk : ∀ (r : Option Value) (n' : Nat) (J' : zJ), n ≤ n' → n' ≤ n + mc → Q' r J' → tz_At l G y R xt Z m1 m2 n' J' (pc + 3) L (r.toList ++ S))
    (kx : ∀ (E : String) (n' : Nat) (J' : zJ), n ≤ n' → n' ≤ n + mc → X' E J' → tz_Ax l G y R xt Z m1 m2 n' J' pc L S E) : tz_At l G y R xt Z k1 k2 n J pc L St := fun ok => by
  simp only [tb_cO, Bool.and_eq_true, bne_iff_ne, ne_eq, beq_iff_eq] at hs
  refine tb_callV (hM ok) hv hd (tb_sh3 hs.2 rfl) hs.1 hna hst hcat hR h1 h2 hce hsl ?_ ?_
  · rintro r n' sh' I' ⟨J', rfl, rfl, ok', hn1, hn2, hq⟩
    exact kk r n' J' hn1 hn2 hq ok'
  · rintro E n' sh' I' ⟨J', rfl, rfl, ok', hn1, hn2, hx⟩
    exact kx E n' J' hn1 hn2 hx ok'
section Ends
variable {Q : Option Value → zJ → Prop} {X : String → zJ → Prop} {mc ms n0 : Nat}
theorem tz_iret {z : Int} (hd : decode y.2.1 pc = .ok (.ireturn, 1)) (hr : y.2.2.2.1 = some .int) (hc : k1 ≤ mc) (hs : k2 ≤ ms) (hn : n0 ≤ n ∧ n ≤ n0 + mc) (hq : Q (some (zi z)) J) :
    tz_At l G y R xt (tb_ZM G mc ms (zQ n0 mc Q) (zX n0 mc X)) k1 k2 n J pc L [zi z] := fun ok => tb_iret (ty := .int) hd hr rfl hc hs ⟨J, rfl, rfl, ok, hn.1, hn.2, hq⟩
theorem tz_zret {z : Int} (hd : decode y.2.1 pc = .ok (.ireturn, 1)) (hr : y.2.2.2.1 = some .boolean) (hz : z = 0 ∨ z = 1) (hc : k1 ≤ mc) (hs : k2 ≤ ms) (hn : n0 ≤ n ∧ n ≤ n0 + mc) (hq : Q (some (zi z)) J) :
    tz_At l G y R xt (tb_ZM G mc ms (zQ n0 mc Q) (zX n0 mc X)) k1 k2 n J pc L [zi z] := fun ok => tb_iret (ty := .boolean) hd hr (z_bool hz).1 hc hs ⟨J, rfl, rfl, ok, hn.1, hn.2, hq⟩
theorem tz_vret (hd : decode y.2.1 pc = .ok (.return_, 1)) (hr : y.2.2.2.1 = none) (hc : k1 ≤ mc) (hs : k2 ≤ ms) (hn : n0 ≤ n ∧ n ≤ n0 + mc) (hq : Q none J) :
    tz_At l G y R xt (tb_ZM G mc ms (zQ n0 mc Q) (zX n0 mc X)) k1 k2 n J pc L [] := fun ok => tb_vret hd hr hc hs ⟨J, rfl, rfl, ok, hn.1, hn.2, hq⟩
theorem tz_out {E : String} (hh : y.2.2.2.2 = []) (hc : k1 ≤ mc) (hs : k2 ≤ ms) (hn : n0 ≤ n ∧ n ≤ n0 + mc) (hx : X E J) : tz_Ax l G y R xt (tb_ZM G mc ms (zQ n0 mc Q) (zX n0 mc X)) k1 k2 n J pc L S E := fun ok => tb_out hh hc hs ⟨J, rfl, rfl, ok, hn.1, hn.2, hx⟩
end Ends
end TZ
theorem zJ_fill {l : Launch} {G : tb_G} (hl : l.stackTraces = false) (n : Nat) (J : zJ) (c len : Nat) (lz v : Int) (hv : -2147483648 ≤ v ∧ v < 2147483648) (a_c : tb_cA tb_shT c len = true) (e : ((len : Nat) : Int) = lz) : tz_Ok l G M_J7_fill_53178 0 0 0 [.ref c, zi v] n J (zqv (fun J' => J' = zfl J c lz v)) zN := fun ok =>
  (kJ_fill hl n tb_shT (zI J) c len (Int32.ofInt v) a_c).mono (fun r n' sh' I' h => by
    obtain ⟨rfl, rfl, rfl, rfl⟩ := h
    exact ⟨zfl J c lz v, rfl, by rw [← e]; exact zI_fl, ok.fl hv, Nat.le_refl _, Nat.le_refl _, rfl, rfl⟩) (fun _ _ _ _ h => h.elim)
end
section
/-! ===== what stays ===== -/
def zOf (f : Nat → Bool) (J' J : zJ) : Prop := ∀ c, f c = true → J' c = J c
theorem zOf.rf {f : Nat → Bool} {J : zJ} : zOf f J J := fun _ _ => rfl
theorem zOf.up {f : Nat → Bool} {J' J : zJ} {c : Nat} {k z : Int} (hc : f c = false) (h : zOf f J' J) : zOf f (zup J' c k z) J := fun d hd => by
  have : ¬ d = c := fun e => by rw [e, hc] at hd; cases hd
  rw [zup_nc this]
  exact h d hd
theorem zOf.cp {f : Nat → Bool} {J' J : zJ} {c0 c9 : Nat} {sp dp ln : Int} (hc : f c9 = false) (h : zOf f J' J) : zOf f (zcp J' c0 c9 sp dp ln) J := fun d hd => by
  have : ¬ d = c9 := fun e => by rw [e, hc] at hd; cases hd
  rw [zcp_nc this]
  exact h d hd
theorem zOf.fl {f : Nat → Bool} {J' J : zJ} {c : Nat} {len v : Int} (hc : f c = false) (h : zOf f J' J) : zOf f (zfl J' c len v) J := fun d hd => by
  have : ¬ d = c := fun e => by rw [e, hc] at hd; cases hd
  rw [zfl_nc this]
  exact h d hd
theorem zOf.tr {f : Nat → Bool} {J3 J2 J1 : zJ} (h : zOf f J3 J2) (h2 : zOf f J2 J1) : zOf f J3 J1 := fun c hc => (h c hc).trans (h2 c hc)
theorem zOf.mono {f g : Nat → Bool} {J2 J1 : zJ} (h : zOf f J2 J1) (hg : ∀ c, g c = true → f c = true) : zOf g J2 J1 := fun c hc => h c (hg c hc)
/-- all but these cells; all but those between two -/
def zbut (cs : List Nat) : Nat → Bool := fun c => !(cs.contains c)
section TZT
variable {l : Launch} {G : tb_G} {y : tb_Mt} {R : Room} {xt : Option (Nat × (Nat → Int32))} {k1 k2 n : Nat} {J : zJ} {pc : Nat} {L : List (Option Value)} {S : List Value} {Q : Option Value → zJ → Prop} {X : String → zJ → Prop} {mc ms n0 : Nat}
theorem tz_throw {cls text : String} {names : List String} {ik is ic : Nat} (ht : tb_TH y.1.cls ik ic cls names) (hstr : (y.1.cls, is, text) ∈ tb_strs) (hh : y.2.2.2.2 = [])
    (d0 : decode y.2.1 pc = .ok (.new ik, 3)) (d3 : decode y.2.1 (pc + 3) = .ok (.dup, 1)) (d4 : decode y.2.1 (pc + 4) = .ok (.ldc is, 2)) (d6 : decode y.2.1 (pc + 6) = .ok (.invokespecial ic, 3)) (d9 : decode y.2.1 (pc + 9) = .ok (.athrow, 1))
    (hRf : names.length + 3 < R.frames) (hRl : (S.map fun v => v.category).sum + (13 * (names.length + 1) + 43) ≤ R.locals) (hRc : k1 + 1 ≤ R.cells) (hRs : k2 + 6 ≤ R.slots) (hc : k1 + 1 ≤ mc) (hs : k2 + 6 ≤ ms) (hn : n0 ≤ n ∧ n ≤ n0 + mc) (hx : X cls J) :
    tz_At l G y R xt (tb_ZM G mc ms (zQ n0 mc Q) (zX n0 mc X)) k1 k2 n J pc L S := fun ok => tb_throw ht hstr hh d0 d3 d4 d6 d9 hRf hRl hRc hRs hc hs ⟨J, rfl, rfl, ok, hn.1, hn.2, hx⟩
theorem tz_throwW {cls text : String} {names : List String} {ik is ic : Nat} (ht : tb_TH y.1.cls ik ic cls names) (hstr : (y.1.cls, is, text) ∈ tb_strs) (hh : y.2.2.2.2 = [])
    (d0 : decode y.2.1 pc = .ok (.new ik, 3)) (d3 : decode y.2.1 (pc + 3) = .ok (.dup, 1)) (d4 : decode y.2.1 (pc + 4) = .ok (.ldc_w is, 3)) (d7 : decode y.2.1 (pc + 7) = .ok (.invokespecial ic, 3)) (d10 : decode y.2.1 (pc + 10) = .ok (.athrow, 1))
    (hRf : names.length + 3 < R.frames) (hRl : (S.map fun v => v.category).sum + (13 * (names.length + 1) + 43) ≤ R.locals) (hRc : k1 + 1 ≤ R.cells) (hRs : k2 + 6 ≤ R.slots) (hc : k1 + 1 ≤ mc) (hs : k2 + 6 ≤ ms) (hn : n0 ≤ n ∧ n ≤ n0 + mc) (hx : X cls J) :
    tz_At l G y R xt (tb_ZM G mc ms (zQ n0 mc Q) (zX n0 mc X)) k1 k2 n J pc L S := fun ok => tb_throwW ht hstr hh d0 d3 d4 d7 d10 hRf hRl hRc hRs hc hs ⟨J, rfl, rfl, ok, hn.1, hn.2, hx⟩
theorem tz_throwN {cls text Y9 : String} {r9 : List String} {ik is ic : Nat} (ht : tb_TN y.1.cls ik ic cls Y9 r9) (hstr : (y.1.cls, is, text) ∈ tb_strs) (hh : y.2.2.2.2 = [])
    (d0 : decode y.2.1 pc = .ok (.new ik, 3)) (d3 : decode y.2.1 (pc + 3) = .ok (.dup, 1)) (d4 : decode y.2.1 (pc + 4) = .ok (.ldc is, 2)) (d6 : decode y.2.1 (pc + 6) = .ok (.invokespecial ic, 3)) (d9 : decode y.2.1 (pc + 9) = .ok (.athrow, 1))
    (hRf : (Y9 :: r9).length + 3 < R.frames) (hRl : (S.map fun v => v.category).sum + (13 * ((Y9 :: r9).length + 1) + 43) ≤ R.locals) (hRc : k1 + 1 ≤ R.cells) (hRs : k2 + 6 ≤ R.slots) (hc : k1 + 1 ≤ mc) (hs : k2 + 6 ≤ ms) (hn : n0 ≤ n ∧ n ≤ n0 + mc) (hx : X cls J) :
    tz_At l G y R xt (tb_ZM G mc ms (zQ n0 mc Q) (zX n0 mc X)) k1 k2 n J pc L S := fun ok => tb_throwN ht hstr hh d0 d3 d4 d6 d9 hRf hRl hRc hRs hc hs ⟨J, rfl, rfl, ok, hn.1, hn.2, hx⟩
theorem tz_throwNW {cls text Y9 : String} {r9 : List String} {ik is ic : Nat} (ht : tb_TN y.1.cls ik ic cls Y9 r9) (hstr : (y.1.cls, is, text) ∈ tb_strs) (hh : y.2.2.2.2 = [])
    (d0 : decode y.2.1 pc = .ok (.new ik, 3)) (d3 : decode y.2.1 (pc + 3) = .ok (.dup, 1)) (d4 : decode y.2.1 (pc + 4) = .ok (.ldc_w is, 3)) (d7 : decode y.2.1 (pc + 7) = .ok (.invokespecial ic, 3)) (d10 : decode y.2.1 (pc + 10) = .ok (.athrow, 1))
    (hRf : (Y9 :: r9).length + 3 < R.frames) (hRl : (S.map fun v => v.category).sum + (13 * ((Y9 :: r9).length + 1) + 43) ≤ R.locals) (hRc : k1 + 1 ≤ R.cells) (hRs : k2 + 6 ≤ R.slots) (hc : k1 + 1 ≤ mc) (hs : k2 + 6 ≤ ms) (hn : n0 ≤ n ∧ n ≤ n0 + mc) (hx : X cls J) :
    tz_At l G y R xt (tb_ZM G mc ms (zQ n0 mc Q) (zX n0 mc X)) k1 k2 n J pc L S := fun ok => tb_throwNW ht hstr hh d0 d3 d4 d7 d10 hRf hRl hRc hRs hc hs ⟨J, rfl, rfl, ok, hn.1, hn.2, hx⟩
end TZT
set_option maxHeartbeats 4000000 in
set_option maxRecDepth 100000 in
theorem zm_greater {l : Launch} {G : tb_G} (hl : l.stackTraces = false) (n : Nat) (J : zJ) (a : Int) (b : Int) (hr_a : -2147483648 ≤ a ∧ a < 2147483648) (hr_b : -2147483648 ≤ b ∧ b < 2147483648)   : tz_Ok l G M_X12_greater 0 0 0 [zi a, zi b] n J (zqi (fun z J' => J = J' ∧ (if b < a then a else b) = z)) zN := by
  refine tz_Ok.of hl (by decide +kernel) rfl (tb_c1 rfl) (Nat.le_of_ble_eq_true rfl) ?_
  show tz_At l G M_X12_greater (tb_rm 0 0 0) none (tb_ZM G 0 0 (zQ n 0 (zqi (fun z J' => J = J' ∧ (if b < a then a else b) = z))) (zX n 0 zN)) 0 0 n J 0 [some (zi a), some (zi b)] []
  refine tz_iload_n (pc := 0) dX12_greater_0 rfl rfl ?_
  refine tz_iload_n (pc := 1) dX12_greater_1 rfl rfl ?_
  refine tz_icmp_le (pc := 2) (tgt := 9) dX12_greater_2 (by decide) (by omega) (by omega) (fun h_2 => ?_) (fun h_2 => ?_)
  · refine tz_iload_n (pc := 9) dX12_greater_9 rfl rfl ?_
    exact tz_iret (pc := 10) (z := b) dX12_greater_10 rfl (Nat.le_of_ble_eq_true rfl) (Nat.le_of_ble_eq_true rfl) ⟨Nat.le_refl _, Nat.le_add_right _ _⟩ ⟨_, rfl, (by omega), ⟨rfl, by split <;> omega⟩⟩
  · refine tz_iload_n (pc := 5) dX12_greater_5 rfl rfl ?_
    refine tz_goto (pc := 6) (tgt := 10) dX12_greater_6 (by decide) ?_
    exact tz_iret (pc := 10) (z := a) dX12_greater_10 rfl (Nat.le_of_ble_eq_true rfl) (Nat.le_of_ble_eq_true rfl) ⟨Nat.le_refl _, Nat.le_add_right _ _⟩ ⟨_, rfl, (by omega), ⟨rfl, by split <;> omega⟩⟩

def zmv (J : zJ) (c : Nat) (a b m : Int) : zJ := fun c' => if c' = c then (fun k => if b ≤ k ∧ k < b + m then J c (a + (k - b)) else J c k) else J c'
theorem zmv_0 (J : zJ) (c : Nat) (a b : Int) : zmv J c a b 0 = J := by
  funext c' k
  unfold zmv
  by_cases h : c' = c
  · subst h
    have : ¬ (b ≤ k ∧ k < b + 0) := by omega
    simp only [if_true, this, if_false]
  · simp only [h, if_false]
theorem zmv_s (J : zJ) (c : Nat) (a b i m : Int) (h0 : 0 ≤ i ∧ i < m) (hd : a + m ≤ b ∨ b + m ≤ a) : zup (zmv J c a b i) c (b + i) (J c (a + i)) = zmv J c a b (i + 1) := by
  funext c' k
  unfold zup zmv
  by_cases h : c' = c
  · subst h
    simp only [if_true]
    by_cases h1 : k = b + i
    · have h2 : b ≤ k ∧ k < b + (i + 1) := by omega
      have h3 : a + (k - b) = a + i := by omega
      rw [if_pos h1, if_pos h2, h3]
    · rw [if_neg h1]
      by_cases h2 : b ≤ k ∧ k < b + i
      · rw [if_pos h2, if_pos (by omega)]
      · rw [if_neg h2, if_neg (by omega)]
  · simp only [h, if_false]
theorem zmv_rd (J : zJ) (c : Nat) (a b i m : Int) (h0 : 0 ≤ i ∧ i < m) (hd : a + m ≤ b ∨ b + m ≤ a) : zmv J c a b i c (a + i) = J c (a + i) := by
  unfold zmv
  simp only [if_true]
  rw [if_neg (by omega)]
theorem zmv_nc {J : zJ} {c c' : Nat} {a b m : Int} (h : ¬ c' = c) : zmv J c a b m c' = J c' := by simp [zmv, h]
theorem zOf.mv {f : Nat → Bool} {J' J : zJ} {c : Nat} {a b m : Int} (hc : f c = false) (h : zOf f J' J) : zOf f (zmv J' c a b m) J := fun d hd => by
  have : ¬ d = c := fun e => by rw [e, hc] at hd; cases hd
  rw [zmv_nc this]
  exact h d hd
theorem zok.mv {n : Nat} {J : zJ} (h : zok n J) {c : Nat} {a b m : Int} : zok n (zmv J c a b m) := by
  refine ⟨h.1, fun c' k' => ?_⟩
  by_cases e : c' = c
  · subst e
    show -2147483648 ≤ (if c' = c' then (fun k => if b ≤ k ∧ k < b + m then J c' (a + (k - b)) else J c' k) else J c') k' ∧ (if c' = c' then (fun k => if b ≤ k ∧ k < b + m then J c' (a + (k - b)) else J c' k) else J c') k' < 2147483648
    rw [if_pos rfl]
    show -2147483648 ≤ (if b ≤ k' ∧ k' < b + m then J c' (a + (k' - b)) else J c' k') ∧ (if b ≤ k' ∧ k' < b + m then J c' (a + (k' - b)) else J c' k') < 2147483648
    split
    · exact h.2 _ _
    · exact h.2 _ _
  · rw [zmv_nc e]
    exact h.2 _ _
set_option maxHeartbeats 4000000 in
set_option maxRecDepth 100000 in
theorem zm_copies {l : Launch} {G : tb_G} (hl : l.stackTraces = false) (n : Nat) (J : zJ) (a : Int) (b : Int) (m : Int) (hr_a : -2147483648 ≤ a ∧ a < 2147483648) (hr_b : -2147483648 ≤ b ∧ b < 2147483648) (hr_m : -2147483648 ≤ m ∧ m < 2147483648)  (h0 : 0 ≤ a ∧ 0 ≤ b ∧ 0 ≤ m ∧ a + m ≤ 5400 ∧ b + m ≤ 5400) (hd : a + m ≤ b ∨ b + m ≤ a) : tz_Ok l G M_X12_copies 0 0 0 [.ref 164, zi a, zi b, zi m] n J (zqv (fun J' => zmv J 165 a b m = J')) zN := by
  refine tz_Ok.of hl (by decide +kernel) rfl (tb_c1 rfl) (Nat.le_of_ble_eq_true rfl) ?_
  show tz_At l G M_X12_copies (tb_rm 0 0 0) none (tb_ZM G 0 0 (zQ n 0 (zqv (fun J' => zmv J 165 a b m = J'))) (zX n 0 zN)) 0 0 n J 0 [some (.ref 164), some (zi a), some (zi b), some (zi m), none] []
  refine tz_iconst (pc := 0) dX12_copies_0 ?_
  refine tz_istore (pc := 1) (L2 := [_, _, _, _, _]) dX12_copies_1 (by decide) rfl ?_
  have loop3 : ∀ (f9 : Nat) (i : Int), ((m - i).toNat) < f9 → (0 ≤ i ∧ i ≤ m) → tz_At l G M_X12_copies (tb_rm 0 0 0) none (tb_ZM G 0 0 (zQ n 0 (zqv (fun J' => zmv J 165 a b m = J'))) (zX n 0 zN)) 0 0 n (zmv J 165 a b i) 3 [some (.ref 164), some (zi a), some (zi b), some (zi m), some (zi i)] [] := by
    intro f9
    induction f9 with
    | zero => intro i hm9; exact absurd hm9 (Nat.not_lt_zero _)
    | succ f9 ih3 =>
      intro i hm3 hi
      refine tz_iload (pc := 3) dX12_copies_3 rfl ?_
      refine tz_iload_n (pc := 5) dX12_copies_5 rfl rfl ?_
      refine tz_icmp_ge (pc := 6) (tgt := 33) dX12_copies_6 (by decide) (by omega) (by omega) (fun h_6 => ?_) (fun h_6 => ?_)
      · exact tz_vret (pc := 33) dX12_copies_33 rfl (Nat.le_of_ble_eq_true rfl) (Nat.le_of_ble_eq_true rfl) ⟨Nat.le_refl _, Nat.le_add_right _ _⟩ ⟨rfl, by rw [show m = i by omega]⟩
      · refine tz_aload_n (pc := 9) dX12_copies_9 rfl rfl ?_
        refine tz_fR (pc := 10) dX12_copies_10 fl_X12_9 r_164_0 ?_
        refine tz_iload_n (pc := 13) dX12_copies_13 rfl rfl ?_
        refine tz_iload (pc := 14) dX12_copies_14 rfl ?_
        refine tz_iadd (pc := 16) (v := b + i) dX12_copies_16 rfl ?_
        refine tz_aload_n (pc := 17) dX12_copies_17 rfl rfl ?_
        refine tz_fR (pc := 18) dX12_copies_18 fl_X12_9 r_164_0 ?_
        refine tz_iload_n (pc := 21) dX12_copies_21 rfl rfl ?_
        refine tz_iload (pc := 22) dX12_copies_22 rfl ?_
        refine tz_iadd (pc := 24) (v := a + i) dX12_copies_24 rfl ?_
        refine tz_aL (pc := 25) (z := (a + i)) (v := (J 165 (a + i))) dX12_copies_25 a_165 rfl (by omega) (zmv_rd J 165 a b i m (by omega) hd) (fun r_25 => ?_)
        refine tz_aS (pc := 26) (z := (b + i)) dX12_copies_26 a_165 rfl (by omega) (by omega) ?_
        refine tz_iinc (pc := 27) (z := i + 1) (L2 := [_, _, _, _, _]) dX12_copies_27 rfl (by omega) rfl ?_
        refine tz_goto (pc := 30) (tgt := 3) dX12_copies_30 (by decide) ?_
        rw [zmv_s J 165 a b i m (by omega) hd]
        exact ih3 (i + 1) (by omega) (by omega)
  have h9 := loop3 _ 0 (Nat.lt_succ_self _) (by omega)
  rw [zmv_0] at h9
  exact h9

end
section
/-! ===== a table of terms ===== -/
def arh (ar : Int → Int) (h : Int) : Int := if h < 0 then 0 else ar h
def TS (told : Int) (ar : Int → Int) : Prop := (0 ≤ told ∧ told ≤ 10) ∧ ∀ k, 0 ≤ k → k < told → 0 ≤ ar k ∧ ar k ≤ 3
/-- what holds of one term -/
def T1 (told : Int) (ar hd : Int → Int) (ag : Int → Int → Int) (dp : Int → Int) (t : Int) : Prop := (-8 ≤ hd t ∧ hd t < told) ∧ (1 ≤ dp t ∧ dp t ≤ 6) ∧ (∀ i, 0 ≤ i → i < arh ar (hd t) → (0 ≤ ag t i ∧ ag t i < t) ∧ dp (ag t i) < dp t) ∧ (dp t = 1 ∨ ∃ i, (0 ≤ i ∧ i < arh ar (hd t)) ∧ dp t = dp (ag t i) + 1)
/-- two that are made alike -/
def TU (ar hd : Int → Int) (ag : Int → Int → Int) (s t : Int) : Prop := hd s = hd t ∧ ∀ i, 0 ≤ i → i < arh ar (hd t) → ag s i = ag t i
def TT (told : Int) (ar : Int → Int) (m : Int) (hd : Int → Int) (ag : Int → Int → Int) (dp : Int → Int) : Prop := TS told ar ∧ (0 ≤ m ∧ m ≤ 400) ∧ (∀ t, 0 ≤ t → t < m → T1 told ar hd ag dp t) ∧ ∀ s t, 0 ≤ s → s < m → 0 ≤ t → t < m → TU ar hd ag s t → s = t
theorem arh_rg {told : Int} {ar : Int → Int} (h : TS told ar) {x : Int} (hx : x < told) : 0 ≤ arh ar x ∧ arh ar x ≤ 3 := by
  unfold arh
  split
  · omega
  · exact h.2 x (by omega) hx
theorem TT.cut {told m m' : Int} {ar hd : Int → Int} {ag : Int → Int → Int} {dp : Int → Int} (h : TT told ar m hd ag dp) (h0 : 0 ≤ m') (h1 : m' ≤ m) : TT told ar m' hd ag dp := by
  obtain ⟨a, b, c, d⟩ := h
  exact ⟨a, by omega, fun t p q => c t p (by omega), fun s t p q r u => d s t p (by omega) r (by omega)⟩
theorem arh_congr {told : Int} {ar ar' : Int → Int} (h : ∀ k, 0 ≤ k → k < told → ar' k = ar k) {x : Int} (hx : x < told) : arh ar' x = arh ar x := by
  unfold arh
  split
  · rfl
  · exact h x (by omega) hx
theorem T1.congr {told told' t : Int} {ar ar' hd hd' : Int → Int} {ag ag' : Int → Int → Int} {dp dp' : Int → Int} (h : T1 told ar hd ag dp t) (h0 : 0 ≤ t) (ht : told ≤ told') (ha : ∀ k, 0 ≤ k → k < told → ar' k = ar k) (hh : hd' t = hd t) (hg : ∀ i, 0 ≤ i → i < arh ar (hd t) → ag' t i = ag t i) (hp : ∀ s, 0 ≤ s → s ≤ t → dp' s = dp s) : T1 told' ar' hd' ag' dp' t := by
  obtain ⟨a, b, c, d⟩ := h
  have e1 : arh ar' (hd' t) = arh ar (hd t) := by rw [hh]; exact arh_congr ha a.2
  unfold T1
  rw [e1, hh, hp t h0 (Int.le_refl _)]
  refine ⟨by omega, b, fun i p q => ?_, ?_⟩
  · obtain ⟨c1, c2⟩ := c i p q
    rw [hg i p q, hp _ c1.1 (by omega)]
    exact ⟨c1, c2⟩
  · rcases d with d | ⟨i, p, q⟩
    · exact Or.inl d
    · refine Or.inr ⟨i, p, ?_⟩
      have c1 := (c i p.1 p.2).1
      rw [hg i p.1 p.2, hp _ c1.1 (by omega)]
      exact q
theorem TT.congr {told told' m : Int} {ar ar' hd hd' : Int → Int} {ag ag' : Int → Int → Int} {dp dp' : Int → Int} (h : TT told ar m hd ag dp) (hs : TS told' ar') (ht : told ≤ told') (ha : ∀ k, 0 ≤ k → k < told → ar' k = ar k) (hh : ∀ t, 0 ≤ t → t < m → hd' t = hd t) (hg : ∀ t, 0 ≤ t → t < m → ∀ i, 0 ≤ i → i < arh ar (hd t) → ag' t i = ag t i) (hp : ∀ t, 0 ≤ t → t < m → dp' t = dp t) : TT told' ar' m hd' ag' dp' := by
  obtain ⟨a, b, c, d⟩ := h
  refine ⟨hs, b, fun t p q => (c t p q).congr p ht ha (hh t p q) (hg t p q) (fun s x y => hp s x (by omega)), fun s t p q r u v => d s t p q r u ?_⟩
  obtain ⟨v1, v2⟩ := v
  rw [hh s p q, hh t r u] at v1
  refine ⟨v1, fun i x y => ?_⟩
  have e1 : arh ar' (hd' t) = arh ar (hd t) := by rw [hh t r u]; exact arh_congr ha (c t r u).1.2
  have := v2 i x (by rw [e1]; exact y)
  rw [hg t r u i x y, hg s p q i x (by rw [v1]; exact y)] at this
  exact this
/-- one more -/
theorem TT.push {told m : Int} {ar hd hd' : Int → Int} {ag ag' : Int → Int → Int} {dp dp' : Int → Int} (h : TT told ar m hd ag dp) (hm : m < 400) (hh : ∀ t, 0 ≤ t → t < m → hd' t = hd t) (hg : ∀ t, 0 ≤ t → t < m → ∀ i, 0 ≤ i → i < arh ar (hd t) → ag' t i = ag t i) (hp : ∀ t, 0 ≤ t → t < m → dp' t = dp t) (h1 : T1 told ar hd' ag' dp' m) (hu : ∀ s, 0 ≤ s → s < m → ¬ TU ar hd' ag' s m) : TT told ar (m + 1) hd' ag' dp' := by
  have hc := h.congr (hd' := hd') (ag' := ag') (dp' := dp') h.1 (Int.le_refl _) (fun _ _ _ => rfl) hh hg hp
  obtain ⟨a, b, c, d⟩ := hc
  refine ⟨a, by omega, fun t p q => ?_, fun s t p q r u v => ?_⟩
  · by_cases e : t = m
    · rw [e]
      exact h1
    · exact c t p (by omega)
  · by_cases e1 : s = m
    · by_cases e2 : t = m
      · omega
      · refine absurd ?_ (hu t r (by omega))
        subst e1
        obtain ⟨v1, v2⟩ := v
        exact ⟨v1.symm, fun i x y => (v2 i x (by rw [← v1]; exact y)).symm⟩
    · by_cases e2 : t = m
      · subst e2
        exact absurd v (hu s p (by omega))
      · exact d s t p (by omega) r (by omega) v
/-! ===== the class's own: its rows, its buckets ===== -/
def zmx (J : zJ) (t : Int) : Nat → Int
  | 0 => if J 7 t < -1 then -1 else J 7 t
  | i + 1 => zmx J t i * 37 + J 14 (J 9 (t * 3 + i))
def zbk (J : zJ) (t : Int) : Int := zand (zxor (zmx J t (J 8 t).toNat) (zushr (zmx J t (J 8 t).toNat) 8)) 255
theorem zbk_rg (J : zJ) (t : Int) : 0 ≤ zbk J t ∧ zbk J t < 256 := z_and _ (m := 255) 8 (by decide) (by decide)
theorem zmx_congr {J J' : zJ} {t : Int} : ∀ (k : Nat), J' 7 t = J 7 t → (∀ i : Int, 0 ≤ i → i < k → J' 14 (J' 9 (t * 3 + i)) = J 14 (J 9 (t * 3 + i))) → zmx J' t k = zmx J t k
  | 0, h, _ => by simp only [zmx, h]
  | k + 1, h, h2 => by
    simp only [zmx]
    rw [zmx_congr k h (fun i a b => h2 i a (by omega)), h2 (k : Int) (by omega) (by omega)]
def zs3 (J : zJ) (t : Int) : Int := (if 0 < J 8 t then J 10 (J 9 (t * 3 + 0)) else 0) + (if 1 < J 8 t then J 10 (J 9 (t * 3 + 1)) else 0) + (if 2 < J 8 t then J 10 (J 9 (t * 3 + 2)) else 0)
def cSW (J : zJ) : Prop := ∀ k, 0 ≤ k → k < J 1 3 → 1 ≤ J 4 k ∧ J 4 k ≤ 9
def cTT (J : zJ) (m : Int) : Prop := TT (J 1 3) (J 3) m (J 7) (fun t i => J 9 (t * 3 + i)) (J 12)
def zw3 (J : zJ) (t : Int) : Int := (if 0 < J 8 t then J 11 (J 9 (t * 3 + 0)) else 0) + (if 1 < J 8 t then J 11 (J 9 (t * 3 + 1)) else 0) + (if 2 < J 8 t then J 11 (J 9 (t * 3 + 2)) else 0)
def zmax (a b : Int) : Int := if a < b then b else a
theorem zmax_le (a b : Int) : (a ≤ zmax a b ∧ b ≤ zmax a b) ∧ (zmax a b = a ∨ zmax a b = b) := by
  unfold zmax
  split <;> omega
/-- how great a term of a depth can be -/
def zB (d : Int) : Int := if d ≤ 1 then 1 else if d = 2 then 4 else if d = 3 then 13 else if d = 4 then 40 else if d = 5 then 121 else 364
theorem zB_step {d e : Int} (h : e < d) (h0 : 1 ≤ e) (h1 : d ≤ 6) : 3 * zB e + 1 ≤ zB d := by
  have h2 : e = 1 ∨ e = 2 ∨ e = 3 ∨ e = 4 ∨ e = 5 := by omega
  have h3 : d = 2 ∨ d = 3 ∨ d = 4 ∨ d = 5 ∨ d = 6 := by omega
  rcases h2 with rfl | rfl | rfl | rfl | rfl <;> rcases h3 with rfl | rfl | rfl | rfl | rfl <;> first | decide | omega
theorem zB_rg (d : Int) : 1 ≤ zB d ∧ zB d ≤ 364 := by
  unfold zB
  (repeat' split) <;> omega
def zv0 (J : zJ) (t : Int) : Int := if J 7 t < 0 then zshl 1 (zxor (J 7 t) (-1)) else 0
def zv3 (J : zJ) (t : Int) : Int := if J 8 t ≤ 0 then zv0 J t else if J 8 t ≤ 1 then zor (zv0 J t) (J 13 (J 9 (t * 3 + 0))) else if J 8 t ≤ 2 then zor (zor (zv0 J t) (J 13 (J 9 (t * 3 + 0)))) (J 13 (J 9 (t * 3 + 1))) else zor (zor (zor (zv0 J t) (J 13 (J 9 (t * 3 + 0)))) (J 13 (J 9 (t * 3 + 1)))) (J 13 (J 9 (t * 3 + 2)))
def zd3 (J : zJ) (t : Int) : Int := if J 8 t ≤ 0 then 1 else if J 8 t ≤ 1 then zmax 1 (J 12 (J 9 (t * 3 + 0)) + 1) else if J 8 t ≤ 2 then zmax (zmax 1 (J 12 (J 9 (t * 3 + 0)) + 1)) (J 12 (J 9 (t * 3 + 1)) + 1) else zmax (zmax (zmax 1 (J 12 (J 9 (t * 3 + 0)) + 1)) (J 12 (J 9 (t * 3 + 1)) + 1)) (J 12 (J 9 (t * 3 + 2)) + 1)
def cR1 (J : zJ) (t : Int) : Prop := J 8 t = arh (J 3) (J 7 t) ∧ (J 10 t = 1 + zs3 J t ∧ 1 ≤ J 10 t ∧ J 10 t ≤ zB (J 12 t)) ∧ (J 11 t = (if J 7 t < 0 then 1 else J 4 (J 7 t)) + zw3 J t ∧ 1 ≤ J 11 t ∧ J 11 t ≤ 9 * J 10 t) ∧ J 13 t = zv3 J t
def cC1 (J : zJ) (t : Int) : Prop := (J 15 t = -1 ∨ ((0 ≤ J 15 t ∧ J 15 t < t) ∧ zbk J (J 15 t) = zbk J t)) ∧ ∀ s, 0 ≤ s → s < t → zbk J s = zbk J t → s ≤ J 15 t
def cB1 (J : zJ) (m b : Int) : Prop := (J 16 b = -1 ∨ ((0 ≤ J 16 b ∧ J 16 b < m) ∧ zbk J (J 16 b) = b)) ∧ ∀ t, 0 ≤ t → t < m → zbk J t = b → t ≤ J 16 b
def CT (J : zJ) (m : Int) : Prop := (cTT J m ∧ cSW J) ∧ (∀ t, 0 ≤ t → t < m → cR1 J t ∧ cC1 J t) ∧ ∀ b, 0 ≤ b → b < 256 → cB1 J m b
end
