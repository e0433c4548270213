/-! ===== the shape that the made objects have ===== -/
def tb_shL : List tb_Sh := [(11, 16, [some 1, some 5, some 63, some 121, some 125, some 137, some 139, some 141, some 145, some 155, some 158, some 163, some 162, none, none, none]), (8, 4, [some 2, some 3, some 4, none]), (100, 10, []), (100, 10, []), (100, 10, []), (0, 7, [some 6, some 18, some 20, some 61, some 62, none, none]), (9, 13, [some 1, some 7, some 8, some 9, some 10, some 11, some 12, some 13, some 14, some 15, some 16, some 17, none]), (100, 401, []), (100, 401, []), (100, 1203, []), (100, 401, []), (100, 401, []), (100, 401, []), (100, 401, []), (100, 401, []), (100, 401, []), (100, 256, []), (100, 401, []), (1, 1, [some 19]), (100, 61, []), (101, 40, [some 21, some 22, some 23, some 24, some 25, some 26, some 27, some 28, some 29, some 30, some 31, some 32, some 33, some 34, some 35, some 36, some 37, some 38, some 39, some 40, some 41, some 42, some 43, some 44, some 45, some 46, some 47, some 48, some 49, some 50, some 51, some 52, some 53, some 54, some 55, some 56, some 57, some 58, some 59, some 60]), (100, 61, []), (100, 61, []), (100, 61, []), (100, 61, []), (100, 61, []), (100, 61, []), (100, 61, []), (100, 61, []), (100, 61, []), (100, 61, []), (100, 61, []), (100, 61, []), (100, 61, []), (100, 61, []), (100, 61, []), (100, 61, []), (100, 61, []), (100, 61, []), (100, 61, []), (100, 61, []), (100, 61, []), (100, 61, []), (100, 61, []), (100, 61, []), (100, 61, []), (100, 61, []), (100, 61, []), (100, 61, []), (100, 61, []), (100, 61, []), (100, 61, []), (100, 61, []), (100, 61, []), (100, 61, []), (100, 61, []), (100, 61, []), (100, 61, []), (100, 61, []), (100, 61, []), (100, 61, []), (100, 61, []), (100, 4, []), (0, 7, [some 64, some 76, some 78, some 119, some 120, none, none]), (9, 13, [some 1, some 65, some 66, some 67, some 68, some 69, some 70, some 71, some 72, some 73, some 74, some 75, none]), (100, 401, []), (100, 401, []), (100, 1203, []), (100, 401, []), (100, 401, []), (100, 401, []), (100, 401, []), (100, 401, []), (100, 401, []), (100, 256, []), (100, 401, []), (1, 1, [some 77]), (100, 61, []), (101, 40, [some 79, some 80, some 81, some 82, some 83, some 84, some 85, some 86, some 87, some 88, some 89, some 90, some 91, some 92, some 93, some 94, some 95, some 96, some 97, some 98, some 99, some 100, some 101, some 102, some 103, some 104, some 105, some 106, some 107, some 108, some 109, some 110, some 111, some 112, some 113, some 114, some 115, some 116, some 117, some 118]), (100, 61, []), (100, 61, []), (100, 61, []), (100, 61, []), (100, 61, []), (100, 61, []), (100, 61, []), (100, 61, []), (100, 61, []), (100, 61, []), (100, 61, []), (100, 61, []), (100, 61, []), (100, 61, []), (100, 61, []), (100, 61, []), (100, 61, []), (100, 61, []), (100, 61, []), (100, 61, []), (100, 61, []), (100, 61, []), (100, 61, []), (100, 61, []), (100, 61, []), (100, 61, []), (100, 61, []), (100, 61, []), (100, 61, []), (100, 61, []), (100, 61, []), (100, 61, []), (100, 61, []), (100, 61, []), (100, 61, []), (100, 61, []), (100, 61, []), (100, 61, []), (100, 61, []), (100, 61, []), (100, 61, []), (100, 4, []), (8, 4, [some 122, some 123, some 124, none]), (100, 10, []), (100, 10, []), (100, 10, []), (9, 13, [some 1, some 126, some 127, some 128, some 129, some 130, some 131, some 132, some 133, some 134, some 135, some 136, none]), (100, 401, []), (100, 401, []), (100, 1203, []), (100, 401, []), (100, 401, []), (100, 401, []), (100, 401, []), (100, 401, []), (100, 401, []), (100, 256, []), (100, 401, []), (1, 1, [some 138]), (100, 61, []), (3, 2, [some 6, some 140]), (100, 8, []), (2, 6, [some 6, some 142, some 143, some 144, none, none]), (100, 8, []), (100, 8, []), (100, 8, []), (10, 12, [some 6, some 146, some 147, some 148, some 149, some 150, some 151, some 152, some 153, some 154, none, none]), (100, 800, []), (100, 800, []), (100, 800, []), (100, 800, []), (100, 800, []), (100, 2401, []), (100, 2401, []), (100, 800, []), (100, 800, []), (7, 5, [some 5, some 6, some 139, some 145, some 156]), (4, 5, [some 6, some 157, none, none, none]), (100, 8, []), (6, 9, [some 5, some 6, some 139, some 141, some 159, some 160, some 161, none, none]), (100, 612, []), (100, 612, []), (100, 1836, []), (100, 700, []), (5, 11, [some 162, some 5, some 1, some 155, none, none, none, none, none, none, none]), (12, 47, [some 165, some 166, some 167, some 168, some 169, some 170, some 171, some 172, none, none, none, none, none, none, none, none, none, none, some 173, none, none, none, some 174, some 175, some 176, some 177, some 178, some 179, some 180, some 181, none, some 182, none, none, none, none, none, none, none, none, none, none, none, none, none, none, none]), (100, 5400, []), (100, 1200, []), (100, 3600, []), (100, 1200, []), (100, 20, []), (100, 20, []), (100, 20, []), (100, 8, []), (100, 700, []), (100, 8, []), (100, 8, []), (100, 8, []), (100, 800, []), (100, 800, []), (100, 800, []), (100, 800, []), (100, 4000, []), (100, 16, []), (102, 1, [])]
def tb_N0 : Nat := 184
def tb_shT : Nat → tb_Sh := fun k => tb_shL.getD k (100, 3, [])
def tb_cI (sh : Nat → tb_Sh) (c ci k : Nat) : Bool := (c != tb_sc) && ((sh c).1 == ci) && decide (k < (sh c).2.1) && !(tb_isr ci k)
def tb_cR (sh : Nat → tb_Sh) (c ci k r : Nat) : Bool := (c != tb_sc) && ((sh c).1 == ci) && decide (k < (sh c).2.1) && tb_isr ci k && ((sh c).2.2[k]? == some (some r))
def tb_cA (sh : Nat → tb_Sh) (c len : Nat) : Bool := (c != tb_sc) && ((sh c).1 == 100) && ((sh c).2.1 == len) && decide (len ≤ 100000)
def tb_cB (sh : Nat → tb_Sh) (c len j r : Nat) : Bool := (c != tb_sc) && ((sh c).1 == 101) && ((sh c).2.1 == len) && decide (len ≤ 100000) && ((sh c).2.2[j]? == some (some r))
def tb_cO (sh : Nat → tb_Sh) (c ci : Nat) : Bool := (c != tb_sc) && ((sh c).1 == ci)
theorem tb_sh3 {s : tb_Sh} {a b : Nat} (h1 : s.1 = a) (h2 : s.2.1 = b) : s = (a, b, s.2.2) := by
  obtain ⟨x, y, z⟩ := s
  cases h1
  cases h2
  rfl
section TBW
variable {l : Launch} {G : tb_G} {y : tb_Mt} {R : Room} {xt : Option (Nat × (Nat → Int32))} {Z : tb_CT → State → Prop} {k1 k2 n : Nat} {sh : Nat → tb_Sh} {I : tb_I} {pc : Nat} {L : List (Option Value)} {S : List Value}
theorem tb_fI {idx ci k c9 : Nat} {fin : Bool} (hd : decode y.2.1 pc = .ok (.getfield idx, 3)) (hf : tb_FL y.1.cls idx ci k fin) (h : tb_cI sh c9 ci k = true) (kk : tb_At l G y R xt Z k1 k2 n sh I (pc + 3) L (.int (I c9 k) :: S)) : tb_At l G y R xt Z k1 k2 n sh I pc L (.ref c9 :: S) := by
  simp only [tb_cI, Bool.and_eq_true, bne_iff_ne, ne_eq, beq_iff_eq, decide_eq_true_eq, Bool.not_eq_true'] at h
  exact tb_getI hd hf (tb_sh3 h.1.1.2 rfl) h.1.1.1 h.1.2 h.2 kk
theorem tb_fIv {idx ci k c9 : Nat} {fin : Bool} {v : Int32} (hd : decode y.2.1 pc = .ok (.getfield idx, 3)) (hf : tb_FL y.1.cls idx ci k fin) (h : tb_cI sh c9 ci k = true) (hv : I c9 k = v) (kk : tb_At l G y R xt Z k1 k2 n sh I (pc + 3) L (.int v :: S)) : tb_At l G y R xt Z k1 k2 n sh I pc L (.ref c9 :: S) := by
  subst hv
  exact tb_fI hd hf h kk
theorem tb_fR {idx ci k c9 r : Nat} {fin : Bool} (hd : decode y.2.1 pc = .ok (.getfield idx, 3)) (hf : tb_FL y.1.cls idx ci k fin) (h : tb_cR sh c9 ci k r = true) (kk : tb_At l G y R xt Z k1 k2 n sh I (pc + 3) L (.ref r :: S)) : tb_At l G y R xt Z k1 k2 n sh I pc L (.ref c9 :: S) := by
  simp only [tb_cR, Bool.and_eq_true, bne_iff_ne, ne_eq, beq_iff_eq, decide_eq_true_eq] at h
  exact tb_getR hd hf (tb_sh3 h.1.1.1.2 rfl) h.1.1.1.1 h.1.1.2 h.1.2 h.2 kk
theorem tb_pI {idx ci k c9 : Nat} {x : Int32} (hd : decode y.2.1 pc = .ok (.putfield idx, 3)) (hf : tb_FL y.1.cls idx ci k false) (h : tb_cI sh c9 ci k = true) (ht : tb_ft ci k = .int) (kk : tb_At l G y R xt Z k1 k2 n sh (tb_up I c9 k x) (pc + 3) L S) : tb_At l G y R xt Z k1 k2 n sh I pc L (.int x :: .ref c9 :: S) := by
  simp only [tb_cI, Bool.and_eq_true, bne_iff_ne, ne_eq, beq_iff_eq, decide_eq_true_eq, Bool.not_eq_true'] at h
  exact tb_putI hd hf (tb_sh3 h.1.1.2 rfl) h.1.1.1 h.1.2 ht kk
theorem tb_pZ {idx ci k c9 : Nat} {x : Int32} (hd : decode y.2.1 pc = .ok (.putfield idx, 3)) (hf : tb_FL y.1.cls idx ci k false) (h : tb_cI sh c9 ci k = true) (ht : tb_ft ci k = .boolean) (hx : x = 0 ∨ x = 1) (kk : tb_At l G y R xt Z k1 k2 n sh (tb_up I c9 k x) (pc + 3) L S) : tb_At l G y R xt Z k1 k2 n sh I pc L (.int x :: .ref c9 :: S) := by
  simp only [tb_cI, Bool.and_eq_true, bne_iff_ne, ne_eq, beq_iff_eq, decide_eq_true_eq, Bool.not_eq_true'] at h
  exact tb_putZ hd hf (tb_sh3 h.1.1.2 rfl) h.1.1.1 h.1.2 ht hx kk
theorem tb_aL {i : Int32} {j len c9 : Nat} (hd : decode y.2.1 pc = .ok (.iaload, 1)) (h : tb_cA sh c9 len = true) (hi : i = nI j) (hj : j < len) (kk : tb_At l G y R xt Z k1 k2 n sh I (pc + 1) L (.int (I c9 j) :: S)) : tb_At l G y R xt Z k1 k2 n sh I pc L (.int i :: .ref c9 :: S) := by
  simp only [tb_cA, Bool.and_eq_true, bne_iff_ne, ne_eq, beq_iff_eq, decide_eq_true_eq] at h
  exact tb_iald hd (tb_sh3 h.1.1.2 h.1.2) h.1.1.1 hi hj (Nat.le_trans h.2 (by decide)) kk
theorem tb_aLv {i v : Int32} {j len c9 : Nat} (hd : decode y.2.1 pc = .ok (.iaload, 1)) (h : tb_cA sh c9 len = true) (hi : i = nI j) (hj : j < len) (hv : I c9 j = v) (kk : tb_At l G y R xt Z k1 k2 n sh I (pc + 1) L (.int v :: S)) : tb_At l G y R xt Z k1 k2 n sh I pc L (.int i :: .ref c9 :: S) := by
  subst hv
  exact tb_aL hd h hi hj kk
theorem tb_aS {i x : Int32} {j len c9 : Nat} (hd : decode y.2.1 pc = .ok (.iastore, 1)) (h : tb_cA sh c9 len = true) (hi : i = nI j) (hj : j < len) (kk : tb_At l G y R xt Z k1 k2 n sh (tb_up I c9 j x) (pc + 1) L S) : tb_At l G y R xt Z k1 k2 n sh I pc L (.int x :: .int i :: .ref c9 :: S) := by
  simp only [tb_cA, Bool.and_eq_true, bne_iff_ne, ne_eq, beq_iff_eq, decide_eq_true_eq] at h
  exact tb_iast hd (tb_sh3 h.1.1.2 h.1.2) h.1.1.1 hi hj (Nat.le_trans h.2 (by decide)) kk
theorem tb_aN {len c9 : Nat} (hd : decode y.2.1 pc = .ok (.arraylength, 1)) (h : tb_cA sh c9 len = true) (kk : tb_At l G y R xt Z k1 k2 n sh I (pc + 1) L (.int (nI len) :: S)) : tb_At l G y R xt Z k1 k2 n sh I pc L (.ref c9 :: S) := by
  simp only [tb_cA, Bool.and_eq_true, bne_iff_ne, ne_eq, beq_iff_eq, decide_eq_true_eq] at h
  exact tb_alen hd (tb_sh3 h.1.1.2 h.1.2) h.1.1.1 kk
theorem tb_aR {i : Int32} {j len c9 r : Nat} (hd : decode y.2.1 pc = .ok (.aaload, 1)) (h : tb_cB sh c9 len j r = true) (hi : i = nI j) (hj : j < len) (kk : tb_At l G y R xt Z k1 k2 n sh I (pc + 1) L (.ref r :: S)) : tb_At l G y R xt Z k1 k2 n sh I pc L (.int i :: .ref c9 :: S) := by
  simp only [tb_cB, Bool.and_eq_true, bne_iff_ne, ne_eq, beq_iff_eq, decide_eq_true_eq] at h
  exact tb_aald hd (tb_sh3 h.1.1.1.2 h.1.1.2) h.1.1.1.1 hi hj (Nat.le_trans h.1.2 (by decide)) h.2 kk
theorem tb_cp {idx c0 c9 n0' n1' sp dp ln : Nat} {is id9 il : Int32} (hd : decode y.2.1 pc = .ok (.invokestatic idx, 3)) (hw1 : Cond.methodLink y.1.cls idx arraycopyName ∈ tb_W) (h0 : tb_cA sh c0 n0' = true) (h9 : tb_cA sh c9 n1' = true) (h1 : is = nI sp) (h2 : id9 = nI dp) (h3 : il = nI ln) (h4 : sp + ln ≤ n0') (h5 : dp + ln ≤ n1') (hfr : 1 ≤ R.frames) (hlo : (S.map fun v => v.category).sum + (nativeFrameWords "java/lang/System" "arraycopy" 5 + 11) ≤ R.locals)
    (kk : tb_At l G y R xt Z k1 k2 n sh (tb_row I c9 (va_cpy (I c0) (I c9) sp dp ln)) (pc + 3) L S) : tb_At l G y R xt Z k1 k2 n sh I pc L (.int il :: .int id9 :: .ref c9 :: .int is :: .ref c0 :: S) := by
  simp only [tb_cA, Bool.and_eq_true, bne_iff_ne, ne_eq, beq_iff_eq, decide_eq_true_eq] at h0 h9
  exact tb_copy hd hw1 wk_copy2 wk_copy3 wk_copy4 (tb_sh3 h0.1.1.2 h0.1.2) (tb_sh3 h9.1.1.2 h9.1.2) h0.1.1.1 h9.1.1.1 h1 h2 h3 h4 h5 h0.2 h9.2 hfr hlo kk
theorem tb_mx {idx : Nat} {a b v : Int32} (hd : decode y.2.1 pc = .ok (.invokestatic idx, 3)) (hw1 : Cond.methodLink y.1.cls idx Lib.Math.max.name ∈ tb_W) (hfr : 1 ≤ R.frames) (hlo : (S.map fun v => v.category).sum + 13 ≤ R.locals) (hc : k1 ≤ R.cells) (hs : k2 ≤ R.slots) (hv : (if a < b then b else a) = v)
    (kk : tb_At l G y R xt Z k1 k2 n sh I (pc + 3) L (.int v :: S)) : tb_At l G y R xt Z k1 k2 n sh I pc L (.int b :: .int a :: S) := by
  subst hv
  exact tb_mmax hd hw1 wk_max2 wk_math wk_max4 hfr hlo hc hs kk
theorem tb_mn {idx : Nat} {a b v : Int32} (hd : decode y.2.1 pc = .ok (.invokestatic idx, 3)) (hw1 : Cond.methodLink y.1.cls idx Lib.Math.min.name ∈ tb_W) (hfr : 1 ≤ R.frames) (hlo : (S.map fun v => v.category).sum + 13 ≤ R.locals) (hc : k1 ≤ R.cells) (hs : k2 ≤ R.slots) (hv : (if b < a then b else a) = v)
    (kk : tb_At l G y R xt Z k1 k2 n sh I (pc + 3) L (.int v :: S)) : tb_At l G y R xt Z k1 k2 n sh I pc L (.int b :: .int a :: S) := by
  subst hv
  exact tb_mmin hd hw1 wk_min2 wk_math wk_min4 hfr hlo hc hs kk
theorem tb_cS {idx nA d mc ms m1 m2 : Nat} {y' : tb_Mt} {as St : List Value} {Q' : tb_Q} (hM : tb_Ok l G y' d mc ms as n sh I Q' tb_Nx) (hv : tb_SL y.1.cls idx y' nA) (hd : decode y.2.1 pc = .ok (.invokestatic idx, 3)) (hna : as.length = nA) (hst : St = as.reverse ++ S)
    (hcat : (S.map fun v => v.category).sum ≤ 8) (hR : d + 1 ≤ R.frames ∧ 8 + (y'.2.2.1 + 11) + 40 * d ≤ R.locals) (h1 : k1 + mc = m1) (h2 : k2 + ms = m2) (hce : m1 ≤ R.cells) (hsl : m2 ≤ R.slots)
    (kk : ∀ (r : Option Value) (n' : Nat) (sh' : Nat → tb_Sh) (I' : tb_I), Q' r n' sh' I' → tb_At l G y R xt Z m1 m2 n' sh' I' (pc + 3) L (r.toList ++ S)) : tb_At l G y R xt Z k1 k2 n sh I pc L St :=
  tb_callS hM hv hd hna hst hcat hR h1 h2 hce hsl kk (fun _ _ _ _ h => h.elim)

theorem tb_iaddv {a b v : Int32} (hd : decode y.2.1 pc = .ok (.iadd, 1)) (hv : a + b = v) (kk : tb_At l G y R xt Z k1 k2 n sh I (pc + 1) L (.int v :: S)) : tb_At l G y R xt Z k1 k2 n sh I pc L (.int b :: .int a :: S) := by
  subst hv
  exact tb_iadd hd kk
theorem tb_isubv {a b v : Int32} (hd : decode y.2.1 pc = .ok (.isub, 1)) (hv : a - b = v) (kk : tb_At l G y R xt Z k1 k2 n sh I (pc + 1) L (.int v :: S)) : tb_At l G y R xt Z k1 k2 n sh I pc L (.int b :: .int a :: S) := by
  subst hv
  exact tb_isub hd kk
theorem tb_imulv {a b v : Int32} (hd : decode y.2.1 pc = .ok (.imul, 1)) (hv : a * b = v) (kk : tb_At l G y R xt Z k1 k2 n sh I (pc + 1) L (.int v :: S)) : tb_At l G y R xt Z k1 k2 n sh I pc L (.int b :: .int a :: S) := by
  subst hv
  exact tb_imul hd kk
theorem tb_iandv {a b v : Int32} (hd : decode y.2.1 pc = .ok (.iand, 1)) (hv : a &&& b = v) (kk : tb_At l G y R xt Z k1 k2 n sh I (pc + 1) L (.int v :: S)) : tb_At l G y R xt Z k1 k2 n sh I pc L (.int b :: .int a :: S) := by
  subst hv
  exact tb_iand hd kk
theorem tb_iorv {a b v : Int32} (hd : decode y.2.1 pc = .ok (.ior, 1)) (hv : a ||| b = v) (kk : tb_At l G y R xt Z k1 k2 n sh I (pc + 1) L (.int v :: S)) : tb_At l G y R xt Z k1 k2 n sh I pc L (.int b :: .int a :: S) := by
  subst hv
  exact tb_ior hd kk
theorem tb_ixorv {a b v : Int32} (hd : decode y.2.1 pc = .ok (.ixor, 1)) (hv : a ^^^ b = v) (kk : tb_At l G y R xt Z k1 k2 n sh I (pc + 1) L (.int v :: S)) : tb_At l G y R xt Z k1 k2 n sh I pc L (.int b :: .int a :: S) := by
  subst hv
  exact tb_ixor hd kk
theorem tb_ishlv {a b v : Int32} (hd : decode y.2.1 pc = .ok (.ishl, 1)) (hv : a <<< (b &&& 31) = v) (kk : tb_At l G y R xt Z k1 k2 n sh I (pc + 1) L (.int v :: S)) : tb_At l G y R xt Z k1 k2 n sh I pc L (.int b :: .int a :: S) := by
  subst hv
  exact tb_ishl hd kk
theorem tb_ishrv {a b v : Int32} (hd : decode y.2.1 pc = .ok (.ishr, 1)) (hv : a >>> (b &&& 31) = v) (kk : tb_At l G y R xt Z k1 k2 n sh I (pc + 1) L (.int v :: S)) : tb_At l G y R xt Z k1 k2 n sh I pc L (.int b :: .int a :: S) := by
  subst hv
  exact tb_ishr hd kk
theorem tb_iremv {a b v : Int32} (hd : decode y.2.1 pc = .ok (.irem, 1)) (h0 : ¬ b = 0) (hv : a - a / b * b = v) (kk : tb_At l G y R xt Z k1 k2 n sh I (pc + 1) L (.int v :: S)) : tb_At l G y R xt Z k1 k2 n sh I pc L (.int b :: .int a :: S) := by
  subst hv
  exact tb_irem hd h0 kk
theorem tb_idivv {a b v : Int32} (hd : decode y.2.1 pc = .ok (.idiv, 1)) (h0 : ¬ b = 0) (hv : a / b = v) (kk : tb_At l G y R xt Z k1 k2 n sh I (pc + 1) L (.int v :: S)) : tb_At l G y R xt Z k1 k2 n sh I pc L (.int b :: .int a :: S) := by
  subst hv
  exact tb_idiv hd h0 kk
end TBW
theorem r_0_0 : tb_cR tb_shT 0 11 0 1 = true := by decide +kernel
theorem r_0_1 : tb_cR tb_shT 0 11 1 5 = true := by decide +kernel
theorem r_0_2 : tb_cR tb_shT 0 11 2 63 = true := by decide +kernel
theorem r_0_3 : tb_cR tb_shT 0 11 3 121 = true := by decide +kernel
theorem r_0_4 : tb_cR tb_shT 0 11 4 125 = true := by decide +kernel
theorem r_0_5 : tb_cR tb_shT 0 11 5 137 = true := by decide +kernel
theorem r_0_6 : tb_cR tb_shT 0 11 6 139 = true := by decide +kernel
theorem r_0_7 : tb_cR tb_shT 0 11 7 141 = true := by decide +kernel
theorem r_0_8 : tb_cR tb_shT 0 11 8 145 = true := by decide +kernel
theorem r_0_9 : tb_cR tb_shT 0 11 9 155 = true := by decide +kernel
theorem r_0_10 : tb_cR tb_shT 0 11 10 158 = true := by decide +kernel
theorem r_0_11 : tb_cR tb_shT 0 11 11 163 = true := by decide +kernel
theorem r_0_12 : tb_cR tb_shT 0 11 12 162 = true := by decide +kernel
theorem i_0_13 : tb_cI tb_shT 0 11 13 = true := by decide +kernel
theorem i_0_14 : tb_cI tb_shT 0 11 14 = true := by decide +kernel
theorem i_0_15 : tb_cI tb_shT 0 11 15 = true := by decide +kernel
theorem o_0 : tb_cO tb_shT 0 11 = true := by decide +kernel
theorem r_1_0 : tb_cR tb_shT 1 8 0 2 = true := by decide +kernel
theorem r_1_1 : tb_cR tb_shT 1 8 1 3 = true := by decide +kernel
theorem r_1_2 : tb_cR tb_shT 1 8 2 4 = true := by decide +kernel
theorem i_1_3 : tb_cI tb_shT 1 8 3 = true := by decide +kernel
theorem o_1 : tb_cO tb_shT 1 8 = true := by decide +kernel
theorem a_2 : tb_cA tb_shT 2 10 = true := by decide +kernel
theorem a_3 : tb_cA tb_shT 3 10 = true := by decide +kernel
theorem a_4 : tb_cA tb_shT 4 10 = true := by decide +kernel
theorem r_5_0 : tb_cR tb_shT 5 0 0 6 = true := by decide +kernel
theorem r_5_1 : tb_cR tb_shT 5 0 1 18 = true := by decide +kernel
theorem r_5_2 : tb_cR tb_shT 5 0 2 20 = true := by decide +kernel
theorem r_5_3 : tb_cR tb_shT 5 0 3 61 = true := by decide +kernel
theorem r_5_4 : tb_cR tb_shT 5 0 4 62 = true := by decide +kernel
theorem i_5_5 : tb_cI tb_shT 5 0 5 = true := by decide +kernel
theorem i_5_6 : tb_cI tb_shT 5 0 6 = true := by decide +kernel
theorem o_5 : tb_cO tb_shT 5 0 = true := by decide +kernel
theorem r_6_0 : tb_cR tb_shT 6 9 0 1 = true := by decide +kernel
theorem r_6_1 : tb_cR tb_shT 6 9 1 7 = true := by decide +kernel
theorem r_6_2 : tb_cR tb_shT 6 9 2 8 = true := by decide +kernel
theorem r_6_3 : tb_cR tb_shT 6 9 3 9 = true := by decide +kernel
theorem r_6_4 : tb_cR tb_shT 6 9 4 10 = true := by decide +kernel
theorem r_6_5 : tb_cR tb_shT 6 9 5 11 = true := by decide +kernel
theorem r_6_6 : tb_cR tb_shT 6 9 6 12 = true := by decide +kernel
theorem r_6_7 : tb_cR tb_shT 6 9 7 13 = true := by decide +kernel
theorem r_6_8 : tb_cR tb_shT 6 9 8 14 = true := by decide +kernel
theorem r_6_9 : tb_cR tb_shT 6 9 9 15 = true := by decide +kernel
theorem r_6_10 : tb_cR tb_shT 6 9 10 16 = true := by decide +kernel
theorem r_6_11 : tb_cR tb_shT 6 9 11 17 = true := by decide +kernel
theorem i_6_12 : tb_cI tb_shT 6 9 12 = true := by decide +kernel
theorem o_6 : tb_cO tb_shT 6 9 = true := by decide +kernel
theorem a_7 : tb_cA tb_shT 7 401 = true := by decide +kernel
theorem a_8 : tb_cA tb_shT 8 401 = true := by decide +kernel
theorem a_9 : tb_cA tb_shT 9 1203 = true := by decide +kernel
theorem a_10 : tb_cA tb_shT 10 401 = true := by decide +kernel
theorem a_11 : tb_cA tb_shT 11 401 = true := by decide +kernel
theorem a_12 : tb_cA tb_shT 12 401 = true := by decide +kernel
theorem a_13 : tb_cA tb_shT 13 401 = true := by decide +kernel
theorem a_14 : tb_cA tb_shT 14 401 = true := by decide +kernel
theorem a_15 : tb_cA tb_shT 15 401 = true := by decide +kernel
theorem a_16 : tb_cA tb_shT 16 256 = true := by decide +kernel
theorem a_17 : tb_cA tb_shT 17 401 = true := by decide +kernel
theorem r_18_0 : tb_cR tb_shT 18 1 0 19 = true := by decide +kernel
theorem o_18 : tb_cO tb_shT 18 1 = true := by decide +kernel
theorem a_19 : tb_cA tb_shT 19 61 = true := by decide +kernel
theorem a_61 : tb_cA tb_shT 61 61 = true := by decide +kernel
theorem a_62 : tb_cA tb_shT 62 4 = true := by decide +kernel
theorem r_63_0 : tb_cR tb_shT 63 0 0 64 = true := by decide +kernel
theorem r_63_1 : tb_cR tb_shT 63 0 1 76 = true := by decide +kernel
theorem r_63_2 : tb_cR tb_shT 63 0 2 78 = true := by decide +kernel
theorem r_63_4 : tb_cR tb_shT 63 0 4 120 = true := by decide +kernel
theorem i_63_5 : tb_cI tb_shT 63 0 5 = true := by decide +kernel
theorem i_63_6 : tb_cI tb_shT 63 0 6 = true := by decide +kernel
theorem o_63 : tb_cO tb_shT 63 0 = true := by decide +kernel
theorem r_64_1 : tb_cR tb_shT 64 9 1 65 = true := by decide +kernel
theorem r_64_2 : tb_cR tb_shT 64 9 2 66 = true := by decide +kernel
theorem r_64_3 : tb_cR tb_shT 64 9 3 67 = true := by decide +kernel
theorem r_64_4 : tb_cR tb_shT 64 9 4 68 = true := by decide +kernel
theorem r_64_5 : tb_cR tb_shT 64 9 5 69 = true := by decide +kernel
theorem r_64_6 : tb_cR tb_shT 64 9 6 70 = true := by decide +kernel
theorem r_64_7 : tb_cR tb_shT 64 9 7 71 = true := by decide +kernel
theorem r_64_8 : tb_cR tb_shT 64 9 8 72 = true := by decide +kernel
theorem r_64_9 : tb_cR tb_shT 64 9 9 73 = true := by decide +kernel
theorem r_64_10 : tb_cR tb_shT 64 9 10 74 = true := by decide +kernel
theorem i_64_12 : tb_cI tb_shT 64 9 12 = true := by decide +kernel
theorem o_64 : tb_cO tb_shT 64 9 = true := by decide +kernel
theorem a_65 : tb_cA tb_shT 65 401 = true := by decide +kernel
theorem a_66 : tb_cA tb_shT 66 401 = true := by decide +kernel
theorem a_67 : tb_cA tb_shT 67 1203 = true := by decide +kernel
theorem a_68 : tb_cA tb_shT 68 401 = true := by decide +kernel
theorem a_69 : tb_cA tb_shT 69 401 = true := by decide +kernel
theorem a_70 : tb_cA tb_shT 70 401 = true := by decide +kernel
theorem a_71 : tb_cA tb_shT 71 401 = true := by decide +kernel
theorem a_72 : tb_cA tb_shT 72 401 = true := by decide +kernel
theorem a_73 : tb_cA tb_shT 73 401 = true := by decide +kernel
theorem a_74 : tb_cA tb_shT 74 256 = true := by decide +kernel
theorem r_76_0 : tb_cR tb_shT 76 1 0 77 = true := by decide +kernel
theorem o_76 : tb_cO tb_shT 76 1 = true := by decide +kernel
theorem a_77 : tb_cA tb_shT 77 61 = true := by decide +kernel
theorem a_120 : tb_cA tb_shT 120 4 = true := by decide +kernel
theorem r_121_0 : tb_cR tb_shT 121 8 0 122 = true := by decide +kernel
theorem r_121_1 : tb_cR tb_shT 121 8 1 123 = true := by decide +kernel
theorem r_121_2 : tb_cR tb_shT 121 8 2 124 = true := by decide +kernel
theorem i_121_3 : tb_cI tb_shT 121 8 3 = true := by decide +kernel
theorem o_121 : tb_cO tb_shT 121 8 = true := by decide +kernel
theorem a_122 : tb_cA tb_shT 122 10 = true := by decide +kernel
theorem a_123 : tb_cA tb_shT 123 10 = true := by decide +kernel
theorem a_124 : tb_cA tb_shT 124 10 = true := by decide +kernel
theorem r_125_1 : tb_cR tb_shT 125 9 1 126 = true := by decide +kernel
theorem r_125_2 : tb_cR tb_shT 125 9 2 127 = true := by decide +kernel
theorem r_125_3 : tb_cR tb_shT 125 9 3 128 = true := by decide +kernel
theorem r_125_4 : tb_cR tb_shT 125 9 4 129 = true := by decide +kernel
theorem r_125_5 : tb_cR tb_shT 125 9 5 130 = true := by decide +kernel
theorem r_125_6 : tb_cR tb_shT 125 9 6 131 = true := by decide +kernel
theorem r_125_7 : tb_cR tb_shT 125 9 7 132 = true := by decide +kernel
theorem r_125_8 : tb_cR tb_shT 125 9 8 133 = true := by decide +kernel
theorem r_125_9 : tb_cR tb_shT 125 9 9 134 = true := by decide +kernel
theorem r_125_10 : tb_cR tb_shT 125 9 10 135 = true := by decide +kernel
theorem i_125_12 : tb_cI tb_shT 125 9 12 = true := by decide +kernel
theorem o_125 : tb_cO tb_shT 125 9 = true := by decide +kernel
theorem a_126 : tb_cA tb_shT 126 401 = true := by decide +kernel
theorem a_127 : tb_cA tb_shT 127 401 = true := by decide +kernel
theorem a_128 : tb_cA tb_shT 128 1203 = true := by decide +kernel
theorem a_129 : tb_cA tb_shT 129 401 = true := by decide +kernel
theorem a_130 : tb_cA tb_shT 130 401 = true := by decide +kernel
theorem a_131 : tb_cA tb_shT 131 401 = true := by decide +kernel
theorem a_132 : tb_cA tb_shT 132 401 = true := by decide +kernel
theorem a_133 : tb_cA tb_shT 133 401 = true := by decide +kernel
theorem a_134 : tb_cA tb_shT 134 401 = true := by decide +kernel
theorem a_135 : tb_cA tb_shT 135 256 = true := by decide +kernel
theorem r_137_0 : tb_cR tb_shT 137 1 0 138 = true := by decide +kernel
theorem o_137 : tb_cO tb_shT 137 1 = true := by decide +kernel
theorem a_138 : tb_cA tb_shT 138 61 = true := by decide +kernel
theorem r_139_0 : tb_cR tb_shT 139 3 0 6 = true := by decide +kernel
theorem r_139_1 : tb_cR tb_shT 139 3 1 140 = true := by decide +kernel
theorem o_139 : tb_cO tb_shT 139 3 = true := by decide +kernel
theorem a_140 : tb_cA tb_shT 140 8 = true := by decide +kernel
theorem r_141_0 : tb_cR tb_shT 141 2 0 6 = true := by decide +kernel
theorem r_141_1 : tb_cR tb_shT 141 2 1 142 = true := by decide +kernel
theorem r_141_2 : tb_cR tb_shT 141 2 2 143 = true := by decide +kernel
theorem r_141_3 : tb_cR tb_shT 141 2 3 144 = true := by decide +kernel
theorem i_141_4 : tb_cI tb_shT 141 2 4 = true := by decide +kernel
theorem i_141_5 : tb_cI tb_shT 141 2 5 = true := by decide +kernel
theorem o_141 : tb_cO tb_shT 141 2 = true := by decide +kernel
theorem a_142 : tb_cA tb_shT 142 8 = true := by decide +kernel
theorem a_143 : tb_cA tb_shT 143 8 = true := by decide +kernel
theorem a_144 : tb_cA tb_shT 144 8 = true := by decide +kernel
theorem r_145_0 : tb_cR tb_shT 145 10 0 6 = true := by decide +kernel
theorem r_145_1 : tb_cR tb_shT 145 10 1 146 = true := by decide +kernel
theorem r_145_2 : tb_cR tb_shT 145 10 2 147 = true := by decide +kernel
theorem r_145_3 : tb_cR tb_shT 145 10 3 148 = true := by decide +kernel
theorem r_145_4 : tb_cR tb_shT 145 10 4 149 = true := by decide +kernel
theorem r_145_5 : tb_cR tb_shT 145 10 5 150 = true := by decide +kernel
theorem r_145_6 : tb_cR tb_shT 145 10 6 151 = true := by decide +kernel
theorem r_145_7 : tb_cR tb_shT 145 10 7 152 = true := by decide +kernel
theorem r_145_8 : tb_cR tb_shT 145 10 8 153 = true := by decide +kernel
theorem r_145_9 : tb_cR tb_shT 145 10 9 154 = true := by decide +kernel
theorem i_145_10 : tb_cI tb_shT 145 10 10 = true := by decide +kernel
theorem i_145_11 : tb_cI tb_shT 145 10 11 = true := by decide +kernel
theorem o_145 : tb_cO tb_shT 145 10 = true := by decide +kernel
theorem a_146 : tb_cA tb_shT 146 800 = true := by decide +kernel
theorem a_147 : tb_cA tb_shT 147 800 = true := by decide +kernel
theorem a_148 : tb_cA tb_shT 148 800 = true := by decide +kernel
theorem a_149 : tb_cA tb_shT 149 800 = true := by decide +kernel
theorem a_150 : tb_cA tb_shT 150 800 = true := by decide +kernel
theorem a_151 : tb_cA tb_shT 151 2401 = true := by decide +kernel
theorem a_152 : tb_cA tb_shT 152 2401 = true := by decide +kernel
theorem a_153 : tb_cA tb_shT 153 800 = true := by decide +kernel
theorem a_154 : tb_cA tb_shT 154 800 = true := by decide +kernel
theorem r_155_0 : tb_cR tb_shT 155 7 0 5 = true := by decide +kernel
theorem r_155_1 : tb_cR tb_shT 155 7 1 6 = true := by decide +kernel
theorem r_155_2 : tb_cR tb_shT 155 7 2 139 = true := by decide +kernel
theorem r_155_3 : tb_cR tb_shT 155 7 3 145 = true := by decide +kernel
theorem r_155_4 : tb_cR tb_shT 155 7 4 156 = true := by decide +kernel
theorem o_155 : tb_cO tb_shT 155 7 = true := by decide +kernel
theorem r_156_0 : tb_cR tb_shT 156 4 0 6 = true := by decide +kernel
theorem r_156_1 : tb_cR tb_shT 156 4 1 157 = true := by decide +kernel
theorem i_156_2 : tb_cI tb_shT 156 4 2 = true := by decide +kernel
theorem i_156_3 : tb_cI tb_shT 156 4 3 = true := by decide +kernel
theorem i_156_4 : tb_cI tb_shT 156 4 4 = true := by decide +kernel
theorem o_156 : tb_cO tb_shT 156 4 = true := by decide +kernel
theorem a_157 : tb_cA tb_shT 157 8 = true := by decide +kernel
theorem r_158_0 : tb_cR tb_shT 158 6 0 5 = true := by decide +kernel
theorem r_158_1 : tb_cR tb_shT 158 6 1 6 = true := by decide +kernel
theorem r_158_2 : tb_cR tb_shT 158 6 2 139 = true := by decide +kernel
theorem r_158_3 : tb_cR tb_shT 158 6 3 141 = true := by decide +kernel
theorem r_158_4 : tb_cR tb_shT 158 6 4 159 = true := by decide +kernel
theorem r_158_5 : tb_cR tb_shT 158 6 5 160 = true := by decide +kernel
theorem r_158_6 : tb_cR tb_shT 158 6 6 161 = true := by decide +kernel
theorem i_158_7 : tb_cI tb_shT 158 6 7 = true := by decide +kernel
theorem i_158_8 : tb_cI tb_shT 158 6 8 = true := by decide +kernel
theorem o_158 : tb_cO tb_shT 158 6 = true := by decide +kernel
theorem a_159 : tb_cA tb_shT 159 612 = true := by decide +kernel
theorem a_160 : tb_cA tb_shT 160 612 = true := by decide +kernel
theorem a_161 : tb_cA tb_shT 161 1836 = true := by decide +kernel
theorem a_162 : tb_cA tb_shT 162 700 = true := by decide +kernel
theorem r_163_0 : tb_cR tb_shT 163 5 0 162 = true := by decide +kernel
theorem r_163_1 : tb_cR tb_shT 163 5 1 5 = true := by decide +kernel
theorem r_163_2 : tb_cR tb_shT 163 5 2 1 = true := by decide +kernel
theorem r_163_3 : tb_cR tb_shT 163 5 3 155 = true := by decide +kernel
theorem i_163_4 : tb_cI tb_shT 163 5 4 = true := by decide +kernel
theorem i_163_5 : tb_cI tb_shT 163 5 5 = true := by decide +kernel
theorem i_163_6 : tb_cI tb_shT 163 5 6 = true := by decide +kernel
theorem i_163_7 : tb_cI tb_shT 163 5 7 = true := by decide +kernel
theorem i_163_8 : tb_cI tb_shT 163 5 8 = true := by decide +kernel
theorem i_163_9 : tb_cI tb_shT 163 5 9 = true := by decide +kernel
theorem i_163_10 : tb_cI tb_shT 163 5 10 = true := by decide +kernel
theorem o_163 : tb_cO tb_shT 163 5 = true := by decide +kernel
theorem r_164_0 : tb_cR tb_shT 164 12 0 165 = true := by decide +kernel
theorem r_164_1 : tb_cR tb_shT 164 12 1 166 = true := by decide +kernel
theorem r_164_2 : tb_cR tb_shT 164 12 2 167 = true := by decide +kernel
theorem r_164_3 : tb_cR tb_shT 164 12 3 168 = true := by decide +kernel
theorem r_164_4 : tb_cR tb_shT 164 12 4 169 = true := by decide +kernel
theorem r_164_5 : tb_cR tb_shT 164 12 5 170 = true := by decide +kernel
theorem r_164_6 : tb_cR tb_shT 164 12 6 171 = true := by decide +kernel
theorem r_164_7 : tb_cR tb_shT 164 12 7 172 = true := by decide +kernel
theorem i_164_8 : tb_cI tb_shT 164 12 8 = true := by decide +kernel
theorem i_164_9 : tb_cI tb_shT 164 12 9 = true := by decide +kernel
theorem i_164_10 : tb_cI tb_shT 164 12 10 = true := by decide +kernel
theorem i_164_11 : tb_cI tb_shT 164 12 11 = true := by decide +kernel
theorem i_164_12 : tb_cI tb_shT 164 12 12 = true := by decide +kernel
theorem i_164_13 : tb_cI tb_shT 164 12 13 = true := by decide +kernel
theorem i_164_14 : tb_cI tb_shT 164 12 14 = true := by decide +kernel
theorem i_164_15 : tb_cI tb_shT 164 12 15 = true := by decide +kernel
theorem i_164_16 : tb_cI tb_shT 164 12 16 = true := by decide +kernel
theorem i_164_17 : tb_cI tb_shT 164 12 17 = true := by decide +kernel
theorem r_164_18 : tb_cR tb_shT 164 12 18 173 = true := by decide +kernel
theorem i_164_19 : tb_cI tb_shT 164 12 19 = true := by decide +kernel
theorem i_164_20 : tb_cI tb_shT 164 12 20 = true := by decide +kernel
theorem i_164_21 : tb_cI tb_shT 164 12 21 = true := by decide +kernel
theorem r_164_22 : tb_cR tb_shT 164 12 22 174 = true := by decide +kernel
theorem r_164_23 : tb_cR tb_shT 164 12 23 175 = true := by decide +kernel
theorem r_164_24 : tb_cR tb_shT 164 12 24 176 = true := by decide +kernel
theorem r_164_25 : tb_cR tb_shT 164 12 25 177 = true := by decide +kernel
theorem r_164_26 : tb_cR tb_shT 164 12 26 178 = true := by decide +kernel
theorem r_164_27 : tb_cR tb_shT 164 12 27 179 = true := by decide +kernel
theorem r_164_28 : tb_cR tb_shT 164 12 28 180 = true := by decide +kernel
theorem i_164_30 : tb_cI tb_shT 164 12 30 = true := by decide +kernel
theorem r_164_31 : tb_cR tb_shT 164 12 31 182 = true := by decide +kernel
theorem i_164_32 : tb_cI tb_shT 164 12 32 = true := by decide +kernel
theorem i_164_33 : tb_cI tb_shT 164 12 33 = true := by decide +kernel
theorem i_164_34 : tb_cI tb_shT 164 12 34 = true := by decide +kernel
theorem i_164_35 : tb_cI tb_shT 164 12 35 = true := by decide +kernel
theorem i_164_36 : tb_cI tb_shT 164 12 36 = true := by decide +kernel
theorem i_164_37 : tb_cI tb_shT 164 12 37 = true := by decide +kernel
theorem i_164_38 : tb_cI tb_shT 164 12 38 = true := by decide +kernel
theorem i_164_39 : tb_cI tb_shT 164 12 39 = true := by decide +kernel
theorem i_164_40 : tb_cI tb_shT 164 12 40 = true := by decide +kernel
theorem i_164_41 : tb_cI tb_shT 164 12 41 = true := by decide +kernel
theorem i_164_42 : tb_cI tb_shT 164 12 42 = true := by decide +kernel
theorem i_164_43 : tb_cI tb_shT 164 12 43 = true := by decide +kernel
theorem i_164_44 : tb_cI tb_shT 164 12 44 = true := by decide +kernel
theorem i_164_45 : tb_cI tb_shT 164 12 45 = true := by decide +kernel
theorem i_164_46 : tb_cI tb_shT 164 12 46 = true := by decide +kernel
theorem o_164 : tb_cO tb_shT 164 12 = true := by decide +kernel
theorem a_165 : tb_cA tb_shT 165 5400 = true := by decide +kernel
theorem a_166 : tb_cA tb_shT 166 1200 = true := by decide +kernel
theorem a_167 : tb_cA tb_shT 167 3600 = true := by decide +kernel
theorem a_168 : tb_cA tb_shT 168 1200 = true := by decide +kernel
theorem a_169 : tb_cA tb_shT 169 20 = true := by decide +kernel
theorem a_170 : tb_cA tb_shT 170 20 = true := by decide +kernel
theorem a_171 : tb_cA tb_shT 171 20 = true := by decide +kernel
theorem a_172 : tb_cA tb_shT 172 8 = true := by decide +kernel
theorem a_173 : tb_cA tb_shT 173 700 = true := by decide +kernel
theorem a_174 : tb_cA tb_shT 174 8 = true := by decide +kernel
theorem a_175 : tb_cA tb_shT 175 8 = true := by decide +kernel
theorem a_176 : tb_cA tb_shT 176 8 = true := by decide +kernel
theorem a_177 : tb_cA tb_shT 177 800 = true := by decide +kernel
theorem a_178 : tb_cA tb_shT 178 800 = true := by decide +kernel
theorem a_179 : tb_cA tb_shT 179 800 = true := by decide +kernel
theorem a_180 : tb_cA tb_shT 180 800 = true := by decide +kernel
theorem a_182 : tb_cA tb_shT 182 16 = true := by decide +kernel
