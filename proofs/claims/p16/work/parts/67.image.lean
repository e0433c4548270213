/-- the table d is a copy of the table s -/
def TQ (d s : Nat) (J1 J : zJ) : Prop := J1 d 12 = J s 12 ∧ (∀ t, 0 ≤ t → t < J s 12 → J1 (d + 1) t = J (s + 1) t ∧ J1 (d + 2) t = J (s + 2) t ∧ J1 (d + 4) t = J (s + 4) t ∧ J1 (d + 5) t = J (s + 5) t ∧ J1 (d + 6) t = J (s + 6) t ∧ J1 (d + 7) t = J (s + 7) t ∧ J1 (d + 8) t = J (s + 8) t ∧ J1 (d + 9) t = J (s + 9) t) ∧ (∀ k, 0 ≤ k → k < J s 12 * 3 → J1 (d + 3) k = J (s + 3) k) ∧ (∀ b, 0 ≤ b → b < 256 → J1 (d + 10) b = J (s + 10) b) ∧ zOf (fun c => decide (c < d ∨ d + 10 < c)) J1 J
theorem z0t {f : Int → Int} {g : Int} {t n : Int} (h : 0 ≤ t ∧ t < n) : (if 0 ≤ t ∧ t < 0 + n then f (0 + (t - 0)) else g) = f t := by
  rw [if_pos (by omega)]
  congr 1
  omega
theorem te_64_6 {J : zJ} : TQ 64 6 (zcp (zcp (zcp (zcp (zcp (zcp (zcp (zcp (zcp (zcp (zup J 64 12 (J 6 12)) 7 65 0 0 (J 6 12)) 8 66 0 0 (J 6 12)) 9 67 0 0 (J 6 12 * 3)) 10 68 0 0 (J 6 12)) 11 69 0 0 (J 6 12)) 12 70 0 0 (J 6 12)) 13 71 0 0 (J 6 12)) 14 72 0 0 (J 6 12)) 15 73 0 0 (J 6 12)) 16 74 0 0 256) J := by
  refine ⟨rfl, fun t a b => ⟨z0t ⟨a, b⟩, z0t ⟨a, b⟩, z0t ⟨a, b⟩, z0t ⟨a, b⟩, z0t ⟨a, b⟩, z0t ⟨a, b⟩, z0t ⟨a, b⟩, z0t ⟨a, b⟩⟩, fun k a b => z0t ⟨a, b⟩, fun x a b => z0t ⟨a, b⟩, ?_⟩
  exact zOf.cp rfl (zOf.cp rfl (zOf.cp rfl (zOf.cp rfl (zOf.cp rfl (zOf.cp rfl (zOf.cp rfl (zOf.cp rfl (zOf.cp rfl (zOf.cp rfl (zOf.up rfl zOf.rf))))))))))
theorem te_6_64 {J : zJ} : TQ 6 64 (zcp (zcp (zcp (zcp (zcp (zcp (zcp (zcp (zcp (zcp (zup J 6 12 (J 64 12)) 65 7 0 0 (J 64 12)) 66 8 0 0 (J 64 12)) 67 9 0 0 (J 64 12 * 3)) 68 10 0 0 (J 64 12)) 69 11 0 0 (J 64 12)) 70 12 0 0 (J 64 12)) 71 13 0 0 (J 64 12)) 72 14 0 0 (J 64 12)) 73 15 0 0 (J 64 12)) 74 16 0 0 256) J := by
  refine ⟨rfl, fun t a b => ⟨z0t ⟨a, b⟩, z0t ⟨a, b⟩, z0t ⟨a, b⟩, z0t ⟨a, b⟩, z0t ⟨a, b⟩, z0t ⟨a, b⟩, z0t ⟨a, b⟩, z0t ⟨a, b⟩⟩, fun k a b => z0t ⟨a, b⟩, fun x a b => z0t ⟨a, b⟩, ?_⟩
  exact zOf.cp rfl (zOf.cp rfl (zOf.cp rfl (zOf.cp rfl (zOf.cp rfl (zOf.cp rfl (zOf.cp rfl (zOf.cp rfl (zOf.cp rfl (zOf.cp rfl (zOf.up rfl zOf.rf))))))))))
theorem te_125_6 {J : zJ} : TQ 125 6 (zcp (zcp (zcp (zcp (zcp (zcp (zcp (zcp (zcp (zcp (zup J 125 12 (J 6 12)) 7 126 0 0 (J 6 12)) 8 127 0 0 (J 6 12)) 9 128 0 0 (J 6 12 * 3)) 10 129 0 0 (J 6 12)) 11 130 0 0 (J 6 12)) 12 131 0 0 (J 6 12)) 13 132 0 0 (J 6 12)) 14 133 0 0 (J 6 12)) 15 134 0 0 (J 6 12)) 16 135 0 0 256) J := by
  refine ⟨rfl, fun t a b => ⟨z0t ⟨a, b⟩, z0t ⟨a, b⟩, z0t ⟨a, b⟩, z0t ⟨a, b⟩, z0t ⟨a, b⟩, z0t ⟨a, b⟩, z0t ⟨a, b⟩, z0t ⟨a, b⟩⟩, fun k a b => z0t ⟨a, b⟩, fun x a b => z0t ⟨a, b⟩, ?_⟩
  exact zOf.cp rfl (zOf.cp rfl (zOf.cp rfl (zOf.cp rfl (zOf.cp rfl (zOf.cp rfl (zOf.cp rfl (zOf.cp rfl (zOf.cp rfl (zOf.cp rfl (zOf.up rfl zOf.rf))))))))))
theorem te_6_125 {J : zJ} : TQ 6 125 (zcp (zcp (zcp (zcp (zcp (zcp (zcp (zcp (zcp (zcp (zup J 6 12 (J 125 12)) 126 7 0 0 (J 125 12)) 127 8 0 0 (J 125 12)) 128 9 0 0 (J 125 12 * 3)) 129 10 0 0 (J 125 12)) 130 11 0 0 (J 125 12)) 131 12 0 0 (J 125 12)) 132 13 0 0 (J 125 12)) 133 14 0 0 (J 125 12)) 134 15 0 0 (J 125 12)) 135 16 0 0 256) J := by
  refine ⟨rfl, fun t a b => ⟨z0t ⟨a, b⟩, z0t ⟨a, b⟩, z0t ⟨a, b⟩, z0t ⟨a, b⟩, z0t ⟨a, b⟩, z0t ⟨a, b⟩, z0t ⟨a, b⟩, z0t ⟨a, b⟩⟩, fun k a b => z0t ⟨a, b⟩, fun x a b => z0t ⟨a, b⟩, ?_⟩
  exact zOf.cp rfl (zOf.cp rfl (zOf.cp rfl (zOf.cp rfl (zOf.cp rfl (zOf.cp rfl (zOf.cp rfl (zOf.cp rfl (zOf.cp rfl (zOf.cp rfl (zOf.up rfl zOf.rf))))))))))
theorem TQ.kt {J1 J : zJ} {m : Int} (t : TQ 64 6 J1 J) (h : CT J m) (hm : J 6 12 = m) : CT (kv J1) m := by
  obtain ⟨t1, t2, t3, t4, t5⟩ := t
  rw [hm] at t2 t3
  exact h.su3 (congrFun (t5 1 rfl) 3) (fun k _ _ => ⟨congrFun (t5 3 rfl) k, congrFun (t5 4 rfl) k⟩) t4 ⟨t2, t3⟩
theorem TQ.ck {J1 J : zJ} {m : Int} (t : TQ 6 64 J1 J) (h : CT (kv J) m) (hm : J 64 12 = m) : CT J1 m := by
  obtain ⟨t1, t2, t3, t4, t5⟩ := t
  rw [hm] at t2 t3
  exact h.su3 (congrFun (t5 1 rfl) 3) (fun k _ _ => ⟨congrFun (t5 3 rfl) k, congrFun (t5 4 rfl) k⟩) t4 ⟨t2, t3⟩
theorem zV_bn : ∀ i : Nat, i < 40 → tb_cB tb_shT 78 40 i (79 + i) = true := by decide +kernel
theorem zV_an : ∀ i : Nat, i < 40 → tb_cA tb_shT (79 + i) 61 = true := by decide +kernel
theorem zV_b {i : Int} (h : 0 ≤ i ∧ i < 40) : tb_cB tb_shT 78 40 i.toNat (zV i) = true := zV_bn i.toNat (by omega)
theorem zV_a {i : Int} (h : 0 ≤ i ∧ i < 40) : tb_cA tb_shT (zV i) 61 = true := zV_an i.toNat (by omega)
theorem RG.cp {o o' : Nat} {u u' : Int → Nat} {J' J : zJ} {m : Int} (h : RG o u J m) (e5 : J' o' 5 = J o 5) (e6 : J' o' 6 = J o 6) (e : ∀ q, 0 ≤ q → q < J o 6 → ∀ x, 0 ≤ x → x < 61 → J' (u' ((J o 5 + q) % 40)) x = J (u ((J o 5 + q) % 40)) x) : RG o' u' J' m := by
  unfold RG
  rw [e5, e6]
  refine ⟨h.1, fun k a b => ?_⟩
  obtain ⟨⟨g1, g2⟩, g3⟩ := h.2 k a b
  rw [e k a b 0 (by omega) (by omega)]
  refine ⟨⟨g1.c61 (e k a b), g2⟩, fun q x y => ?_⟩
  rw [e q (by omega) y 0 (by omega) (by omega)]
  exact g3 q x y
def frV (c : Nat) : Bool := decide (c < 79 ∨ 118 < c)
def frU (c : Nat) : Bool := decide (c < 21 ∨ 60 < c)
theorem rowcp_c_takeK {J3 J : zJ} {k : Int} (e5 : J3 63 5 = J 5 5) (hf : 0 ≤ J 5 5 ∧ J 5 5 < 40 ∧ J 5 6 ≤ 40 ∧ k < J 5 6) (hk : 0 ≤ k ∧ k ≤ J 5 6) (hr3 : ∀ i, 0 ≤ i → i < 40 → J3 (zU i) = J (zU i)) (h3 : ∀ q, 0 ≤ q → q < k → ∀ x, 0 ≤ x → x < 61 → J3 (zV ((J 5 5 + q) % 40)) x = J (zU ((J 5 5 + q) % 40)) x) : ∀ q, 0 ≤ q → q < k + 1 → ∀ x, 0 ≤ x → x < 61 → zcp J3 (zU ((J3 63 5 + k) % 40)) (zV ((J3 63 5 + k) % 40)) 0 0 61 (zV ((J 5 5 + q) % 40)) x = J (zU ((J 5 5 + q) % 40)) x := by
  intro q a b x y z
  rw [e5]
  by_cases e : q = k
  · subst e
    rw [zcp_in (by omega), hr3 _ (by omega) (by omega)]
    congr 1
    omega
  · rw [zcp_nc (by unfold zV; omega)]
    exact h3 q a (by omega) x y z
theorem rowcp_c_takeC {J3 J : zJ} {k : Int} (e5 : J3 5 5 = J 63 5) (hf : 0 ≤ J 63 5 ∧ J 63 5 < 40 ∧ J 63 6 ≤ 40 ∧ k < J 63 6) (hk : 0 ≤ k ∧ k ≤ J 63 6) (hr3 : ∀ i, 0 ≤ i → i < 40 → J3 (zV i) = J (zV i)) (h3 : ∀ q, 0 ≤ q → q < k → ∀ x, 0 ≤ x → x < 61 → J3 (zU ((J 63 5 + q) % 40)) x = J (zV ((J 63 5 + q) % 40)) x) : ∀ q, 0 ≤ q → q < k + 1 → ∀ x, 0 ≤ x → x < 61 → zcp J3 (zV ((J3 5 5 + k) % 40)) (zU ((J3 5 5 + k) % 40)) 0 0 61 (zU ((J 63 5 + q) % 40)) x = J (zV ((J 63 5 + q) % 40)) x := by
  intro q a b x y z
  rw [e5]
  by_cases e : q = k
  · subst e
    rw [zcp_in (by omega), hr3 _ (by omega) (by omega)]
    congr 1
    omega
  · rw [zcp_nc (by unfold zU; omega)]
    exact h3 q a (by omega) x y z
def fkk (c : Nat) : Bool := decide (c < 63 ∨ 120 < c)
theorem kv_of {J' J : zJ} {m : Int} (h : CT (kv J) m) (e : ∀ c, c = 1 ∨ c = 3 ∨ c = 4 ∨ (65 ≤ c ∧ c ≤ 74) → J' c = J c) : CT (kv J') m := h.of (fun c hc => by
  unfold kv
  by_cases h7 : 7 ≤ c ∧ c ≤ 16
  · rw [if_pos h7, if_pos h7]
    exact e _ (by omega)
  · rw [if_neg h7, if_neg h7]
    exact e _ (by omega))
