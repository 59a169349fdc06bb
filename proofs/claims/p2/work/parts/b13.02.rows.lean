theorem ml_E {x y : Int32} {a b : Nat} (hx : 0 ≤ x.toInt ∧ x.toInt ≤ a) (hy : 0 ≤ y.toInt ∧ y.toInt ≤ b) (hab : a * b ≤ 2147483647) : (x * y).toInt = x.toInt * y.toInt := by
  have ha : x.toInt ≤ 2147483647 := i32_hi x
  have hb : y.toInt ≤ 2147483647 := i32_hi y
  obtain ⟨i, hi, rfl⟩ := i8_of (n := 2147483647) (x := x) (by omega)
  obtain ⟨j, hj, rfl⟩ := i8_of (n := 2147483647) (x := y) (by omega)
  rw [nI_toInt (by omega)] at hx
  rw [nI_toInt (by omega)] at hy
  have h9 : i * j ≤ a * b := Nat.mul_le_mul (by omega) (by omega)
  rw [pk_mul, nI_toInt (by omega), nI_toInt (by omega), nI_toInt (by omega)]
  exact Int.natCast_mul i j
theorem ctE_pos {g : Nat → Int32} {d : Int32} {n j : Nat} (hj : j < n) (h : g j = d) : 1 ≤ ctE g d n := by
  induction n with
  | zero => omega
  | succ n ih =>
    show 1 ≤ ctE g d n + (if g n = d then 1 else 0)
    by_cases hn : j = n
    · subst hn; rw [if_pos h]; omega
    · have := ih (by omega); omega
theorem ctE_dn {g : Nat → Int32} {d v : Int32} {n j : Nat} (hj : j < n) (h : g j = d) (hv : v ≠ d) : ctE (upd g j v) d n + 1 = ctE g d n := by
  induction n with
  | zero => omega
  | succ n ih =>
    show ctE (upd g j v) d n + (if upd g j v n = d then 1 else 0) + 1 = ctE g d n + (if g n = d then 1 else 0)
    by_cases hn : j = n
    · subst hn
      rw [pk_us, if_neg hv, if_pos h, ctE_same (fun i hi => pk_un (by omega))]
    · have := ih (by omega)
      rw [pk_un (by omega)]
      omega
theorem fp_step {gl gs : Nat → Int32} {m s n : Nat} {v nx : Int32} (hA : ∀ j, j < m → 0 ≤ (gl (Int32.toNatClampNeg (gs j))).toInt) (hB : m + ctE gl (-1) 4096 ≤ 4096) (hC : 0 ≤ (gl s).toInt ∧ (gl s).toInt ≤ 3) (en : n = Int32.toNatClampNeg nx) (hn : gl n = -1) (hnx : n < 4096) (hv : v.toInt = (gl s).toInt + 1) : (∀ j, j < m + 1 → 0 ≤ (upd gl n v (Int32.toNatClampNeg (upd gs m nx j))).toInt) ∧ m + 1 + ctE (upd gl n v) (-1) 4096 ≤ 4096 ∧ (0 ≤ (upd gl n v s).toInt ∧ (upd gl n v s).toInt ≤ 3) ∧ m < 4096 := by
  have hv1 : v ≠ -1 := by
    intro e
    rw [e] at hv
    have h3 : ((-1 : Int32)).toInt = -1 := by decide
    omega
  have hns : s ≠ n := by
    intro e
    rw [e, hn] at hC
    have h3 : ((-1 : Int32)).toInt = -1 := by decide
    omega
  have hd := ctE_dn (n := 4096) hnx hn hv1
  refine ⟨?_, by omega, by rw [pk_un hns]; exact hC, by omega⟩
  intro j hj
  by_cases hjm : j = m
  · subst hjm; rw [pk_us, ← en, pk_us]; omega
  · rw [pk_un hjm]
    by_cases h5 : Int32.toNatClampNeg (gs j) = n
    · rw [h5, pk_us]; omega
    · rw [pk_un h5]; exact hA j (by omega)
theorem lw_pos {L q : Int} (h0 : 0 ≤ L) (hq : 0 ≤ q) (h : q < L + L * L + L * L * L) : 1 ≤ L := by
  by_cases h1 : L = 0
  · subst h1; simp at h; omega
  · omega
theorem lw_sq {L : Int} (h : 0 ≤ L ∧ L ≤ 8) : (0 ≤ L * L ∧ L * L ≤ 64) ∧ (0 ≤ L * L * L ∧ L * L * L ≤ 512) := by
  rcases (show L = 0 ∨ L = 1 ∨ L = 2 ∨ L = 3 ∨ L = 4 ∨ L = 5 ∨ L = 6 ∨ L = 7 ∨ L = 8 by omega) with rfl | rfl | rfl | rfl | rfl | rfl | rfl | rfl | rfl <;> decide
def wrel (kd : Nat → Nat) (K i : Nat) (c : Int) (f : Nat → va_E) (d : Nat) : Prop := kd d = K ∧ ∃ g, arI (f d) = some g ∧ (g i).toInt ≤ c
theorem wrel.get {kd : Nat → Nat} {K i : Nat} {c : Int} {f : Nat → va_E} {d n : Nat} {cI : ClassId} {g : Nat → Int32} (h : wrel kd K i c f d) (hf : f d = .inl (cI, n, .inl g)) : (g i).toInt ≤ c := by
  obtain ⟨_, g9, h1, h2⟩ := h
  rw [hf] at h1
  obtain rfl := Option.some.inj h1
  exact h2
theorem wrel.keep {kd : Nat → Nat} {K i : Nat} {c : Int} {f f9 : Nat → va_E} {d : Nat} (h : wrel kd K i c f d) (e : ∀ b, kd b = K → f9 b = f b) : wrel kd K i c f9 d := by
  obtain ⟨q, g, h1, h2⟩ := h
  exact ⟨q, g, by rw [e d q]; exact h1, h2⟩
theorem wrel.mk {kd : Nat → Nat} {K i : Nat} {c : Int} {f : Nat → va_E} {d n : Nat} {cI : ClassId} {g : Nat → Int32} (q : kd d = K) (hf : f d = .inl (cI, n, .inl g)) (h : (g i).toInt ≤ c) : wrel kd K i c f d := ⟨q, g, by rw [hf]; rfl, h⟩
