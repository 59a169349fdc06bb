def arJ (e : va_E) : Option (Nat → Int64) := match e with
  | .inl (_, _, .inr (.inl g)) => some g
  | _ => none
/-- the slots of the dead ends point at whole keys of the pool -/
def drel (kd : Nat → Nat) (k1 kS kP : Nat) (f : Nat → va_E) (d : Nat) : Prop :=
  ∃ (u : Int32) (sA pA : Nat) (g : Nat → Int32) (p : Nat → Int64), (kd d = k1 ∧ kd sA = kS ∧ kd pA = kP) ∧ (fldI (f d) 5 = some u ∧ fldR (f d) 0 = some sA ∧ fldR (f d) 1 = some pA) ∧ (arI (f sA) = some g ∧ arJ (f pA) = some p) ∧ ∀ j, j < 4096 → (g j).toInt = 0 ∨ (1 ≤ (g j).toInt ∧ 0 ≤ (p (Int32.toNatClampNeg (g j) - 1)).toInt ∧ (g j).toInt + (p (Int32.toNatClampNeg (g j) - 1)).toInt ≤ u.toInt)
theorem drel.keep {kd : Nat → Nat} {k1 kS kP : Nat} {f f9 : Nat → va_E} {d : Nat} (h : drel kd k1 kS kP f d) (e5 : ∀ b, kd b = k1 → fldI (f9 b) 5 = fldI (f b) 5) (r0 : ∀ b, kd b = k1 → fldR (f9 b) 0 = fldR (f b) 0) (r1 : ∀ b, kd b = k1 → fldR (f9 b) 1 = fldR (f b) 1) (eS : ∀ b, kd b = kS → f9 b = f b) (eP : ∀ b, kd b = kP → f9 b = f b) : drel kd k1 kS kP f9 d := by
  obtain ⟨u, sA, pA, g, p, ⟨q1, q2, q3⟩, ⟨h1, h2, h3⟩, ⟨a1, a2⟩, h4⟩ := h
  exact ⟨u, sA, pA, g, p, ⟨q1, q2, q3⟩, ⟨by rw [e5 d q1]; exact h1, by rw [r0 d q1]; exact h2, by rw [r1 d q1]; exact h3⟩, ⟨by rw [eS sA q2]; exact a1, by rw [eP pA q3]; exact a2⟩, h4⟩
theorem drel.up {kd : Nat → Nat} {k1 kS kP t a : Nat} {f : Nat → va_E} {d : Nat} {e : va_E} (h : drel kd k1 kS kP f d) (ha : kd a = t) (h1 : k1 ≠ t) (hS : kS ≠ t) (hP : kP ≠ t) : drel kd k1 kS kP (va_up f a e) d :=
  h.keep (fun b q => congrArg (fun x => fldI x 5) (up_ne (kd_ne ha q h1))) (fun b q => congrArg (fun x => fldR x 0) (up_ne (kd_ne ha q h1))) (fun b q => congrArg (fun x => fldR x 1) (up_ne (kd_ne ha q h1))) (fun b q => up_ne (kd_ne ha q hS)) (fun b q => up_ne (kd_ne ha q hP))
theorem drel.up1 {kd : Nat → Nat} {k1 kS kP a : Nat} {f : Nat → va_E} {d : Nat} {e : va_E} (h : drel kd k1 kS kP f d) (ha : kd a = k1) (h5 : fldI e 5 = fldI (f a) 5) (h0 : fldR e 0 = fldR (f a) 0) (h1 : fldR e 1 = fldR (f a) 1) (hS : kS ≠ k1) (hP : kP ≠ k1) : drel kd k1 kS kP (va_up f a e) d :=
  h.keep (fun b _ => fk_up h5 b) (fun b _ => fr_up h0 b) (fun b _ => fr_up h1 b) (fun b q => up_ne (kd_ne ha q hS)) (fun b q => up_ne (kd_ne ha q hP))
theorem i64_of (x : Int32) : x.toInt64.toInt = x.toInt := Int32.toInt_toInt64 x
theorem pr_I {i : Int32} (h : 1 ≤ i.toInt) : Int32.toNatClampNeg (i - 1) = Int32.toNatClampNeg i - 1 := by
  have h1 := cl_I (i := i) (by omega)
  have h2 : (i - 1).toInt = i.toInt - (1 : Int32).toInt := sb_I (by rw [show (1 : Int32).toInt = 1 from rfl]; omega) (by have := i32_hi i; rw [show (1 : Int32).toInt = 1 from rfl]; omega)
  rw [show (1 : Int32).toInt = 1 from rfl] at h2
  have h3 := cl_I (i := i - 1) (by omega)
  omega
theorem ml_8 {x y : Int32} (hx : 0 ≤ x.toInt ∧ x.toInt ≤ 8) (hy : 0 ≤ y.toInt ∧ y.toInt ≤ 43046721) : 0 ≤ (x * y).toInt ∧ (x * y).toInt ≤ 8 * y.toInt := by
  obtain ⟨i, hi, rfl⟩ := i8_of (n := 8) hx
  obtain ⟨j, hj, rfl⟩ := i8_of (n := 43046721) hy
  have h9 : i * j ≤ 8 * j := Nat.mul_le_mul_right j hi
  rw [pk_mul, nI_toInt (by omega), nI_toInt (by omega)]
  constructor <;> omega
def capR (c w : Int) : Prop := (w = 0 ∧ c ≤ 0) ∨ (w = 1 ∧ c ≤ 344373768) ∨ (w = 2 ∧ c ≤ 382637520) ∨ (w = 3 ∧ c ≤ 386889048) ∨ (w = 4 ∧ c ≤ 387361440) ∨ (w = 5 ∧ c ≤ 387413928) ∨ (w = 6 ∧ c ≤ 387419760) ∨ (w = 7 ∧ c ≤ 387420408) ∨ (w = 8 ∧ c ≤ 387420480) ∨ (w = 9 ∧ c ≤ 387420488)
theorem capR.zero : capR 0 0 := Or.inl ⟨rfl, Int.le_refl 0⟩
theorem capR.step {c w z W : Int} (h : capR c w) (hW : (w = 0 ∧ W = 43046721) ∨ (w = 1 ∧ W = 4782969) ∨ (w = 2 ∧ W = 531441) ∨ (w = 3 ∧ W = 59049) ∨ (w = 4 ∧ W = 6561) ∨ (w = 5 ∧ W = 729) ∨ (w = 6 ∧ W = 81) ∨ (w = 7 ∧ W = 9) ∨ (w = 8 ∧ W = 1)) (hz : z ≤ c + 8 * W) : capR z (w + 1) := by
  rcases hW with ⟨rfl, rfl⟩ | ⟨rfl, rfl⟩ | ⟨rfl, rfl⟩ | ⟨rfl, rfl⟩ | ⟨rfl, rfl⟩ | ⟨rfl, rfl⟩ | ⟨rfl, rfl⟩ | ⟨rfl, rfl⟩ | ⟨rfl, rfl⟩
  · have h0 : c ≤ 0 := by unfold capR at h; omega
    exact Or.inr (Or.inl ⟨by omega, by omega⟩)
  · have h0 : c ≤ 344373768 := by unfold capR at h; omega
    exact Or.inr (Or.inr (Or.inl ⟨by omega, by omega⟩))
  · have h0 : c ≤ 382637520 := by unfold capR at h; omega
    exact Or.inr (Or.inr (Or.inr (Or.inl ⟨by omega, by omega⟩)))
  · have h0 : c ≤ 386889048 := by unfold capR at h; omega
    exact Or.inr (Or.inr (Or.inr (Or.inr (Or.inl ⟨by omega, by omega⟩))))
  · have h0 : c ≤ 387361440 := by unfold capR at h; omega
    exact Or.inr (Or.inr (Or.inr (Or.inr (Or.inr (Or.inl ⟨by omega, by omega⟩)))))
  · have h0 : c ≤ 387413928 := by unfold capR at h; omega
    exact Or.inr (Or.inr (Or.inr (Or.inr (Or.inr (Or.inr (Or.inl ⟨by omega, by omega⟩))))))
  · have h0 : c ≤ 387419760 := by unfold capR at h; omega
    exact Or.inr (Or.inr (Or.inr (Or.inr (Or.inr (Or.inr (Or.inr (Or.inl ⟨by omega, by omega⟩)))))))
  · have h0 : c ≤ 387420408 := by unfold capR at h; omega
    exact Or.inr (Or.inr (Or.inr (Or.inr (Or.inr (Or.inr (Or.inr (Or.inr (Or.inl ⟨by omega, by omega⟩))))))))
  · have h0 : c ≤ 387420480 := by unfold capR at h; omega
    exact Or.inr (Or.inr (Or.inr (Or.inr (Or.inr (Or.inr (Or.inr (Or.inr (Or.inr (⟨by omega, by omega⟩)))))))))
