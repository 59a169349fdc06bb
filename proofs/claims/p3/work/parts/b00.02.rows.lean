def arI (e : va_E) : Option (Nat → Int32) := match e with
  | .inl (_, _, .inl g) => some g
  | _ => none
def arQ (e : va_E) : Option (Nat → Option Nat) := match e with
  | .inl (_, _, .inr (.inr (.inr (.inr g)))) => some g
  | _ => none
theorem fr_up {f : Nat → va_E} {a j : Nat} {e : va_E} (h : fldR e j = fldR (f a) j) (b : Nat) : fldR (va_up f a e b) j = fldR (f b) j := by
  by_cases hab : b = a
  · subst hab; rw [up_self]; exact h
  · rw [up_ne hab]
/-- what a tongue's cells say of each other: letters, pairs of a letter with itself, signs, rules -/
def trel (kd : Nat → Nat) (k7 k26 k81 kQ k4 : Nat) (f : Nat → va_E) (d : Nat) : Prop :=
  ∃ (n p c : Int32) (sA pA rA : Nat) (gs gp : Nat → Int32) (gr : Nat → Option Nat), (kd d = k7 ∧ kd sA = k26 ∧ kd pA = k81 ∧ kd rA = kQ) ∧ (fldI (f d) 1 = some n ∧ fldI (f d) 6 = some p ∧ fldI (f d) 12 = some c ∧ fldR (f d) 0 = some sA ∧ fldR (f d) 3 = some pA ∧ fldR (f d) 11 = some rA) ∧ (arI (f sA) = some gs ∧ arI (f pA) = some gp ∧ arQ (f rA) = some gr) ∧ p.toInt - n.toInt ≤ 12 ∧ (∀ j, j < 26 → (gs j).toInt ≤ n.toInt) ∧ (∀ i : Nat, 1 ≤ i → (i : Int) ≤ n.toInt → 1 ≤ (gp (10 * i)).toInt) ∧ (∀ k : Nat, (k : Int) < c.toInt → ∃ b w, gr k = some b ∧ kd b = k4 ∧ fldI (f b) 1 = some w ∧ w.toInt ≤ n.toInt)
theorem trel.keep {kd : Nat → Nat} {k7 k26 k81 kQ k4 : Nat} {f f9 : Nat → va_E} {d : Nat} (h : trel kd k7 k26 k81 kQ k4 f d) (e7 : ∀ b, kd b = k7 → f9 b = f b) (e26 : ∀ b, kd b = k26 → f9 b = f b) (e81 : ∀ b, kd b = k81 → f9 b = f b) (eQ : ∀ b, kd b = kQ → f9 b = f b) (e4 : ∀ b, kd b = k4 → fldI (f9 b) 1 = fldI (f b) 1) : trel kd k7 k26 k81 kQ k4 f9 d := by
  obtain ⟨n, p, c, sA, pA, rA, gs, gp, gr, ⟨q1, q2, q3, q4⟩, h2, ⟨a1, a2, a3⟩, h4, h5, h6, h7⟩ := h
  refine ⟨n, p, c, sA, pA, rA, gs, gp, gr, ⟨q1, q2, q3, q4⟩, ?_, ⟨?_, ?_, ?_⟩, h4, h5, h6, ?_⟩
  · rw [e7 d q1]; exact h2
  · rw [e26 sA q2]; exact a1
  · rw [e81 pA q3]; exact a2
  · rw [eQ rA q4]; exact a3
  · intro k hk
    obtain ⟨b, w, w1, w2, w3, w4⟩ := h7 k hk
    exact ⟨b, w, w1, w2, by rw [e4 b w2]; exact w3, w4⟩
theorem trel.up {kd : Nat → Nat} {k7 k26 k81 kQ k4 t a : Nat} {f : Nat → va_E} {d : Nat} {e : va_E} (h : trel kd k7 k26 k81 kQ k4 f d) (ha : kd a = t) (h7 : k7 ≠ t) (h26 : k26 ≠ t) (h81 : k81 ≠ t) (hQ : kQ ≠ t) (h4 : k4 ≠ t) : trel kd k7 k26 k81 kQ k4 (va_up f a e) d :=
  h.keep (fun b q => up_ne (kd_ne ha q h7)) (fun b q => up_ne (kd_ne ha q h26)) (fun b q => up_ne (kd_ne ha q h81)) (fun b q => up_ne (kd_ne ha q hQ)) (fun b q => congrArg (fun x => fldI x 1) (up_ne (kd_ne ha q h4)))
theorem trel.up4 {kd : Nat → Nat} {k7 k26 k81 kQ k4 a : Nat} {f : Nat → va_E} {d : Nat} {e : va_E} (h : trel kd k7 k26 k81 kQ k4 f d) (ha : kd a = k4) (he : fldI e 1 = fldI (f a) 1) (h7 : k7 ≠ k4) (h26 : k26 ≠ k4) (h81 : k81 ≠ k4) (hQ : kQ ≠ k4) : trel kd k7 k26 k81 kQ k4 (va_up f a e) d :=
  h.keep (fun b q => up_ne (kd_ne ha q h7)) (fun b q => up_ne (kd_ne ha q h26)) (fun b q => up_ne (kd_ne ha q h81)) (fun b q => up_ne (kd_ne ha q hQ)) (fun b _ => fk_up he b)
