def ctE (g : Nat → Int32) (d : Int32) : Nat → Nat
  | 0 => 0
  | n + 1 => ctE g d n + (if g n = d then 1 else 0)
theorem ctE_le {g : Nat → Int32} {d : Int32} {n : Nat} : ctE g d n ≤ n := by
  induction n with
  | zero => exact Nat.le_refl _
  | succ n ih =>
    show ctE g d n + (if g n = d then 1 else 0) ≤ n + 1
    by_cases h : g n = d
    · rw [if_pos h]; omega
    · rw [if_neg h]; omega
theorem ctE_lt {g : Nat → Int32} {d : Int32} {n j : Nat} (hj : j < n) (h : g j ≠ d) : ctE g d n < n := by
  induction n with
  | zero => omega
  | succ n ih =>
    show ctE g d n + (if g n = d then 1 else 0) < n + 1
    by_cases hn : j = n
    · subst hn; rw [if_neg h]; have := ctE_le (g := g) (d := d) (n := j); omega
    · have h2 := ih (by omega)
      by_cases h3 : g n = d
      · rw [if_pos h3]; omega
      · rw [if_neg h3]; omega
theorem ctE_same {g h : Nat → Int32} {d : Int32} {n : Nat} (e : ∀ j, j < n → h j = g j) : ctE h d n = ctE g d n := by
  induction n with
  | zero => rfl
  | succ n ih => show ctE h d n + (if h n = d then 1 else 0) = ctE g d n + (if g n = d then 1 else 0); rw [ih (fun j hj => e j (by omega)), e n (by omega)]
theorem ctE_up {g : Nat → Int32} {d : Int32} {n j : Nat} (hj : j < n) (h : g j ≠ d) : ctE (upd g j d) d n = ctE g d n + 1 := by
  induction n with
  | zero => omega
  | succ n ih =>
    show ctE (upd g j d) d n + (if upd g j d n = d then 1 else 0) = ctE g d n + (if g n = d then 1 else 0) + 1
    by_cases hn : j = n
    · subst hn
      rw [pk_us, if_pos rfl, if_neg h, ctE_same (fun i hi => pk_un (by omega))]
    · rw [ih (by omega), pk_un (by omega)]; omega
/-- no more words have come than there are stamps -/
def srel (kd : Nat → Nat) (KS : Nat) (f : Nat → va_E) (o : Nat) : Prop :=
  ∃ (a : Nat) (g : Nat → Int32) (c d : Int32), (kd o = 12 ∧ kd a = KS) ∧ fldR (f o) 30 = some a ∧ arI (f a) = some g ∧ (fldI (f o) 32 = some c ∧ fldI (f o) 33 = some d) ∧ c.toInt ≤ (ctE g d 6561 : Int)
theorem srel.keep {kd : Nat → Nat} {KS : Nat} {f f9 : Nat → va_E} {o : Nat} (h : srel kd KS f o) (e1 : ∀ b, kd b = 12 → fldR (f9 b) 30 = fldR (f b) 30) (e2 : ∀ b, kd b = 12 → fldI (f9 b) 32 = fldI (f b) 32) (e3 : ∀ b, kd b = 12 → fldI (f9 b) 33 = fldI (f b) 33) (e4 : ∀ b, kd b = KS → f9 b = f b) : srel kd KS f9 o := by
  obtain ⟨a, g, c, d, ⟨q1, q2⟩, h1, h2, ⟨h3, h4⟩, h5⟩ := h
  exact ⟨a, g, c, d, ⟨q1, q2⟩, by rw [e1 o q1]; exact h1, by rw [e4 a q2]; exact h2, ⟨by rw [e2 o q1]; exact h3, by rw [e3 o q1]; exact h4⟩, h5⟩
