theorem okI_cp2 {g h : Nat → Int32} {lo hi : Int} {a b n : Nat} (hg : ∀ j, a ≤ j → j < a + n → lo ≤ (g j).toInt ∧ (g j).toInt ≤ hi) (hh : ∀ j, lo ≤ (h j).toInt ∧ (h j).toInt ≤ hi) : ∀ j, lo ≤ (va_cpy g h a b n j).toInt ∧ (va_cpy g h a b n j).toInt ≤ hi := by
  intro j
  by_cases h1 : b ≤ j ∧ j < b + n
  · rw [pk_cpy_in h1.1 h1.2]; exact hg _ (by omega) (by omega)
  · rw [pk_cpy_out (by omega)]; exact hh _
theorem trel.rule {kd : Nat → Nat} {k7 k26 k81 kQ k4 o : Nat} {f f9 : Nat → va_E} {d : Nat} {w n : Int32} (h : trel kd k7 k26 k81 kQ k4 f d) (e7 : ∀ b, kd b = k7 → f9 b = f b) (e26 : ∀ b, kd b = k26 → f9 b = f b) (e81 : ∀ b, kd b = k81 → f9 b = f b) (eQ : ∀ b, kd b = kQ → f9 b = f b) (e4 : ∀ b, kd b = k4 → b ≠ o → fldI (f9 b) 1 = fldI (f b) 1) (hn : fldI (f d) 1 = some n) (hw : fldI (f9 o) 1 = some w) (hle : w.toInt ≤ n.toInt) : trel kd k7 k26 k81 kQ k4 f9 d := by
  obtain ⟨n', p, c, sA, pA, rA, gs, gp, gr, ⟨q1, q2, q3, q4⟩, h2, ⟨a1, a2, a3⟩, h4, h5, h6, h7⟩ := h
  have hnn := h2.1
  rw [hn] at hnn
  obtain rfl := Option.some.inj hnn
  refine ⟨n, p, c, sA, pA, rA, gs, gp, gr, ⟨q1, q2, q3, q4⟩, ?_, ⟨?_, ?_, ?_⟩, h4, h5, h6, ?_⟩
  · rw [e7 d q1]; exact h2
  · rw [e26 sA q2]; exact a1
  · rw [e81 pA q3]; exact a2
  · rw [eQ rA q4]; exact a3
  · intro k hk
    obtain ⟨b, w0, w1, w2, w3, w4⟩ := h7 k hk
    by_cases hb : b = o
    · subst hb
      exact ⟨b, w, w1, w2, hw, hle⟩
    · exact ⟨b, w0, w1, w2, by rw [e4 b w2 hb]; exact w3, w4⟩
