def ztm : Nat → Term
  | 0 => .string "SaidShallow$Reader" 75
  | 1 => .string "SaidShallow$Reader" 84
  | 2 => .string "SaidShallow$Reader" 89
  | 3 => .string "SaidShallow$Reader" 94
  | 4 => .string "SaidShallow$Reader" 99
  | 5 => .string "SaidShallow$Reader" 109
  | 6 => .string "SaidShallow$Reader" 179
  | 7 => .string "SaidShallow$Reader" 188
  | 8 => .string "SaidShallow$Reader" 190
  | _ => .string "SaidShallow$Reader" 192
set_option maxHeartbeats 8000000 in
set_option maxRecDepth 100000 in
theorem zs_ex {s : State} {b : Nat} (hs : ∀ c ∈ flatC (Jvm.Cond.and given_1 narrow_1), c.before #[Value.ref b] s = true) : ∀ i : Nat, i < 10 → (Cond.exactly (ztm i) "java/lang/String").before #[Value.ref b] s = true := by
  intro i hi
  rcases (show i = 0 ∨ i = 1 ∨ i = 2 ∨ i = 3 ∨ i = 4 ∨ i = 5 ∨ i = 6 ∨ i = 7 ∨ i = 8 ∨ i = 9 by omega) with rfl | rfl | rfl | rfl | rfl | rfl | rfl | rfl | rfl | rfl
  · exact hs _ (by decide +kernel)
  · exact hs _ (by decide +kernel)
  · exact hs _ (by decide +kernel)
  · exact hs _ (by decide +kernel)
  · exact hs _ (by decide +kernel)
  · exact hs _ (by decide +kernel)
  · exact hs _ (by decide +kernel)
  · exact hs _ (by decide +kernel)
  · exact hs _ (by decide +kernel)
  · exact hs _ (by decide +kernel)

set_option maxHeartbeats 8000000 in
set_option maxRecDepth 100000 in
theorem zs_co {s : State} {b : Nat} (hs : ∀ c ∈ flatC (Jvm.Cond.and given_1 narrow_1), c.before #[Value.ref b] s = true) : ∀ i : Nat, i < 10 → (Cond.eq (.field (ztm i) "java/lang/String" "coder" "B") (.int 0)).before #[Value.ref b] s = true := by
  intro i hi
  rcases (show i = 0 ∨ i = 1 ∨ i = 2 ∨ i = 3 ∨ i = 4 ∨ i = 5 ∨ i = 6 ∨ i = 7 ∨ i = 8 ∨ i = 9 by omega) with rfl | rfl | rfl | rfl | rfl | rfl | rfl | rfl | rfl | rfl
  · exact hs _ (by decide +kernel)
  · exact hs _ (by decide +kernel)
  · exact hs _ (by decide +kernel)
  · exact hs _ (by decide +kernel)
  · exact hs _ (by decide +kernel)
  · exact hs _ (by decide +kernel)
  · exact hs _ (by decide +kernel)
  · exact hs _ (by decide +kernel)
  · exact hs _ (by decide +kernel)
  · exact hs _ (by decide +kernel)

set_option maxHeartbeats 8000000 in
set_option maxRecDepth 100000 in
theorem zs_ar {s : State} {b : Nat} (hs : ∀ c ∈ flatC (Jvm.Cond.and given_1 narrow_1), c.before #[Value.ref b] s = true) : ∀ i : Nat, i < 10 → (Cond.arrayOf (.field (ztm i) "java/lang/String" "value" "[B") .byte).before #[Value.ref b] s = true := by
  intro i hi
  rcases (show i = 0 ∨ i = 1 ∨ i = 2 ∨ i = 3 ∨ i = 4 ∨ i = 5 ∨ i = 6 ∨ i = 7 ∨ i = 8 ∨ i = 9 by omega) with rfl | rfl | rfl | rfl | rfl | rfl | rfl | rfl | rfl | rfl
  · exact hs _ (by decide +kernel)
  · exact hs _ (by decide +kernel)
  · exact hs _ (by decide +kernel)
  · exact hs _ (by decide +kernel)
  · exact hs _ (by decide +kernel)
  · exact hs _ (by decide +kernel)
  · exact hs _ (by decide +kernel)
  · exact hs _ (by decide +kernel)
  · exact hs _ (by decide +kernel)
  · exact hs _ (by decide +kernel)

set_option maxHeartbeats 8000000 in
set_option maxRecDepth 100000 in
theorem zs_le {s : State} {b : Nat} (hs : ∀ c ∈ flatC (Jvm.Cond.and given_1 narrow_1), c.before #[Value.ref b] s = true) : ∀ i : Nat, i < 10 → (Cond.eq (.length (.field (ztm i) "java/lang/String" "value" "[B")) (.int (Int32.ofNat (zL.getD i 0)))).before #[Value.ref b] s = true := by
  intro i hi
  rcases (show i = 0 ∨ i = 1 ∨ i = 2 ∨ i = 3 ∨ i = 4 ∨ i = 5 ∨ i = 6 ∨ i = 7 ∨ i = 8 ∨ i = 9 by omega) with rfl | rfl | rfl | rfl | rfl | rfl | rfl | rfl | rfl | rfl
  · exact hs _ (by decide +kernel)
  · exact hs _ (by decide +kernel)
  · exact hs _ (by decide +kernel)
  · exact hs _ (by decide +kernel)
  · exact hs _ (by decide +kernel)
  · exact hs _ (by decide +kernel)
  · exact hs _ (by decide +kernel)
  · exact hs _ (by decide +kernel)
  · exact hs _ (by decide +kernel)
  · exact hs _ (by decide +kernel)

set_option maxHeartbeats 8000000 in
set_option maxRecDepth 100000 in
theorem zs_el {s : State} {b : Nat} (hs : ∀ c ∈ flatC (Jvm.Cond.and given_1 narrow_1), c.before #[Value.ref b] s = true) : ∀ i : Nat, i < 10 → ∀ j : Nat, j < zL.getD i 0 → (Cond.eq (.elem (.field (ztm i) "java/lang/String" "value" "[B") (.int (Int32.ofNat j))) (.int ((zB.getD i []).getD j 0))).before #[Value.ref b] s = true := by
  intro i hi
  rcases (show i = 0 ∨ i = 1 ∨ i = 2 ∨ i = 3 ∨ i = 4 ∨ i = 5 ∨ i = 6 ∨ i = 7 ∨ i = 8 ∨ i = 9 by omega) with rfl | rfl | rfl | rfl | rfl | rfl | rfl | rfl | rfl | rfl
  · intro j hj
    have hj2 : j < 7 := hj
    rcases (show j = 0 ∨ j = 1 ∨ j = 2 ∨ j = 3 ∨ j = 4 ∨ j = 5 ∨ j = 6 by omega) with rfl | rfl | rfl | rfl | rfl | rfl | rfl
    · exact hs _ (by decide +kernel)
    · exact hs _ (by decide +kernel)
    · exact hs _ (by decide +kernel)
    · exact hs _ (by decide +kernel)
    · exact hs _ (by decide +kernel)
    · exact hs _ (by decide +kernel)
    · exact hs _ (by decide +kernel)
  · intro j hj
    have hj2 : j < 5 := hj
    rcases (show j = 0 ∨ j = 1 ∨ j = 2 ∨ j = 3 ∨ j = 4 by omega) with rfl | rfl | rfl | rfl | rfl
    · exact hs _ (by decide +kernel)
    · exact hs _ (by decide +kernel)
    · exact hs _ (by decide +kernel)
    · exact hs _ (by decide +kernel)
    · exact hs _ (by decide +kernel)
  · intro j hj
    have hj2 : j < 4 := hj
    rcases (show j = 0 ∨ j = 1 ∨ j = 2 ∨ j = 3 by omega) with rfl | rfl | rfl | rfl
    · exact hs _ (by decide +kernel)
    · exact hs _ (by decide +kernel)
    · exact hs _ (by decide +kernel)
    · exact hs _ (by decide +kernel)
  · intro j hj
    have hj2 : j < 4 := hj
    rcases (show j = 0 ∨ j = 1 ∨ j = 2 ∨ j = 3 by omega) with rfl | rfl | rfl | rfl
    · exact hs _ (by decide +kernel)
    · exact hs _ (by decide +kernel)
    · exact hs _ (by decide +kernel)
    · exact hs _ (by decide +kernel)
  · intro j hj
    have hj2 : j < 4 := hj
    rcases (show j = 0 ∨ j = 1 ∨ j = 2 ∨ j = 3 by omega) with rfl | rfl | rfl | rfl
    · exact hs _ (by decide +kernel)
    · exact hs _ (by decide +kernel)
    · exact hs _ (by decide +kernel)
    · exact hs _ (by decide +kernel)
  · intro j hj
    have hj2 : j < 3 := hj
    rcases (show j = 0 ∨ j = 1 ∨ j = 2 by omega) with rfl | rfl | rfl
    · exact hs _ (by decide +kernel)
    · exact hs _ (by decide +kernel)
    · exact hs _ (by decide +kernel)
  · intro j hj
    have hj2 : j < 2 := hj
    rcases (show j = 0 ∨ j = 1 by omega) with rfl | rfl
    · exact hs _ (by decide +kernel)
    · exact hs _ (by decide +kernel)
  · intro j hj
    have hj2 : j < 3 := hj
    rcases (show j = 0 ∨ j = 1 ∨ j = 2 by omega) with rfl | rfl | rfl
    · exact hs _ (by decide +kernel)
    · exact hs _ (by decide +kernel)
    · exact hs _ (by decide +kernel)
  · intro j hj
    have hj2 : j < 2 := hj
    rcases (show j = 0 ∨ j = 1 by omega) with rfl | rfl
    · exact hs _ (by decide +kernel)
    · exact hs _ (by decide +kernel)
  · intro j hj
    have hj2 : j < 3 := hj
    rcases (show j = 0 ∨ j = 1 ∨ j = 2 by omega) with rfl | rfl | rfl
    · exact hs _ (by decide +kernel)
    · exact hs _ (by decide +kernel)
    · exact hs _ (by decide +kernel)

set_option maxHeartbeats 16000000 in
set_option maxRecDepth 100000 in
theorem zs_ne {s : State} {b : Nat} (hs : ∀ c ∈ flatC (Jvm.Cond.and given_1 narrow_1), c.before #[Value.ref b] s = true) : ∀ i j : Nat, i < 10 → j < 10 → i ≠ j → (Cond.not (Cond.eq (ztm i) (ztm j))).before #[Value.ref b] s = true ∨ (Cond.not (Cond.eq (ztm j) (ztm i))).before #[Value.ref b] s = true := by
  intro i j hi hj hne
  rcases (show i = 0 ∨ i = 1 ∨ i = 2 ∨ i = 3 ∨ i = 4 ∨ i = 5 ∨ i = 6 ∨ i = 7 ∨ i = 8 ∨ i = 9 by omega) with rfl | rfl | rfl | rfl | rfl | rfl | rfl | rfl | rfl | rfl
  · rcases (show j = 0 ∨ j = 1 ∨ j = 2 ∨ j = 3 ∨ j = 4 ∨ j = 5 ∨ j = 6 ∨ j = 7 ∨ j = 8 ∨ j = 9 by omega) with rfl | rfl | rfl | rfl | rfl | rfl | rfl | rfl | rfl | rfl
    · exact absurd rfl hne
    · exact Or.inl (hs _ (by decide +kernel))
    · exact Or.inl (hs _ (by decide +kernel))
    · exact Or.inl (hs _ (by decide +kernel))
    · exact Or.inl (hs _ (by decide +kernel))
    · exact Or.inl (hs _ (by decide +kernel))
    · exact Or.inl (hs _ (by decide +kernel))
    · exact Or.inl (hs _ (by decide +kernel))
    · exact Or.inl (hs _ (by decide +kernel))
    · exact Or.inl (hs _ (by decide +kernel))
  · rcases (show j = 0 ∨ j = 1 ∨ j = 2 ∨ j = 3 ∨ j = 4 ∨ j = 5 ∨ j = 6 ∨ j = 7 ∨ j = 8 ∨ j = 9 by omega) with rfl | rfl | rfl | rfl | rfl | rfl | rfl | rfl | rfl | rfl
    · exact Or.inr (hs _ (by decide +kernel))
    · exact absurd rfl hne
    · exact Or.inl (hs _ (by decide +kernel))
    · exact Or.inl (hs _ (by decide +kernel))
    · exact Or.inl (hs _ (by decide +kernel))
    · exact Or.inl (hs _ (by decide +kernel))
    · exact Or.inl (hs _ (by decide +kernel))
    · exact Or.inl (hs _ (by decide +kernel))
    · exact Or.inl (hs _ (by decide +kernel))
    · exact Or.inl (hs _ (by decide +kernel))
  · rcases (show j = 0 ∨ j = 1 ∨ j = 2 ∨ j = 3 ∨ j = 4 ∨ j = 5 ∨ j = 6 ∨ j = 7 ∨ j = 8 ∨ j = 9 by omega) with rfl | rfl | rfl | rfl | rfl | rfl | rfl | rfl | rfl | rfl
    · exact Or.inr (hs _ (by decide +kernel))
    · exact Or.inr (hs _ (by decide +kernel))
    · exact absurd rfl hne
    · exact Or.inl (hs _ (by decide +kernel))
    · exact Or.inl (hs _ (by decide +kernel))
    · exact Or.inl (hs _ (by decide +kernel))
    · exact Or.inl (hs _ (by decide +kernel))
    · exact Or.inl (hs _ (by decide +kernel))
    · exact Or.inl (hs _ (by decide +kernel))
    · exact Or.inl (hs _ (by decide +kernel))
  · rcases (show j = 0 ∨ j = 1 ∨ j = 2 ∨ j = 3 ∨ j = 4 ∨ j = 5 ∨ j = 6 ∨ j = 7 ∨ j = 8 ∨ j = 9 by omega) with rfl | rfl | rfl | rfl | rfl | rfl | rfl | rfl | rfl | rfl
    · exact Or.inr (hs _ (by decide +kernel))
    · exact Or.inr (hs _ (by decide +kernel))
    · exact Or.inr (hs _ (by decide +kernel))
    · exact absurd rfl hne
    · exact Or.inl (hs _ (by decide +kernel))
    · exact Or.inl (hs _ (by decide +kernel))
    · exact Or.inl (hs _ (by decide +kernel))
    · exact Or.inl (hs _ (by decide +kernel))
    · exact Or.inl (hs _ (by decide +kernel))
    · exact Or.inl (hs _ (by decide +kernel))
  · rcases (show j = 0 ∨ j = 1 ∨ j = 2 ∨ j = 3 ∨ j = 4 ∨ j = 5 ∨ j = 6 ∨ j = 7 ∨ j = 8 ∨ j = 9 by omega) with rfl | rfl | rfl | rfl | rfl | rfl | rfl | rfl | rfl | rfl
    · exact Or.inr (hs _ (by decide +kernel))
    · exact Or.inr (hs _ (by decide +kernel))
    · exact Or.inr (hs _ (by decide +kernel))
    · exact Or.inr (hs _ (by decide +kernel))
    · exact absurd rfl hne
    · exact Or.inl (hs _ (by decide +kernel))
    · exact Or.inr (hs _ (by decide +kernel))
    · exact Or.inr (hs _ (by decide +kernel))
    · exact Or.inr (hs _ (by decide +kernel))
    · exact Or.inr (hs _ (by decide +kernel))
  · rcases (show j = 0 ∨ j = 1 ∨ j = 2 ∨ j = 3 ∨ j = 4 ∨ j = 5 ∨ j = 6 ∨ j = 7 ∨ j = 8 ∨ j = 9 by omega) with rfl | rfl | rfl | rfl | rfl | rfl | rfl | rfl | rfl | rfl
    · exact Or.inr (hs _ (by decide +kernel))
    · exact Or.inr (hs _ (by decide +kernel))
    · exact Or.inr (hs _ (by decide +kernel))
    · exact Or.inr (hs _ (by decide +kernel))
    · exact Or.inr (hs _ (by decide +kernel))
    · exact absurd rfl hne
    · exact Or.inr (hs _ (by decide +kernel))
    · exact Or.inr (hs _ (by decide +kernel))
    · exact Or.inr (hs _ (by decide +kernel))
    · exact Or.inr (hs _ (by decide +kernel))
  · rcases (show j = 0 ∨ j = 1 ∨ j = 2 ∨ j = 3 ∨ j = 4 ∨ j = 5 ∨ j = 6 ∨ j = 7 ∨ j = 8 ∨ j = 9 by omega) with rfl | rfl | rfl | rfl | rfl | rfl | rfl | rfl | rfl | rfl
    · exact Or.inr (hs _ (by decide +kernel))
    · exact Or.inr (hs _ (by decide +kernel))
    · exact Or.inr (hs _ (by decide +kernel))
    · exact Or.inr (hs _ (by decide +kernel))
    · exact Or.inl (hs _ (by decide +kernel))
    · exact Or.inl (hs _ (by decide +kernel))
    · exact absurd rfl hne
    · exact Or.inl (hs _ (by decide +kernel))
    · exact Or.inl (hs _ (by decide +kernel))
    · exact Or.inl (hs _ (by decide +kernel))
  · rcases (show j = 0 ∨ j = 1 ∨ j = 2 ∨ j = 3 ∨ j = 4 ∨ j = 5 ∨ j = 6 ∨ j = 7 ∨ j = 8 ∨ j = 9 by omega) with rfl | rfl | rfl | rfl | rfl | rfl | rfl | rfl | rfl | rfl
    · exact Or.inr (hs _ (by decide +kernel))
    · exact Or.inr (hs _ (by decide +kernel))
    · exact Or.inr (hs _ (by decide +kernel))
    · exact Or.inr (hs _ (by decide +kernel))
    · exact Or.inl (hs _ (by decide +kernel))
    · exact Or.inl (hs _ (by decide +kernel))
    · exact Or.inr (hs _ (by decide +kernel))
    · exact absurd rfl hne
    · exact Or.inl (hs _ (by decide +kernel))
    · exact Or.inl (hs _ (by decide +kernel))
  · rcases (show j = 0 ∨ j = 1 ∨ j = 2 ∨ j = 3 ∨ j = 4 ∨ j = 5 ∨ j = 6 ∨ j = 7 ∨ j = 8 ∨ j = 9 by omega) with rfl | rfl | rfl | rfl | rfl | rfl | rfl | rfl | rfl | rfl
    · exact Or.inr (hs _ (by decide +kernel))
    · exact Or.inr (hs _ (by decide +kernel))
    · exact Or.inr (hs _ (by decide +kernel))
    · exact Or.inr (hs _ (by decide +kernel))
    · exact Or.inl (hs _ (by decide +kernel))
    · exact Or.inl (hs _ (by decide +kernel))
    · exact Or.inr (hs _ (by decide +kernel))
    · exact Or.inr (hs _ (by decide +kernel))
    · exact absurd rfl hne
    · exact Or.inl (hs _ (by decide +kernel))
  · rcases (show j = 0 ∨ j = 1 ∨ j = 2 ∨ j = 3 ∨ j = 4 ∨ j = 5 ∨ j = 6 ∨ j = 7 ∨ j = 8 ∨ j = 9 by omega) with rfl | rfl | rfl | rfl | rfl | rfl | rfl | rfl | rfl | rfl
    · exact Or.inr (hs _ (by decide +kernel))
    · exact Or.inr (hs _ (by decide +kernel))
    · exact Or.inr (hs _ (by decide +kernel))
    · exact Or.inr (hs _ (by decide +kernel))
    · exact Or.inl (hs _ (by decide +kernel))
    · exact Or.inl (hs _ (by decide +kernel))
    · exact Or.inr (hs _ (by decide +kernel))
    · exact Or.inr (hs _ (by decide +kernel))
    · exact Or.inr (hs _ (by decide +kernel))
    · exact absurd rfl hne

set_option maxHeartbeats 8000000 in
set_option maxRecDepth 100000 in
theorem zs_we {s : State} {b : Nat} (hs : ∀ c ∈ flatC (Jvm.Cond.and given_1 narrow_1), c.before #[Value.ref b] s = true) : ∀ j : Nat, j < 9 → (Term.elem (Term.static "SaidShallow$Words" "WEIGHTS" "[I") (.int (Int32.ofNat j))).eval #[Value.ref b] s none [] s = some (zWt j) := by
  intro j hj
  rcases (show j = 0 ∨ j = 1 ∨ j = 2 ∨ j = 3 ∨ j = 4 ∨ j = 5 ∨ j = 6 ∨ j = 7 ∨ j = 8 by omega) with rfl | rfl | rfl | rfl | rfl | rfl | rfl | rfl | rfl
  · obtain ⟨y, h1, h2⟩ := Cond.eq_one (hs (Cond.eq (.elem (Term.static "SaidShallow$Words" "WEIGHTS" "[I") (.int 0)) (.int 43046721)) (by decide +kernel))
    cases h2
    exact h1
  · obtain ⟨y, h1, h2⟩ := Cond.eq_one (hs (Cond.eq (.elem (Term.static "SaidShallow$Words" "WEIGHTS" "[I") (.int 1)) (.int 4782969)) (by decide +kernel))
    cases h2
    exact h1
  · obtain ⟨y, h1, h2⟩ := Cond.eq_one (hs (Cond.eq (.elem (Term.static "SaidShallow$Words" "WEIGHTS" "[I") (.int 2)) (.int 531441)) (by decide +kernel))
    cases h2
    exact h1
  · obtain ⟨y, h1, h2⟩ := Cond.eq_one (hs (Cond.eq (.elem (Term.static "SaidShallow$Words" "WEIGHTS" "[I") (.int 3)) (.int 59049)) (by decide +kernel))
    cases h2
    exact h1
  · obtain ⟨y, h1, h2⟩ := Cond.eq_one (hs (Cond.eq (.elem (Term.static "SaidShallow$Words" "WEIGHTS" "[I") (.int 4)) (.int 6561)) (by decide +kernel))
    cases h2
    exact h1
  · obtain ⟨y, h1, h2⟩ := Cond.eq_one (hs (Cond.eq (.elem (Term.static "SaidShallow$Words" "WEIGHTS" "[I") (.int 5)) (.int 729)) (by decide +kernel))
    cases h2
    exact h1
  · obtain ⟨y, h1, h2⟩ := Cond.eq_one (hs (Cond.eq (.elem (Term.static "SaidShallow$Words" "WEIGHTS" "[I") (.int 6)) (.int 81)) (by decide +kernel))
    cases h2
    exact h1
  · obtain ⟨y, h1, h2⟩ := Cond.eq_one (hs (Cond.eq (.elem (Term.static "SaidShallow$Words" "WEIGHTS" "[I") (.int 7)) (.int 9)) (by decide +kernel))
    cases h2
    exact h1
  · obtain ⟨y, h1, h2⟩ := Cond.eq_one (hs (Cond.eq (.elem (Term.static "SaidShallow$Words" "WEIGHTS" "[I") (.int 8)) (.int 1)) (by decide +kernel))
    cases h2
    exact h1

set_option maxHeartbeats 8000000 in
set_option maxRecDepth 100000 in
theorem z_start {s : State} {b : Nat} {L : List Nat} (hts : ∀ w ∈ lw_tbl, w.before #[Value.ref b] s = true) (hgv : (Jvm.Cond.and given_1 narrow_1).before #[Value.ref b] s = true) (hLs : ∀ q ∈ L, s.heap.size ≤ q) : ∃ Z : zT, zW Z L s := by
  have hs : ∀ c ∈ flatC (Jvm.Cond.and given_1 narrow_1), c.before #[Value.ref b] s = true := flat_of_before _ hgv
  have hA : ∀ a : Nat, a < s.heap.size → ¬ (fun q => q ∈ L) a := fun a h h2 => absurd (hLs a h2) (Nat.not_le.mpr h)
  obtain ⟨adK, adV, hS1, hS2⟩ := vk_Sof (args := #[Value.ref b]) (s := s) (N := 10) (tm := ztm) (len := zL) (byt := zB) (A := fun q => q ∈ L) (fun i hi => by have h9 := zl_pos hi; omega) (zs_ex hs) (zs_co hs) (zs_ar hs) (zs_le hs) (zs_el hs) (zs_ne hs) hA
  have hc : (Term.static "java/lang/String" "COMPACT_STRINGS" "Z").eval #[Value.ref b] s none [] s = some (.int 1) := by
    obtain ⟨y, h1, h2⟩ := Cond.eq_one (hs (Cond.eq (.static "java/lang/String" "COMPACT_STRINGS" "Z") (.int 1)) (by decide +kernel))
    cases h2
    exact h1
  have hZ1 := va_Zof (A := fun q => q ∈ L) (hts (Cond.laysStatic "java/lang/String" "COMPACT_STRINGS" "Z") (List.mem_of_getElem? (i := 736) rfl)) (hts (Cond.initialized "java/lang/String") (List.mem_of_getElem? (i := 139) rfl)) hc hA
  obtain ⟨wA, hw1, hT⟩ := va_Tof (args := #[Value.ref b]) (s := s) (tm := (Term.static "SaidShallow$Words" "WEIGHTS" "[I")) (ty := .int) (N := 9) (f := zWt) (A := fun q => q ∈ L) (by decide) (hs _ (by decide +kernel)) (by obtain ⟨y, h1, h2⟩ := Cond.eq_one (hs (Cond.eq (.length (Term.static "SaidShallow$Words" "WEIGHTS" "[I")) (.int 9)) (by decide +kernel)); cases h2; exact h1) (zs_we hs) hA
  have hZ2 := va_Zof (A := fun q => q ∈ L) (hts (Cond.laysStatic "SaidShallow$Words" "WEIGHTS" "[I") (List.mem_of_getElem? (i := 1110) rfl)) (hts (Cond.initialized "SaidShallow$Words") (List.mem_of_getElem? (i := 129) rfl)) hw1 hA
  obtain ⟨fv, hf1, hf2⟩ := Cond.isRef_spec (hs (Cond.isRef (.static "jdk/internal/util/Preconditions" "SIOOBE_FORMATTER" "Ljava/util/function/BiFunction;")) (by decide +kernel))
  obtain ⟨fo, hfo⟩ : ∃ fo : Option Nat, fv = va_rf fo := by
    cases fv with
    | ref a => exact ⟨some a, rfl⟩
    | null => exact ⟨none, rfl⟩
    | _ => cases hf2
  rw [hfo] at hf1
  have hZ3 := va_Zof (A := fun q => q ∈ L) (hts (Cond.laysStatic "jdk/internal/util/Preconditions" "SIOOBE_FORMATTER" "Ljava/util/function/BiFunction;") (List.mem_of_getElem? (i := 752) rfl)) (hts (Cond.initialized "jdk/internal/util/Preconditions") (List.mem_of_getElem? (i := 141) rfl)) hf1 hA
  have hm0 : (Term.string "SaidShallowModel" 208).eval #[Value.ref b] s none [] s = some (.ref (adK 0)) := by
    obtain ⟨y, h1, h2⟩ := Cond.eq_one (hs (Cond.eq (.string "SaidShallow$Reader" 75) (.string "SaidShallowModel" 208)) (by decide +kernel))
    have h3 := hS2 0 (by decide)
    rw [show ztm 0 = .string "SaidShallow$Reader" 75 from rfl, h1] at h3
    cases h3
    exact h2
  have hm1 : (Term.string "SaidShallowModel" 216).eval #[Value.ref b] s none [] s = some (.ref (adK 1)) := by
    obtain ⟨y, h1, h2⟩ := Cond.eq_one (hs (Cond.eq (.string "SaidShallow$Reader" 84) (.string "SaidShallowModel" 216)) (by decide +kernel))
    have h3 := hS2 1 (by decide)
    rw [show ztm 1 = .string "SaidShallow$Reader" 84 from rfl, h1] at h3
    cases h3
    exact h2
  have hm2 : (Term.string "SaidShallowModel" 221).eval #[Value.ref b] s none [] s = some (.ref (adK 2)) := by
    obtain ⟨y, h1, h2⟩ := Cond.eq_one (hs (Cond.eq (.string "SaidShallow$Reader" 89) (.string "SaidShallowModel" 221)) (by decide +kernel))
    have h3 := hS2 2 (by decide)
    rw [show ztm 2 = .string "SaidShallow$Reader" 89 from rfl, h1] at h3
    cases h3
    exact h2
  have hm3 : (Term.string "SaidShallowModel" 223).eval #[Value.ref b] s none [] s = some (.ref (adK 3)) := by
    obtain ⟨y, h1, h2⟩ := Cond.eq_one (hs (Cond.eq (.string "SaidShallow$Reader" 94) (.string "SaidShallowModel" 223)) (by decide +kernel))
    have h3 := hS2 3 (by decide)
    rw [show ztm 3 = .string "SaidShallow$Reader" 94 from rfl, h1] at h3
    cases h3
    exact h2
  have hm4 : (Term.string "SaidShallowModel" 228).eval #[Value.ref b] s none [] s = some (.ref (adK 4)) := by
    obtain ⟨y, h1, h2⟩ := Cond.eq_one (hs (Cond.eq (.string "SaidShallow$Reader" 99) (.string "SaidShallowModel" 228)) (by decide +kernel))
    have h3 := hS2 4 (by decide)
    rw [show ztm 4 = .string "SaidShallow$Reader" 99 from rfl, h1] at h3
    cases h3
    exact h2
  have hm5 : (Term.string "SaidShallowModel" 234).eval #[Value.ref b] s none [] s = some (.ref (adK 5)) := by
    obtain ⟨y, h1, h2⟩ := Cond.eq_one (hs (Cond.eq (.string "SaidShallow$Reader" 109) (.string "SaidShallowModel" 234)) (by decide +kernel))
    have h3 := hS2 5 (by decide)
    rw [show ztm 5 = .string "SaidShallow$Reader" 109 from rfl, h1] at h3
    cases h3
    exact h2
  exact ⟨(adK, adV, wA, fo), hS1, hZ1, hZ2, hT, hZ3, vk_R.of (hts (Cond.stringRef "SaidShallow$Reader" 75 "letters") (List.mem_of_getElem? (i := 722) rfl)) (hS2 0 (by decide)), vk_R.of (hts (Cond.stringRef "SaidShallow$Reader" 84 "class") (List.mem_of_getElem? (i := 795) rfl)) (hS2 1 (by decide)), vk_R.of (hts (Cond.stringRef "SaidShallow$Reader" 89 "pair") (List.mem_of_getElem? (i := 803) rfl)) (hS2 2 (by decide)), vk_R.of (hts (Cond.stringRef "SaidShallow$Reader" 94 "rule") (List.mem_of_getElem? (i := 828) rfl)) (hS2 3 (by decide)), vk_R.of (hts (Cond.stringRef "SaidShallow$Reader" 99 "stem") (List.mem_of_getElem? (i := 890) rfl)) (hS2 4 (by decide)), vk_R.of (hts (Cond.stringRef "SaidShallow$Reader" 109 "end") (List.mem_of_getElem? (i := 903) rfl)) (hS2 5 (by decide)), vk_R.of (hts (Cond.stringRef "SaidShallow$Reader" 179 "=>") (List.mem_of_getElem? (i := 846) rfl)) (hS2 6 (by decide)), vk_R.of (hts (Cond.stringRef "SaidShallow$Reader" 188 "<=>") (List.mem_of_getElem? (i := 851) rfl)) (hS2 7 (by decide)), vk_R.of (hts (Cond.stringRef "SaidShallow$Reader" 190 "<=") (List.mem_of_getElem? (i := 852) rfl)) (hS2 8 (by decide)), vk_R.of (hts (Cond.stringRef "SaidShallow$Reader" 192 "/<=") (List.mem_of_getElem? (i := 853) rfl)) (hS2 9 (by decide)), vk_R.of (hts (Cond.stringRef "SaidShallowModel" 208 "letters") (List.mem_of_getElem? (i := 1652) rfl)) hm0, vk_R.of (hts (Cond.stringRef "SaidShallowModel" 216 "class") (List.mem_of_getElem? (i := 1670) rfl)) hm1, vk_R.of (hts (Cond.stringRef "SaidShallowModel" 221 "pair") (List.mem_of_getElem? (i := 1675) rfl)) hm2, vk_R.of (hts (Cond.stringRef "SaidShallowModel" 223 "rule") (List.mem_of_getElem? (i := 1691) rfl)) hm3, vk_R.of (hts (Cond.stringRef "SaidShallowModel" 228 "stem") (List.mem_of_getElem? (i := 1719) rfl)) hm4, vk_R.of (hts (Cond.stringRef "SaidShallowModel" 234 "end") (List.mem_of_getElem? (i := 1724) rfl)) hm5⟩
