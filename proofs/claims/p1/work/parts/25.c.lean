set_option maxHeartbeats 8000000 in
set_option maxRecDepth 100000 in
theorem op_X12_walk (l : Launch) (D : va_G) (cI cL cZ : ClassId) (sz : Nat) (a0 : Nat) (a1 : Nat) (a2 : Nat) (a3 : Nat) (a4 : Nat) (a5 : Nat) (a6 : Nat) (a7 : Nat) (a8 : Nat) (a9 : Nat) (a10 : Nat) (a11 : Nat) (a12 : Nat) (a13 : Nat) (a14 : Nat) (a15 : Nat) (a16 : Nat) (a17 : Nat) (a18 : Nat) (a19 : Nat) (a20 : Nat) (a21 : Nat) (a22 : Nat) (a23 : Nat) (a24 : Nat) (a25 : Nat) (a26 : Nat) (a27 : Nat) (a28 : Nat) (a29 : Nat) (a30 : Nat) (a31 : Nat) : mI l D cI cL cZ yX12_walk cX12_walk 4 (some .int) 2 46 0 0 [.ref a0] sz [(a0, .inr (12, [.ref a1, .ref a2, .ref a3, .int 0, .ref a4, .int 0, .int 0, .int 0, .int 0, .int 0, .int (-1), .int 0, .int 0, .int 0, .int 0, .ref a5, .ref a6, .ref a7, .ref a8, .ref a9, .ref a10, .ref a11, .ref a12, .int 0, .int 0, .int 0, .int 0, .int 0, .ref a13, .int 0, .ref a14, .ref a15, .int 0, .int 0, .ref a16, .int 0, .ref a17, .ref a18, .int 0, .int (-1), .ref a19, .ref a20, .ref a21, .int 0, .ref a22, .ref a23, .ref a24, .ref a25, .ref a26, .ref a27, .ref a28, .ref a29, .ref a30, .int 0, .int 0, .ref a31]))] (fun (r : Int32) (w1 : va_W) => r = (-2) ∧ w1 = ([] : va_W)) := by
  obtain ⟨dC, dI⟩ := D
  refine Met.ofW (cc := cX12_walk) (maxL := 4) (ret := (some .int)) (by decide) rfl ?_
  intro p e s m args below meth c s₁ B hml hv
  obtain ⟨rfl, hsz, hP, hK, hD0, hN⟩ := hv
  have hx := B.exec
  have hb := B.bytes
  have hr := B.returns
  have hU : ∀ w ∈ wsU, w.before _ s = true := fun w h => atoms_spec (ws := wU yX12_walk cX12_walk 4 (some .int)) B.pre w (List.mem_cons_of_mem _ h)
  have hown : s.vm.findClass RX12 = some m.cls := findClass_of_methodNamed B.named
  have hlocks := B.notSynchronized
  subst hsz
  have hD := hD0.self (sz := s.heap.size)
  generalize hAe : va_A [(a0, .inr (12, [.ref a1, .ref a2, .ref a3, .int 0, .ref a4, .int 0, .int 0, .int 0, .int 0, .int 0, .int (-1), .int 0, .int 0, .int 0, .int 0, .ref a5, .ref a6, .ref a7, .ref a8, .ref a9, .ref a10, .ref a11, .ref a12, .int 0, .int 0, .int 0, .int 0, .int 0, .ref a13, .int 0, .ref a14, .ref a15, .int 0, .int 0, .ref a16, .int 0, .ref a17, .ref a18, .int 0, .int (-1), .ref a19, .ref a20, .ref a21, .int 0, .ref a22, .ref a23, .ref a24, .ref a25, .ref a26, .ref a27, .ref a28, .ref a29, .ref a30, .int 0, .int 0, .ref a31]))] s.heap.size = A at hD ⊢
  have hA : ∀ q : Nat, s.heap.size ≤ q → A q := fun q h => by rw [← hAe]; exact Or.inr h
  have hS : va_S A s.heap s.heap [] := va_S.rf
  have hP : va_P (dC, dI) vwCl [(a0, .inr (12, [.ref a1, .ref a2, .ref a3, .int 0, .ref a4, .int 0, .int 0, .int 0, .int 0, .int 0, .int (-1), .int 0, .int 0, .int 0, .int 0, .ref a5, .ref a6, .ref a7, .ref a8, .ref a9, .ref a10, .ref a11, .ref a12, .int 0, .int 0, .int 0, .int 0, .int 0, .ref a13, .int 0, .ref a14, .ref a15, .int 0, .int 0, .ref a16, .int 0, .ref a17, .ref a18, .int 0, .int (-1), .ref a19, .ref a20, .ref a21, .int 0, .ref a22, .ref a23, .ref a24, .ref a25, .ref a26, .ref a27, .ref a28, .ref a29, .ref a30, .int 0, .int 0, .ref a31]))] s.heap := hP
  have hl := lv_entry ([.ref a0]) (n := 4) (Nat.le_of_ble_eq_true rfl)
  rw [lg_entry_eq]
  generalize (lg_sl ([.ref a0]) ++ List.replicate (4 - (lg_sl ([.ref a0])).length) Slot.unset).toArray = ls at hl ⊢
  have hl : lv_has ls 4 [(0, .ref a0)] := hl
  refine lv_aload_n hx hb dX12_walk_0 rfl (lv_at hl 0 rfl) ?_
  refine lv_iconst (v := (-1)) hx hb dX12_walk_1 (by decide) ?_
  refine va_put (D := (dC, dI)) (ci := 12) (v := .int (-1)) (ty := .int) (C := RX12) (T := TX12) (N := 56) hx hb hU inlX12 tyX12 tyX12_ok nmX12 hown hK hP hD hS 0 rfl rfl 39 (by decide) (hU _ wd_189) (fun _ h9 => h9) rfl (by decide +kernel) rfl rfl (Nat.le_of_ble_eq_true rfl) dX12_walk_2 (fun H locs hP hD hS => ?_)
  have hP : va_P (dC, dI) vwCl [(a0, .inr (12, [.ref a1, .ref a2, .ref a3, .int 0, .ref a4, .int 0, .int 0, .int 0, .int 0, .int 0, .int (-1), .int 0, .int 0, .int 0, .int 0, .ref a5, .ref a6, .ref a7, .ref a8, .ref a9, .ref a10, .ref a11, .ref a12, .int 0, .int 0, .int 0, .int 0, .int 0, .ref a13, .int 0, .ref a14, .ref a15, .int 0, .int 0, .ref a16, .int 0, .ref a17, .ref a18, .int 0, .int (-1), .ref a19, .ref a20, .ref a21, .int 0, .ref a22, .ref a23, .ref a24, .ref a25, .ref a26, .ref a27, .ref a28, .ref a29, .ref a30, .int 0, .int 0, .ref a31]))] H := hP
  have hD : va_D A [(a0, .inr (12, [.ref a1, .ref a2, .ref a3, .int 0, .ref a4, .int 0, .int 0, .int 0, .int 0, .int 0, .int (-1), .int 0, .int 0, .int 0, .int 0, .ref a5, .ref a6, .ref a7, .ref a8, .ref a9, .ref a10, .ref a11, .ref a12, .int 0, .int 0, .int 0, .int 0, .int 0, .ref a13, .int 0, .ref a14, .ref a15, .int 0, .int 0, .ref a16, .int 0, .ref a17, .ref a18, .int 0, .int (-1), .ref a19, .ref a20, .ref a21, .int 0, .ref a22, .ref a23, .ref a24, .ref a25, .ref a26, .ref a27, .ref a28, .ref a29, .ref a30, .int 0, .int 0, .ref a31]))] := hD
  refine lv_aload_n hx hb dX12_walk_5 rfl (lv_at hl 0 rfl) ?_
  refine tk_ri (wr := []) (tk_V (As := []) (rest := []) (n := 0) hx hb hml hown hU hN (cc_X12_takesRow_0 l (dC, dI) cI cL cZ H.size a0 a1 a2 a3 a4 a5 a6 a7 a8 a9 a10 a11 a12 a13 a14 a15 a16 a17 a18 a19 a20 a21 a22 a23 a24 a25 a26 a27 a28 a29 a30 a31) wd_1085 wd_1086 wd_1087 wd_5 wd_1088 (by decide +kernel) ⟨Nat.le_of_ble_eq_true rfl, Nat.le_of_ble_eq_true rfl⟩ hK hP hD [0] (by decide) rfl 0 12 rfl rfl rfl rfl hl.1 rfl (Nat.le_of_ble_eq_true rfl) dX12_walk_6 ⟨Nat.le_of_ble_eq_true rfl, Nat.le_of_ble_eq_true rfl⟩) hP hD hS hA [0] [] rfl rfl (by decide) (by decide) (fun r_1 w_2 H locs hw hP hD hS => ?_)
  obtain ⟨rfl, rfl⟩ := hw
  have hP : va_P (dC, dI) vwCl [(a0, .inr (12, [.ref a1, .ref a2, .ref a3, .int 0, .ref a4, .int 0, .int 0, .int 0, .int 0, .int 0, .int (-1), .int 0, .int 0, .int 0, .int 0, .ref a5, .ref a6, .ref a7, .ref a8, .ref a9, .ref a10, .ref a11, .ref a12, .int 0, .int 0, .int 0, .int 0, .int 0, .ref a13, .int 0, .ref a14, .ref a15, .int 0, .int 0, .ref a16, .int 0, .ref a17, .ref a18, .int 0, .int (-1), .ref a19, .ref a20, .ref a21, .int 0, .ref a22, .ref a23, .ref a24, .ref a25, .ref a26, .ref a27, .ref a28, .ref a29, .ref a30, .int 0, .int 0, .ref a31]))] H := hP
  have hD : va_D A [(a0, .inr (12, [.ref a1, .ref a2, .ref a3, .int 0, .ref a4, .int 0, .int 0, .int 0, .int 0, .int 0, .int (-1), .int 0, .int 0, .int 0, .int 0, .ref a5, .ref a6, .ref a7, .ref a8, .ref a9, .ref a10, .ref a11, .ref a12, .int 0, .int 0, .int 0, .int 0, .int 0, .ref a13, .int 0, .ref a14, .ref a15, .int 0, .int 0, .ref a16, .int 0, .ref a17, .ref a18, .int 0, .int (-1), .ref a19, .ref a20, .ref a21, .int 0, .ref a22, .ref a23, .ref a24, .ref a25, .ref a26, .ref a27, .ref a28, .ref a29, .ref a30, .int 0, .int 0, .ref a31]))] := hD
  refine lv_istore_n (lv' := [(1, .int (-1)), (0, .ref a0)]) hx hb dX12_walk_9 rfl hl (by decide) rfl (fun ls hl => ?_)
  refine lv_iload_n hx hb dX12_walk_10 rfl (lv_at hl 0 rfl) ?_
  refine lv_iconst (v := (-1)) hx hb dX12_walk_11 (by decide) ?_
  refine lv_icmp_ne (tgt := 18) hx hb dX12_walk_12 (by decide) (fun c9 => absurd (by decide) c9) (fun _ => ?_)
  refine lv_bipush (v := (-2)) hx hb dX12_walk_15 (by decide) ?_
  have hP9 := hP.sub (ws' := []) [] rfl
  have hD9 := hD.sub (ws' := []) [] (by decide) rfl
  refine W.widen (k := 0) (n := 0) (Nat.le_of_ble_eq_true rfl) (Nat.le_of_ble_eq_true rfl) ?_
  exact W.iret (v := (-2)) hx hb hr (fun t ht hW => ⟨⟨(-2), [], rfl, ⟨rfl, rfl⟩, by rw [ht]; exact hP9, va_K.moved hW.alike hK, hD9⟩, hS.F ht⟩) hS.2.2 dX12_walk_17
set_option maxHeartbeats 8000000 in
set_option maxRecDepth 100000 in
theorem op_X12_where (l : Launch) (D : va_G) (cI cL cZ : ClassId) (sz : Nat) (a0 : Nat) (a1 : Nat) (a2 : Nat) (a3 : Nat) (a4 : Nat) (a5 : Nat) (a6 : Nat) (a7 : Nat) (a8 : Nat) (a9 : Nat) (a10 : Nat) (a11 : Nat) (a12 : Nat) (a13 : Nat) (a14 : Nat) (a15 : Nat) (a16 : Nat) (a17 : Nat) (a18 : Nat) (a19 : Nat) (a20 : Nat) (a21 : Nat) (a22 : Nat) (a23 : Nat) (a24 : Nat) (a25 : Nat) (a26 : Nat) (a27 : Nat) (a28 : Nat) (a29 : Nat) (a30 : Nat) (a31 : Nat) : mI l D cI cL cZ yX12_where cX12_where 1 (some .int) 0 0 0 0 [.ref a0] sz [(a0, .inr (12, [.ref a1, .ref a2, .ref a3, .int 0, .ref a4, .int 0, .int 0, .int 0, .int 0, .int 0, .int (-1), .int 0, .int 0, .int 0, .int 0, .ref a5, .ref a6, .ref a7, .ref a8, .ref a9, .ref a10, .ref a11, .ref a12, .int 0, .int 0, .int 0, .int 0, .int 0, .ref a13, .int 0, .ref a14, .ref a15, .int 0, .int 0, .ref a16, .int 0, .ref a17, .ref a18, .int 0, .int (-1), .ref a19, .ref a20, .ref a21, .int 0, .ref a22, .ref a23, .ref a24, .ref a25, .ref a26, .ref a27, .ref a28, .ref a29, .ref a30, .int 0, .int 0, .ref a31]))] (fun (r : Int32) (w1 : va_W) => r = (-1) ∧ w1 = ([] : va_W)) := by
  obtain ⟨dC, dI⟩ := D
  refine Met.ofW (cc := cX12_where) (maxL := 1) (ret := (some .int)) (by decide) rfl ?_
  intro p e s m args below meth c s₁ B hml hv
  obtain ⟨rfl, hsz, hP, hK, hD0, hN⟩ := hv
  have hx := B.exec
  have hb := B.bytes
  have hr := B.returns
  have hU : ∀ w ∈ wsU, w.before _ s = true := fun w h => atoms_spec (ws := wU yX12_where cX12_where 1 (some .int)) B.pre w (List.mem_cons_of_mem _ h)
  have hown : s.vm.findClass RX12 = some m.cls := findClass_of_methodNamed B.named
  have hlocks := B.notSynchronized
  subst hsz
  have hD := hD0.self (sz := s.heap.size)
  generalize hAe : va_A [(a0, .inr (12, [.ref a1, .ref a2, .ref a3, .int 0, .ref a4, .int 0, .int 0, .int 0, .int 0, .int 0, .int (-1), .int 0, .int 0, .int 0, .int 0, .ref a5, .ref a6, .ref a7, .ref a8, .ref a9, .ref a10, .ref a11, .ref a12, .int 0, .int 0, .int 0, .int 0, .int 0, .ref a13, .int 0, .ref a14, .ref a15, .int 0, .int 0, .ref a16, .int 0, .ref a17, .ref a18, .int 0, .int (-1), .ref a19, .ref a20, .ref a21, .int 0, .ref a22, .ref a23, .ref a24, .ref a25, .ref a26, .ref a27, .ref a28, .ref a29, .ref a30, .int 0, .int 0, .ref a31]))] s.heap.size = A at hD ⊢
  have hA : ∀ q : Nat, s.heap.size ≤ q → A q := fun q h => by rw [← hAe]; exact Or.inr h
  have hS : va_S A s.heap s.heap [] := va_S.rf
  have hP : va_P (dC, dI) vwCl [(a0, .inr (12, [.ref a1, .ref a2, .ref a3, .int 0, .ref a4, .int 0, .int 0, .int 0, .int 0, .int 0, .int (-1), .int 0, .int 0, .int 0, .int 0, .ref a5, .ref a6, .ref a7, .ref a8, .ref a9, .ref a10, .ref a11, .ref a12, .int 0, .int 0, .int 0, .int 0, .int 0, .ref a13, .int 0, .ref a14, .ref a15, .int 0, .int 0, .ref a16, .int 0, .ref a17, .ref a18, .int 0, .int (-1), .ref a19, .ref a20, .ref a21, .int 0, .ref a22, .ref a23, .ref a24, .ref a25, .ref a26, .ref a27, .ref a28, .ref a29, .ref a30, .int 0, .int 0, .ref a31]))] s.heap := hP
  have hl := lv_entry ([.ref a0]) (n := 1) (Nat.le_of_ble_eq_true rfl)
  rw [lg_entry_eq]
  generalize (lg_sl ([.ref a0]) ++ List.replicate (1 - (lg_sl ([.ref a0])).length) Slot.unset).toArray = ls at hl ⊢
  have hl : lv_has ls 1 [(0, .ref a0)] := hl
  refine lv_aload_n hx hb dX12_where_0 rfl (lv_at hl 0 rfl) ?_
  refine va_get (D := (dC, dI)) (ci := 12) (v := .int (-1)) (C := RX12) (T := TX12) (N := 56) hx hb hU inlX12 hown hK hP 0 rfl rfl 39 (by decide) (hU _ wd_189) (fun _ h9 => h9) rfl dX12_where_1 ?_
  have hP9 := hP.sub (ws' := []) [] rfl
  have hD9 := hD.sub (ws' := []) [] (by decide) rfl
  refine W.widen (k := 0) (n := 0) (Nat.le_of_ble_eq_true rfl) (Nat.le_of_ble_eq_true rfl) ?_
  exact W.iret (v := (-1)) hx hb hr (fun t ht hW => ⟨⟨(-1), [], rfl, ⟨rfl, rfl⟩, by rw [ht]; exact hP9, va_K.moved hW.alike hK, hD9⟩, hS.F ht⟩) hS.2.2 dX12_where_4
set_option maxHeartbeats 8000000 in
set_option maxRecDepth 100000 in
theorem op_X12_ages (l : Launch) (D : va_G) (cI cL cZ : ClassId) (sz : Nat) (a0 : Nat) (a1 : Nat) (a2 : Nat) (a3 : Nat) (a4 : Nat) (a5 : Nat) (a6 : Nat) (a7 : Nat) (a8 : Nat) (a9 : Nat) (a10 : Nat) (a11 : Nat) (a12 : Nat) (a13 : Nat) (a14 : Nat) (a15 : Nat) (a16 : Nat) (a17 : Nat) (a18 : Nat) (a19 : Nat) (a20 : Nat) (a21 : Nat) (a22 : Nat) (a23 : Nat) (a24 : Nat) (a25 : Nat) (a26 : Nat) (a27 : Nat) (a28 : Nat) (a29 : Nat) (a30 : Nat) (a31 : Nat) : mI l D cI cL cZ yX12_ages cX12_ages 2 (some .int) 2 47 0 0 [.ref a0] sz [(a0, .inr (12, [.ref a1, .ref a2, .ref a3, .int 0, .ref a4, .int 0, .int 0, .int 0, .int 0, .int 0, .int (-1), .int 0, .int 0, .int 0, .int 0, .ref a5, .ref a6, .ref a7, .ref a8, .ref a9, .ref a10, .ref a11, .ref a12, .int 0, .int 0, .int 0, .int 0, .int 0, .ref a13, .int 0, .ref a14, .ref a15, .int 0, .int 0, .ref a16, .int 0, .ref a17, .ref a18, .int 0, .int (-1), .ref a19, .ref a20, .ref a21, .int 0, .ref a22, .ref a23, .ref a24, .ref a25, .ref a26, .ref a27, .ref a28, .ref a29, .ref a30, .int 0, .int 0, .ref a31]))] (fun (r : Int32) (w1 : va_W) => r = (-1) ∧ w1 = ([] : va_W)) := by
  obtain ⟨dC, dI⟩ := D
  refine Met.ofW (cc := cX12_ages) (maxL := 2) (ret := (some .int)) (by decide) rfl ?_
  intro p e s m args below meth c s₁ B hml hv
  obtain ⟨rfl, hsz, hP, hK, hD0, hN⟩ := hv
  have hx := B.exec
  have hb := B.bytes
  have hr := B.returns
  have hU : ∀ w ∈ wsU, w.before _ s = true := fun w h => atoms_spec (ws := wU yX12_ages cX12_ages 2 (some .int)) B.pre w (List.mem_cons_of_mem _ h)
  have hown : s.vm.findClass RX12 = some m.cls := findClass_of_methodNamed B.named
  have hlocks := B.notSynchronized
  subst hsz
  have hD := hD0.self (sz := s.heap.size)
  generalize hAe : va_A [(a0, .inr (12, [.ref a1, .ref a2, .ref a3, .int 0, .ref a4, .int 0, .int 0, .int 0, .int 0, .int 0, .int (-1), .int 0, .int 0, .int 0, .int 0, .ref a5, .ref a6, .ref a7, .ref a8, .ref a9, .ref a10, .ref a11, .ref a12, .int 0, .int 0, .int 0, .int 0, .int 0, .ref a13, .int 0, .ref a14, .ref a15, .int 0, .int 0, .ref a16, .int 0, .ref a17, .ref a18, .int 0, .int (-1), .ref a19, .ref a20, .ref a21, .int 0, .ref a22, .ref a23, .ref a24, .ref a25, .ref a26, .ref a27, .ref a28, .ref a29, .ref a30, .int 0, .int 0, .ref a31]))] s.heap.size = A at hD ⊢
  have hA : ∀ q : Nat, s.heap.size ≤ q → A q := fun q h => by rw [← hAe]; exact Or.inr h
  have hS : va_S A s.heap s.heap [] := va_S.rf
  have hP : va_P (dC, dI) vwCl [(a0, .inr (12, [.ref a1, .ref a2, .ref a3, .int 0, .ref a4, .int 0, .int 0, .int 0, .int 0, .int 0, .int (-1), .int 0, .int 0, .int 0, .int 0, .ref a5, .ref a6, .ref a7, .ref a8, .ref a9, .ref a10, .ref a11, .ref a12, .int 0, .int 0, .int 0, .int 0, .int 0, .ref a13, .int 0, .ref a14, .ref a15, .int 0, .int 0, .ref a16, .int 0, .ref a17, .ref a18, .int 0, .int (-1), .ref a19, .ref a20, .ref a21, .int 0, .ref a22, .ref a23, .ref a24, .ref a25, .ref a26, .ref a27, .ref a28, .ref a29, .ref a30, .int 0, .int 0, .ref a31]))] s.heap := hP
  have hl := lv_entry ([.ref a0]) (n := 2) (Nat.le_of_ble_eq_true rfl)
  rw [lg_entry_eq]
  generalize (lg_sl ([.ref a0]) ++ List.replicate (2 - (lg_sl ([.ref a0])).length) Slot.unset).toArray = ls at hl ⊢
  have hl : lv_has ls 2 [(0, .ref a0)] := hl
  refine lv_aload_n hx hb dX12_ages_0 rfl (lv_at hl 0 rfl) ?_
  refine lv_iconst (v := 0) hx hb dX12_ages_1 (by decide) ?_
  refine va_put (D := (dC, dI)) (ci := 12) (v := .int 0) (ty := .int) (C := RX12) (T := TX12) (N := 56) hx hb hU inlX12 tyX12 tyX12_ok nmX12 hown hK hP hD hS 0 rfl rfl 43 (by decide) (hU _ wd_572) (fun _ h9 => h9) rfl (by decide +kernel) rfl rfl (Nat.le_of_ble_eq_true rfl) dX12_ages_2 (fun H locs hP hD hS => ?_)
  have hP : va_P (dC, dI) vwCl [(a0, .inr (12, [.ref a1, .ref a2, .ref a3, .int 0, .ref a4, .int 0, .int 0, .int 0, .int 0, .int 0, .int (-1), .int 0, .int 0, .int 0, .int 0, .ref a5, .ref a6, .ref a7, .ref a8, .ref a9, .ref a10, .ref a11, .ref a12, .int 0, .int 0, .int 0, .int 0, .int 0, .ref a13, .int 0, .ref a14, .ref a15, .int 0, .int 0, .ref a16, .int 0, .ref a17, .ref a18, .int 0, .int (-1), .ref a19, .ref a20, .ref a21, .int 0, .ref a22, .ref a23, .ref a24, .ref a25, .ref a26, .ref a27, .ref a28, .ref a29, .ref a30, .int 0, .int 0, .ref a31]))] H := hP
  have hD : va_D A [(a0, .inr (12, [.ref a1, .ref a2, .ref a3, .int 0, .ref a4, .int 0, .int 0, .int 0, .int 0, .int 0, .int (-1), .int 0, .int 0, .int 0, .int 0, .ref a5, .ref a6, .ref a7, .ref a8, .ref a9, .ref a10, .ref a11, .ref a12, .int 0, .int 0, .int 0, .int 0, .int 0, .ref a13, .int 0, .ref a14, .ref a15, .int 0, .int 0, .ref a16, .int 0, .ref a17, .ref a18, .int 0, .int (-1), .ref a19, .ref a20, .ref a21, .int 0, .ref a22, .ref a23, .ref a24, .ref a25, .ref a26, .ref a27, .ref a28, .ref a29, .ref a30, .int 0, .int 0, .ref a31]))] := hD
  refine lv_aload_n hx hb dX12_ages_5 rfl (lv_at hl 0 rfl) ?_
  refine lv_iconst (v := 1) hx hb dX12_ages_6 (by decide) ?_
  refine lv_bipush (v := 8) hx hb dX12_ages_7 (by decide) ?_
  refine tk_ri (wr := []) (tk_V (As := [.int 1, .int 8]) (rest := []) (n := 2) hx hb hml hown hU hN (cc_X12_takesWord_0 l (dC, dI) cI cL cZ H.size a0 a1 a2 a3 a4 a5 a6 a7 a8 a9 a10 a11 a12 a13 a14 a15 a16 a17 a18 a19 a20 a21 a22 a23 a24 a25 a26 a27 a28 a29 a30 a31) wd_863 wd_864 wd_865 wd_5 wd_866 (by decide +kernel) ⟨Nat.le_of_ble_eq_true rfl, Nat.le_of_ble_eq_true rfl⟩ hK hP hD [0] (by decide) rfl 0 12 rfl rfl rfl rfl hl.1 rfl (Nat.le_of_ble_eq_true rfl) dX12_ages_9 ⟨Nat.le_of_ble_eq_true rfl, Nat.le_of_ble_eq_true rfl⟩) hP hD hS hA [0] [] rfl rfl (by decide) (by decide) (fun r_1 w_2 H locs hw hP hD hS => ?_)
  obtain ⟨rfl, rfl⟩ := hw
  have hP : va_P (dC, dI) vwCl [(a0, .inr (12, [.ref a1, .ref a2, .ref a3, .int 0, .ref a4, .int 0, .int 0, .int 0, .int 0, .int 0, .int (-1), .int 0, .int 0, .int 0, .int 0, .ref a5, .ref a6, .ref a7, .ref a8, .ref a9, .ref a10, .ref a11, .ref a12, .int 0, .int 0, .int 0, .int 0, .int 0, .ref a13, .int 0, .ref a14, .ref a15, .int 0, .int 0, .ref a16, .int 0, .ref a17, .ref a18, .int 0, .int (-1), .ref a19, .ref a20, .ref a21, .int 0, .ref a22, .ref a23, .ref a24, .ref a25, .ref a26, .ref a27, .ref a28, .ref a29, .ref a30, .int 0, .int 0, .ref a31]))] H := hP
  have hD : va_D A [(a0, .inr (12, [.ref a1, .ref a2, .ref a3, .int 0, .ref a4, .int 0, .int 0, .int 0, .int 0, .int 0, .int (-1), .int 0, .int 0, .int 0, .int 0, .ref a5, .ref a6, .ref a7, .ref a8, .ref a9, .ref a10, .ref a11, .ref a12, .int 0, .int 0, .int 0, .int 0, .int 0, .ref a13, .int 0, .ref a14, .ref a15, .int 0, .int 0, .ref a16, .int 0, .ref a17, .ref a18, .int 0, .int (-1), .ref a19, .ref a20, .ref a21, .int 0, .ref a22, .ref a23, .ref a24, .ref a25, .ref a26, .ref a27, .ref a28, .ref a29, .ref a30, .int 0, .int 0, .ref a31]))] := hD
  refine lv_if_ne (tgt := 17) hx hb dX12_ages_12 (by decide) (fun c9 => absurd (by decide) c9) (fun _ => ?_)
  refine lv_iconst (v := (-1)) hx hb dX12_ages_15 (by decide) ?_
  have hP9 := hP.sub (ws' := []) [] rfl
  have hD9 := hD.sub (ws' := []) [] (by decide) rfl
  refine W.widen (k := 0) (n := 0) (Nat.le_of_ble_eq_true rfl) (Nat.le_of_ble_eq_true rfl) ?_
  exact W.iret (v := (-1)) hx hb hr (fun t ht hW => ⟨⟨(-1), [], rfl, ⟨rfl, rfl⟩, by rw [ht]; exact hP9, va_K.moved hW.alike hK, hD9⟩, hS.F ht⟩) hS.2.2 dX12_ages_16
set_option maxHeartbeats 8000000 in
set_option maxRecDepth 100000 in
theorem op_X12_aged (l : Launch) (D : va_G) (cI cL cZ : ClassId) (sz : Nat) (a0 : Nat) (x0 : Int32) (a1 : Nat) (a2 : Nat) (a3 : Nat) (a4 : Nat) (a5 : Nat) (a6 : Nat) (a7 : Nat) (a8 : Nat) (a9 : Nat) (a10 : Nat) (a11 : Nat) (a12 : Nat) (a13 : Nat) (a14 : Nat) (a15 : Nat) (a16 : Nat) (a17 : Nat) (a18 : Nat) (a19 : Nat) (a20 : Nat) (a21 : Nat) (a22 : Nat) (a23 : Nat) (a24 : Nat) (a25 : Nat) (a26 : Nat) (a27 : Nat) (a28 : Nat) (a29 : Nat) (a30 : Nat) (a31 : Nat) : mI l D cI cL cZ yX12_aged cX12_aged 2 (some .int) 1 22 0 0 [.ref a0, .int x0] sz [(a0, .inr (12, [.ref a1, .ref a2, .ref a3, .int 0, .ref a4, .int 0, .int 0, .int 0, .int 0, .int 0, .int (-1), .int 0, .int 0, .int 0, .int 0, .ref a5, .ref a6, .ref a7, .ref a8, .ref a9, .ref a10, .ref a11, .ref a12, .int 0, .int 0, .int 0, .int 0, .int 0, .ref a13, .int 0, .ref a14, .ref a15, .int 0, .int 0, .ref a16, .int 0, .ref a17, .ref a18, .int 0, .int (-1), .ref a19, .ref a20, .ref a21, .int 0, .ref a22, .ref a23, .ref a24, .ref a25, .ref a26, .ref a27, .ref a28, .ref a29, .ref a30, .int 0, .int 0, .ref a31]))] (fun (r : Int32) (w1 : va_W) => r = (-1) ∧ w1 = ([] : va_W)) := by
  obtain ⟨dC, dI⟩ := D
  refine Met.ofW (cc := cX12_aged) (maxL := 2) (ret := (some .int)) (by decide) rfl ?_
  intro p e s m args below meth c s₁ B hml hv
  obtain ⟨rfl, hsz, hP, hK, hD0, hN⟩ := hv
  have hx := B.exec
  have hb := B.bytes
  have hr := B.returns
  have hU : ∀ w ∈ wsU, w.before _ s = true := fun w h => atoms_spec (ws := wU yX12_aged cX12_aged 2 (some .int)) B.pre w (List.mem_cons_of_mem _ h)
  have hown : s.vm.findClass RX12 = some m.cls := findClass_of_methodNamed B.named
  have hlocks := B.notSynchronized
  subst hsz
  have hD := hD0.self (sz := s.heap.size)
  generalize hAe : va_A [(a0, .inr (12, [.ref a1, .ref a2, .ref a3, .int 0, .ref a4, .int 0, .int 0, .int 0, .int 0, .int 0, .int (-1), .int 0, .int 0, .int 0, .int 0, .ref a5, .ref a6, .ref a7, .ref a8, .ref a9, .ref a10, .ref a11, .ref a12, .int 0, .int 0, .int 0, .int 0, .int 0, .ref a13, .int 0, .ref a14, .ref a15, .int 0, .int 0, .ref a16, .int 0, .ref a17, .ref a18, .int 0, .int (-1), .ref a19, .ref a20, .ref a21, .int 0, .ref a22, .ref a23, .ref a24, .ref a25, .ref a26, .ref a27, .ref a28, .ref a29, .ref a30, .int 0, .int 0, .ref a31]))] s.heap.size = A at hD ⊢
  have hA : ∀ q : Nat, s.heap.size ≤ q → A q := fun q h => by rw [← hAe]; exact Or.inr h
  have hS : va_S A s.heap s.heap [] := va_S.rf
  have hP : va_P (dC, dI) vwCl [(a0, .inr (12, [.ref a1, .ref a2, .ref a3, .int 0, .ref a4, .int 0, .int 0, .int 0, .int 0, .int 0, .int (-1), .int 0, .int 0, .int 0, .int 0, .ref a5, .ref a6, .ref a7, .ref a8, .ref a9, .ref a10, .ref a11, .ref a12, .int 0, .int 0, .int 0, .int 0, .int 0, .ref a13, .int 0, .ref a14, .ref a15, .int 0, .int 0, .ref a16, .int 0, .ref a17, .ref a18, .int 0, .int (-1), .ref a19, .ref a20, .ref a21, .int 0, .ref a22, .ref a23, .ref a24, .ref a25, .ref a26, .ref a27, .ref a28, .ref a29, .ref a30, .int 0, .int 0, .ref a31]))] s.heap := hP
  have hl := lv_entry ([.ref a0, .int x0]) (n := 2) (Nat.le_of_ble_eq_true rfl)
  rw [lg_entry_eq]
  generalize (lg_sl ([.ref a0, .int x0]) ++ List.replicate (2 - (lg_sl ([.ref a0, .int x0])).length) Slot.unset).toArray = ls at hl ⊢
  have hl : lv_has ls 2 [(0, .ref a0), (1, .int x0)] := hl
  refine lv_iload_n hx hb dX12_aged_0 rfl (lv_at hl 1 rfl) ?_
  refine lv_iconst (v := 0) hx hb dX12_aged_1 (by decide) ?_
  refine lv_aload_n hx hb dX12_aged_2 rfl (lv_at hl 0 rfl) ?_
  refine va_get (D := (dC, dI)) (ci := 12) (v := .int 0) (C := RX12) (T := TX12) (N := 56) hx hb hU inlX12 hown hK hP 0 rfl rfl 43 (by decide) (hU _ wd_572) (fun _ h9 => h9) rfl dX12_aged_3 ?_
  refine lv_iconst (v := 1) hx hb dX12_aged_6 (by decide) ?_
  refine lv_isub hx hb dX12_aged_7 ?_
  refine tk_topi (y := (-1)) (by decide) ?_
  refine tk_ri (wr := [(a0, .inr (12, [.ref a1, .ref a2, .ref a3, .int 0, .ref a4, .int 0, .int 0, .int 0, .int 0, .int 0, .int (-1), .int 0, .int 0, .int 0, .int 0, .ref a5, .ref a6, .ref a7, .ref a8, .ref a9, .ref a10, .ref a11, .ref a12, .int 0, .int 0, .int 0, .int 0, .int 0, .ref a13, .int 0, .ref a14, .ref a15, .int 0, .int 0, .ref a16, .int 0, .ref a17, .ref a18, .int 0, .int (-1), .ref a19, .ref a20, .ref a21, .int 0, .ref a22, .ref a23, .ref a24, .ref a25, .ref a26, .ref a27, .ref a28, .ref a29, .ref a30, .int 0, .int 0, .ref a31]))]) (tk_S (As := [.int x0, .int 0, .int (-1)]) (rest := []) (n := 3) hx hb hml hown hU hN (cc_X12_isIn_6 l (dC, dI) cI cL cZ s.heap.size x0) wd_227 wd_228 wd_5 wd_229 (by decide +kernel) ⟨Nat.le_of_ble_eq_true rfl, Nat.le_of_ble_eq_true rfl⟩ hK hP hD [] (by decide) rfl rfl hl.1 rfl (Nat.le_of_ble_eq_true rfl) dX12_aged_8 ⟨Nat.le_of_ble_eq_true rfl, Nat.le_of_ble_eq_true rfl⟩) hP hD hS hA [] [0] rfl rfl (by decide) (by decide) (fun r_1 w_2 H locs hw hP hD hS => ?_)
  obtain ⟨rfl, rfl⟩ := hw
  have hP : va_P (dC, dI) vwCl [(a0, .inr (12, [.ref a1, .ref a2, .ref a3, .int 0, .ref a4, .int 0, .int 0, .int 0, .int 0, .int 0, .int (-1), .int 0, .int 0, .int 0, .int 0, .ref a5, .ref a6, .ref a7, .ref a8, .ref a9, .ref a10, .ref a11, .ref a12, .int 0, .int 0, .int 0, .int 0, .int 0, .ref a13, .int 0, .ref a14, .ref a15, .int 0, .int 0, .ref a16, .int 0, .ref a17, .ref a18, .int 0, .int (-1), .ref a19, .ref a20, .ref a21, .int 0, .ref a22, .ref a23, .ref a24, .ref a25, .ref a26, .ref a27, .ref a28, .ref a29, .ref a30, .int 0, .int 0, .ref a31]))] H := hP
  have hD : va_D A [(a0, .inr (12, [.ref a1, .ref a2, .ref a3, .int 0, .ref a4, .int 0, .int 0, .int 0, .int 0, .int 0, .int (-1), .int 0, .int 0, .int 0, .int 0, .ref a5, .ref a6, .ref a7, .ref a8, .ref a9, .ref a10, .ref a11, .ref a12, .int 0, .int 0, .int 0, .int 0, .int 0, .ref a13, .int 0, .ref a14, .ref a15, .int 0, .int 0, .ref a16, .int 0, .ref a17, .ref a18, .int 0, .int (-1), .ref a19, .ref a20, .ref a21, .int 0, .ref a22, .ref a23, .ref a24, .ref a25, .ref a26, .ref a27, .ref a28, .ref a29, .ref a30, .int 0, .int 0, .ref a31]))] := hD
  refine lv_if_eq (tgt := 25) hx hb dX12_aged_11 (by decide) (fun _ => ?_) (fun c9 => absurd (by decide) c9) 
  refine lv_iconst (v := (-1)) hx hb dX12_aged_25 (by decide) ?_
  have hP9 := hP.sub (ws' := []) [] rfl
  have hD9 := hD.sub (ws' := []) [] (by decide) rfl
  refine W.widen (k := 0) (n := 0) (Nat.le_of_ble_eq_true rfl) (Nat.le_of_ble_eq_true rfl) ?_
  exact W.iret (v := (-1)) hx hb hr (fun t ht hW => ⟨⟨(-1), [], rfl, ⟨rfl, rfl⟩, by rw [ht]; exact hP9, va_K.moved hW.alike hK, hD9⟩, hS.F ht⟩) hS.2.2 dX12_aged_26
set_option maxHeartbeats 8000000 in
set_option maxRecDepth 100000 in
theorem op_X12_order (l : Launch) (D : va_G) (cI cL cZ : ClassId) (sz : Nat) (a0 : Nat) (x0 : Int32) (x1 : Int32) (a1 : Nat) (a2 : Nat) (a3 : Nat) (a4 : Nat) (a5 : Nat) (a6 : Nat) (a7 : Nat) (a8 : Nat) (a9 : Nat) (a10 : Nat) (a11 : Nat) (a12 : Nat) (a13 : Nat) (a14 : Nat) (a15 : Nat) (a16 : Nat) (a17 : Nat) (a18 : Nat) (a19 : Nat) (a20 : Nat) (a21 : Nat) (a22 : Nat) (a23 : Nat) (a24 : Nat) (a25 : Nat) (a26 : Nat) (a27 : Nat) (a28 : Nat) (a29 : Nat) (a30 : Nat) (a31 : Nat) : mI l D cI cL cZ yX12_order cX12_order 4 (some .boolean) 1 22 0 0 [.ref a0, .int x0, .int x1] sz [(a0, .inr (12, [.ref a1, .ref a2, .ref a3, .int 0, .ref a4, .int 0, .int 0, .int 0, .int 0, .int 0, .int (-1), .int 0, .int 0, .int 0, .int 0, .ref a5, .ref a6, .ref a7, .ref a8, .ref a9, .ref a10, .ref a11, .ref a12, .int 0, .int 0, .int 0, .int 0, .int 0, .ref a13, .int 0, .ref a14, .ref a15, .int 0, .int 0, .ref a16, .int 0, .ref a17, .ref a18, .int 0, .int (-1), .ref a19, .ref a20, .ref a21, .int 0, .ref a22, .ref a23, .ref a24, .ref a25, .ref a26, .ref a27, .ref a28, .ref a29, .ref a30, .int 0, .int 0, .ref a31])), (a1, .inl (cI, 1560, .inl w0))] (fun (r : Int32) (w1 : va_W) => r = 0 ∧ w1 = ([] : va_W)) := by
  obtain ⟨dC, dI⟩ := D
  refine Met.ofW (cc := cX12_order) (maxL := 4) (ret := (some .boolean)) (by decide) rfl ?_
  intro p e s m args below meth c s₁ B hml hv
  obtain ⟨rfl, hsz, hP, hK, hD0, hN⟩ := hv
  have hx := B.exec
  have hb := B.bytes
  have hr := B.returns
  have hU : ∀ w ∈ wsU, w.before _ s = true := fun w h => atoms_spec (ws := wU yX12_order cX12_order 4 (some .boolean)) B.pre w (List.mem_cons_of_mem _ h)
  have hown : s.vm.findClass RX12 = some m.cls := findClass_of_methodNamed B.named
  have hlocks := B.notSynchronized
  subst hsz
  have hD := hD0.self (sz := s.heap.size)
  generalize hAe : va_A [(a0, .inr (12, [.ref a1, .ref a2, .ref a3, .int 0, .ref a4, .int 0, .int 0, .int 0, .int 0, .int 0, .int (-1), .int 0, .int 0, .int 0, .int 0, .ref a5, .ref a6, .ref a7, .ref a8, .ref a9, .ref a10, .ref a11, .ref a12, .int 0, .int 0, .int 0, .int 0, .int 0, .ref a13, .int 0, .ref a14, .ref a15, .int 0, .int 0, .ref a16, .int 0, .ref a17, .ref a18, .int 0, .int (-1), .ref a19, .ref a20, .ref a21, .int 0, .ref a22, .ref a23, .ref a24, .ref a25, .ref a26, .ref a27, .ref a28, .ref a29, .ref a30, .int 0, .int 0, .ref a31])), (a1, .inl (cI, 1560, .inl w0))] s.heap.size = A at hD ⊢
  have hA : ∀ q : Nat, s.heap.size ≤ q → A q := fun q h => by rw [← hAe]; exact Or.inr h
  have hS : va_S A s.heap s.heap [] := va_S.rf
  have hP : va_P (dC, dI) vwCl [(a0, .inr (12, [.ref a1, .ref a2, .ref a3, .int 0, .ref a4, .int 0, .int 0, .int 0, .int 0, .int 0, .int (-1), .int 0, .int 0, .int 0, .int 0, .ref a5, .ref a6, .ref a7, .ref a8, .ref a9, .ref a10, .ref a11, .ref a12, .int 0, .int 0, .int 0, .int 0, .int 0, .ref a13, .int 0, .ref a14, .ref a15, .int 0, .int 0, .ref a16, .int 0, .ref a17, .ref a18, .int 0, .int (-1), .ref a19, .ref a20, .ref a21, .int 0, .ref a22, .ref a23, .ref a24, .ref a25, .ref a26, .ref a27, .ref a28, .ref a29, .ref a30, .int 0, .int 0, .ref a31])), (a1, .inl (cI, 1560, .inl w0))] s.heap := hP
  have hl := lv_entry ([.ref a0, .int x0, .int x1]) (n := 4) (Nat.le_of_ble_eq_true rfl)
  rw [lg_entry_eq]
  generalize (lg_sl ([.ref a0, .int x0, .int x1]) ++ List.replicate (4 - (lg_sl ([.ref a0, .int x0, .int x1])).length) Slot.unset).toArray = ls at hl ⊢
  have hl : lv_has ls 4 [(0, .ref a0), (1, .int x0), (2, .int x1)] := hl
  refine lv_iload_n hx hb dX12_order_0 rfl (lv_at hl 1 rfl) ?_
  refine lv_iconst (v := 0) hx hb dX12_order_1 (by decide) ?_
  refine lv_aload_n hx hb dX12_order_2 rfl (lv_at hl 0 rfl) ?_
  refine va_get (D := (dC, dI)) (ci := 12) (v := .ref a1) (C := RX12) (T := TX12) (N := 56) hx hb hU inlX12 hown hK hP 0 rfl rfl 0 (by decide) (hU _ wd_169) (fun _ h9 => h9) rfl dX12_order_3 ?_
  refine lv_bipush (v := 17) hx hb dX12_order_6 (by decide) ?_
  refine va_iald hx hb hK hP 1 0 rfl rfl (vp_in_nI (n := 17) (by decide) (by decide)) dX12_order_8 ?_
  refine tk_topi (y := 0) (by decide) ?_
  refine lv_iconst (v := 1) hx hb dX12_order_9 (by decide) ?_
  refine lv_isub hx hb dX12_order_10 ?_
  refine tk_topi (y := (-1)) (by decide) ?_
  refine tk_ri (wr := [(a0, .inr (12, [.ref a1, .ref a2, .ref a3, .int 0, .ref a4, .int 0, .int 0, .int 0, .int 0, .int 0, .int (-1), .int 0, .int 0, .int 0, .int 0, .ref a5, .ref a6, .ref a7, .ref a8, .ref a9, .ref a10, .ref a11, .ref a12, .int 0, .int 0, .int 0, .int 0, .int 0, .ref a13, .int 0, .ref a14, .ref a15, .int 0, .int 0, .ref a16, .int 0, .ref a17, .ref a18, .int 0, .int (-1), .ref a19, .ref a20, .ref a21, .int 0, .ref a22, .ref a23, .ref a24, .ref a25, .ref a26, .ref a27, .ref a28, .ref a29, .ref a30, .int 0, .int 0, .ref a31])), (a1, .inl (cI, 1560, .inl w0))]) (tk_S (As := [.int x0, .int 0, .int (-1)]) (rest := []) (n := 3) hx hb hml hown hU hN (cc_X12_isIn_6 l (dC, dI) cI cL cZ s.heap.size x0) wd_227 wd_228 wd_5 wd_229 (by decide +kernel) ⟨Nat.le_of_ble_eq_true rfl, Nat.le_of_ble_eq_true rfl⟩ hK hP hD [] (by decide) rfl rfl hl.1 rfl (Nat.le_of_ble_eq_true rfl) dX12_order_11 ⟨Nat.le_of_ble_eq_true rfl, Nat.le_of_ble_eq_true rfl⟩) hP hD hS hA [] [0, 1] rfl rfl (by decide) (by decide) (fun r_1 w_2 H locs hw hP hD hS => ?_)
  obtain ⟨rfl, rfl⟩ := hw
  have hP : va_P (dC, dI) vwCl [(a0, .inr (12, [.ref a1, .ref a2, .ref a3, .int 0, .ref a4, .int 0, .int 0, .int 0, .int 0, .int 0, .int (-1), .int 0, .int 0, .int 0, .int 0, .ref a5, .ref a6, .ref a7, .ref a8, .ref a9, .ref a10, .ref a11, .ref a12, .int 0, .int 0, .int 0, .int 0, .int 0, .ref a13, .int 0, .ref a14, .ref a15, .int 0, .int 0, .ref a16, .int 0, .ref a17, .ref a18, .int 0, .int (-1), .ref a19, .ref a20, .ref a21, .int 0, .ref a22, .ref a23, .ref a24, .ref a25, .ref a26, .ref a27, .ref a28, .ref a29, .ref a30, .int 0, .int 0, .ref a31])), (a1, .inl (cI, 1560, .inl w0))] H := hP
  have hD : va_D A [(a0, .inr (12, [.ref a1, .ref a2, .ref a3, .int 0, .ref a4, .int 0, .int 0, .int 0, .int 0, .int 0, .int (-1), .int 0, .int 0, .int 0, .int 0, .ref a5, .ref a6, .ref a7, .ref a8, .ref a9, .ref a10, .ref a11, .ref a12, .int 0, .int 0, .int 0, .int 0, .int 0, .ref a13, .int 0, .ref a14, .ref a15, .int 0, .int 0, .ref a16, .int 0, .ref a17, .ref a18, .int 0, .int (-1), .ref a19, .ref a20, .ref a21, .int 0, .ref a22, .ref a23, .ref a24, .ref a25, .ref a26, .ref a27, .ref a28, .ref a29, .ref a30, .int 0, .int 0, .ref a31])), (a1, .inl (cI, 1560, .inl w0))] := hD
  refine lv_if_eq (tgt := 34) hx hb dX12_order_14 (by decide) (fun _ => ?_) (fun c9 => absurd (by decide) c9) 
  refine lv_iconst (v := 0) hx hb dX12_order_34 (by decide) ?_
  have hP9 := hP.sub (ws' := []) [] rfl
  have hD9 := hD.sub (ws' := []) [] (by decide) rfl
  refine W.widen (k := 0) (n := 0) (Nat.le_of_ble_eq_true rfl) (Nat.le_of_ble_eq_true rfl) ?_
  exact W.zret (v := 0) (ty := .boolean) hx hb hr rfl (fun t ht hW => ⟨⟨0, [], rfl, ⟨rfl, rfl⟩, by rw [ht]; exact hP9, va_K.moved hW.alike hK, hD9⟩, hS.F ht⟩) hS.2.2 dX12_order_35
set_option maxHeartbeats 8000000 in
set_option maxRecDepth 100000 in
theorem cc_X12_hasPair_0 (l : Launch) (D : va_G) (cI cL cZ : ClassId) (sz : Nat) (a0 : Nat) (x0 : Int32) (x1 : Int32) : mI l D cI cL cZ yX12_hasPair cX12_hasPair 4 (some .boolean) 0 0 0 0 [.ref a0, .int x0, .int x1] sz [(a0, .inl (cI, 1560, .inl w0))] (fun (r : Int32) (w1 : va_W) => r = 0 ∧ w1 = ([(a0, .inl (cI, 1560, .inl w0))] : va_W)) := by
  obtain ⟨dC, dI⟩ := D
  refine Met.ofW (cc := cX12_hasPair) (maxL := 4) (ret := (some .boolean)) (by decide) rfl ?_
  intro p e s m args below meth c s₁ B hml hv
  obtain ⟨rfl, hsz, hP, hK, hD0, hN⟩ := hv
  have hx := B.exec
  have hb := B.bytes
  have hr := B.returns
  have hU : ∀ w ∈ wsU, w.before _ s = true := fun w h => atoms_spec (ws := wU yX12_hasPair cX12_hasPair 4 (some .boolean)) B.pre w (List.mem_cons_of_mem _ h)
  have hown : s.vm.findClass RX12 = some m.cls := findClass_of_methodNamed B.named
  have hlocks := B.notSynchronized
  subst hsz
  have hD := hD0.self (sz := s.heap.size)
  generalize hAe : va_A [(a0, .inl (cI, 1560, .inl w0))] s.heap.size = A at hD ⊢
  have hA : ∀ q : Nat, s.heap.size ≤ q → A q := fun q h => by rw [← hAe]; exact Or.inr h
  have hS : va_S A s.heap s.heap [] := va_S.rf
  have hP : va_P (dC, dI) vwCl [(a0, .inl (cI, 1560, .inl w0))] s.heap := hP
  have hl := lv_entry ([.ref a0, .int x0, .int x1]) (n := 4) (Nat.le_of_ble_eq_true rfl)
  rw [lg_entry_eq]
  generalize (lg_sl ([.ref a0, .int x0, .int x1]) ++ List.replicate (4 - (lg_sl ([.ref a0, .int x0, .int x1])).length) Slot.unset).toArray = ls at hl ⊢
  have hl : lv_has ls 4 [(0, .ref a0), (1, .int x0), (2, .int x1)] := hl
  refine lv_iconst (v := 0) hx hb dX12_hasPair_0 (by decide) ?_
  refine lv_istore_n (lv' := [(3, .int 0), (0, .ref a0), (1, .int x0), (2, .int x1)]) hx hb dX12_hasPair_1 rfl hl (by decide) rfl (fun ls hl => ?_)
  refine lv_iload_n hx hb dX12_hasPair_2 rfl (lv_at hl 0 rfl) ?_
  refine lv_aload_n hx hb dX12_hasPair_3 rfl (lv_at hl 1 rfl) ?_
  refine lv_bipush (v := 16) hx hb dX12_hasPair_4 (by decide) ?_
  refine va_iald hx hb hK hP 0 0 rfl rfl (vp_in_nI (n := 16) (by decide) (by decide)) dX12_hasPair_6 ?_
  refine tk_topi (y := 0) (by decide) ?_
  refine lv_icmp_ge (tgt := 33) hx hb dX12_hasPair_7 (by decide) (fun _ => ?_) (fun c9 => absurd (by decide) c9) 
  refine lv_iconst (v := 0) hx hb dX12_hasPair_33 (by decide) ?_
  have hP9 := hP.sub (ws' := [(a0, .inl (cI, 1560, .inl w0))]) [0] rfl
  have hD9 := hD.sub (ws' := [(a0, .inl (cI, 1560, .inl w0))]) [0] (by decide) rfl
  refine W.widen (k := 0) (n := 0) (Nat.le_of_ble_eq_true rfl) (Nat.le_of_ble_eq_true rfl) ?_
  exact W.zret (v := 0) (ty := .boolean) hx hb hr rfl (fun t ht hW => ⟨⟨0, [(a0, .inl (cI, 1560, .inl w0))], rfl, ⟨rfl, rfl⟩, by rw [ht]; exact hP9, va_K.moved hW.alike hK, hD9⟩, hS.F ht⟩) hS.2.2 dX12_hasPair_34
set_option maxHeartbeats 8000000 in
set_option maxRecDepth 100000 in
theorem op_X12_lives (l : Launch) (D : va_G) (cI cL cZ : ClassId) (sz : Nat) (a0 : Nat) (x0 : Int32) (x1 : Int32) (x2 : Int32) (a1 : Nat) (a2 : Nat) (a3 : Nat) (a4 : Nat) (a5 : Nat) (a6 : Nat) (a7 : Nat) (a8 : Nat) (a9 : Nat) (a10 : Nat) (a11 : Nat) (a12 : Nat) (a13 : Nat) (a14 : Nat) (a15 : Nat) (a16 : Nat) (a17 : Nat) (a18 : Nat) (a19 : Nat) (a20 : Nat) (a21 : Nat) (a22 : Nat) (a23 : Nat) (a24 : Nat) (a25 : Nat) (a26 : Nat) (a27 : Nat) (a28 : Nat) (a29 : Nat) (a30 : Nat) (a31 : Nat) : mI l D cI cL cZ yX12_lives cX12_lives 6 (some .int) 1 23 0 0 [.ref a0, .int x0, .int x1, .int x2] sz [(a0, .inr (12, [.ref a1, .ref a2, .ref a3, .int 0, .ref a4, .int 0, .int 0, .int 0, .int 0, .int 0, .int (-1), .int 0, .int 0, .int 0, .int 0, .ref a5, .ref a6, .ref a7, .ref a8, .ref a9, .ref a10, .ref a11, .ref a12, .int 0, .int 0, .int 0, .int 0, .int 0, .ref a13, .int 0, .ref a14, .ref a15, .int 0, .int 0, .ref a16, .int 0, .ref a17, .ref a18, .int 0, .int (-1), .ref a19, .ref a20, .ref a21, .int 0, .ref a22, .ref a23, .ref a24, .ref a25, .ref a26, .ref a27, .ref a28, .ref a29, .ref a30, .int 0, .int 0, .ref a31])), (a1, .inl (cI, 1560, .inl w0))] (fun (r : Int32) (w1 : va_W) => r = (-1) ∧ w1 = ([] : va_W)) := by
  obtain ⟨dC, dI⟩ := D
  refine Met.ofW (cc := cX12_lives) (maxL := 6) (ret := (some .int)) (by decide) rfl ?_
  intro p e s m args below meth c s₁ B hml hv
  obtain ⟨rfl, hsz, hP, hK, hD0, hN⟩ := hv
  have hx := B.exec
  have hb := B.bytes
  have hr := B.returns
  have hU : ∀ w ∈ wsU, w.before _ s = true := fun w h => atoms_spec (ws := wU yX12_lives cX12_lives 6 (some .int)) B.pre w (List.mem_cons_of_mem _ h)
  have hown : s.vm.findClass RX12 = some m.cls := findClass_of_methodNamed B.named
  have hlocks := B.notSynchronized
  subst hsz
  have hD := hD0.self (sz := s.heap.size)
  generalize hAe : va_A [(a0, .inr (12, [.ref a1, .ref a2, .ref a3, .int 0, .ref a4, .int 0, .int 0, .int 0, .int 0, .int 0, .int (-1), .int 0, .int 0, .int 0, .int 0, .ref a5, .ref a6, .ref a7, .ref a8, .ref a9, .ref a10, .ref a11, .ref a12, .int 0, .int 0, .int 0, .int 0, .int 0, .ref a13, .int 0, .ref a14, .ref a15, .int 0, .int 0, .ref a16, .int 0, .ref a17, .ref a18, .int 0, .int (-1), .ref a19, .ref a20, .ref a21, .int 0, .ref a22, .ref a23, .ref a24, .ref a25, .ref a26, .ref a27, .ref a28, .ref a29, .ref a30, .int 0, .int 0, .ref a31])), (a1, .inl (cI, 1560, .inl w0))] s.heap.size = A at hD ⊢
  have hA : ∀ q : Nat, s.heap.size ≤ q → A q := fun q h => by rw [← hAe]; exact Or.inr h
  have hS : va_S A s.heap s.heap [] := va_S.rf
  have hP : va_P (dC, dI) vwCl [(a0, .inr (12, [.ref a1, .ref a2, .ref a3, .int 0, .ref a4, .int 0, .int 0, .int 0, .int 0, .int 0, .int (-1), .int 0, .int 0, .int 0, .int 0, .ref a5, .ref a6, .ref a7, .ref a8, .ref a9, .ref a10, .ref a11, .ref a12, .int 0, .int 0, .int 0, .int 0, .int 0, .ref a13, .int 0, .ref a14, .ref a15, .int 0, .int 0, .ref a16, .int 0, .ref a17, .ref a18, .int 0, .int (-1), .ref a19, .ref a20, .ref a21, .int 0, .ref a22, .ref a23, .ref a24, .ref a25, .ref a26, .ref a27, .ref a28, .ref a29, .ref a30, .int 0, .int 0, .ref a31])), (a1, .inl (cI, 1560, .inl w0))] s.heap := hP
  have hl := lv_entry ([.ref a0, .int x0, .int x1, .int x2]) (n := 6) (Nat.le_of_ble_eq_true rfl)
  rw [lg_entry_eq]
  generalize (lg_sl ([.ref a0, .int x0, .int x1, .int x2]) ++ List.replicate (6 - (lg_sl ([.ref a0, .int x0, .int x1, .int x2])).length) Slot.unset).toArray = ls at hl ⊢
  have hl : lv_has ls 6 [(0, .ref a0), (1, .int x0), (2, .int x1), (3, .int x2)] := hl
  refine lv_iload_n hx hb dX12_lives_0 rfl (lv_at hl 1 rfl) ?_
  refine lv_iconst (v := 0) hx hb dX12_lives_1 (by decide) ?_
  refine lv_aload_n hx hb dX12_lives_2 rfl (lv_at hl 0 rfl) ?_
  refine va_get (D := (dC, dI)) (ci := 12) (v := .ref a1) (C := RX12) (T := TX12) (N := 56) hx hb hU inlX12 hown hK hP 0 rfl rfl 0 (by decide) (hU _ wd_169) (fun _ h9 => h9) rfl dX12_lives_3 ?_
  refine lv_iconst (v := 0) hx hb dX12_lives_6 (by decide) ?_
  refine va_iald hx hb hK hP 1 0 rfl rfl (vp_in_nI (n := 0) (by decide) (by decide)) dX12_lives_7 ?_
  refine tk_topi (y := 0) (by decide) ?_
  refine tk_ri (wr := [(a0, .inr (12, [.ref a1, .ref a2, .ref a3, .int 0, .ref a4, .int 0, .int 0, .int 0, .int 0, .int 0, .int (-1), .int 0, .int 0, .int 0, .int 0, .ref a5, .ref a6, .ref a7, .ref a8, .ref a9, .ref a10, .ref a11, .ref a12, .int 0, .int 0, .int 0, .int 0, .int 0, .ref a13, .int 0, .ref a14, .ref a15, .int 0, .int 0, .ref a16, .int 0, .ref a17, .ref a18, .int 0, .int (-1), .ref a19, .ref a20, .ref a21, .int 0, .ref a22, .ref a23, .ref a24, .ref a25, .ref a26, .ref a27, .ref a28, .ref a29, .ref a30, .int 0, .int 0, .ref a31])), (a1, .inl (cI, 1560, .inl w0))]) (tk_S (As := [.int x0, .int 0, .int 0]) (rest := []) (n := 3) hx hb hml hown hU hN (cc_X12_isIn_1 l (dC, dI) cI cL cZ s.heap.size x0) wd_227 wd_228 wd_5 wd_229 (by decide +kernel) ⟨Nat.le_of_ble_eq_true rfl, Nat.le_of_ble_eq_true rfl⟩ hK hP hD [] (by decide) rfl rfl hl.1 rfl (Nat.le_of_ble_eq_true rfl) dX12_lives_8 ⟨Nat.le_of_ble_eq_true rfl, Nat.le_of_ble_eq_true rfl⟩) hP hD hS hA [] [0, 1] rfl rfl (by decide) (by decide) (fun r_1 w_2 H locs hw hP hD hS => ?_)
  rcases hw with ⟨c_3, rfl, rfl⟩ | ⟨c_4, c_5, rfl, rfl⟩ | ⟨c_6, c_7, rfl, rfl⟩
  · skip
    have hP : va_P (dC, dI) vwCl [(a0, .inr (12, [.ref a1, .ref a2, .ref a3, .int 0, .ref a4, .int 0, .int 0, .int 0, .int 0, .int 0, .int (-1), .int 0, .int 0, .int 0, .int 0, .ref a5, .ref a6, .ref a7, .ref a8, .ref a9, .ref a10, .ref a11, .ref a12, .int 0, .int 0, .int 0, .int 0, .int 0, .ref a13, .int 0, .ref a14, .ref a15, .int 0, .int 0, .ref a16, .int 0, .ref a17, .ref a18, .int 0, .int (-1), .ref a19, .ref a20, .ref a21, .int 0, .ref a22, .ref a23, .ref a24, .ref a25, .ref a26, .ref a27, .ref a28, .ref a29, .ref a30, .int 0, .int 0, .ref a31])), (a1, .inl (cI, 1560, .inl w0))] H := hP
    have hD : va_D A [(a0, .inr (12, [.ref a1, .ref a2, .ref a3, .int 0, .ref a4, .int 0, .int 0, .int 0, .int 0, .int 0, .int (-1), .int 0, .int 0, .int 0, .int 0, .ref a5, .ref a6, .ref a7, .ref a8, .ref a9, .ref a10, .ref a11, .ref a12, .int 0, .int 0, .int 0, .int 0, .int 0, .ref a13, .int 0, .ref a14, .ref a15, .int 0, .int 0, .ref a16, .int 0, .ref a17, .ref a18, .int 0, .int (-1), .ref a19, .ref a20, .ref a21, .int 0, .ref a22, .ref a23, .ref a24, .ref a25, .ref a26, .ref a27, .ref a28, .ref a29, .ref a30, .int 0, .int 0, .ref a31])), (a1, .inl (cI, 1560, .inl w0))] := hD
    refine lv_if_eq (tgt := 49) hx hb dX12_lives_11 (by decide) (fun _ => ?_) (fun c9 => absurd (by decide) c9) 
    refine lv_iconst (v := (-1)) hx hb dX12_lives_49 (by decide) ?_
    have hP9 := hP.sub (ws' := []) [] rfl
    have hD9 := hD.sub (ws' := []) [] (by decide) rfl
    refine W.widen (k := 0) (n := 0) (Nat.le_of_ble_eq_true rfl) (Nat.le_of_ble_eq_true rfl) ?_
    exact W.iret (v := (-1)) hx hb hr (fun t ht hW => ⟨⟨(-1), [], rfl, ⟨rfl, rfl⟩, by rw [ht]; exact hP9, va_K.moved hW.alike hK, hD9⟩, hS.F ht⟩) hS.2.2 dX12_lives_50
  · skip
    have hP : va_P (dC, dI) vwCl [(a0, .inr (12, [.ref a1, .ref a2, .ref a3, .int 0, .ref a4, .int 0, .int 0, .int 0, .int 0, .int 0, .int (-1), .int 0, .int 0, .int 0, .int 0, .ref a5, .ref a6, .ref a7, .ref a8, .ref a9, .ref a10, .ref a11, .ref a12, .int 0, .int 0, .int 0, .int 0, .int 0, .ref a13, .int 0, .ref a14, .ref a15, .int 0, .int 0, .ref a16, .int 0, .ref a17, .ref a18, .int 0, .int (-1), .ref a19, .ref a20, .ref a21, .int 0, .ref a22, .ref a23, .ref a24, .ref a25, .ref a26, .ref a27, .ref a28, .ref a29, .ref a30, .int 0, .int 0, .ref a31])), (a1, .inl (cI, 1560, .inl w0))] H := hP
    have hD : va_D A [(a0, .inr (12, [.ref a1, .ref a2, .ref a3, .int 0, .ref a4, .int 0, .int 0, .int 0, .int 0, .int 0, .int (-1), .int 0, .int 0, .int 0, .int 0, .ref a5, .ref a6, .ref a7, .ref a8, .ref a9, .ref a10, .ref a11, .ref a12, .int 0, .int 0, .int 0, .int 0, .int 0, .ref a13, .int 0, .ref a14, .ref a15, .int 0, .int 0, .ref a16, .int 0, .ref a17, .ref a18, .int 0, .int (-1), .ref a19, .ref a20, .ref a21, .int 0, .ref a22, .ref a23, .ref a24, .ref a25, .ref a26, .ref a27, .ref a28, .ref a29, .ref a30, .int 0, .int 0, .ref a31])), (a1, .inl (cI, 1560, .inl w0))] := hD
    refine lv_if_eq (tgt := 49) hx hb dX12_lives_11 (by decide) (fun _ => ?_) (fun c9 => absurd (by decide) c9) 
    refine lv_iconst (v := (-1)) hx hb dX12_lives_49 (by decide) ?_
    have hP9 := hP.sub (ws' := []) [] rfl
    have hD9 := hD.sub (ws' := []) [] (by decide) rfl
    refine W.widen (k := 0) (n := 0) (Nat.le_of_ble_eq_true rfl) (Nat.le_of_ble_eq_true rfl) ?_
    exact W.iret (v := (-1)) hx hb hr (fun t ht hW => ⟨⟨(-1), [], rfl, ⟨rfl, rfl⟩, by rw [ht]; exact hP9, va_K.moved hW.alike hK, hD9⟩, hS.F ht⟩) hS.2.2 dX12_lives_50
  · skip
    have hP : va_P (dC, dI) vwCl [(a0, .inr (12, [.ref a1, .ref a2, .ref a3, .int 0, .ref a4, .int 0, .int 0, .int 0, .int 0, .int 0, .int (-1), .int 0, .int 0, .int 0, .int 0, .ref a5, .ref a6, .ref a7, .ref a8, .ref a9, .ref a10, .ref a11, .ref a12, .int 0, .int 0, .int 0, .int 0, .int 0, .ref a13, .int 0, .ref a14, .ref a15, .int 0, .int 0, .ref a16, .int 0, .ref a17, .ref a18, .int 0, .int (-1), .ref a19, .ref a20, .ref a21, .int 0, .ref a22, .ref a23, .ref a24, .ref a25, .ref a26, .ref a27, .ref a28, .ref a29, .ref a30, .int 0, .int 0, .ref a31])), (a1, .inl (cI, 1560, .inl w0))] H := hP
    have hD : va_D A [(a0, .inr (12, [.ref a1, .ref a2, .ref a3, .int 0, .ref a4, .int 0, .int 0, .int 0, .int 0, .int 0, .int (-1), .int 0, .int 0, .int 0, .int 0, .ref a5, .ref a6, .ref a7, .ref a8, .ref a9, .ref a10, .ref a11, .ref a12, .int 0, .int 0, .int 0, .int 0, .int 0, .ref a13, .int 0, .ref a14, .ref a15, .int 0, .int 0, .ref a16, .int 0, .ref a17, .ref a18, .int 0, .int (-1), .ref a19, .ref a20, .ref a21, .int 0, .ref a22, .ref a23, .ref a24, .ref a25, .ref a26, .ref a27, .ref a28, .ref a29, .ref a30, .int 0, .int 0, .ref a31])), (a1, .inl (cI, 1560, .inl w0))] := hD
    refine lv_if_eq (tgt := 49) hx hb dX12_lives_11 (by decide) (fun c9 => absurd c9 (by decide)) (fun _ => ?_)
    refine lv_iload_n hx hb dX12_lives_14 rfl (lv_at hl 2 rfl) ?_
    refine lv_iconst (v := 0) hx hb dX12_lives_15 (by decide) ?_
    refine lv_aload_n hx hb dX12_lives_16 rfl (lv_at hl 0 rfl) ?_
    refine va_get (D := (dC, dI)) (ci := 12) (v := .ref a1) (C := RX12) (T := TX12) (N := 56) hx hb hU inlX12 hown hK hP 0 rfl rfl 0 (by decide) (hU _ wd_169) (fun _ h9 => h9) rfl dX12_lives_17 ?_
    refine lv_iconst (v := 0) hx hb dX12_lives_20 (by decide) ?_
    refine va_iald hx hb hK hP 1 0 rfl rfl (vp_in_nI (n := 0) (by decide) (by decide)) dX12_lives_21 ?_
    refine tk_topi (y := 0) (by decide) ?_
    refine tk_ri (wr := [(a0, .inr (12, [.ref a1, .ref a2, .ref a3, .int 0, .ref a4, .int 0, .int 0, .int 0, .int 0, .int 0, .int (-1), .int 0, .int 0, .int 0, .int 0, .ref a5, .ref a6, .ref a7, .ref a8, .ref a9, .ref a10, .ref a11, .ref a12, .int 0, .int 0, .int 0, .int 0, .int 0, .ref a13, .int 0, .ref a14, .ref a15, .int 0, .int 0, .ref a16, .int 0, .ref a17, .ref a18, .int 0, .int (-1), .ref a19, .ref a20, .ref a21, .int 0, .ref a22, .ref a23, .ref a24, .ref a25, .ref a26, .ref a27, .ref a28, .ref a29, .ref a30, .int 0, .int 0, .ref a31])), (a1, .inl (cI, 1560, .inl w0))]) (tk_S (As := [.int x1, .int 0, .int 0]) (rest := []) (n := 3) hx hb hml hown hU hN (cc_X12_isIn_1 l (dC, dI) cI cL cZ H.size x1) wd_227 wd_228 wd_5 wd_229 (by decide +kernel) ⟨Nat.le_of_ble_eq_true rfl, Nat.le_of_ble_eq_true rfl⟩ hK hP hD [] (by decide) rfl rfl hl.1 rfl (Nat.le_of_ble_eq_true rfl) dX12_lives_22 ⟨Nat.le_of_ble_eq_true rfl, Nat.le_of_ble_eq_true rfl⟩) hP hD hS hA [] [0, 1] rfl rfl (by decide) (by decide) (fun r_8 w_9 H locs hw hP hD hS => ?_)
    rcases hw with ⟨c_10, rfl, rfl⟩ | ⟨c_11, c_12, rfl, rfl⟩ | ⟨c_13, c_14, rfl, rfl⟩
    · skip
      have hP : va_P (dC, dI) vwCl [(a0, .inr (12, [.ref a1, .ref a2, .ref a3, .int 0, .ref a4, .int 0, .int 0, .int 0, .int 0, .int 0, .int (-1), .int 0, .int 0, .int 0, .int 0, .ref a5, .ref a6, .ref a7, .ref a8, .ref a9, .ref a10, .ref a11, .ref a12, .int 0, .int 0, .int 0, .int 0, .int 0, .ref a13, .int 0, .ref a14, .ref a15, .int 0, .int 0, .ref a16, .int 0, .ref a17, .ref a18, .int 0, .int (-1), .ref a19, .ref a20, .ref a21, .int 0, .ref a22, .ref a23, .ref a24, .ref a25, .ref a26, .ref a27, .ref a28, .ref a29, .ref a30, .int 0, .int 0, .ref a31])), (a1, .inl (cI, 1560, .inl w0))] H := hP
      have hD : va_D A [(a0, .inr (12, [.ref a1, .ref a2, .ref a3, .int 0, .ref a4, .int 0, .int 0, .int 0, .int 0, .int 0, .int (-1), .int 0, .int 0, .int 0, .int 0, .ref a5, .ref a6, .ref a7, .ref a8, .ref a9, .ref a10, .ref a11, .ref a12, .int 0, .int 0, .int 0, .int 0, .int 0, .ref a13, .int 0, .ref a14, .ref a15, .int 0, .int 0, .ref a16, .int 0, .ref a17, .ref a18, .int 0, .int (-1), .ref a19, .ref a20, .ref a21, .int 0, .ref a22, .ref a23, .ref a24, .ref a25, .ref a26, .ref a27, .ref a28, .ref a29, .ref a30, .int 0, .int 0, .ref a31])), (a1, .inl (cI, 1560, .inl w0))] := hD
      refine lv_if_eq (tgt := 49) hx hb dX12_lives_25 (by decide) (fun _ => ?_) (fun c9 => absurd (by decide) c9) 
      refine lv_iconst (v := (-1)) hx hb dX12_lives_49 (by decide) ?_
      have hP9 := hP.sub (ws' := []) [] rfl
      have hD9 := hD.sub (ws' := []) [] (by decide) rfl
      refine W.widen (k := 0) (n := 0) (Nat.le_of_ble_eq_true rfl) (Nat.le_of_ble_eq_true rfl) ?_
      exact W.iret (v := (-1)) hx hb hr (fun t ht hW => ⟨⟨(-1), [], rfl, ⟨rfl, rfl⟩, by rw [ht]; exact hP9, va_K.moved hW.alike hK, hD9⟩, hS.F ht⟩) hS.2.2 dX12_lives_50
    · skip
      have hP : va_P (dC, dI) vwCl [(a0, .inr (12, [.ref a1, .ref a2, .ref a3, .int 0, .ref a4, .int 0, .int 0, .int 0, .int 0, .int 0, .int (-1), .int 0, .int 0, .int 0, .int 0, .ref a5, .ref a6, .ref a7, .ref a8, .ref a9, .ref a10, .ref a11, .ref a12, .int 0, .int 0, .int 0, .int 0, .int 0, .ref a13, .int 0, .ref a14, .ref a15, .int 0, .int 0, .ref a16, .int 0, .ref a17, .ref a18, .int 0, .int (-1), .ref a19, .ref a20, .ref a21, .int 0, .ref a22, .ref a23, .ref a24, .ref a25, .ref a26, .ref a27, .ref a28, .ref a29, .ref a30, .int 0, .int 0, .ref a31])), (a1, .inl (cI, 1560, .inl w0))] H := hP
      have hD : va_D A [(a0, .inr (12, [.ref a1, .ref a2, .ref a3, .int 0, .ref a4, .int 0, .int 0, .int 0, .int 0, .int 0, .int (-1), .int 0, .int 0, .int 0, .int 0, .ref a5, .ref a6, .ref a7, .ref a8, .ref a9, .ref a10, .ref a11, .ref a12, .int 0, .int 0, .int 0, .int 0, .int 0, .ref a13, .int 0, .ref a14, .ref a15, .int 0, .int 0, .ref a16, .int 0, .ref a17, .ref a18, .int 0, .int (-1), .ref a19, .ref a20, .ref a21, .int 0, .ref a22, .ref a23, .ref a24, .ref a25, .ref a26, .ref a27, .ref a28, .ref a29, .ref a30, .int 0, .int 0, .ref a31])), (a1, .inl (cI, 1560, .inl w0))] := hD
      refine lv_if_eq (tgt := 49) hx hb dX12_lives_25 (by decide) (fun _ => ?_) (fun c9 => absurd (by decide) c9) 
      refine lv_iconst (v := (-1)) hx hb dX12_lives_49 (by decide) ?_
      have hP9 := hP.sub (ws' := []) [] rfl
      have hD9 := hD.sub (ws' := []) [] (by decide) rfl
      refine W.widen (k := 0) (n := 0) (Nat.le_of_ble_eq_true rfl) (Nat.le_of_ble_eq_true rfl) ?_
      exact W.iret (v := (-1)) hx hb hr (fun t ht hW => ⟨⟨(-1), [], rfl, ⟨rfl, rfl⟩, by rw [ht]; exact hP9, va_K.moved hW.alike hK, hD9⟩, hS.F ht⟩) hS.2.2 dX12_lives_50
    · skip
      have hP : va_P (dC, dI) vwCl [(a0, .inr (12, [.ref a1, .ref a2, .ref a3, .int 0, .ref a4, .int 0, .int 0, .int 0, .int 0, .int 0, .int (-1), .int 0, .int 0, .int 0, .int 0, .ref a5, .ref a6, .ref a7, .ref a8, .ref a9, .ref a10, .ref a11, .ref a12, .int 0, .int 0, .int 0, .int 0, .int 0, .ref a13, .int 0, .ref a14, .ref a15, .int 0, .int 0, .ref a16, .int 0, .ref a17, .ref a18, .int 0, .int (-1), .ref a19, .ref a20, .ref a21, .int 0, .ref a22, .ref a23, .ref a24, .ref a25, .ref a26, .ref a27, .ref a28, .ref a29, .ref a30, .int 0, .int 0, .ref a31])), (a1, .inl (cI, 1560, .inl w0))] H := hP
      have hD : va_D A [(a0, .inr (12, [.ref a1, .ref a2, .ref a3, .int 0, .ref a4, .int 0, .int 0, .int 0, .int 0, .int 0, .int (-1), .int 0, .int 0, .int 0, .int 0, .ref a5, .ref a6, .ref a7, .ref a8, .ref a9, .ref a10, .ref a11, .ref a12, .int 0, .int 0, .int 0, .int 0, .int 0, .ref a13, .int 0, .ref a14, .ref a15, .int 0, .int 0, .ref a16, .int 0, .ref a17, .ref a18, .int 0, .int (-1), .ref a19, .ref a20, .ref a21, .int 0, .ref a22, .ref a23, .ref a24, .ref a25, .ref a26, .ref a27, .ref a28, .ref a29, .ref a30, .int 0, .int 0, .ref a31])), (a1, .inl (cI, 1560, .inl w0))] := hD
      refine lv_if_eq (tgt := 49) hx hb dX12_lives_25 (by decide) (fun c9 => absurd c9 (by decide)) (fun _ => ?_)
      refine lv_aload_n hx hb dX12_lives_28 rfl (lv_at hl 0 rfl) ?_
      refine va_get (D := (dC, dI)) (ci := 12) (v := .ref a1) (C := RX12) (T := TX12) (N := 56) hx hb hU inlX12 hown hK hP 0 rfl rfl 0 (by decide) (hU _ wd_169) (fun _ h9 => h9) rfl dX12_lives_29 ?_
      refine lv_iload_n hx hb dX12_lives_32 rfl (lv_at hl 1 rfl) ?_
      refine lv_iload_n hx hb dX12_lives_33 rfl (lv_at hl 2 rfl) ?_
      refine tk_ri (wr := [(a0, .inr (12, [.ref a1, .ref a2, .ref a3, .int 0, .ref a4, .int 0, .int 0, .int 0, .int 0, .int 0, .int (-1), .int 0, .int 0, .int 0, .int 0, .ref a5, .ref a6, .ref a7, .ref a8, .ref a9, .ref a10, .ref a11, .ref a12, .int 0, .int 0, .int 0, .int 0, .int 0, .ref a13, .int 0, .ref a14, .ref a15, .int 0, .int 0, .ref a16, .int 0, .ref a17, .ref a18, .int 0, .int (-1), .ref a19, .ref a20, .ref a21, .int 0, .ref a22, .ref a23, .ref a24, .ref a25, .ref a26, .ref a27, .ref a28, .ref a29, .ref a30, .int 0, .int 0, .ref a31]))]) (tk_S (As := [.ref a1, .int x0, .int x1]) (rest := []) (n := 3) hx hb hml hown hU hN (cc_X12_hasPair_0 l (dC, dI) cI cL cZ H.size a1 x0 x1) wd_628 wd_629 wd_5 wd_630 (by decide +kernel) ⟨Nat.le_of_ble_eq_true rfl, Nat.le_of_ble_eq_true rfl⟩ hK hP hD [1] (by decide) rfl rfl hl.1 rfl (Nat.le_of_ble_eq_true rfl) dX12_lives_34 ⟨Nat.le_of_ble_eq_true rfl, Nat.le_of_ble_eq_true rfl⟩) hP hD hS hA [1] [0] rfl rfl (by decide) (by decide) (fun r_15 w_16 H locs hw hP hD hS => ?_)
      obtain ⟨rfl, rfl⟩ := hw
      have hP : va_P (dC, dI) vwCl [(a0, .inr (12, [.ref a1, .ref a2, .ref a3, .int 0, .ref a4, .int 0, .int 0, .int 0, .int 0, .int 0, .int (-1), .int 0, .int 0, .int 0, .int 0, .ref a5, .ref a6, .ref a7, .ref a8, .ref a9, .ref a10, .ref a11, .ref a12, .int 0, .int 0, .int 0, .int 0, .int 0, .ref a13, .int 0, .ref a14, .ref a15, .int 0, .int 0, .ref a16, .int 0, .ref a17, .ref a18, .int 0, .int (-1), .ref a19, .ref a20, .ref a21, .int 0, .ref a22, .ref a23, .ref a24, .ref a25, .ref a26, .ref a27, .ref a28, .ref a29, .ref a30, .int 0, .int 0, .ref a31])), (a1, .inl (cI, 1560, .inl w0))] H := hP
      have hD : va_D A [(a0, .inr (12, [.ref a1, .ref a2, .ref a3, .int 0, .ref a4, .int 0, .int 0, .int 0, .int 0, .int 0, .int (-1), .int 0, .int 0, .int 0, .int 0, .ref a5, .ref a6, .ref a7, .ref a8, .ref a9, .ref a10, .ref a11, .ref a12, .int 0, .int 0, .int 0, .int 0, .int 0, .ref a13, .int 0, .ref a14, .ref a15, .int 0, .int 0, .ref a16, .int 0, .ref a17, .ref a18, .int 0, .int (-1), .ref a19, .ref a20, .ref a21, .int 0, .ref a22, .ref a23, .ref a24, .ref a25, .ref a26, .ref a27, .ref a28, .ref a29, .ref a30, .int 0, .int 0, .ref a31])), (a1, .inl (cI, 1560, .inl w0))] := hD
      refine lv_if_eq (tgt := 49) hx hb dX12_lives_37 (by decide) (fun _ => ?_) (fun c9 => absurd (by decide) c9) 
      refine lv_iconst (v := (-1)) hx hb dX12_lives_49 (by decide) ?_
      have hP9 := hP.sub (ws' := []) [] rfl
      have hD9 := hD.sub (ws' := []) [] (by decide) rfl
      refine W.widen (k := 0) (n := 0) (Nat.le_of_ble_eq_true rfl) (Nat.le_of_ble_eq_true rfl) ?_
      exact W.iret (v := (-1)) hx hb hr (fun t ht hW => ⟨⟨(-1), [], rfl, ⟨rfl, rfl⟩, by rw [ht]; exact hP9, va_K.moved hW.alike hK, hD9⟩, hS.F ht⟩) hS.2.2 dX12_lives_50
set_option maxHeartbeats 8000000 in
set_option maxRecDepth 100000 in
theorem cc_X12_isIn_8 (l : Launch) (D : va_G) (cI cL cZ : ClassId) (sz : Nat)  : mI l D cI cL cZ yX12_isIn cX12_isIn 3 (some .boolean) 0 0 0 0 [.int 1, .int 1, .int 2] sz [] (fun (r : Int32) (w1 : va_W) => r = 1 ∧ w1 = ([] : va_W)) := by
  obtain ⟨dC, dI⟩ := D
  refine Met.ofW (cc := cX12_isIn) (maxL := 3) (ret := (some .boolean)) (by decide) rfl ?_
  intro p e s m args below meth c s₁ B hml hv
  obtain ⟨rfl, hsz, hP, hK, hD0, hN⟩ := hv
  have hx := B.exec
  have hb := B.bytes
  have hr := B.returns
  have hU : ∀ w ∈ wsU, w.before _ s = true := fun w h => atoms_spec (ws := wU yX12_isIn cX12_isIn 3 (some .boolean)) B.pre w (List.mem_cons_of_mem _ h)
  have hown : s.vm.findClass RX12 = some m.cls := findClass_of_methodNamed B.named
  have hlocks := B.notSynchronized
  subst hsz
  have hD := hD0.self (sz := s.heap.size)
  generalize hAe : va_A [] s.heap.size = A at hD ⊢
  have hA : ∀ q : Nat, s.heap.size ≤ q → A q := fun q h => by rw [← hAe]; exact Or.inr h
  have hS : va_S A s.heap s.heap [] := va_S.rf
  have hP : va_P (dC, dI) vwCl [] s.heap := hP
  have hl := lv_entry ([.int 1, .int 1, .int 2]) (n := 3) (Nat.le_of_ble_eq_true rfl)
  rw [lg_entry_eq]
  generalize (lg_sl ([.int 1, .int 1, .int 2]) ++ List.replicate (3 - (lg_sl ([.int 1, .int 1, .int 2])).length) Slot.unset).toArray = ls at hl ⊢
  have hl : lv_has ls 3 [(0, .int 1), (1, .int 1), (2, .int 2)] := hl
  refine lv_iload_n hx hb dX12_isIn_0 rfl (lv_at hl 0 rfl) ?_
  refine lv_iload_n hx hb dX12_isIn_1 rfl (lv_at hl 1 rfl) ?_
  refine lv_icmp_lt (tgt := 14) hx hb dX12_isIn_2 (by decide) (fun c9 => absurd c9 (by decide)) (fun _ => ?_)
  refine lv_iload_n hx hb dX12_isIn_5 rfl (lv_at hl 0 rfl) ?_
  refine lv_iload_n hx hb dX12_isIn_6 rfl (lv_at hl 2 rfl) ?_
  refine lv_icmp_gt (tgt := 14) hx hb dX12_isIn_7 (by decide) (fun c9 => absurd c9 (by decide)) (fun _ => ?_)
  refine lv_iconst (v := 1) hx hb dX12_isIn_10 (by decide) ?_
  refine lv_goto (tgt := 15) hx hb dX12_isIn_11 (by decide) ?_
  have hP9 := hP.sub (ws' := []) [] rfl
  have hD9 := hD.sub (ws' := []) [] (by decide) rfl
  refine W.widen (k := 0) (n := 0) (Nat.le_of_ble_eq_true rfl) (Nat.le_of_ble_eq_true rfl) ?_
  exact W.zret (v := 1) (ty := .boolean) hx hb hr rfl (fun t ht hW => ⟨⟨1, [], rfl, ⟨rfl, rfl⟩, by rw [ht]; exact hP9, va_K.moved hW.alike hK, hD9⟩, hS.F ht⟩) hS.2.2 dX12_isIn_15
set_option maxHeartbeats 8000000 in
set_option maxRecDepth 100000 in
theorem cc_X12_wordsUpTo_0 (l : Launch) (D : va_G) (cI cL cZ : ClassId) (sz : Nat) (a0 : Nat) (a1 : Nat) (a2 : Nat) (a3 : Nat) (a4 : Nat) (a5 : Nat) (a6 : Nat) (a7 : Nat) (a8 : Nat) (a9 : Nat) (a10 : Nat) (a11 : Nat) (a12 : Nat) (a13 : Nat) (a14 : Nat) (a15 : Nat) (a16 : Nat) (a17 : Nat) (a18 : Nat) (a19 : Nat) (a20 : Nat) (a21 : Nat) (a22 : Nat) (a23 : Nat) (a24 : Nat) (a25 : Nat) (a26 : Nat) (a27 : Nat) (a28 : Nat) (a29 : Nat) (a30 : Nat) (a31 : Nat) : mI l D cI cL cZ yX12_wordsUpTo cX12_wordsUpTo 5 (some .int) 0 0 0 0 [.ref a0, .int 1] sz [(a0, .inr (12, [.ref a1, .ref a2, .ref a3, .int 0, .ref a4, .int 0, .int 0, .int 0, .int 0, .int 0, .int (-1), .int 0, .int 0, .int 0, .int 0, .ref a5, .ref a6, .ref a7, .ref a8, .ref a9, .ref a10, .ref a11, .ref a12, .int 0, .int 0, .int 0, .int 0, .int 0, .ref a13, .int 0, .ref a14, .ref a15, .int 0, .int 0, .ref a16, .int 0, .ref a17, .ref a18, .int 0, .int (-1), .ref a19, .ref a20, .ref a21, .int 0, .ref a22, .ref a23, .ref a24, .ref a25, .ref a26, .ref a27, .ref a28, .ref a29, .ref a30, .int 0, .int 0, .ref a31])), (a1, .inl (cI, 1560, .inl w0))] (fun (r : Int32) (w1 : va_W) => r = 0 ∧ w1 = ([(a0, .inr (12, [.ref a1, .ref a2, .ref a3, .int 0, .ref a4, .int 0, .int 0, .int 0, .int 0, .int 0, .int (-1), .int 0, .int 0, .int 0, .int 0, .ref a5, .ref a6, .ref a7, .ref a8, .ref a9, .ref a10, .ref a11, .ref a12, .int 0, .int 0, .int 0, .int 0, .int 0, .ref a13, .int 0, .ref a14, .ref a15, .int 0, .int 0, .ref a16, .int 0, .ref a17, .ref a18, .int 0, .int (-1), .ref a19, .ref a20, .ref a21, .int 0, .ref a22, .ref a23, .ref a24, .ref a25, .ref a26, .ref a27, .ref a28, .ref a29, .ref a30, .int 0, .int 0, .ref a31])), (a1, .inl (cI, 1560, .inl w0))] : va_W)) := by
  obtain ⟨dC, dI⟩ := D
  refine Met.ofW (cc := cX12_wordsUpTo) (maxL := 5) (ret := (some .int)) (by decide) rfl ?_
  intro p e s m args below meth c s₁ B hml hv
  obtain ⟨rfl, hsz, hP, hK, hD0, hN⟩ := hv
  have hx := B.exec
  have hb := B.bytes
  have hr := B.returns
  have hU : ∀ w ∈ wsU, w.before _ s = true := fun w h => atoms_spec (ws := wU yX12_wordsUpTo cX12_wordsUpTo 5 (some .int)) B.pre w (List.mem_cons_of_mem _ h)
  have hown : s.vm.findClass RX12 = some m.cls := findClass_of_methodNamed B.named
  have hlocks := B.notSynchronized
  subst hsz
  have hD := hD0.self (sz := s.heap.size)
  generalize hAe : va_A [(a0, .inr (12, [.ref a1, .ref a2, .ref a3, .int 0, .ref a4, .int 0, .int 0, .int 0, .int 0, .int 0, .int (-1), .int 0, .int 0, .int 0, .int 0, .ref a5, .ref a6, .ref a7, .ref a8, .ref a9, .ref a10, .ref a11, .ref a12, .int 0, .int 0, .int 0, .int 0, .int 0, .ref a13, .int 0, .ref a14, .ref a15, .int 0, .int 0, .ref a16, .int 0, .ref a17, .ref a18, .int 0, .int (-1), .ref a19, .ref a20, .ref a21, .int 0, .ref a22, .ref a23, .ref a24, .ref a25, .ref a26, .ref a27, .ref a28, .ref a29, .ref a30, .int 0, .int 0, .ref a31])), (a1, .inl (cI, 1560, .inl w0))] s.heap.size = A at hD ⊢
  have hA : ∀ q : Nat, s.heap.size ≤ q → A q := fun q h => by rw [← hAe]; exact Or.inr h
  have hS : va_S A s.heap s.heap [] := va_S.rf
  have hP : va_P (dC, dI) vwCl [(a0, .inr (12, [.ref a1, .ref a2, .ref a3, .int 0, .ref a4, .int 0, .int 0, .int 0, .int 0, .int 0, .int (-1), .int 0, .int 0, .int 0, .int 0, .ref a5, .ref a6, .ref a7, .ref a8, .ref a9, .ref a10, .ref a11, .ref a12, .int 0, .int 0, .int 0, .int 0, .int 0, .ref a13, .int 0, .ref a14, .ref a15, .int 0, .int 0, .ref a16, .int 0, .ref a17, .ref a18, .int 0, .int (-1), .ref a19, .ref a20, .ref a21, .int 0, .ref a22, .ref a23, .ref a24, .ref a25, .ref a26, .ref a27, .ref a28, .ref a29, .ref a30, .int 0, .int 0, .ref a31])), (a1, .inl (cI, 1560, .inl w0))] s.heap := hP
  have hl := lv_entry ([.ref a0, .int 1]) (n := 5) (Nat.le_of_ble_eq_true rfl)
  rw [lg_entry_eq]
  generalize (lg_sl ([.ref a0, .int 1]) ++ List.replicate (5 - (lg_sl ([.ref a0, .int 1])).length) Slot.unset).toArray = ls at hl ⊢
  have hl : lv_has ls 5 [(0, .ref a0), (1, .int 1)] := hl
  refine lv_iconst (v := 0) hx hb dX12_wordsUpTo_0 (by decide) ?_
  refine lv_istore_n (lv' := [(2, .int 0), (0, .ref a0), (1, .int 1)]) hx hb dX12_wordsUpTo_1 rfl hl (by decide) rfl (fun ls hl => ?_)
  refine lv_iconst (v := 1) hx hb dX12_wordsUpTo_2 (by decide) ?_
  refine lv_istore_n (lv' := [(3, .int 1), (2, .int 0), (0, .ref a0), (1, .int 1)]) hx hb dX12_wordsUpTo_3 rfl hl (by decide) rfl (fun ls hl => ?_)
  refine lv_iconst (v := 0) hx hb dX12_wordsUpTo_4 (by decide) ?_
  refine lv_istore (lv' := [(4, .int 0), (3, .int 1), (2, .int 0), (0, .ref a0), (1, .int 1)]) hx hb dX12_wordsUpTo_5 hl (by decide) rfl (fun ls hl => ?_)
  refine lv_iload hx hb dX12_wordsUpTo_7 (lv_at hl 0 rfl) ?_
  refine lv_iload_n hx hb dX12_wordsUpTo_9 rfl (lv_at hl 4 rfl) ?_
  refine lv_icmp_ge (tgt := 32) hx hb dX12_wordsUpTo_10 (by decide) (fun c9 => absurd c9 (by decide)) (fun _ => ?_)
  refine lv_iload_n hx hb dX12_wordsUpTo_13 rfl (lv_at hl 1 rfl) ?_
  refine lv_aload_n hx hb dX12_wordsUpTo_14 rfl (lv_at hl 3 rfl) ?_
  refine va_get (D := (dC, dI)) (ci := 12) (v := .ref a1) (C := RX12) (T := TX12) (N := 56) hx hb hU inlX12 hown hK hP 0 rfl rfl 0 (by decide) (hU _ wd_169) (fun _ h9 => h9) rfl dX12_wordsUpTo_15 ?_
  refine lv_iconst (v := 0) hx hb dX12_wordsUpTo_18 (by decide) ?_
  refine va_iald hx hb hK hP 1 0 rfl rfl (vp_in_nI (n := 0) (by decide) (by decide)) dX12_wordsUpTo_19 ?_
  refine tk_topi (y := 0) (by decide) ?_
  refine lv_imul hx hb dX12_wordsUpTo_20 ?_
  refine tk_topi (y := 0) (by decide) ?_
  refine lv_istore_n (lv' := [(3, .int 0), (4, .int 0), (2, .int 0), (0, .ref a0), (1, .int 1)]) hx hb dX12_wordsUpTo_21 rfl hl (by decide) rfl (fun ls hl => ?_)
  refine lv_iload_n hx hb dX12_wordsUpTo_22 rfl (lv_at hl 2 rfl) ?_
  refine lv_iload_n hx hb dX12_wordsUpTo_23 rfl (lv_at hl 0 rfl) ?_
  refine lv_iadd hx hb dX12_wordsUpTo_24 ?_
  refine tk_topi (y := 0) (by decide) ?_
  refine lv_istore_n (lv' := [(2, .int 0), (3, .int 0), (4, .int 0), (0, .ref a0), (1, .int 1)]) hx hb dX12_wordsUpTo_25 rfl hl (by decide) rfl (fun ls hl => ?_)
  refine lv_iinc (v := 1) (lv' := [(4, .int 1), (2, .int 0), (3, .int 0), (0, .ref a0), (1, .int 1)]) hx hb dX12_wordsUpTo_26 hl (k := 2) rfl (by decide) (by decide) rfl (fun ls hl => ?_)
  refine lv_goto (tgt := 7) hx hb dX12_wordsUpTo_29 (by decide) ?_
  refine lv_iload hx hb dX12_wordsUpTo_7 (lv_at hl 0 rfl) ?_
  refine lv_iload_n hx hb dX12_wordsUpTo_9 rfl (lv_at hl 4 rfl) ?_
  refine lv_icmp_ge (tgt := 32) hx hb dX12_wordsUpTo_10 (by decide) (fun _ => ?_) (fun c9 => absurd (by decide) c9) 
  refine lv_iload_n hx hb dX12_wordsUpTo_32 rfl (lv_at hl 1 rfl) ?_
  have hP9 := hP.sub (ws' := [(a0, .inr (12, [.ref a1, .ref a2, .ref a3, .int 0, .ref a4, .int 0, .int 0, .int 0, .int 0, .int 0, .int (-1), .int 0, .int 0, .int 0, .int 0, .ref a5, .ref a6, .ref a7, .ref a8, .ref a9, .ref a10, .ref a11, .ref a12, .int 0, .int 0, .int 0, .int 0, .int 0, .ref a13, .int 0, .ref a14, .ref a15, .int 0, .int 0, .ref a16, .int 0, .ref a17, .ref a18, .int 0, .int (-1), .ref a19, .ref a20, .ref a21, .int 0, .ref a22, .ref a23, .ref a24, .ref a25, .ref a26, .ref a27, .ref a28, .ref a29, .ref a30, .int 0, .int 0, .ref a31])), (a1, .inl (cI, 1560, .inl w0))]) [0, 1] rfl
  have hD9 := hD.sub (ws' := [(a0, .inr (12, [.ref a1, .ref a2, .ref a3, .int 0, .ref a4, .int 0, .int 0, .int 0, .int 0, .int 0, .int (-1), .int 0, .int 0, .int 0, .int 0, .ref a5, .ref a6, .ref a7, .ref a8, .ref a9, .ref a10, .ref a11, .ref a12, .int 0, .int 0, .int 0, .int 0, .int 0, .ref a13, .int 0, .ref a14, .ref a15, .int 0, .int 0, .ref a16, .int 0, .ref a17, .ref a18, .int 0, .int (-1), .ref a19, .ref a20, .ref a21, .int 0, .ref a22, .ref a23, .ref a24, .ref a25, .ref a26, .ref a27, .ref a28, .ref a29, .ref a30, .int 0, .int 0, .ref a31])), (a1, .inl (cI, 1560, .inl w0))]) [0, 1] (by decide) rfl
  refine W.widen (k := 0) (n := 0) (Nat.le_of_ble_eq_true rfl) (Nat.le_of_ble_eq_true rfl) ?_
  exact W.iret (v := 0) hx hb hr (fun t ht hW => ⟨⟨0, [(a0, .inr (12, [.ref a1, .ref a2, .ref a3, .int 0, .ref a4, .int 0, .int 0, .int 0, .int 0, .int 0, .int (-1), .int 0, .int 0, .int 0, .int 0, .ref a5, .ref a6, .ref a7, .ref a8, .ref a9, .ref a10, .ref a11, .ref a12, .int 0, .int 0, .int 0, .int 0, .int 0, .ref a13, .int 0, .ref a14, .ref a15, .int 0, .int 0, .ref a16, .int 0, .ref a17, .ref a18, .int 0, .int (-1), .ref a19, .ref a20, .ref a21, .int 0, .ref a22, .ref a23, .ref a24, .ref a25, .ref a26, .ref a27, .ref a28, .ref a29, .ref a30, .int 0, .int 0, .ref a31])), (a1, .inl (cI, 1560, .inl w0))], rfl, ⟨rfl, rfl⟩, by rw [ht]; exact hP9, va_K.moved hW.alike hK, hD9⟩, hS.F ht⟩) hS.2.2 dX12_wordsUpTo_33
set_option maxHeartbeats 8000000 in
set_option maxRecDepth 100000 in
theorem cc_X12_agreeing_0 (l : Launch) (D : va_G) (cI cL cZ : ClassId) (sz : Nat) (a0 : Nat) (a1 : Nat) (a2 : Nat) (a3 : Nat) (a4 : Nat) (a5 : Nat) (a6 : Nat) (a7 : Nat) (a8 : Nat) (a9 : Nat) (a10 : Nat) (a11 : Nat) (a12 : Nat) (a13 : Nat) (a14 : Nat) (a15 : Nat) (a16 : Nat) (a17 : Nat) (a18 : Nat) (a19 : Nat) (a20 : Nat) (a21 : Nat) (a22 : Nat) (a23 : Nat) (a24 : Nat) (a25 : Nat) (a26 : Nat) (a27 : Nat) (a28 : Nat) (a29 : Nat) (a30 : Nat) (a31 : Nat) : mI l D cI cL cZ yX12_agreeing cX12_agreeing 6 (some .int) 0 0 0 0 [.ref a0, .int 0] sz [(a0, .inr (12, [.ref a1, .ref a2, .ref a3, .int 0, .ref a4, .int 0, .int 0, .int 0, .int 0, .int 0, .int (-1), .int 0, .int 0, .int 0, .int 0, .ref a5, .ref a6, .ref a7, .ref a8, .ref a9, .ref a10, .ref a11, .ref a12, .int 0, .int 0, .int 0, .int 0, .int 0, .ref a13, .int 0, .ref a14, .ref a15, .int 0, .int 0, .ref a16, .int 0, .ref a17, .ref a18, .int 0, .int (-1), .ref a19, .ref a20, .ref a21, .int 0, .ref a22, .ref a23, .ref a24, .ref a25, .ref a26, .ref a27, .ref a28, .ref a29, .ref a30, .int 0, .int (-1), .ref a31]))] (fun (r : Int32) (w1 : va_W) => r = 0 ∧ w1 = ([(a0, .inr (12, [.ref a1, .ref a2, .ref a3, .int 0, .ref a4, .int 0, .int 0, .int 0, .int 0, .int 0, .int (-1), .int 0, .int 0, .int 0, .int 0, .ref a5, .ref a6, .ref a7, .ref a8, .ref a9, .ref a10, .ref a11, .ref a12, .int 0, .int 0, .int 0, .int 0, .int 0, .ref a13, .int 0, .ref a14, .ref a15, .int 0, .int 0, .ref a16, .int 0, .ref a17, .ref a18, .int 0, .int (-1), .ref a19, .ref a20, .ref a21, .int 0, .ref a22, .ref a23, .ref a24, .ref a25, .ref a26, .ref a27, .ref a28, .ref a29, .ref a30, .int 0, .int (-1), .ref a31]))] : va_W)) := by
  obtain ⟨dC, dI⟩ := D
  refine Met.ofW (cc := cX12_agreeing) (maxL := 6) (ret := (some .int)) (by decide) rfl ?_
  intro p e s m args below meth c s₁ B hml hv
  obtain ⟨rfl, hsz, hP, hK, hD0, hN⟩ := hv
  have hx := B.exec
  have hb := B.bytes
  have hr := B.returns
  have hU : ∀ w ∈ wsU, w.before _ s = true := fun w h => atoms_spec (ws := wU yX12_agreeing cX12_agreeing 6 (some .int)) B.pre w (List.mem_cons_of_mem _ h)
  have hown : s.vm.findClass RX12 = some m.cls := findClass_of_methodNamed B.named
  have hlocks := B.notSynchronized
  subst hsz
  have hD := hD0.self (sz := s.heap.size)
  generalize hAe : va_A [(a0, .inr (12, [.ref a1, .ref a2, .ref a3, .int 0, .ref a4, .int 0, .int 0, .int 0, .int 0, .int 0, .int (-1), .int 0, .int 0, .int 0, .int 0, .ref a5, .ref a6, .ref a7, .ref a8, .ref a9, .ref a10, .ref a11, .ref a12, .int 0, .int 0, .int 0, .int 0, .int 0, .ref a13, .int 0, .ref a14, .ref a15, .int 0, .int 0, .ref a16, .int 0, .ref a17, .ref a18, .int 0, .int (-1), .ref a19, .ref a20, .ref a21, .int 0, .ref a22, .ref a23, .ref a24, .ref a25, .ref a26, .ref a27, .ref a28, .ref a29, .ref a30, .int 0, .int (-1), .ref a31]))] s.heap.size = A at hD ⊢
  have hA : ∀ q : Nat, s.heap.size ≤ q → A q := fun q h => by rw [← hAe]; exact Or.inr h
  have hS : va_S A s.heap s.heap [] := va_S.rf
  have hP : va_P (dC, dI) vwCl [(a0, .inr (12, [.ref a1, .ref a2, .ref a3, .int 0, .ref a4, .int 0, .int 0, .int 0, .int 0, .int 0, .int (-1), .int 0, .int 0, .int 0, .int 0, .ref a5, .ref a6, .ref a7, .ref a8, .ref a9, .ref a10, .ref a11, .ref a12, .int 0, .int 0, .int 0, .int 0, .int 0, .ref a13, .int 0, .ref a14, .ref a15, .int 0, .int 0, .ref a16, .int 0, .ref a17, .ref a18, .int 0, .int (-1), .ref a19, .ref a20, .ref a21, .int 0, .ref a22, .ref a23, .ref a24, .ref a25, .ref a26, .ref a27, .ref a28, .ref a29, .ref a30, .int 0, .int (-1), .ref a31]))] s.heap := hP
  have hl := lv_entry ([.ref a0, .int 0]) (n := 6) (Nat.le_of_ble_eq_true rfl)
  rw [lg_entry_eq]
  generalize (lg_sl ([.ref a0, .int 0]) ++ List.replicate (6 - (lg_sl ([.ref a0, .int 0])).length) Slot.unset).toArray = ls at hl ⊢
  have hl : lv_has ls 6 [(0, .ref a0), (1, .int 0)] := hl
  refine lv_iconst (v := 0) hx hb dX12_agreeing_0 (by decide) ?_
  refine lv_istore_n (lv' := [(2, .int 0), (0, .ref a0), (1, .int 0)]) hx hb dX12_agreeing_1 rfl hl (by decide) rfl (fun ls hl => ?_)
  refine lv_iconst (v := 0) hx hb dX12_agreeing_2 (by decide) ?_
  refine lv_istore_n (lv' := [(3, .int 0), (2, .int 0), (0, .ref a0), (1, .int 0)]) hx hb dX12_agreeing_3 rfl hl (by decide) rfl (fun ls hl => ?_)
  refine lv_iload_n hx hb dX12_agreeing_4 rfl (lv_at hl 0 rfl) ?_
  refine lv_iload_n hx hb dX12_agreeing_5 rfl (lv_at hl 3 rfl) ?_
  refine lv_icmp_ge (tgt := 145) hx hb dX12_agreeing_6 (by decide) (fun _ => ?_) (fun c9 => absurd (by decide) c9) 
  refine lv_iload_n hx hb dX12_agreeing_145 rfl (lv_at hl 1 rfl) ?_
  have hP9 := hP.sub (ws' := [(a0, .inr (12, [.ref a1, .ref a2, .ref a3, .int 0, .ref a4, .int 0, .int 0, .int 0, .int 0, .int 0, .int (-1), .int 0, .int 0, .int 0, .int 0, .ref a5, .ref a6, .ref a7, .ref a8, .ref a9, .ref a10, .ref a11, .ref a12, .int 0, .int 0, .int 0, .int 0, .int 0, .ref a13, .int 0, .ref a14, .ref a15, .int 0, .int 0, .ref a16, .int 0, .ref a17, .ref a18, .int 0, .int (-1), .ref a19, .ref a20, .ref a21, .int 0, .ref a22, .ref a23, .ref a24, .ref a25, .ref a26, .ref a27, .ref a28, .ref a29, .ref a30, .int 0, .int (-1), .ref a31]))]) [0] rfl
  have hD9 := hD.sub (ws' := [(a0, .inr (12, [.ref a1, .ref a2, .ref a3, .int 0, .ref a4, .int 0, .int 0, .int 0, .int 0, .int 0, .int (-1), .int 0, .int 0, .int 0, .int 0, .ref a5, .ref a6, .ref a7, .ref a8, .ref a9, .ref a10, .ref a11, .ref a12, .int 0, .int 0, .int 0, .int 0, .int 0, .ref a13, .int 0, .ref a14, .ref a15, .int 0, .int 0, .ref a16, .int 0, .ref a17, .ref a18, .int 0, .int (-1), .ref a19, .ref a20, .ref a21, .int 0, .ref a22, .ref a23, .ref a24, .ref a25, .ref a26, .ref a27, .ref a28, .ref a29, .ref a30, .int 0, .int (-1), .ref a31]))]) [0] (by decide) rfl
  refine W.widen (k := 0) (n := 0) (Nat.le_of_ble_eq_true rfl) (Nat.le_of_ble_eq_true rfl) ?_
  exact W.iret (v := 0) hx hb hr (fun t ht hW => ⟨⟨0, [(a0, .inr (12, [.ref a1, .ref a2, .ref a3, .int 0, .ref a4, .int 0, .int 0, .int 0, .int 0, .int 0, .int (-1), .int 0, .int 0, .int 0, .int 0, .ref a5, .ref a6, .ref a7, .ref a8, .ref a9, .ref a10, .ref a11, .ref a12, .int 0, .int 0, .int 0, .int 0, .int 0, .ref a13, .int 0, .ref a14, .ref a15, .int 0, .int 0, .ref a16, .int 0, .ref a17, .ref a18, .int 0, .int (-1), .ref a19, .ref a20, .ref a21, .int 0, .ref a22, .ref a23, .ref a24, .ref a25, .ref a26, .ref a27, .ref a28, .ref a29, .ref a30, .int 0, .int (-1), .ref a31]))], rfl, ⟨rfl, rfl⟩, by rw [ht]; exact hP9, va_K.moved hW.alike hK, hD9⟩, hS.F ht⟩) hS.2.2 dX12_agreeing_146
set_option maxHeartbeats 8000000 in
set_option maxRecDepth 100000 in
theorem cc_X12_triesOrders_0 (l : Launch) (D : va_G) (cI cL cZ : ClassId) (sz : Nat) (a0 : Nat) (a1 : Nat) (a2 : Nat) (a3 : Nat) (a4 : Nat) (a5 : Nat) (a6 : Nat) (a7 : Nat) (a8 : Nat) (a9 : Nat) (a10 : Nat) (a11 : Nat) (a12 : Nat) (a13 : Nat) (a14 : Nat) (a15 : Nat) (a16 : Nat) (a17 : Nat) (a18 : Nat) (a19 : Nat) (a20 : Nat) (a21 : Nat) (a22 : Nat) (a23 : Nat) (a24 : Nat) (a25 : Nat) (a26 : Nat) (a27 : Nat) (a28 : Nat) (a29 : Nat) (a30 : Nat) (a31 : Nat) : mV l D cI cL cZ yX12_triesOrders cX12_triesOrders 5 none 1 25 0 0 [.ref a0, .int 0, .int 0] sz [(a0, .inr (12, [.ref a1, .ref a2, .ref a3, .int 0, .ref a4, .int 0, .int 0, .int 0, .int 0, .int 0, .int (-1), .int 0, .int 0, .int 0, .int 0, .ref a5, .ref a6, .ref a7, .ref a8, .ref a9, .ref a10, .ref a11, .ref a12, .int 0, .int 0, .int 0, .int 0, .int 0, .ref a13, .int 0, .ref a14, .ref a15, .int 0, .int 0, .ref a16, .int 0, .ref a17, .ref a18, .int 0, .int (-1), .ref a19, .ref a20, .ref a21, .int 0, .ref a22, .ref a23, .ref a24, .ref a25, .ref a26, .ref a27, .ref a28, .ref a29, .ref a30, .int 0, .int (-1), .ref a31]))] (fun (w1 : va_W) => w1 = ([(a0, .inr (12, [.ref a1, .ref a2, .ref a3, .int 0, .ref a4, .int 0, .int 0, .int 0, .int 0, .int 0, .int (-1), .int 0, .int 0, .int 0, .int 0, .ref a5, .ref a6, .ref a7, .ref a8, .ref a9, .ref a10, .ref a11, .ref a12, .int 0, .int 0, .int 0, .int 0, .int 0, .ref a13, .int 0, .ref a14, .ref a15, .int 0, .int 0, .ref a16, .int 0, .ref a17, .ref a18, .int 0, .int (-1), .ref a19, .ref a20, .ref a21, .int 0, .ref a22, .ref a23, .ref a24, .ref a25, .ref a26, .ref a27, .ref a28, .ref a29, .ref a30, .int 0, .int 0, .ref a31]))] : va_W)) := by
  obtain ⟨dC, dI⟩ := D
  refine Met.ofW (cc := cX12_triesOrders) (maxL := 5) (ret := none) (by decide) rfl ?_
  intro p e s m args below meth c s₁ B hml hv
  obtain ⟨rfl, hsz, hP, hK, hD0, hN⟩ := hv
  have hx := B.exec
  have hb := B.bytes
  have hr := B.returns
  have hU : ∀ w ∈ wsU, w.before _ s = true := fun w h => atoms_spec (ws := wU yX12_triesOrders cX12_triesOrders 5 none) B.pre w (List.mem_cons_of_mem _ h)
  have hown : s.vm.findClass RX12 = some m.cls := findClass_of_methodNamed B.named
  have hlocks := B.notSynchronized
  subst hsz
  have hD := hD0.self (sz := s.heap.size)
  generalize hAe : va_A [(a0, .inr (12, [.ref a1, .ref a2, .ref a3, .int 0, .ref a4, .int 0, .int 0, .int 0, .int 0, .int 0, .int (-1), .int 0, .int 0, .int 0, .int 0, .ref a5, .ref a6, .ref a7, .ref a8, .ref a9, .ref a10, .ref a11, .ref a12, .int 0, .int 0, .int 0, .int 0, .int 0, .ref a13, .int 0, .ref a14, .ref a15, .int 0, .int 0, .ref a16, .int 0, .ref a17, .ref a18, .int 0, .int (-1), .ref a19, .ref a20, .ref a21, .int 0, .ref a22, .ref a23, .ref a24, .ref a25, .ref a26, .ref a27, .ref a28, .ref a29, .ref a30, .int 0, .int (-1), .ref a31]))] s.heap.size = A at hD ⊢
  have hA : ∀ q : Nat, s.heap.size ≤ q → A q := fun q h => by rw [← hAe]; exact Or.inr h
  have hS : va_S A s.heap s.heap [] := va_S.rf
  have hP : va_P (dC, dI) vwCl [(a0, .inr (12, [.ref a1, .ref a2, .ref a3, .int 0, .ref a4, .int 0, .int 0, .int 0, .int 0, .int 0, .int (-1), .int 0, .int 0, .int 0, .int 0, .ref a5, .ref a6, .ref a7, .ref a8, .ref a9, .ref a10, .ref a11, .ref a12, .int 0, .int 0, .int 0, .int 0, .int 0, .ref a13, .int 0, .ref a14, .ref a15, .int 0, .int 0, .ref a16, .int 0, .ref a17, .ref a18, .int 0, .int (-1), .ref a19, .ref a20, .ref a21, .int 0, .ref a22, .ref a23, .ref a24, .ref a25, .ref a26, .ref a27, .ref a28, .ref a29, .ref a30, .int 0, .int (-1), .ref a31]))] s.heap := hP
  have hl := lv_entry ([.ref a0, .int 0, .int 0]) (n := 5) (Nat.le_of_ble_eq_true rfl)
  rw [lg_entry_eq]
  generalize (lg_sl ([.ref a0, .int 0, .int 0]) ++ List.replicate (5 - (lg_sl ([.ref a0, .int 0, .int 0])).length) Slot.unset).toArray = ls at hl ⊢
  have hl : lv_has ls 5 [(0, .ref a0), (1, .int 0), (2, .int 0)] := hl
  refine lv_iload_n hx hb dX12_triesOrders_0 rfl (lv_at hl 1 rfl) ?_
  refine lv_aload_n hx hb dX12_triesOrders_1 rfl (lv_at hl 0 rfl) ?_
  refine va_get (D := (dC, dI)) (ci := 12) (v := .int 0) (C := RX12) (T := TX12) (N := 56) hx hb hU inlX12 hown hK hP 0 rfl rfl 53 (by decide) (hU _ wd_1241) (fun _ h9 => h9) rfl dX12_triesOrders_2 ?_
  refine lv_icmp_ne (tgt := 61) hx hb dX12_triesOrders_5 (by decide) (fun c9 => absurd (by decide) c9) (fun _ => ?_)
  refine lv_aload_n hx hb dX12_triesOrders_8 rfl (lv_at hl 0 rfl) ?_
  refine lv_iload_n hx hb dX12_triesOrders_9 rfl (lv_at hl 2 rfl) ?_
  refine tk_ri (wr := []) (tk_V (As := [.int 0]) (rest := []) (n := 1) hx hb hml hown hU hN (cc_X12_agreeing_0 l (dC, dI) cI cL cZ s.heap.size a0 a1 a2 a3 a4 a5 a6 a7 a8 a9 a10 a11 a12 a13 a14 a15 a16 a17 a18 a19 a20 a21 a22 a23 a24 a25 a26 a27 a28 a29 a30 a31) wd_1251 wd_1252 wd_1253 wd_5 wd_1254 (by decide +kernel) ⟨Nat.le_of_ble_eq_true rfl, Nat.le_of_ble_eq_true rfl⟩ hK hP hD [0] (by decide) rfl 0 12 rfl rfl rfl rfl hl.1 rfl (Nat.le_of_ble_eq_true rfl) dX12_triesOrders_10 ⟨Nat.le_of_ble_eq_true rfl, Nat.le_of_ble_eq_true rfl⟩) hP hD hS hA [0] [] rfl rfl (by decide) (by decide) (fun r_1 w_2 H locs hw hP hD hS => ?_)
  obtain ⟨rfl, rfl⟩ := hw
  have hP : va_P (dC, dI) vwCl [(a0, .inr (12, [.ref a1, .ref a2, .ref a3, .int 0, .ref a4, .int 0, .int 0, .int 0, .int 0, .int 0, .int (-1), .int 0, .int 0, .int 0, .int 0, .ref a5, .ref a6, .ref a7, .ref a8, .ref a9, .ref a10, .ref a11, .ref a12, .int 0, .int 0, .int 0, .int 0, .int 0, .ref a13, .int 0, .ref a14, .ref a15, .int 0, .int 0, .ref a16, .int 0, .ref a17, .ref a18, .int 0, .int (-1), .ref a19, .ref a20, .ref a21, .int 0, .ref a22, .ref a23, .ref a24, .ref a25, .ref a26, .ref a27, .ref a28, .ref a29, .ref a30, .int 0, .int (-1), .ref a31]))] H := hP
  have hD : va_D A [(a0, .inr (12, [.ref a1, .ref a2, .ref a3, .int 0, .ref a4, .int 0, .int 0, .int 0, .int 0, .int 0, .int (-1), .int 0, .int 0, .int 0, .int 0, .ref a5, .ref a6, .ref a7, .ref a8, .ref a9, .ref a10, .ref a11, .ref a12, .int 0, .int 0, .int 0, .int 0, .int 0, .ref a13, .int 0, .ref a14, .ref a15, .int 0, .int 0, .ref a16, .int 0, .ref a17, .ref a18, .int 0, .int (-1), .ref a19, .ref a20, .ref a21, .int 0, .ref a22, .ref a23, .ref a24, .ref a25, .ref a26, .ref a27, .ref a28, .ref a29, .ref a30, .int 0, .int (-1), .ref a31]))] := hD
  refine lv_istore_n (lv' := [(3, .int 0), (0, .ref a0), (1, .int 0), (2, .int 0)]) hx hb dX12_triesOrders_13 rfl hl (by decide) rfl (fun ls hl => ?_)
  refine lv_iload_n hx hb dX12_triesOrders_14 rfl (lv_at hl 0 rfl) ?_
  refine lv_aload_n hx hb dX12_triesOrders_15 rfl (lv_at hl 1 rfl) ?_
  refine va_get (D := (dC, dI)) (ci := 12) (v := .int (-1)) (C := RX12) (T := TX12) (N := 56) hx hb hU inlX12 hown hK hP 0 rfl rfl 54 (by decide) (hU _ wd_1242) (fun _ h9 => h9) rfl dX12_triesOrders_16 ?_
  refine lv_icmp_gt (tgt := 23) hx hb dX12_triesOrders_19 (by decide) (fun _ => ?_) (fun c9 => absurd (by decide) c9) 
  refine lv_aload_n hx hb dX12_triesOrders_23 rfl (lv_at hl 1 rfl) ?_
  refine lv_iload_n hx hb dX12_triesOrders_24 rfl (lv_at hl 0 rfl) ?_
  refine va_put (D := (dC, dI)) (ci := 12) (v := .int 0) (ty := .int) (C := RX12) (T := TX12) (N := 56) hx hb hU inlX12 tyX12 tyX12_ok nmX12 hown hK hP hD hS 0 rfl rfl 54 (by decide) (hU _ wd_1242) (fun _ h9 => h9) rfl (by decide +kernel) rfl rfl (Nat.le_of_ble_eq_true rfl) dX12_triesOrders_25 (fun H locs hP hD hS => ?_)
  have hP : va_P (dC, dI) vwCl [(a0, .inr (12, [.ref a1, .ref a2, .ref a3, .int 0, .ref a4, .int 0, .int 0, .int 0, .int 0, .int 0, .int (-1), .int 0, .int 0, .int 0, .int 0, .ref a5, .ref a6, .ref a7, .ref a8, .ref a9, .ref a10, .ref a11, .ref a12, .int 0, .int 0, .int 0, .int 0, .int 0, .ref a13, .int 0, .ref a14, .ref a15, .int 0, .int 0, .ref a16, .int 0, .ref a17, .ref a18, .int 0, .int (-1), .ref a19, .ref a20, .ref a21, .int 0, .ref a22, .ref a23, .ref a24, .ref a25, .ref a26, .ref a27, .ref a28, .ref a29, .ref a30, .int 0, .int 0, .ref a31]))] H := hP
  have hD : va_D A [(a0, .inr (12, [.ref a1, .ref a2, .ref a3, .int 0, .ref a4, .int 0, .int 0, .int 0, .int 0, .int 0, .int (-1), .int 0, .int 0, .int 0, .int 0, .ref a5, .ref a6, .ref a7, .ref a8, .ref a9, .ref a10, .ref a11, .ref a12, .int 0, .int 0, .int 0, .int 0, .int 0, .ref a13, .int 0, .ref a14, .ref a15, .int 0, .int 0, .ref a16, .int 0, .ref a17, .ref a18, .int 0, .int (-1), .ref a19, .ref a20, .ref a21, .int 0, .ref a22, .ref a23, .ref a24, .ref a25, .ref a26, .ref a27, .ref a28, .ref a29, .ref a30, .int 0, .int 0, .ref a31]))] := hD
  refine lv_iconst (v := 0) hx hb dX12_triesOrders_28 (by decide) ?_
  refine lv_istore (lv' := [(4, .int 0), (3, .int 0), (0, .ref a0), (1, .int 0), (2, .int 0)]) hx hb dX12_triesOrders_29 hl (by decide) rfl (fun ls hl => ?_)
  refine lv_iload hx hb dX12_triesOrders_31 (lv_at hl 0 rfl) ?_
  refine lv_aload_n hx hb dX12_triesOrders_33 rfl (lv_at hl 2 rfl) ?_
  refine va_get (D := (dC, dI)) (ci := 12) (v := .int 0) (C := RX12) (T := TX12) (N := 56) hx hb hU inlX12 hown hK hP 0 rfl rfl 53 (by decide) (hU _ wd_1241) (fun _ h9 => h9) rfl dX12_triesOrders_34 ?_
  refine lv_icmp_ge (tgt := 60) hx hb dX12_triesOrders_37 (by decide) (fun _ => ?_) (fun c9 => absurd (by decide) c9) 
  have hP9 := hP.sub (ws' := [(a0, .inr (12, [.ref a1, .ref a2, .ref a3, .int 0, .ref a4, .int 0, .int 0, .int 0, .int 0, .int 0, .int (-1), .int 0, .int 0, .int 0, .int 0, .ref a5, .ref a6, .ref a7, .ref a8, .ref a9, .ref a10, .ref a11, .ref a12, .int 0, .int 0, .int 0, .int 0, .int 0, .ref a13, .int 0, .ref a14, .ref a15, .int 0, .int 0, .ref a16, .int 0, .ref a17, .ref a18, .int 0, .int (-1), .ref a19, .ref a20, .ref a21, .int 0, .ref a22, .ref a23, .ref a24, .ref a25, .ref a26, .ref a27, .ref a28, .ref a29, .ref a30, .int 0, .int 0, .ref a31]))]) [0] rfl
  have hD9 := hD.sub (ws' := [(a0, .inr (12, [.ref a1, .ref a2, .ref a3, .int 0, .ref a4, .int 0, .int 0, .int 0, .int 0, .int 0, .int (-1), .int 0, .int 0, .int 0, .int 0, .ref a5, .ref a6, .ref a7, .ref a8, .ref a9, .ref a10, .ref a11, .ref a12, .int 0, .int 0, .int 0, .int 0, .int 0, .ref a13, .int 0, .ref a14, .ref a15, .int 0, .int 0, .ref a16, .int 0, .ref a17, .ref a18, .int 0, .int (-1), .ref a19, .ref a20, .ref a21, .int 0, .ref a22, .ref a23, .ref a24, .ref a25, .ref a26, .ref a27, .ref a28, .ref a29, .ref a30, .int 0, .int 0, .ref a31]))]) [0] (by decide) rfl
  refine W.widen (k := 0) (n := 0) (Nat.le_of_ble_eq_true rfl) (Nat.le_of_ble_eq_true rfl) ?_
  exact W.vret hx hb hr (fun t ht hW => ⟨⟨[(a0, .inr (12, [.ref a1, .ref a2, .ref a3, .int 0, .ref a4, .int 0, .int 0, .int 0, .int 0, .int 0, .int (-1), .int 0, .int 0, .int 0, .int 0, .ref a5, .ref a6, .ref a7, .ref a8, .ref a9, .ref a10, .ref a11, .ref a12, .int 0, .int 0, .int 0, .int 0, .int 0, .ref a13, .int 0, .ref a14, .ref a15, .int 0, .int 0, .ref a16, .int 0, .ref a17, .ref a18, .int 0, .int (-1), .ref a19, .ref a20, .ref a21, .int 0, .ref a22, .ref a23, .ref a24, .ref a25, .ref a26, .ref a27, .ref a28, .ref a29, .ref a30, .int 0, .int 0, .ref a31]))], rfl, rfl, by rw [ht]; exact hP9, va_K.moved hW.alike hK, hD9⟩, hS.F ht⟩) hS.2.2 dX12_triesOrders_60
set_option maxHeartbeats 8000000 in
set_option maxRecDepth 100000 in
theorem cc_X12_isIn_9 (l : Launch) (D : va_G) (cI cL cZ : ClassId) (sz : Nat) (x0 : Int32) : mI l D cI cL cZ yX12_isIn cX12_isIn 3 (some .boolean) 0 0 0 0 [.int x0, .int 10, .int 9] sz [] (fun (r : Int32) (w1 : va_W) => r = 0 ∧ w1 = ([] : va_W)) := by
  obtain ⟨dC, dI⟩ := D
  refine Met.ofW (cc := cX12_isIn) (maxL := 3) (ret := (some .boolean)) (by decide) rfl ?_
  intro p e s m args below meth c s₁ B hml hv
  obtain ⟨rfl, hsz, hP, hK, hD0, hN⟩ := hv
  have hx := B.exec
  have hb := B.bytes
  have hr := B.returns
  have hU : ∀ w ∈ wsU, w.before _ s = true := fun w h => atoms_spec (ws := wU yX12_isIn cX12_isIn 3 (some .boolean)) B.pre w (List.mem_cons_of_mem _ h)
  have hown : s.vm.findClass RX12 = some m.cls := findClass_of_methodNamed B.named
  have hlocks := B.notSynchronized
  subst hsz
  have hD := hD0.self (sz := s.heap.size)
  generalize hAe : va_A [] s.heap.size = A at hD ⊢
  have hA : ∀ q : Nat, s.heap.size ≤ q → A q := fun q h => by rw [← hAe]; exact Or.inr h
  have hS : va_S A s.heap s.heap [] := va_S.rf
  have hP : va_P (dC, dI) vwCl [] s.heap := hP
  have hl := lv_entry ([.int x0, .int 10, .int 9]) (n := 3) (Nat.le_of_ble_eq_true rfl)
  rw [lg_entry_eq]
  generalize (lg_sl ([.int x0, .int 10, .int 9]) ++ List.replicate (3 - (lg_sl ([.int x0, .int 10, .int 9])).length) Slot.unset).toArray = ls at hl ⊢
  have hl : lv_has ls 3 [(0, .int x0), (1, .int 10), (2, .int 9)] := hl
  refine lv_iload_n hx hb dX12_isIn_0 rfl (lv_at hl 0 rfl) ?_
  refine lv_iload_n hx hb dX12_isIn_1 rfl (lv_at hl 1 rfl) ?_
  refine lv_icmp_lt (tgt := 14) hx hb dX12_isIn_2 (by decide) (fun c_1 => ?_) (fun c_1 => ?_)
  · skip
    refine lv_iconst (v := 0) hx hb dX12_isIn_14 (by decide) ?_
    have hP9 := hP.sub (ws' := []) [] rfl
    have hD9 := hD.sub (ws' := []) [] (by decide) rfl
    refine W.widen (k := 0) (n := 0) (Nat.le_of_ble_eq_true rfl) (Nat.le_of_ble_eq_true rfl) ?_
    exact W.zret (v := 0) (ty := .boolean) hx hb hr rfl (fun t ht hW => ⟨⟨0, [], rfl, ⟨rfl, rfl⟩, by rw [ht]; exact hP9, va_K.moved hW.alike hK, hD9⟩, hS.F ht⟩) hS.2.2 dX12_isIn_15
  · skip
    refine lv_iload_n hx hb dX12_isIn_5 rfl (lv_at hl 0 rfl) ?_
    refine lv_iload_n hx hb dX12_isIn_6 rfl (lv_at hl 2 rfl) ?_
    refine lv_icmp_gt (tgt := 14) hx hb dX12_isIn_7 (by decide) (fun c_2 => ?_) (fun c_2 => ?_)
    · skip
      refine lv_iconst (v := 0) hx hb dX12_isIn_14 (by decide) ?_
      have hP9 := hP.sub (ws' := []) [] rfl
      have hD9 := hD.sub (ws' := []) [] (by decide) rfl
      refine W.widen (k := 0) (n := 0) (Nat.le_of_ble_eq_true rfl) (Nat.le_of_ble_eq_true rfl) ?_
      exact W.zret (v := 0) (ty := .boolean) hx hb hr rfl (fun t ht hW => ⟨⟨0, [], rfl, ⟨rfl, rfl⟩, by rw [ht]; exact hP9, va_K.moved hW.alike hK, hD9⟩, hS.F ht⟩) hS.2.2 dX12_isIn_15
    · skip
      exfalso
      simp only [Int32.lt_iff_toInt_lt, Int32.le_iff_toInt_le, ← Int32.toInt_inj, ti_0, ti_9, ti_10] at c_1 c_2
      omega
set_option maxHeartbeats 8000000 in
set_option maxRecDepth 100000 in
theorem cc_X12_isIn_10 (l : Launch) (D : va_G) (cI cL cZ : ClassId) (sz : Nat)  : mI l D cI cL cZ yX12_isIn cX12_isIn 3 (some .boolean) 0 0 0 0 [.int 2, .int 1, .int 2] sz [] (fun (r : Int32) (w1 : va_W) => r = 1 ∧ w1 = ([] : va_W)) := by
  obtain ⟨dC, dI⟩ := D
  refine Met.ofW (cc := cX12_isIn) (maxL := 3) (ret := (some .boolean)) (by decide) rfl ?_
  intro p e s m args below meth c s₁ B hml hv
  obtain ⟨rfl, hsz, hP, hK, hD0, hN⟩ := hv
  have hx := B.exec
  have hb := B.bytes
  have hr := B.returns
  have hU : ∀ w ∈ wsU, w.before _ s = true := fun w h => atoms_spec (ws := wU yX12_isIn cX12_isIn 3 (some .boolean)) B.pre w (List.mem_cons_of_mem _ h)
  have hown : s.vm.findClass RX12 = some m.cls := findClass_of_methodNamed B.named
  have hlocks := B.notSynchronized
  subst hsz
  have hD := hD0.self (sz := s.heap.size)
  generalize hAe : va_A [] s.heap.size = A at hD ⊢
  have hA : ∀ q : Nat, s.heap.size ≤ q → A q := fun q h => by rw [← hAe]; exact Or.inr h
  have hS : va_S A s.heap s.heap [] := va_S.rf
  have hP : va_P (dC, dI) vwCl [] s.heap := hP
  have hl := lv_entry ([.int 2, .int 1, .int 2]) (n := 3) (Nat.le_of_ble_eq_true rfl)
  rw [lg_entry_eq]
  generalize (lg_sl ([.int 2, .int 1, .int 2]) ++ List.replicate (3 - (lg_sl ([.int 2, .int 1, .int 2])).length) Slot.unset).toArray = ls at hl ⊢
  have hl : lv_has ls 3 [(0, .int 2), (1, .int 1), (2, .int 2)] := hl
  refine lv_iload_n hx hb dX12_isIn_0 rfl (lv_at hl 0 rfl) ?_
  refine lv_iload_n hx hb dX12_isIn_1 rfl (lv_at hl 1 rfl) ?_
  refine lv_icmp_lt (tgt := 14) hx hb dX12_isIn_2 (by decide) (fun c9 => absurd c9 (by decide)) (fun _ => ?_)
  refine lv_iload_n hx hb dX12_isIn_5 rfl (lv_at hl 0 rfl) ?_
  refine lv_iload_n hx hb dX12_isIn_6 rfl (lv_at hl 2 rfl) ?_
  refine lv_icmp_gt (tgt := 14) hx hb dX12_isIn_7 (by decide) (fun c9 => absurd c9 (by decide)) (fun _ => ?_)
  refine lv_iconst (v := 1) hx hb dX12_isIn_10 (by decide) ?_
  refine lv_goto (tgt := 15) hx hb dX12_isIn_11 (by decide) ?_
  have hP9 := hP.sub (ws' := []) [] rfl
  have hD9 := hD.sub (ws' := []) [] (by decide) rfl
  refine W.widen (k := 0) (n := 0) (Nat.le_of_ble_eq_true rfl) (Nat.le_of_ble_eq_true rfl) ?_
  exact W.zret (v := 1) (ty := .boolean) hx hb hr rfl (fun t ht hW => ⟨⟨1, [], rfl, ⟨rfl, rfl⟩, by rw [ht]; exact hP9, va_K.moved hW.alike hK, hD9⟩, hS.F ht⟩) hS.2.2 dX12_isIn_15
set_option maxHeartbeats 8000000 in
set_option maxRecDepth 100000 in
theorem cc_X12_wordsUpTo_1 (l : Launch) (D : va_G) (cI cL cZ : ClassId) (sz : Nat) (a0 : Nat) (a1 : Nat) (a2 : Nat) (a3 : Nat) (a4 : Nat) (a5 : Nat) (a6 : Nat) (a7 : Nat) (a8 : Nat) (a9 : Nat) (a10 : Nat) (a11 : Nat) (a12 : Nat) (a13 : Nat) (a14 : Nat) (a15 : Nat) (a16 : Nat) (a17 : Nat) (a18 : Nat) (a19 : Nat) (a20 : Nat) (a21 : Nat) (a22 : Nat) (a23 : Nat) (a24 : Nat) (a25 : Nat) (a26 : Nat) (a27 : Nat) (a28 : Nat) (a29 : Nat) (a30 : Nat) (a31 : Nat) : mI l D cI cL cZ yX12_wordsUpTo cX12_wordsUpTo 5 (some .int) 0 0 0 0 [.ref a0, .int 2] sz [(a0, .inr (12, [.ref a1, .ref a2, .ref a3, .int 0, .ref a4, .int 0, .int 0, .int 0, .int 0, .int 0, .int (-1), .int 0, .int 0, .int 0, .int 0, .ref a5, .ref a6, .ref a7, .ref a8, .ref a9, .ref a10, .ref a11, .ref a12, .int 0, .int 0, .int 0, .int 0, .int 0, .ref a13, .int 0, .ref a14, .ref a15, .int 0, .int 0, .ref a16, .int 0, .ref a17, .ref a18, .int 0, .int (-1), .ref a19, .ref a20, .ref a21, .int 0, .ref a22, .ref a23, .ref a24, .ref a25, .ref a26, .ref a27, .ref a28, .ref a29, .ref a30, .int 0, .int 0, .ref a31])), (a1, .inl (cI, 1560, .inl w0))] (fun (r : Int32) (w1 : va_W) => r = 0 ∧ w1 = ([(a0, .inr (12, [.ref a1, .ref a2, .ref a3, .int 0, .ref a4, .int 0, .int 0, .int 0, .int 0, .int 0, .int (-1), .int 0, .int 0, .int 0, .int 0, .ref a5, .ref a6, .ref a7, .ref a8, .ref a9, .ref a10, .ref a11, .ref a12, .int 0, .int 0, .int 0, .int 0, .int 0, .ref a13, .int 0, .ref a14, .ref a15, .int 0, .int 0, .ref a16, .int 0, .ref a17, .ref a18, .int 0, .int (-1), .ref a19, .ref a20, .ref a21, .int 0, .ref a22, .ref a23, .ref a24, .ref a25, .ref a26, .ref a27, .ref a28, .ref a29, .ref a30, .int 0, .int 0, .ref a31])), (a1, .inl (cI, 1560, .inl w0))] : va_W)) := by
  obtain ⟨dC, dI⟩ := D
  refine Met.ofW (cc := cX12_wordsUpTo) (maxL := 5) (ret := (some .int)) (by decide) rfl ?_
  intro p e s m args below meth c s₁ B hml hv
  obtain ⟨rfl, hsz, hP, hK, hD0, hN⟩ := hv
  have hx := B.exec
  have hb := B.bytes
  have hr := B.returns
  have hU : ∀ w ∈ wsU, w.before _ s = true := fun w h => atoms_spec (ws := wU yX12_wordsUpTo cX12_wordsUpTo 5 (some .int)) B.pre w (List.mem_cons_of_mem _ h)
  have hown : s.vm.findClass RX12 = some m.cls := findClass_of_methodNamed B.named
  have hlocks := B.notSynchronized
  subst hsz
  have hD := hD0.self (sz := s.heap.size)
  generalize hAe : va_A [(a0, .inr (12, [.ref a1, .ref a2, .ref a3, .int 0, .ref a4, .int 0, .int 0, .int 0, .int 0, .int 0, .int (-1), .int 0, .int 0, .int 0, .int 0, .ref a5, .ref a6, .ref a7, .ref a8, .ref a9, .ref a10, .ref a11, .ref a12, .int 0, .int 0, .int 0, .int 0, .int 0, .ref a13, .int 0, .ref a14, .ref a15, .int 0, .int 0, .ref a16, .int 0, .ref a17, .ref a18, .int 0, .int (-1), .ref a19, .ref a20, .ref a21, .int 0, .ref a22, .ref a23, .ref a24, .ref a25, .ref a26, .ref a27, .ref a28, .ref a29, .ref a30, .int 0, .int 0, .ref a31])), (a1, .inl (cI, 1560, .inl w0))] s.heap.size = A at hD ⊢
  have hA : ∀ q : Nat, s.heap.size ≤ q → A q := fun q h => by rw [← hAe]; exact Or.inr h
  have hS : va_S A s.heap s.heap [] := va_S.rf
  have hP : va_P (dC, dI) vwCl [(a0, .inr (12, [.ref a1, .ref a2, .ref a3, .int 0, .ref a4, .int 0, .int 0, .int 0, .int 0, .int 0, .int (-1), .int 0, .int 0, .int 0, .int 0, .ref a5, .ref a6, .ref a7, .ref a8, .ref a9, .ref a10, .ref a11, .ref a12, .int 0, .int 0, .int 0, .int 0, .int 0, .ref a13, .int 0, .ref a14, .ref a15, .int 0, .int 0, .ref a16, .int 0, .ref a17, .ref a18, .int 0, .int (-1), .ref a19, .ref a20, .ref a21, .int 0, .ref a22, .ref a23, .ref a24, .ref a25, .ref a26, .ref a27, .ref a28, .ref a29, .ref a30, .int 0, .int 0, .ref a31])), (a1, .inl (cI, 1560, .inl w0))] s.heap := hP
  have hl := lv_entry ([.ref a0, .int 2]) (n := 5) (Nat.le_of_ble_eq_true rfl)
  rw [lg_entry_eq]
  generalize (lg_sl ([.ref a0, .int 2]) ++ List.replicate (5 - (lg_sl ([.ref a0, .int 2])).length) Slot.unset).toArray = ls at hl ⊢
  have hl : lv_has ls 5 [(0, .ref a0), (1, .int 2)] := hl
  refine lv_iconst (v := 0) hx hb dX12_wordsUpTo_0 (by decide) ?_
  refine lv_istore_n (lv' := [(2, .int 0), (0, .ref a0), (1, .int 2)]) hx hb dX12_wordsUpTo_1 rfl hl (by decide) rfl (fun ls hl => ?_)
  refine lv_iconst (v := 1) hx hb dX12_wordsUpTo_2 (by decide) ?_
  refine lv_istore_n (lv' := [(3, .int 1), (2, .int 0), (0, .ref a0), (1, .int 2)]) hx hb dX12_wordsUpTo_3 rfl hl (by decide) rfl (fun ls hl => ?_)
  refine lv_iconst (v := 0) hx hb dX12_wordsUpTo_4 (by decide) ?_
  refine lv_istore (lv' := [(4, .int 0), (3, .int 1), (2, .int 0), (0, .ref a0), (1, .int 2)]) hx hb dX12_wordsUpTo_5 hl (by decide) rfl (fun ls hl => ?_)
  refine lv_iload hx hb dX12_wordsUpTo_7 (lv_at hl 0 rfl) ?_
  refine lv_iload_n hx hb dX12_wordsUpTo_9 rfl (lv_at hl 4 rfl) ?_
  refine lv_icmp_ge (tgt := 32) hx hb dX12_wordsUpTo_10 (by decide) (fun c9 => absurd c9 (by decide)) (fun _ => ?_)
  refine lv_iload_n hx hb dX12_wordsUpTo_13 rfl (lv_at hl 1 rfl) ?_
  refine lv_aload_n hx hb dX12_wordsUpTo_14 rfl (lv_at hl 3 rfl) ?_
  refine va_get (D := (dC, dI)) (ci := 12) (v := .ref a1) (C := RX12) (T := TX12) (N := 56) hx hb hU inlX12 hown hK hP 0 rfl rfl 0 (by decide) (hU _ wd_169) (fun _ h9 => h9) rfl dX12_wordsUpTo_15 ?_
  refine lv_iconst (v := 0) hx hb dX12_wordsUpTo_18 (by decide) ?_
  refine va_iald hx hb hK hP 1 0 rfl rfl (vp_in_nI (n := 0) (by decide) (by decide)) dX12_wordsUpTo_19 ?_
  refine tk_topi (y := 0) (by decide) ?_
  refine lv_imul hx hb dX12_wordsUpTo_20 ?_
  refine tk_topi (y := 0) (by decide) ?_
  refine lv_istore_n (lv' := [(3, .int 0), (4, .int 0), (2, .int 0), (0, .ref a0), (1, .int 2)]) hx hb dX12_wordsUpTo_21 rfl hl (by decide) rfl (fun ls hl => ?_)
  refine lv_iload_n hx hb dX12_wordsUpTo_22 rfl (lv_at hl 2 rfl) ?_
  refine lv_iload_n hx hb dX12_wordsUpTo_23 rfl (lv_at hl 0 rfl) ?_
  refine lv_iadd hx hb dX12_wordsUpTo_24 ?_
  refine tk_topi (y := 0) (by decide) ?_
  refine lv_istore_n (lv' := [(2, .int 0), (3, .int 0), (4, .int 0), (0, .ref a0), (1, .int 2)]) hx hb dX12_wordsUpTo_25 rfl hl (by decide) rfl (fun ls hl => ?_)
  refine lv_iinc (v := 1) (lv' := [(4, .int 1), (2, .int 0), (3, .int 0), (0, .ref a0), (1, .int 2)]) hx hb dX12_wordsUpTo_26 hl (k := 2) rfl (by decide) (by decide) rfl (fun ls hl => ?_)
  refine lv_goto (tgt := 7) hx hb dX12_wordsUpTo_29 (by decide) ?_
  refine lv_iload hx hb dX12_wordsUpTo_7 (lv_at hl 0 rfl) ?_
  refine lv_iload_n hx hb dX12_wordsUpTo_9 rfl (lv_at hl 4 rfl) ?_
  refine lv_icmp_ge (tgt := 32) hx hb dX12_wordsUpTo_10 (by decide) (fun c9 => absurd c9 (by decide)) (fun _ => ?_)
  refine lv_iload_n hx hb dX12_wordsUpTo_13 rfl (lv_at hl 2 rfl) ?_
  refine lv_aload_n hx hb dX12_wordsUpTo_14 rfl (lv_at hl 3 rfl) ?_
  refine va_get (D := (dC, dI)) (ci := 12) (v := .ref a1) (C := RX12) (T := TX12) (N := 56) hx hb hU inlX12 hown hK hP 0 rfl rfl 0 (by decide) (hU _ wd_169) (fun _ h9 => h9) rfl dX12_wordsUpTo_15 ?_
  refine lv_iconst (v := 0) hx hb dX12_wordsUpTo_18 (by decide) ?_
  refine va_iald hx hb hK hP 1 0 rfl rfl (vp_in_nI (n := 0) (by decide) (by decide)) dX12_wordsUpTo_19 ?_
  refine tk_topi (y := 0) (by decide) ?_
  refine lv_imul hx hb dX12_wordsUpTo_20 ?_
  refine tk_topi (y := 0) (by decide) ?_
  refine lv_istore_n (lv' := [(3, .int 0), (4, .int 1), (2, .int 0), (0, .ref a0), (1, .int 2)]) hx hb dX12_wordsUpTo_21 rfl hl (by decide) rfl (fun ls hl => ?_)
  refine lv_iload_n hx hb dX12_wordsUpTo_22 rfl (lv_at hl 2 rfl) ?_
  refine lv_iload_n hx hb dX12_wordsUpTo_23 rfl (lv_at hl 0 rfl) ?_
  refine lv_iadd hx hb dX12_wordsUpTo_24 ?_
  refine tk_topi (y := 0) (by decide) ?_
  refine lv_istore_n (lv' := [(2, .int 0), (3, .int 0), (4, .int 1), (0, .ref a0), (1, .int 2)]) hx hb dX12_wordsUpTo_25 rfl hl (by decide) rfl (fun ls hl => ?_)
  refine lv_iinc (v := 2) (lv' := [(4, .int 2), (2, .int 0), (3, .int 0), (0, .ref a0), (1, .int 2)]) hx hb dX12_wordsUpTo_26 hl (k := 2) rfl (by decide) (by decide) rfl (fun ls hl => ?_)
  refine lv_goto (tgt := 7) hx hb dX12_wordsUpTo_29 (by decide) ?_
  refine lv_iload hx hb dX12_wordsUpTo_7 (lv_at hl 0 rfl) ?_
  refine lv_iload_n hx hb dX12_wordsUpTo_9 rfl (lv_at hl 4 rfl) ?_
  refine lv_icmp_ge (tgt := 32) hx hb dX12_wordsUpTo_10 (by decide) (fun _ => ?_) (fun c9 => absurd (by decide) c9) 
  refine lv_iload_n hx hb dX12_wordsUpTo_32 rfl (lv_at hl 1 rfl) ?_
  have hP9 := hP.sub (ws' := [(a0, .inr (12, [.ref a1, .ref a2, .ref a3, .int 0, .ref a4, .int 0, .int 0, .int 0, .int 0, .int 0, .int (-1), .int 0, .int 0, .int 0, .int 0, .ref a5, .ref a6, .ref a7, .ref a8, .ref a9, .ref a10, .ref a11, .ref a12, .int 0, .int 0, .int 0, .int 0, .int 0, .ref a13, .int 0, .ref a14, .ref a15, .int 0, .int 0, .ref a16, .int 0, .ref a17, .ref a18, .int 0, .int (-1), .ref a19, .ref a20, .ref a21, .int 0, .ref a22, .ref a23, .ref a24, .ref a25, .ref a26, .ref a27, .ref a28, .ref a29, .ref a30, .int 0, .int 0, .ref a31])), (a1, .inl (cI, 1560, .inl w0))]) [0, 1] rfl
  have hD9 := hD.sub (ws' := [(a0, .inr (12, [.ref a1, .ref a2, .ref a3, .int 0, .ref a4, .int 0, .int 0, .int 0, .int 0, .int 0, .int (-1), .int 0, .int 0, .int 0, .int 0, .ref a5, .ref a6, .ref a7, .ref a8, .ref a9, .ref a10, .ref a11, .ref a12, .int 0, .int 0, .int 0, .int 0, .int 0, .ref a13, .int 0, .ref a14, .ref a15, .int 0, .int 0, .ref a16, .int 0, .ref a17, .ref a18, .int 0, .int (-1), .ref a19, .ref a20, .ref a21, .int 0, .ref a22, .ref a23, .ref a24, .ref a25, .ref a26, .ref a27, .ref a28, .ref a29, .ref a30, .int 0, .int 0, .ref a31])), (a1, .inl (cI, 1560, .inl w0))]) [0, 1] (by decide) rfl
  refine W.widen (k := 0) (n := 0) (Nat.le_of_ble_eq_true rfl) (Nat.le_of_ble_eq_true rfl) ?_
  exact W.iret (v := 0) hx hb hr (fun t ht hW => ⟨⟨0, [(a0, .inr (12, [.ref a1, .ref a2, .ref a3, .int 0, .ref a4, .int 0, .int 0, .int 0, .int 0, .int 0, .int (-1), .int 0, .int 0, .int 0, .int 0, .ref a5, .ref a6, .ref a7, .ref a8, .ref a9, .ref a10, .ref a11, .ref a12, .int 0, .int 0, .int 0, .int 0, .int 0, .ref a13, .int 0, .ref a14, .ref a15, .int 0, .int 0, .ref a16, .int 0, .ref a17, .ref a18, .int 0, .int (-1), .ref a19, .ref a20, .ref a21, .int 0, .ref a22, .ref a23, .ref a24, .ref a25, .ref a26, .ref a27, .ref a28, .ref a29, .ref a30, .int 0, .int 0, .ref a31])), (a1, .inl (cI, 1560, .inl w0))], rfl, ⟨rfl, rfl⟩, by rw [ht]; exact hP9, va_K.moved hW.alike hK, hD9⟩, hS.F ht⟩) hS.2.2 dX12_wordsUpTo_33
set_option maxHeartbeats 8000000 in
set_option maxRecDepth 100000 in
theorem cc_X12_isIn_11 (l : Launch) (D : va_G) (cI cL cZ : ClassId) (sz : Nat) (x0 : Int32) : mI l D cI cL cZ yX12_isIn cX12_isIn 3 (some .boolean) 0 0 0 0 [.int x0, .int 1, .int 2] sz [] (fun (r : Int32) (w1 : va_W) => (x0 < 1 ∧ r = 0 ∧ w1 = ([] : va_W)) ∨ (¬ x0 < 1 ∧ 2 < x0 ∧ r = 0 ∧ w1 = ([] : va_W)) ∨ (¬ x0 < 1 ∧ ¬ 2 < x0 ∧ r = 1 ∧ w1 = ([] : va_W))) := by
  obtain ⟨dC, dI⟩ := D
  refine Met.ofW (cc := cX12_isIn) (maxL := 3) (ret := (some .boolean)) (by decide) rfl ?_
  intro p e s m args below meth c s₁ B hml hv
  obtain ⟨rfl, hsz, hP, hK, hD0, hN⟩ := hv
  have hx := B.exec
  have hb := B.bytes
  have hr := B.returns
  have hU : ∀ w ∈ wsU, w.before _ s = true := fun w h => atoms_spec (ws := wU yX12_isIn cX12_isIn 3 (some .boolean)) B.pre w (List.mem_cons_of_mem _ h)
  have hown : s.vm.findClass RX12 = some m.cls := findClass_of_methodNamed B.named
  have hlocks := B.notSynchronized
  subst hsz
  have hD := hD0.self (sz := s.heap.size)
  generalize hAe : va_A [] s.heap.size = A at hD ⊢
  have hA : ∀ q : Nat, s.heap.size ≤ q → A q := fun q h => by rw [← hAe]; exact Or.inr h
  have hS : va_S A s.heap s.heap [] := va_S.rf
  have hP : va_P (dC, dI) vwCl [] s.heap := hP
  have hl := lv_entry ([.int x0, .int 1, .int 2]) (n := 3) (Nat.le_of_ble_eq_true rfl)
  rw [lg_entry_eq]
  generalize (lg_sl ([.int x0, .int 1, .int 2]) ++ List.replicate (3 - (lg_sl ([.int x0, .int 1, .int 2])).length) Slot.unset).toArray = ls at hl ⊢
  have hl : lv_has ls 3 [(0, .int x0), (1, .int 1), (2, .int 2)] := hl
  refine lv_iload_n hx hb dX12_isIn_0 rfl (lv_at hl 0 rfl) ?_
  refine lv_iload_n hx hb dX12_isIn_1 rfl (lv_at hl 1 rfl) ?_
  refine lv_icmp_lt (tgt := 14) hx hb dX12_isIn_2 (by decide) (fun c_1 => ?_) (fun c_1 => ?_)
  · skip
    refine lv_iconst (v := 0) hx hb dX12_isIn_14 (by decide) ?_
    have hP9 := hP.sub (ws' := []) [] rfl
    have hD9 := hD.sub (ws' := []) [] (by decide) rfl
    refine W.widen (k := 0) (n := 0) (Nat.le_of_ble_eq_true rfl) (Nat.le_of_ble_eq_true rfl) ?_
    exact W.zret (v := 0) (ty := .boolean) hx hb hr rfl (fun t ht hW => ⟨⟨0, [], rfl, Or.inl ⟨c_1, rfl, rfl⟩, by rw [ht]; exact hP9, va_K.moved hW.alike hK, hD9⟩, hS.F ht⟩) hS.2.2 dX12_isIn_15
  · skip
    refine lv_iload_n hx hb dX12_isIn_5 rfl (lv_at hl 0 rfl) ?_
    refine lv_iload_n hx hb dX12_isIn_6 rfl (lv_at hl 2 rfl) ?_
    refine lv_icmp_gt (tgt := 14) hx hb dX12_isIn_7 (by decide) (fun c_2 => ?_) (fun c_2 => ?_)
    · skip
      refine lv_iconst (v := 0) hx hb dX12_isIn_14 (by decide) ?_
      have hP9 := hP.sub (ws' := []) [] rfl
      have hD9 := hD.sub (ws' := []) [] (by decide) rfl
      refine W.widen (k := 0) (n := 0) (Nat.le_of_ble_eq_true rfl) (Nat.le_of_ble_eq_true rfl) ?_
      exact W.zret (v := 0) (ty := .boolean) hx hb hr rfl (fun t ht hW => ⟨⟨0, [], rfl, Or.inr (Or.inl ⟨c_1, c_2, rfl, rfl⟩), by rw [ht]; exact hP9, va_K.moved hW.alike hK, hD9⟩, hS.F ht⟩) hS.2.2 dX12_isIn_15
    · skip
      refine lv_iconst (v := 1) hx hb dX12_isIn_10 (by decide) ?_
      refine lv_goto (tgt := 15) hx hb dX12_isIn_11 (by decide) ?_
      have hP9 := hP.sub (ws' := []) [] rfl
      have hD9 := hD.sub (ws' := []) [] (by decide) rfl
      refine W.widen (k := 0) (n := 0) (Nat.le_of_ble_eq_true rfl) (Nat.le_of_ble_eq_true rfl) ?_
      exact W.zret (v := 1) (ty := .boolean) hx hb hr rfl (fun t ht hW => ⟨⟨1, [], rfl, Or.inr (Or.inr (⟨c_1, c_2, rfl, rfl⟩)), by rw [ht]; exact hP9, va_K.moved hW.alike hK, hD9⟩, hS.F ht⟩) hS.2.2 dX12_isIn_15
set_option maxHeartbeats 8000000 in
set_option maxRecDepth 100000 in
theorem op_X12_orders (l : Launch) (D : va_G) (cI cL cZ : ClassId) (sz : Nat) (a0 : Nat) (x0 : Int32) (x1 : Int32) (a1 : Nat) (a2 : Nat) (a3 : Nat) (a4 : Nat) (a5 : Nat) (a6 : Nat) (a7 : Nat) (a8 : Nat) (a9 : Nat) (a10 : Nat) (a11 : Nat) (a12 : Nat) (a13 : Nat) (a14 : Nat) (a15 : Nat) (a16 : Nat) (a17 : Nat) (a18 : Nat) (a19 : Nat) (a20 : Nat) (a21 : Nat) (a22 : Nat) (a23 : Nat) (a24 : Nat) (a25 : Nat) (a26 : Nat) (a27 : Nat) (a28 : Nat) (a29 : Nat) (a30 : Nat) (a31 : Nat) : mI l D cI cL cZ yX12_orders cX12_orders 6 (some .int) 2 49 0 0 [.ref a0, .int x0, .int x1] sz [(a0, .inr (12, [.ref a1, .ref a2, .ref a3, .int 0, .ref a4, .int 0, .int 0, .int 0, .int 0, .int 0, .int (-1), .int 0, .int 0, .int 0, .int 0, .ref a5, .ref a6, .ref a7, .ref a8, .ref a9, .ref a10, .ref a11, .ref a12, .int 0, .int 0, .int 0, .int 0, .int 0, .ref a13, .int 0, .ref a14, .ref a15, .int 0, .int 0, .ref a16, .int 0, .ref a17, .ref a18, .int 0, .int (-1), .ref a19, .ref a20, .ref a21, .int 0, .ref a22, .ref a23, .ref a24, .ref a25, .ref a26, .ref a27, .ref a28, .ref a29, .ref a30, .int 0, .int 0, .ref a31])), (a1, .inl (cI, 1560, .inl w0)), (a19, .inl (cI, 16, .inl z0)), (a31, .inl (cI, 16, .inl z0))] (fun (r : Int32) (w1 : va_W) => r = (an_orders x0 x1) ∧ w1 = ([] : va_W)) := by
  obtain ⟨dC, dI⟩ := D
  refine Met.ofW (cc := cX12_orders) (maxL := 6) (ret := (some .int)) (by decide) rfl ?_
  intro p e s m args below meth c s₁ B hml hv
  obtain ⟨rfl, hsz, hP, hK, hD0, hN⟩ := hv
  have hx := B.exec
  have hb := B.bytes
  have hr := B.returns
  have hU : ∀ w ∈ wsU, w.before _ s = true := fun w h => atoms_spec (ws := wU yX12_orders cX12_orders 6 (some .int)) B.pre w (List.mem_cons_of_mem _ h)
  have hown : s.vm.findClass RX12 = some m.cls := findClass_of_methodNamed B.named
  have hlocks := B.notSynchronized
  subst hsz
  have hD := hD0.self (sz := s.heap.size)
  generalize hAe : va_A [(a0, .inr (12, [.ref a1, .ref a2, .ref a3, .int 0, .ref a4, .int 0, .int 0, .int 0, .int 0, .int 0, .int (-1), .int 0, .int 0, .int 0, .int 0, .ref a5, .ref a6, .ref a7, .ref a8, .ref a9, .ref a10, .ref a11, .ref a12, .int 0, .int 0, .int 0, .int 0, .int 0, .ref a13, .int 0, .ref a14, .ref a15, .int 0, .int 0, .ref a16, .int 0, .ref a17, .ref a18, .int 0, .int (-1), .ref a19, .ref a20, .ref a21, .int 0, .ref a22, .ref a23, .ref a24, .ref a25, .ref a26, .ref a27, .ref a28, .ref a29, .ref a30, .int 0, .int 0, .ref a31])), (a1, .inl (cI, 1560, .inl w0)), (a19, .inl (cI, 16, .inl z0)), (a31, .inl (cI, 16, .inl z0))] s.heap.size = A at hD ⊢
  have hA : ∀ q : Nat, s.heap.size ≤ q → A q := fun q h => by rw [← hAe]; exact Or.inr h
  have hS : va_S A s.heap s.heap [] := va_S.rf
  have hP : va_P (dC, dI) vwCl [(a0, .inr (12, [.ref a1, .ref a2, .ref a3, .int 0, .ref a4, .int 0, .int 0, .int 0, .int 0, .int 0, .int (-1), .int 0, .int 0, .int 0, .int 0, .ref a5, .ref a6, .ref a7, .ref a8, .ref a9, .ref a10, .ref a11, .ref a12, .int 0, .int 0, .int 0, .int 0, .int 0, .ref a13, .int 0, .ref a14, .ref a15, .int 0, .int 0, .ref a16, .int 0, .ref a17, .ref a18, .int 0, .int (-1), .ref a19, .ref a20, .ref a21, .int 0, .ref a22, .ref a23, .ref a24, .ref a25, .ref a26, .ref a27, .ref a28, .ref a29, .ref a30, .int 0, .int 0, .ref a31])), (a1, .inl (cI, 1560, .inl w0)), (a19, .inl (cI, 16, .inl z0)), (a31, .inl (cI, 16, .inl z0))] s.heap := hP
  have hl := lv_entry ([.ref a0, .int x0, .int x1]) (n := 6) (Nat.le_of_ble_eq_true rfl)
  rw [lg_entry_eq]
  generalize (lg_sl ([.ref a0, .int x0, .int x1]) ++ List.replicate (6 - (lg_sl ([.ref a0, .int x0, .int x1])).length) Slot.unset).toArray = ls at hl ⊢
  have hl : lv_has ls 6 [(0, .ref a0), (1, .int x0), (2, .int x1)] := hl
  by_cases c_1 : x0 = 1
  · subst c_1
    by_cases c_2 : x1 = 0
    · subst c_2
      refine lv_aload_n hx hb dX12_orders_0 rfl (lv_at hl 0 rfl) ?_
      refine lv_iconst (v := 0) hx hb dX12_orders_1 (by decide) ?_
      refine va_put (D := (dC, dI)) (ci := 12) (v := .int 0) (ty := .int) (C := RX12) (T := TX12) (N := 56) hx hb hU inlX12 tyX12 tyX12_ok nmX12 hown hK hP hD hS 0 rfl rfl 53 (by decide) (hU _ wd_1241) (fun _ h9 => h9) rfl (by decide +kernel) rfl rfl (Nat.le_of_ble_eq_true rfl) dX12_orders_2 (fun H locs hP hD hS => ?_)
      have hP : va_P (dC, dI) vwCl [(a0, .inr (12, [.ref a1, .ref a2, .ref a3, .int 0, .ref a4, .int 0, .int 0, .int 0, .int 0, .int 0, .int (-1), .int 0, .int 0, .int 0, .int 0, .ref a5, .ref a6, .ref a7, .ref a8, .ref a9, .ref a10, .ref a11, .ref a12, .int 0, .int 0, .int 0, .int 0, .int 0, .ref a13, .int 0, .ref a14, .ref a15, .int 0, .int 0, .ref a16, .int 0, .ref a17, .ref a18, .int 0, .int (-1), .ref a19, .ref a20, .ref a21, .int 0, .ref a22, .ref a23, .ref a24, .ref a25, .ref a26, .ref a27, .ref a28, .ref a29, .ref a30, .int 0, .int 0, .ref a31])), (a1, .inl (cI, 1560, .inl w0)), (a19, .inl (cI, 16, .inl z0)), (a31, .inl (cI, 16, .inl z0))] H := hP
      have hD : va_D A [(a0, .inr (12, [.ref a1, .ref a2, .ref a3, .int 0, .ref a4, .int 0, .int 0, .int 0, .int 0, .int 0, .int (-1), .int 0, .int 0, .int 0, .int 0, .ref a5, .ref a6, .ref a7, .ref a8, .ref a9, .ref a10, .ref a11, .ref a12, .int 0, .int 0, .int 0, .int 0, .int 0, .ref a13, .int 0, .ref a14, .ref a15, .int 0, .int 0, .ref a16, .int 0, .ref a17, .ref a18, .int 0, .int (-1), .ref a19, .ref a20, .ref a21, .int 0, .ref a22, .ref a23, .ref a24, .ref a25, .ref a26, .ref a27, .ref a28, .ref a29, .ref a30, .int 0, .int 0, .ref a31])), (a1, .inl (cI, 1560, .inl w0)), (a19, .inl (cI, 16, .inl z0)), (a31, .inl (cI, 16, .inl z0))] := hD
      refine lv_iconst (v := 0) hx hb dX12_orders_5 (by decide) ?_
      refine lv_istore_n (lv' := [(3, .int 0), (0, .ref a0), (1, .int 1), (2, .int 0)]) hx hb dX12_orders_6 rfl hl (by decide) rfl (fun ls hl => ?_)
      refine lv_iload_n hx hb dX12_orders_7 rfl (lv_at hl 0 rfl) ?_
      refine lv_aload_n hx hb dX12_orders_8 rfl (lv_at hl 1 rfl) ?_
      refine va_get (D := (dC, dI)) (ci := 12) (v := .ref a1) (C := RX12) (T := TX12) (N := 56) hx hb hU inlX12 hown hK hP 0 rfl rfl 0 (by decide) (hU _ wd_169) (fun _ h9 => h9) rfl dX12_orders_9 ?_
      refine lv_bipush (v := 17) hx hb dX12_orders_12 (by decide) ?_
      refine va_iald hx hb hK hP 1 0 rfl rfl (vp_in_nI (n := 17) (by decide) (by decide)) dX12_orders_14 ?_
      refine tk_topi (y := 0) (by decide) ?_
      refine lv_icmp_ge (tgt := 61) hx hb dX12_orders_15 (by decide) (fun _ => ?_) (fun c9 => absurd (by decide) c9) 
      refine lv_iload_n hx hb dX12_orders_61 rfl (lv_at hl 2 rfl) ?_
      refine lv_iconst (v := 1) hx hb dX12_orders_62 (by decide) ?_
      refine lv_iconst (v := 2) hx hb dX12_orders_63 (by decide) ?_
      refine tk_ri (wr := [(a0, .inr (12, [.ref a1, .ref a2, .ref a3, .int 0, .ref a4, .int 0, .int 0, .int 0, .int 0, .int 0, .int (-1), .int 0, .int 0, .int 0, .int 0, .ref a5, .ref a6, .ref a7, .ref a8, .ref a9, .ref a10, .ref a11, .ref a12, .int 0, .int 0, .int 0, .int 0, .int 0, .ref a13, .int 0, .ref a14, .ref a15, .int 0, .int 0, .ref a16, .int 0, .ref a17, .ref a18, .int 0, .int (-1), .ref a19, .ref a20, .ref a21, .int 0, .ref a22, .ref a23, .ref a24, .ref a25, .ref a26, .ref a27, .ref a28, .ref a29, .ref a30, .int 0, .int 0, .ref a31])), (a1, .inl (cI, 1560, .inl w0)), (a19, .inl (cI, 16, .inl z0)), (a31, .inl (cI, 16, .inl z0))]) (tk_S (As := [.int 1, .int 1, .int 2]) (rest := []) (n := 3) hx hb hml hown hU hN (cc_X12_isIn_8 l (dC, dI) cI cL cZ H.size ) wd_227 wd_228 wd_5 wd_229 (by decide +kernel) ⟨Nat.le_of_ble_eq_true rfl, Nat.le_of_ble_eq_true rfl⟩ hK hP hD [] (by decide) rfl rfl hl.1 rfl (Nat.le_of_ble_eq_true rfl) dX12_orders_64 ⟨Nat.le_of_ble_eq_true rfl, Nat.le_of_ble_eq_true rfl⟩) hP hD hS hA [] [0, 1, 2, 3] rfl rfl (by decide) (by decide) (fun r_3 w_4 H locs hw hP hD hS => ?_)
      obtain ⟨rfl, rfl⟩ := hw
      have hP : va_P (dC, dI) vwCl [(a0, .inr (12, [.ref a1, .ref a2, .ref a3, .int 0, .ref a4, .int 0, .int 0, .int 0, .int 0, .int 0, .int (-1), .int 0, .int 0, .int 0, .int 0, .ref a5, .ref a6, .ref a7, .ref a8, .ref a9, .ref a10, .ref a11, .ref a12, .int 0, .int 0, .int 0, .int 0, .int 0, .ref a13, .int 0, .ref a14, .ref a15, .int 0, .int 0, .ref a16, .int 0, .ref a17, .ref a18, .int 0, .int (-1), .ref a19, .ref a20, .ref a21, .int 0, .ref a22, .ref a23, .ref a24, .ref a25, .ref a26, .ref a27, .ref a28, .ref a29, .ref a30, .int 0, .int 0, .ref a31])), (a1, .inl (cI, 1560, .inl w0)), (a19, .inl (cI, 16, .inl z0)), (a31, .inl (cI, 16, .inl z0))] H := hP
      have hD : va_D A [(a0, .inr (12, [.ref a1, .ref a2, .ref a3, .int 0, .ref a4, .int 0, .int 0, .int 0, .int 0, .int 0, .int (-1), .int 0, .int 0, .int 0, .int 0, .ref a5, .ref a6, .ref a7, .ref a8, .ref a9, .ref a10, .ref a11, .ref a12, .int 0, .int 0, .int 0, .int 0, .int 0, .ref a13, .int 0, .ref a14, .ref a15, .int 0, .int 0, .ref a16, .int 0, .ref a17, .ref a18, .int 0, .int (-1), .ref a19, .ref a20, .ref a21, .int 0, .ref a22, .ref a23, .ref a24, .ref a25, .ref a26, .ref a27, .ref a28, .ref a29, .ref a30, .int 0, .int 0, .ref a31])), (a1, .inl (cI, 1560, .inl w0)), (a19, .inl (cI, 16, .inl z0)), (a31, .inl (cI, 16, .inl z0))] := hD
      refine lv_if_eq (tgt := 104) hx hb dX12_orders_67 (by decide) (fun c9 => absurd c9 (by decide)) (fun _ => ?_)
      refine lv_aload_n hx hb dX12_orders_70 rfl (lv_at hl 1 rfl) ?_
      refine va_get (D := (dC, dI)) (ci := 12) (v := .int 0) (C := RX12) (T := TX12) (N := 56) hx hb hU inlX12 hown hK hP 0 rfl rfl 53 (by decide) (hU _ wd_1241) (fun _ h9 => h9) rfl dX12_orders_71 ?_
      refine lv_bipush (v := 6) hx hb dX12_orders_74 (by decide) ?_
      refine lv_icmp_gt (tgt := 104) hx hb dX12_orders_76 (by decide) (fun c9 => absurd c9 (by decide)) (fun _ => ?_)
      refine lv_iload_n hx hb dX12_orders_79 rfl (lv_at hl 3 rfl) ?_
      refine lv_iconst (v := 0) hx hb dX12_orders_80 (by decide) ?_
      refine lv_iconst (v := 1) hx hb dX12_orders_81 (by decide) ?_
      refine tk_ri (wr := [(a0, .inr (12, [.ref a1, .ref a2, .ref a3, .int 0, .ref a4, .int 0, .int 0, .int 0, .int 0, .int 0, .int (-1), .int 0, .int 0, .int 0, .int 0, .ref a5, .ref a6, .ref a7, .ref a8, .ref a9, .ref a10, .ref a11, .ref a12, .int 0, .int 0, .int 0, .int 0, .int 0, .ref a13, .int 0, .ref a14, .ref a15, .int 0, .int 0, .ref a16, .int 0, .ref a17, .ref a18, .int 0, .int (-1), .ref a19, .ref a20, .ref a21, .int 0, .ref a22, .ref a23, .ref a24, .ref a25, .ref a26, .ref a27, .ref a28, .ref a29, .ref a30, .int 0, .int 0, .ref a31])), (a1, .inl (cI, 1560, .inl w0)), (a19, .inl (cI, 16, .inl z0)), (a31, .inl (cI, 16, .inl z0))]) (tk_S (As := [.int 0, .int 0, .int 1]) (rest := []) (n := 3) hx hb hml hown hU hN (cc_X12_isIn_2 l (dC, dI) cI cL cZ H.size ) wd_227 wd_228 wd_5 wd_229 (by decide +kernel) ⟨Nat.le_of_ble_eq_true rfl, Nat.le_of_ble_eq_true rfl⟩ hK hP hD [] (by decide) rfl rfl hl.1 rfl (Nat.le_of_ble_eq_true rfl) dX12_orders_82 ⟨Nat.le_of_ble_eq_true rfl, Nat.le_of_ble_eq_true rfl⟩) hP hD hS hA [] [0, 1, 2, 3] rfl rfl (by decide) (by decide) (fun r_5 w_6 H locs hw hP hD hS => ?_)
      obtain ⟨rfl, rfl⟩ := hw
      have hP : va_P (dC, dI) vwCl [(a0, .inr (12, [.ref a1, .ref a2, .ref a3, .int 0, .ref a4, .int 0, .int 0, .int 0, .int 0, .int 0, .int (-1), .int 0, .int 0, .int 0, .int 0, .ref a5, .ref a6, .ref a7, .ref a8, .ref a9, .ref a10, .ref a11, .ref a12, .int 0, .int 0, .int 0, .int 0, .int 0, .ref a13, .int 0, .ref a14, .ref a15, .int 0, .int 0, .ref a16, .int 0, .ref a17, .ref a18, .int 0, .int (-1), .ref a19, .ref a20, .ref a21, .int 0, .ref a22, .ref a23, .ref a24, .ref a25, .ref a26, .ref a27, .ref a28, .ref a29, .ref a30, .int 0, .int 0, .ref a31])), (a1, .inl (cI, 1560, .inl w0)), (a19, .inl (cI, 16, .inl z0)), (a31, .inl (cI, 16, .inl z0))] H := hP
      have hD : va_D A [(a0, .inr (12, [.ref a1, .ref a2, .ref a3, .int 0, .ref a4, .int 0, .int 0, .int 0, .int 0, .int 0, .int (-1), .int 0, .int 0, .int 0, .int 0, .ref a5, .ref a6, .ref a7, .ref a8, .ref a9, .ref a10, .ref a11, .ref a12, .int 0, .int 0, .int 0, .int 0, .int 0, .ref a13, .int 0, .ref a14, .ref a15, .int 0, .int 0, .ref a16, .int 0, .ref a17, .ref a18, .int 0, .int (-1), .ref a19, .ref a20, .ref a21, .int 0, .ref a22, .ref a23, .ref a24, .ref a25, .ref a26, .ref a27, .ref a28, .ref a29, .ref a30, .int 0, .int 0, .ref a31])), (a1, .inl (cI, 1560, .inl w0)), (a19, .inl (cI, 16, .inl z0)), (a31, .inl (cI, 16, .inl z0))] := hD
      refine lv_if_ne (tgt := 106) hx hb dX12_orders_85 (by decide) (fun _ => ?_) (fun c9 => absurd c9 (by decide)) 
      refine lv_aload_n hx hb dX12_orders_106 rfl (lv_at hl 1 rfl) ?_
      refine lv_iload_n hx hb dX12_orders_107 rfl (lv_at hl 2 rfl) ?_
      refine tk_ri (wr := [(a19, .inl (cI, 16, .inl z0)), (a31, .inl (cI, 16, .inl z0))]) (tk_V (As := [.int 1]) (rest := []) (n := 1) hx hb hml hown hU hN (cc_X12_wordsUpTo_0 l (dC, dI) cI cL cZ H.size a0 a1 a2 a3 a4 a5 a6 a7 a8 a9 a10 a11 a12 a13 a14 a15 a16 a17 a18 a19 a20 a21 a22 a23 a24 a25 a26 a27 a28 a29 a30 a31) wd_1169 wd_1170 wd_1171 wd_5 wd_1172 (by decide +kernel) ⟨Nat.le_of_ble_eq_true rfl, Nat.le_of_ble_eq_true rfl⟩ hK hP hD [0, 1] (by decide) rfl 0 12 rfl rfl rfl rfl hl.1 rfl (Nat.le_of_ble_eq_true rfl) dX12_orders_108 ⟨Nat.le_of_ble_eq_true rfl, Nat.le_of_ble_eq_true rfl⟩) hP hD hS hA [0, 1] [2, 3] rfl rfl (by decide) (by decide) (fun r_7 w_8 H locs hw hP hD hS => ?_)
      obtain ⟨rfl, rfl⟩ := hw
      have hP : va_P (dC, dI) vwCl [(a19, .inl (cI, 16, .inl z0)), (a31, .inl (cI, 16, .inl z0)), (a0, .inr (12, [.ref a1, .ref a2, .ref a3, .int 0, .ref a4, .int 0, .int 0, .int 0, .int 0, .int 0, .int (-1), .int 0, .int 0, .int 0, .int 0, .ref a5, .ref a6, .ref a7, .ref a8, .ref a9, .ref a10, .ref a11, .ref a12, .int 0, .int 0, .int 0, .int 0, .int 0, .ref a13, .int 0, .ref a14, .ref a15, .int 0, .int 0, .ref a16, .int 0, .ref a17, .ref a18, .int 0, .int (-1), .ref a19, .ref a20, .ref a21, .int 0, .ref a22, .ref a23, .ref a24, .ref a25, .ref a26, .ref a27, .ref a28, .ref a29, .ref a30, .int 0, .int 0, .ref a31])), (a1, .inl (cI, 1560, .inl w0))] H := hP
      have hD : va_D A [(a19, .inl (cI, 16, .inl z0)), (a31, .inl (cI, 16, .inl z0)), (a0, .inr (12, [.ref a1, .ref a2, .ref a3, .int 0, .ref a4, .int 0, .int 0, .int 0, .int 0, .int 0, .int (-1), .int 0, .int 0, .int 0, .int 0, .ref a5, .ref a6, .ref a7, .ref a8, .ref a9, .ref a10, .ref a11, .ref a12, .int 0, .int 0, .int 0, .int 0, .int 0, .ref a13, .int 0, .ref a14, .ref a15, .int 0, .int 0, .ref a16, .int 0, .ref a17, .ref a18, .int 0, .int (-1), .ref a19, .ref a20, .ref a21, .int 0, .ref a22, .ref a23, .ref a24, .ref a25, .ref a26, .ref a27, .ref a28, .ref a29, .ref a30, .int 0, .int 0, .ref a31])), (a1, .inl (cI, 1560, .inl w0))] := hD
      refine lv_istore_n (lv' := [(3, .int 0), (0, .ref a0), (1, .int 1), (2, .int 0)]) hx hb dX12_orders_111 rfl hl (by decide) rfl (fun ls hl => ?_)
      refine lv_iload_n hx hb dX12_orders_112 rfl (lv_at hl 3 rfl) ?_
      refine lv_iconst (v := 1) hx hb dX12_orders_113 (by decide) ?_
      refine lv_icmp_ne (tgt := 119) hx hb dX12_orders_114 (by decide) (fun _ => ?_) (fun c9 => absurd c9 (by decide)) 
      refine lv_iconst (v := 0) hx hb dX12_orders_119 (by decide) ?_
      refine lv_istore (lv' := [(4, .int 0), (3, .int 0), (0, .ref a0), (1, .int 1), (2, .int 0)]) hx hb dX12_orders_120 hl (by decide) rfl (fun ls hl => ?_)
      refine lv_iload hx hb dX12_orders_122 (lv_at hl 0 rfl) ?_
      refine lv_iload_n hx hb dX12_orders_124 rfl (lv_at hl 1 rfl) ?_
      refine lv_icmp_ge (tgt := 224) hx hb dX12_orders_125 (by decide) (fun _ => ?_) (fun c9 => absurd (by decide) c9) 
      refine lv_aload_n hx hb dX12_orders_224 rfl (lv_at hl 2 rfl) ?_
      refine va_get (D := (dC, dI)) (ci := 12) (v := .int 0) (C := RX12) (T := TX12) (N := 56) hx hb hU inlX12 hown hK hP 2 rfl rfl 43 (by decide) (hU _ wd_572) (fun _ h9 => h9) rfl dX12_orders_225 ?_
      refine lv_istore (lv' := [(4, .int 0), (3, .int 0), (0, .ref a0), (1, .int 1), (2, .int 0)]) hx hb dX12_orders_228 hl (by decide) rfl (fun ls hl => ?_)
      refine lv_iconst (v := 0) hx hb dX12_orders_230 (by decide) ?_
      refine lv_istore (lv' := [(5, .int 0), (4, .int 0), (3, .int 0), (0, .ref a0), (1, .int 1), (2, .int 0)]) hx hb dX12_orders_231 hl (by decide) rfl (fun ls hl => ?_)
      refine lv_iload hx hb dX12_orders_233 (lv_at hl 0 rfl) ?_
      refine lv_bipush (v := 16) hx hb dX12_orders_235 (by decide) ?_
      refine lv_icmp_ge (tgt := 260) hx hb dX12_orders_237 (by decide) (fun c9 => absurd c9 (by decide)) (fun _ => ?_)
      refine lv_aload_n hx hb dX12_orders_240 rfl (lv_at hl 3 rfl) ?_
      refine va_get (D := (dC, dI)) (ci := 12) (v := .ref a31) (C := RX12) (T := TX12) (N := 56) hx hb hU inlX12 hown hK hP 2 rfl rfl 55 (by decide) (hU _ wd_204) (fun _ h9 => h9) rfl dX12_orders_241 ?_
      refine lv_iload hx hb dX12_orders_244 (lv_at hl 0 rfl) ?_
      refine lv_aload_n hx hb dX12_orders_246 rfl (lv_at hl 3 rfl) ?_
      refine va_get (D := (dC, dI)) (ci := 12) (v := .ref a19) (C := RX12) (T := TX12) (N := 56) hx hb hU inlX12 hown hK hP 2 rfl rfl 40 (by decide) (hU _ wd_190) (fun _ h9 => h9) rfl dX12_orders_247 ?_
      refine lv_iload hx hb dX12_orders_250 (lv_at hl 0 rfl) ?_
      refine va_iald hx hb hK hP 0 0 rfl rfl (vp_in_nI (n := 0) (by decide) (by decide)) dX12_orders_252 ?_
      refine tk_topi (y := 0) rfl ?_
      refine va_iast hx hb hK hP hD hS 1 0 rfl rfl (vp_in_nI (n := 0) (by decide) (by decide)) dX12_orders_253 (fun H locs hP hD hS => ?_)
      have hP : va_P (dC, dI) vwCl [(a19, .inl (cI, 16, .inl z0)), (a31, .inl (cI, 16, .inl z0)), (a0, .inr (12, [.ref a1, .ref a2, .ref a3, .int 0, .ref a4, .int 0, .int 0, .int 0, .int 0, .int 0, .int (-1), .int 0, .int 0, .int 0, .int 0, .ref a5, .ref a6, .ref a7, .ref a8, .ref a9, .ref a10, .ref a11, .ref a12, .int 0, .int 0, .int 0, .int 0, .int 0, .ref a13, .int 0, .ref a14, .ref a15, .int 0, .int 0, .ref a16, .int 0, .ref a17, .ref a18, .int 0, .int (-1), .ref a19, .ref a20, .ref a21, .int 0, .ref a22, .ref a23, .ref a24, .ref a25, .ref a26, .ref a27, .ref a28, .ref a29, .ref a30, .int 0, .int 0, .ref a31])), (a1, .inl (cI, 1560, .inl w0))] H := by rw [upd_z0] at hP; exact hP
      have hD : va_D A [(a19, .inl (cI, 16, .inl z0)), (a31, .inl (cI, 16, .inl z0)), (a0, .inr (12, [.ref a1, .ref a2, .ref a3, .int 0, .ref a4, .int 0, .int 0, .int 0, .int 0, .int 0, .int (-1), .int 0, .int 0, .int 0, .int 0, .ref a5, .ref a6, .ref a7, .ref a8, .ref a9, .ref a10, .ref a11, .ref a12, .int 0, .int 0, .int 0, .int 0, .int 0, .ref a13, .int 0, .ref a14, .ref a15, .int 0, .int 0, .ref a16, .int 0, .ref a17, .ref a18, .int 0, .int (-1), .ref a19, .ref a20, .ref a21, .int 0, .ref a22, .ref a23, .ref a24, .ref a25, .ref a26, .ref a27, .ref a28, .ref a29, .ref a30, .int 0, .int 0, .ref a31])), (a1, .inl (cI, 1560, .inl w0))] := by rw [upd_z0] at hD; exact hD
      refine lv_iinc (v := 1) (lv' := [(5, .int 1), (4, .int 0), (3, .int 0), (0, .ref a0), (1, .int 1), (2, .int 0)]) hx hb dX12_orders_254 hl (k := 0) rfl (by decide) (by decide) rfl (fun ls hl => ?_)
      refine lv_goto (tgt := 233) hx hb dX12_orders_257 (by decide) ?_
      refine lv_iload hx hb dX12_orders_233 (lv_at hl 0 rfl) ?_
      refine lv_bipush (v := 16) hx hb dX12_orders_235 (by decide) ?_
      refine lv_icmp_ge (tgt := 260) hx hb dX12_orders_237 (by decide) (fun c9 => absurd c9 (by decide)) (fun _ => ?_)
      refine lv_aload_n hx hb dX12_orders_240 rfl (lv_at hl 3 rfl) ?_
      refine va_get (D := (dC, dI)) (ci := 12) (v := .ref a31) (C := RX12) (T := TX12) (N := 56) hx hb hU inlX12 hown hK hP 2 rfl rfl 55 (by decide) (hU _ wd_204) (fun _ h9 => h9) rfl dX12_orders_241 ?_
      refine lv_iload hx hb dX12_orders_244 (lv_at hl 0 rfl) ?_
      refine lv_aload_n hx hb dX12_orders_246 rfl (lv_at hl 3 rfl) ?_
      refine va_get (D := (dC, dI)) (ci := 12) (v := .ref a19) (C := RX12) (T := TX12) (N := 56) hx hb hU inlX12 hown hK hP 2 rfl rfl 40 (by decide) (hU _ wd_190) (fun _ h9 => h9) rfl dX12_orders_247 ?_
      refine lv_iload hx hb dX12_orders_250 (lv_at hl 0 rfl) ?_
      refine va_iald hx hb hK hP 0 0 rfl rfl (vp_in_nI (n := 1) (by decide) (by decide)) dX12_orders_252 ?_
      refine tk_topi (y := 0) rfl ?_
      refine va_iast hx hb hK hP hD hS 1 0 rfl rfl (vp_in_nI (n := 1) (by decide) (by decide)) dX12_orders_253 (fun H locs hP hD hS => ?_)
      have hP : va_P (dC, dI) vwCl [(a19, .inl (cI, 16, .inl z0)), (a31, .inl (cI, 16, .inl z0)), (a0, .inr (12, [.ref a1, .ref a2, .ref a3, .int 0, .ref a4, .int 0, .int 0, .int 0, .int 0, .int 0, .int (-1), .int 0, .int 0, .int 0, .int 0, .ref a5, .ref a6, .ref a7, .ref a8, .ref a9, .ref a10, .ref a11, .ref a12, .int 0, .int 0, .int 0, .int 0, .int 0, .ref a13, .int 0, .ref a14, .ref a15, .int 0, .int 0, .ref a16, .int 0, .ref a17, .ref a18, .int 0, .int (-1), .ref a19, .ref a20, .ref a21, .int 0, .ref a22, .ref a23, .ref a24, .ref a25, .ref a26, .ref a27, .ref a28, .ref a29, .ref a30, .int 0, .int 0, .ref a31])), (a1, .inl (cI, 1560, .inl w0))] H := by rw [upd_z0] at hP; exact hP
      have hD : va_D A [(a19, .inl (cI, 16, .inl z0)), (a31, .inl (cI, 16, .inl z0)), (a0, .inr (12, [.ref a1, .ref a2, .ref a3, .int 0, .ref a4, .int 0, .int 0, .int 0, .int 0, .int 0, .int (-1), .int 0, .int 0, .int 0, .int 0, .ref a5, .ref a6, .ref a7, .ref a8, .ref a9, .ref a10, .ref a11, .ref a12, .int 0, .int 0, .int 0, .int 0, .int 0, .ref a13, .int 0, .ref a14, .ref a15, .int 0, .int 0, .ref a16, .int 0, .ref a17, .ref a18, .int 0, .int (-1), .ref a19, .ref a20, .ref a21, .int 0, .ref a22, .ref a23, .ref a24, .ref a25, .ref a26, .ref a27, .ref a28, .ref a29, .ref a30, .int 0, .int 0, .ref a31])), (a1, .inl (cI, 1560, .inl w0))] := by rw [upd_z0] at hD; exact hD
      refine lv_iinc (v := 2) (lv' := [(5, .int 2), (4, .int 0), (3, .int 0), (0, .ref a0), (1, .int 1), (2, .int 0)]) hx hb dX12_orders_254 hl (k := 0) rfl (by decide) (by decide) rfl (fun ls hl => ?_)
      refine lv_goto (tgt := 233) hx hb dX12_orders_257 (by decide) ?_
      refine lv_iload hx hb dX12_orders_233 (lv_at hl 0 rfl) ?_
      refine lv_bipush (v := 16) hx hb dX12_orders_235 (by decide) ?_
      refine lv_icmp_ge (tgt := 260) hx hb dX12_orders_237 (by decide) (fun c9 => absurd c9 (by decide)) (fun _ => ?_)
      refine lv_aload_n hx hb dX12_orders_240 rfl (lv_at hl 3 rfl) ?_
      refine va_get (D := (dC, dI)) (ci := 12) (v := .ref a31) (C := RX12) (T := TX12) (N := 56) hx hb hU inlX12 hown hK hP 2 rfl rfl 55 (by decide) (hU _ wd_204) (fun _ h9 => h9) rfl dX12_orders_241 ?_
      refine lv_iload hx hb dX12_orders_244 (lv_at hl 0 rfl) ?_
      refine lv_aload_n hx hb dX12_orders_246 rfl (lv_at hl 3 rfl) ?_
      refine va_get (D := (dC, dI)) (ci := 12) (v := .ref a19) (C := RX12) (T := TX12) (N := 56) hx hb hU inlX12 hown hK hP 2 rfl rfl 40 (by decide) (hU _ wd_190) (fun _ h9 => h9) rfl dX12_orders_247 ?_
      refine lv_iload hx hb dX12_orders_250 (lv_at hl 0 rfl) ?_
      refine va_iald hx hb hK hP 0 0 rfl rfl (vp_in_nI (n := 2) (by decide) (by decide)) dX12_orders_252 ?_
      refine tk_topi (y := 0) rfl ?_
      refine va_iast hx hb hK hP hD hS 1 0 rfl rfl (vp_in_nI (n := 2) (by decide) (by decide)) dX12_orders_253 (fun H locs hP hD hS => ?_)
      have hP : va_P (dC, dI) vwCl [(a19, .inl (cI, 16, .inl z0)), (a31, .inl (cI, 16, .inl z0)), (a0, .inr (12, [.ref a1, .ref a2, .ref a3, .int 0, .ref a4, .int 0, .int 0, .int 0, .int 0, .int 0, .int (-1), .int 0, .int 0, .int 0, .int 0, .ref a5, .ref a6, .ref a7, .ref a8, .ref a9, .ref a10, .ref a11, .ref a12, .int 0, .int 0, .int 0, .int 0, .int 0, .ref a13, .int 0, .ref a14, .ref a15, .int 0, .int 0, .ref a16, .int 0, .ref a17, .ref a18, .int 0, .int (-1), .ref a19, .ref a20, .ref a21, .int 0, .ref a22, .ref a23, .ref a24, .ref a25, .ref a26, .ref a27, .ref a28, .ref a29, .ref a30, .int 0, .int 0, .ref a31])), (a1, .inl (cI, 1560, .inl w0))] H := by rw [upd_z0] at hP; exact hP
      have hD : va_D A [(a19, .inl (cI, 16, .inl z0)), (a31, .inl (cI, 16, .inl z0)), (a0, .inr (12, [.ref a1, .ref a2, .ref a3, .int 0, .ref a4, .int 0, .int 0, .int 0, .int 0, .int 0, .int (-1), .int 0, .int 0, .int 0, .int 0, .ref a5, .ref a6, .ref a7, .ref a8, .ref a9, .ref a10, .ref a11, .ref a12, .int 0, .int 0, .int 0, .int 0, .int 0, .ref a13, .int 0, .ref a14, .ref a15, .int 0, .int 0, .ref a16, .int 0, .ref a17, .ref a18, .int 0, .int (-1), .ref a19, .ref a20, .ref a21, .int 0, .ref a22, .ref a23, .ref a24, .ref a25, .ref a26, .ref a27, .ref a28, .ref a29, .ref a30, .int 0, .int 0, .ref a31])), (a1, .inl (cI, 1560, .inl w0))] := by rw [upd_z0] at hD; exact hD
      refine lv_iinc (v := 3) (lv' := [(5, .int 3), (4, .int 0), (3, .int 0), (0, .ref a0), (1, .int 1), (2, .int 0)]) hx hb dX12_orders_254 hl (k := 0) rfl (by decide) (by decide) rfl (fun ls hl => ?_)
      refine lv_goto (tgt := 233) hx hb dX12_orders_257 (by decide) ?_
      refine lv_iload hx hb dX12_orders_233 (lv_at hl 0 rfl) ?_
      refine lv_bipush (v := 16) hx hb dX12_orders_235 (by decide) ?_
      refine lv_icmp_ge (tgt := 260) hx hb dX12_orders_237 (by decide) (fun c9 => absurd c9 (by decide)) (fun _ => ?_)
      refine lv_aload_n hx hb dX12_orders_240 rfl (lv_at hl 3 rfl) ?_
      refine va_get (D := (dC, dI)) (ci := 12) (v := .ref a31) (C := RX12) (T := TX12) (N := 56) hx hb hU inlX12 hown hK hP 2 rfl rfl 55 (by decide) (hU _ wd_204) (fun _ h9 => h9) rfl dX12_orders_241 ?_
      refine lv_iload hx hb dX12_orders_244 (lv_at hl 0 rfl) ?_
      refine lv_aload_n hx hb dX12_orders_246 rfl (lv_at hl 3 rfl) ?_
      refine va_get (D := (dC, dI)) (ci := 12) (v := .ref a19) (C := RX12) (T := TX12) (N := 56) hx hb hU inlX12 hown hK hP 2 rfl rfl 40 (by decide) (hU _ wd_190) (fun _ h9 => h9) rfl dX12_orders_247 ?_
      refine lv_iload hx hb dX12_orders_250 (lv_at hl 0 rfl) ?_
      refine va_iald hx hb hK hP 0 0 rfl rfl (vp_in_nI (n := 3) (by decide) (by decide)) dX12_orders_252 ?_
      refine tk_topi (y := 0) rfl ?_
      refine va_iast hx hb hK hP hD hS 1 0 rfl rfl (vp_in_nI (n := 3) (by decide) (by decide)) dX12_orders_253 (fun H locs hP hD hS => ?_)
      have hP : va_P (dC, dI) vwCl [(a19, .inl (cI, 16, .inl z0)), (a31, .inl (cI, 16, .inl z0)), (a0, .inr (12, [.ref a1, .ref a2, .ref a3, .int 0, .ref a4, .int 0, .int 0, .int 0, .int 0, .int 0, .int (-1), .int 0, .int 0, .int 0, .int 0, .ref a5, .ref a6, .ref a7, .ref a8, .ref a9, .ref a10, .ref a11, .ref a12, .int 0, .int 0, .int 0, .int 0, .int 0, .ref a13, .int 0, .ref a14, .ref a15, .int 0, .int 0, .ref a16, .int 0, .ref a17, .ref a18, .int 0, .int (-1), .ref a19, .ref a20, .ref a21, .int 0, .ref a22, .ref a23, .ref a24, .ref a25, .ref a26, .ref a27, .ref a28, .ref a29, .ref a30, .int 0, .int 0, .ref a31])), (a1, .inl (cI, 1560, .inl w0))] H := by rw [upd_z0] at hP; exact hP
      have hD : va_D A [(a19, .inl (cI, 16, .inl z0)), (a31, .inl (cI, 16, .inl z0)), (a0, .inr (12, [.ref a1, .ref a2, .ref a3, .int 0, .ref a4, .int 0, .int 0, .int 0, .int 0, .int 0, .int (-1), .int 0, .int 0, .int 0, .int 0, .ref a5, .ref a6, .ref a7, .ref a8, .ref a9, .ref a10, .ref a11, .ref a12, .int 0, .int 0, .int 0, .int 0, .int 0, .ref a13, .int 0, .ref a14, .ref a15, .int 0, .int 0, .ref a16, .int 0, .ref a17, .ref a18, .int 0, .int (-1), .ref a19, .ref a20, .ref a21, .int 0, .ref a22, .ref a23, .ref a24, .ref a25, .ref a26, .ref a27, .ref a28, .ref a29, .ref a30, .int 0, .int 0, .ref a31])), (a1, .inl (cI, 1560, .inl w0))] := by rw [upd_z0] at hD; exact hD
      refine lv_iinc (v := 4) (lv' := [(5, .int 4), (4, .int 0), (3, .int 0), (0, .ref a0), (1, .int 1), (2, .int 0)]) hx hb dX12_orders_254 hl (k := 0) rfl (by decide) (by decide) rfl (fun ls hl => ?_)
      refine lv_goto (tgt := 233) hx hb dX12_orders_257 (by decide) ?_
      refine lv_iload hx hb dX12_orders_233 (lv_at hl 0 rfl) ?_
      refine lv_bipush (v := 16) hx hb dX12_orders_235 (by decide) ?_
      refine lv_icmp_ge (tgt := 260) hx hb dX12_orders_237 (by decide) (fun c9 => absurd c9 (by decide)) (fun _ => ?_)
      refine lv_aload_n hx hb dX12_orders_240 rfl (lv_at hl 3 rfl) ?_
      refine va_get (D := (dC, dI)) (ci := 12) (v := .ref a31) (C := RX12) (T := TX12) (N := 56) hx hb hU inlX12 hown hK hP 2 rfl rfl 55 (by decide) (hU _ wd_204) (fun _ h9 => h9) rfl dX12_orders_241 ?_
      refine lv_iload hx hb dX12_orders_244 (lv_at hl 0 rfl) ?_
      refine lv_aload_n hx hb dX12_orders_246 rfl (lv_at hl 3 rfl) ?_
      refine va_get (D := (dC, dI)) (ci := 12) (v := .ref a19) (C := RX12) (T := TX12) (N := 56) hx hb hU inlX12 hown hK hP 2 rfl rfl 40 (by decide) (hU _ wd_190) (fun _ h9 => h9) rfl dX12_orders_247 ?_
      refine lv_iload hx hb dX12_orders_250 (lv_at hl 0 rfl) ?_
      refine va_iald hx hb hK hP 0 0 rfl rfl (vp_in_nI (n := 4) (by decide) (by decide)) dX12_orders_252 ?_
      refine tk_topi (y := 0) rfl ?_
      refine va_iast hx hb hK hP hD hS 1 0 rfl rfl (vp_in_nI (n := 4) (by decide) (by decide)) dX12_orders_253 (fun H locs hP hD hS => ?_)
      have hP : va_P (dC, dI) vwCl [(a19, .inl (cI, 16, .inl z0)), (a31, .inl (cI, 16, .inl z0)), (a0, .inr (12, [.ref a1, .ref a2, .ref a3, .int 0, .ref a4, .int 0, .int 0, .int 0, .int 0, .int 0, .int (-1), .int 0, .int 0, .int 0, .int 0, .ref a5, .ref a6, .ref a7, .ref a8, .ref a9, .ref a10, .ref a11, .ref a12, .int 0, .int 0, .int 0, .int 0, .int 0, .ref a13, .int 0, .ref a14, .ref a15, .int 0, .int 0, .ref a16, .int 0, .ref a17, .ref a18, .int 0, .int (-1), .ref a19, .ref a20, .ref a21, .int 0, .ref a22, .ref a23, .ref a24, .ref a25, .ref a26, .ref a27, .ref a28, .ref a29, .ref a30, .int 0, .int 0, .ref a31])), (a1, .inl (cI, 1560, .inl w0))] H := by rw [upd_z0] at hP; exact hP
      have hD : va_D A [(a19, .inl (cI, 16, .inl z0)), (a31, .inl (cI, 16, .inl z0)), (a0, .inr (12, [.ref a1, .ref a2, .ref a3, .int 0, .ref a4, .int 0, .int 0, .int 0, .int 0, .int 0, .int (-1), .int 0, .int 0, .int 0, .int 0, .ref a5, .ref a6, .ref a7, .ref a8, .ref a9, .ref a10, .ref a11, .ref a12, .int 0, .int 0, .int 0, .int 0, .int 0, .ref a13, .int 0, .ref a14, .ref a15, .int 0, .int 0, .ref a16, .int 0, .ref a17, .ref a18, .int 0, .int (-1), .ref a19, .ref a20, .ref a21, .int 0, .ref a22, .ref a23, .ref a24, .ref a25, .ref a26, .ref a27, .ref a28, .ref a29, .ref a30, .int 0, .int 0, .ref a31])), (a1, .inl (cI, 1560, .inl w0))] := by rw [upd_z0] at hD; exact hD
      refine lv_iinc (v := 5) (lv' := [(5, .int 5), (4, .int 0), (3, .int 0), (0, .ref a0), (1, .int 1), (2, .int 0)]) hx hb dX12_orders_254 hl (k := 0) rfl (by decide) (by decide) rfl (fun ls hl => ?_)
      refine lv_goto (tgt := 233) hx hb dX12_orders_257 (by decide) ?_
      refine lv_iload hx hb dX12_orders_233 (lv_at hl 0 rfl) ?_
      refine lv_bipush (v := 16) hx hb dX12_orders_235 (by decide) ?_
      refine lv_icmp_ge (tgt := 260) hx hb dX12_orders_237 (by decide) (fun c9 => absurd c9 (by decide)) (fun _ => ?_)
      refine lv_aload_n hx hb dX12_orders_240 rfl (lv_at hl 3 rfl) ?_
      refine va_get (D := (dC, dI)) (ci := 12) (v := .ref a31) (C := RX12) (T := TX12) (N := 56) hx hb hU inlX12 hown hK hP 2 rfl rfl 55 (by decide) (hU _ wd_204) (fun _ h9 => h9) rfl dX12_orders_241 ?_
      refine lv_iload hx hb dX12_orders_244 (lv_at hl 0 rfl) ?_
      refine lv_aload_n hx hb dX12_orders_246 rfl (lv_at hl 3 rfl) ?_
      refine va_get (D := (dC, dI)) (ci := 12) (v := .ref a19) (C := RX12) (T := TX12) (N := 56) hx hb hU inlX12 hown hK hP 2 rfl rfl 40 (by decide) (hU _ wd_190) (fun _ h9 => h9) rfl dX12_orders_247 ?_
      refine lv_iload hx hb dX12_orders_250 (lv_at hl 0 rfl) ?_
      refine va_iald hx hb hK hP 0 0 rfl rfl (vp_in_nI (n := 5) (by decide) (by decide)) dX12_orders_252 ?_
      refine tk_topi (y := 0) rfl ?_
      refine va_iast hx hb hK hP hD hS 1 0 rfl rfl (vp_in_nI (n := 5) (by decide) (by decide)) dX12_orders_253 (fun H locs hP hD hS => ?_)
      have hP : va_P (dC, dI) vwCl [(a19, .inl (cI, 16, .inl z0)), (a31, .inl (cI, 16, .inl z0)), (a0, .inr (12, [.ref a1, .ref a2, .ref a3, .int 0, .ref a4, .int 0, .int 0, .int 0, .int 0, .int 0, .int (-1), .int 0, .int 0, .int 0, .int 0, .ref a5, .ref a6, .ref a7, .ref a8, .ref a9, .ref a10, .ref a11, .ref a12, .int 0, .int 0, .int 0, .int 0, .int 0, .ref a13, .int 0, .ref a14, .ref a15, .int 0, .int 0, .ref a16, .int 0, .ref a17, .ref a18, .int 0, .int (-1), .ref a19, .ref a20, .ref a21, .int 0, .ref a22, .ref a23, .ref a24, .ref a25, .ref a26, .ref a27, .ref a28, .ref a29, .ref a30, .int 0, .int 0, .ref a31])), (a1, .inl (cI, 1560, .inl w0))] H := by rw [upd_z0] at hP; exact hP
      have hD : va_D A [(a19, .inl (cI, 16, .inl z0)), (a31, .inl (cI, 16, .inl z0)), (a0, .inr (12, [.ref a1, .ref a2, .ref a3, .int 0, .ref a4, .int 0, .int 0, .int 0, .int 0, .int 0, .int (-1), .int 0, .int 0, .int 0, .int 0, .ref a5, .ref a6, .ref a7, .ref a8, .ref a9, .ref a10, .ref a11, .ref a12, .int 0, .int 0, .int 0, .int 0, .int 0, .ref a13, .int 0, .ref a14, .ref a15, .int 0, .int 0, .ref a16, .int 0, .ref a17, .ref a18, .int 0, .int (-1), .ref a19, .ref a20, .ref a21, .int 0, .ref a22, .ref a23, .ref a24, .ref a25, .ref a26, .ref a27, .ref a28, .ref a29, .ref a30, .int 0, .int 0, .ref a31])), (a1, .inl (cI, 1560, .inl w0))] := by rw [upd_z0] at hD; exact hD
      refine lv_iinc (v := 6) (lv' := [(5, .int 6), (4, .int 0), (3, .int 0), (0, .ref a0), (1, .int 1), (2, .int 0)]) hx hb dX12_orders_254 hl (k := 0) rfl (by decide) (by decide) rfl (fun ls hl => ?_)
      refine lv_goto (tgt := 233) hx hb dX12_orders_257 (by decide) ?_
      refine lv_iload hx hb dX12_orders_233 (lv_at hl 0 rfl) ?_
      refine lv_bipush (v := 16) hx hb dX12_orders_235 (by decide) ?_
      refine lv_icmp_ge (tgt := 260) hx hb dX12_orders_237 (by decide) (fun c9 => absurd c9 (by decide)) (fun _ => ?_)
      refine lv_aload_n hx hb dX12_orders_240 rfl (lv_at hl 3 rfl) ?_
      refine va_get (D := (dC, dI)) (ci := 12) (v := .ref a31) (C := RX12) (T := TX12) (N := 56) hx hb hU inlX12 hown hK hP 2 rfl rfl 55 (by decide) (hU _ wd_204) (fun _ h9 => h9) rfl dX12_orders_241 ?_
      refine lv_iload hx hb dX12_orders_244 (lv_at hl 0 rfl) ?_
      refine lv_aload_n hx hb dX12_orders_246 rfl (lv_at hl 3 rfl) ?_
      refine va_get (D := (dC, dI)) (ci := 12) (v := .ref a19) (C := RX12) (T := TX12) (N := 56) hx hb hU inlX12 hown hK hP 2 rfl rfl 40 (by decide) (hU _ wd_190) (fun _ h9 => h9) rfl dX12_orders_247 ?_
      refine lv_iload hx hb dX12_orders_250 (lv_at hl 0 rfl) ?_
      refine va_iald hx hb hK hP 0 0 rfl rfl (vp_in_nI (n := 6) (by decide) (by decide)) dX12_orders_252 ?_
      refine tk_topi (y := 0) rfl ?_
      refine va_iast hx hb hK hP hD hS 1 0 rfl rfl (vp_in_nI (n := 6) (by decide) (by decide)) dX12_orders_253 (fun H locs hP hD hS => ?_)
      have hP : va_P (dC, dI) vwCl [(a19, .inl (cI, 16, .inl z0)), (a31, .inl (cI, 16, .inl z0)), (a0, .inr (12, [.ref a1, .ref a2, .ref a3, .int 0, .ref a4, .int 0, .int 0, .int 0, .int 0, .int 0, .int (-1), .int 0, .int 0, .int 0, .int 0, .ref a5, .ref a6, .ref a7, .ref a8, .ref a9, .ref a10, .ref a11, .ref a12, .int 0, .int 0, .int 0, .int 0, .int 0, .ref a13, .int 0, .ref a14, .ref a15, .int 0, .int 0, .ref a16, .int 0, .ref a17, .ref a18, .int 0, .int (-1), .ref a19, .ref a20, .ref a21, .int 0, .ref a22, .ref a23, .ref a24, .ref a25, .ref a26, .ref a27, .ref a28, .ref a29, .ref a30, .int 0, .int 0, .ref a31])), (a1, .inl (cI, 1560, .inl w0))] H := by rw [upd_z0] at hP; exact hP
      have hD : va_D A [(a19, .inl (cI, 16, .inl z0)), (a31, .inl (cI, 16, .inl z0)), (a0, .inr (12, [.ref a1, .ref a2, .ref a3, .int 0, .ref a4, .int 0, .int 0, .int 0, .int 0, .int 0, .int (-1), .int 0, .int 0, .int 0, .int 0, .ref a5, .ref a6, .ref a7, .ref a8, .ref a9, .ref a10, .ref a11, .ref a12, .int 0, .int 0, .int 0, .int 0, .int 0, .ref a13, .int 0, .ref a14, .ref a15, .int 0, .int 0, .ref a16, .int 0, .ref a17, .ref a18, .int 0, .int (-1), .ref a19, .ref a20, .ref a21, .int 0, .ref a22, .ref a23, .ref a24, .ref a25, .ref a26, .ref a27, .ref a28, .ref a29, .ref a30, .int 0, .int 0, .ref a31])), (a1, .inl (cI, 1560, .inl w0))] := by rw [upd_z0] at hD; exact hD
      refine lv_iinc (v := 7) (lv' := [(5, .int 7), (4, .int 0), (3, .int 0), (0, .ref a0), (1, .int 1), (2, .int 0)]) hx hb dX12_orders_254 hl (k := 0) rfl (by decide) (by decide) rfl (fun ls hl => ?_)
      refine lv_goto (tgt := 233) hx hb dX12_orders_257 (by decide) ?_
      refine lv_iload hx hb dX12_orders_233 (lv_at hl 0 rfl) ?_
      refine lv_bipush (v := 16) hx hb dX12_orders_235 (by decide) ?_
      refine lv_icmp_ge (tgt := 260) hx hb dX12_orders_237 (by decide) (fun c9 => absurd c9 (by decide)) (fun _ => ?_)
      refine lv_aload_n hx hb dX12_orders_240 rfl (lv_at hl 3 rfl) ?_
      refine va_get (D := (dC, dI)) (ci := 12) (v := .ref a31) (C := RX12) (T := TX12) (N := 56) hx hb hU inlX12 hown hK hP 2 rfl rfl 55 (by decide) (hU _ wd_204) (fun _ h9 => h9) rfl dX12_orders_241 ?_
      refine lv_iload hx hb dX12_orders_244 (lv_at hl 0 rfl) ?_
      refine lv_aload_n hx hb dX12_orders_246 rfl (lv_at hl 3 rfl) ?_
      refine va_get (D := (dC, dI)) (ci := 12) (v := .ref a19) (C := RX12) (T := TX12) (N := 56) hx hb hU inlX12 hown hK hP 2 rfl rfl 40 (by decide) (hU _ wd_190) (fun _ h9 => h9) rfl dX12_orders_247 ?_
      refine lv_iload hx hb dX12_orders_250 (lv_at hl 0 rfl) ?_
      refine va_iald hx hb hK hP 0 0 rfl rfl (vp_in_nI (n := 7) (by decide) (by decide)) dX12_orders_252 ?_
      refine tk_topi (y := 0) rfl ?_
      refine va_iast hx hb hK hP hD hS 1 0 rfl rfl (vp_in_nI (n := 7) (by decide) (by decide)) dX12_orders_253 (fun H locs hP hD hS => ?_)
      have hP : va_P (dC, dI) vwCl [(a19, .inl (cI, 16, .inl z0)), (a31, .inl (cI, 16, .inl z0)), (a0, .inr (12, [.ref a1, .ref a2, .ref a3, .int 0, .ref a4, .int 0, .int 0, .int 0, .int 0, .int 0, .int (-1), .int 0, .int 0, .int 0, .int 0, .ref a5, .ref a6, .ref a7, .ref a8, .ref a9, .ref a10, .ref a11, .ref a12, .int 0, .int 0, .int 0, .int 0, .int 0, .ref a13, .int 0, .ref a14, .ref a15, .int 0, .int 0, .ref a16, .int 0, .ref a17, .ref a18, .int 0, .int (-1), .ref a19, .ref a20, .ref a21, .int 0, .ref a22, .ref a23, .ref a24, .ref a25, .ref a26, .ref a27, .ref a28, .ref a29, .ref a30, .int 0, .int 0, .ref a31])), (a1, .inl (cI, 1560, .inl w0))] H := by rw [upd_z0] at hP; exact hP
      have hD : va_D A [(a19, .inl (cI, 16, .inl z0)), (a31, .inl (cI, 16, .inl z0)), (a0, .inr (12, [.ref a1, .ref a2, .ref a3, .int 0, .ref a4, .int 0, .int 0, .int 0, .int 0, .int 0, .int (-1), .int 0, .int 0, .int 0, .int 0, .ref a5, .ref a6, .ref a7, .ref a8, .ref a9, .ref a10, .ref a11, .ref a12, .int 0, .int 0, .int 0, .int 0, .int 0, .ref a13, .int 0, .ref a14, .ref a15, .int 0, .int 0, .ref a16, .int 0, .ref a17, .ref a18, .int 0, .int (-1), .ref a19, .ref a20, .ref a21, .int 0, .ref a22, .ref a23, .ref a24, .ref a25, .ref a26, .ref a27, .ref a28, .ref a29, .ref a30, .int 0, .int 0, .ref a31])), (a1, .inl (cI, 1560, .inl w0))] := by rw [upd_z0] at hD; exact hD
      refine lv_iinc (v := 8) (lv' := [(5, .int 8), (4, .int 0), (3, .int 0), (0, .ref a0), (1, .int 1), (2, .int 0)]) hx hb dX12_orders_254 hl (k := 0) rfl (by decide) (by decide) rfl (fun ls hl => ?_)
      refine lv_goto (tgt := 233) hx hb dX12_orders_257 (by decide) ?_
      refine lv_iload hx hb dX12_orders_233 (lv_at hl 0 rfl) ?_
      refine lv_bipush (v := 16) hx hb dX12_orders_235 (by decide) ?_
      refine lv_icmp_ge (tgt := 260) hx hb dX12_orders_237 (by decide) (fun c9 => absurd c9 (by decide)) (fun _ => ?_)
      refine lv_aload_n hx hb dX12_orders_240 rfl (lv_at hl 3 rfl) ?_
      refine va_get (D := (dC, dI)) (ci := 12) (v := .ref a31) (C := RX12) (T := TX12) (N := 56) hx hb hU inlX12 hown hK hP 2 rfl rfl 55 (by decide) (hU _ wd_204) (fun _ h9 => h9) rfl dX12_orders_241 ?_
      refine lv_iload hx hb dX12_orders_244 (lv_at hl 0 rfl) ?_
      refine lv_aload_n hx hb dX12_orders_246 rfl (lv_at hl 3 rfl) ?_
      refine va_get (D := (dC, dI)) (ci := 12) (v := .ref a19) (C := RX12) (T := TX12) (N := 56) hx hb hU inlX12 hown hK hP 2 rfl rfl 40 (by decide) (hU _ wd_190) (fun _ h9 => h9) rfl dX12_orders_247 ?_
      refine lv_iload hx hb dX12_orders_250 (lv_at hl 0 rfl) ?_
      refine va_iald hx hb hK hP 0 0 rfl rfl (vp_in_nI (n := 8) (by decide) (by decide)) dX12_orders_252 ?_
      refine tk_topi (y := 0) rfl ?_
      refine va_iast hx hb hK hP hD hS 1 0 rfl rfl (vp_in_nI (n := 8) (by decide) (by decide)) dX12_orders_253 (fun H locs hP hD hS => ?_)
      have hP : va_P (dC, dI) vwCl [(a19, .inl (cI, 16, .inl z0)), (a31, .inl (cI, 16, .inl z0)), (a0, .inr (12, [.ref a1, .ref a2, .ref a3, .int 0, .ref a4, .int 0, .int 0, .int 0, .int 0, .int 0, .int (-1), .int 0, .int 0, .int 0, .int 0, .ref a5, .ref a6, .ref a7, .ref a8, .ref a9, .ref a10, .ref a11, .ref a12, .int 0, .int 0, .int 0, .int 0, .int 0, .ref a13, .int 0, .ref a14, .ref a15, .int 0, .int 0, .ref a16, .int 0, .ref a17, .ref a18, .int 0, .int (-1), .ref a19, .ref a20, .ref a21, .int 0, .ref a22, .ref a23, .ref a24, .ref a25, .ref a26, .ref a27, .ref a28, .ref a29, .ref a30, .int 0, .int 0, .ref a31])), (a1, .inl (cI, 1560, .inl w0))] H := by rw [upd_z0] at hP; exact hP
      have hD : va_D A [(a19, .inl (cI, 16, .inl z0)), (a31, .inl (cI, 16, .inl z0)), (a0, .inr (12, [.ref a1, .ref a2, .ref a3, .int 0, .ref a4, .int 0, .int 0, .int 0, .int 0, .int 0, .int (-1), .int 0, .int 0, .int 0, .int 0, .ref a5, .ref a6, .ref a7, .ref a8, .ref a9, .ref a10, .ref a11, .ref a12, .int 0, .int 0, .int 0, .int 0, .int 0, .ref a13, .int 0, .ref a14, .ref a15, .int 0, .int 0, .ref a16, .int 0, .ref a17, .ref a18, .int 0, .int (-1), .ref a19, .ref a20, .ref a21, .int 0, .ref a22, .ref a23, .ref a24, .ref a25, .ref a26, .ref a27, .ref a28, .ref a29, .ref a30, .int 0, .int 0, .ref a31])), (a1, .inl (cI, 1560, .inl w0))] := by rw [upd_z0] at hD; exact hD
      refine lv_iinc (v := 9) (lv' := [(5, .int 9), (4, .int 0), (3, .int 0), (0, .ref a0), (1, .int 1), (2, .int 0)]) hx hb dX12_orders_254 hl (k := 0) rfl (by decide) (by decide) rfl (fun ls hl => ?_)
      refine lv_goto (tgt := 233) hx hb dX12_orders_257 (by decide) ?_
      refine lv_iload hx hb dX12_orders_233 (lv_at hl 0 rfl) ?_
      refine lv_bipush (v := 16) hx hb dX12_orders_235 (by decide) ?_
      refine lv_icmp_ge (tgt := 260) hx hb dX12_orders_237 (by decide) (fun c9 => absurd c9 (by decide)) (fun _ => ?_)
      refine lv_aload_n hx hb dX12_orders_240 rfl (lv_at hl 3 rfl) ?_
      refine va_get (D := (dC, dI)) (ci := 12) (v := .ref a31) (C := RX12) (T := TX12) (N := 56) hx hb hU inlX12 hown hK hP 2 rfl rfl 55 (by decide) (hU _ wd_204) (fun _ h9 => h9) rfl dX12_orders_241 ?_
      refine lv_iload hx hb dX12_orders_244 (lv_at hl 0 rfl) ?_
      refine lv_aload_n hx hb dX12_orders_246 rfl (lv_at hl 3 rfl) ?_
      refine va_get (D := (dC, dI)) (ci := 12) (v := .ref a19) (C := RX12) (T := TX12) (N := 56) hx hb hU inlX12 hown hK hP 2 rfl rfl 40 (by decide) (hU _ wd_190) (fun _ h9 => h9) rfl dX12_orders_247 ?_
      refine lv_iload hx hb dX12_orders_250 (lv_at hl 0 rfl) ?_
      refine va_iald hx hb hK hP 0 0 rfl rfl (vp_in_nI (n := 9) (by decide) (by decide)) dX12_orders_252 ?_
      refine tk_topi (y := 0) rfl ?_
      refine va_iast hx hb hK hP hD hS 1 0 rfl rfl (vp_in_nI (n := 9) (by decide) (by decide)) dX12_orders_253 (fun H locs hP hD hS => ?_)
      have hP : va_P (dC, dI) vwCl [(a19, .inl (cI, 16, .inl z0)), (a31, .inl (cI, 16, .inl z0)), (a0, .inr (12, [.ref a1, .ref a2, .ref a3, .int 0, .ref a4, .int 0, .int 0, .int 0, .int 0, .int 0, .int (-1), .int 0, .int 0, .int 0, .int 0, .ref a5, .ref a6, .ref a7, .ref a8, .ref a9, .ref a10, .ref a11, .ref a12, .int 0, .int 0, .int 0, .int 0, .int 0, .ref a13, .int 0, .ref a14, .ref a15, .int 0, .int 0, .ref a16, .int 0, .ref a17, .ref a18, .int 0, .int (-1), .ref a19, .ref a20, .ref a21, .int 0, .ref a22, .ref a23, .ref a24, .ref a25, .ref a26, .ref a27, .ref a28, .ref a29, .ref a30, .int 0, .int 0, .ref a31])), (a1, .inl (cI, 1560, .inl w0))] H := by rw [upd_z0] at hP; exact hP
      have hD : va_D A [(a19, .inl (cI, 16, .inl z0)), (a31, .inl (cI, 16, .inl z0)), (a0, .inr (12, [.ref a1, .ref a2, .ref a3, .int 0, .ref a4, .int 0, .int 0, .int 0, .int 0, .int 0, .int (-1), .int 0, .int 0, .int 0, .int 0, .ref a5, .ref a6, .ref a7, .ref a8, .ref a9, .ref a10, .ref a11, .ref a12, .int 0, .int 0, .int 0, .int 0, .int 0, .ref a13, .int 0, .ref a14, .ref a15, .int 0, .int 0, .ref a16, .int 0, .ref a17, .ref a18, .int 0, .int (-1), .ref a19, .ref a20, .ref a21, .int 0, .ref a22, .ref a23, .ref a24, .ref a25, .ref a26, .ref a27, .ref a28, .ref a29, .ref a30, .int 0, .int 0, .ref a31])), (a1, .inl (cI, 1560, .inl w0))] := by rw [upd_z0] at hD; exact hD
      refine lv_iinc (v := 10) (lv' := [(5, .int 10), (4, .int 0), (3, .int 0), (0, .ref a0), (1, .int 1), (2, .int 0)]) hx hb dX12_orders_254 hl (k := 0) rfl (by decide) (by decide) rfl (fun ls hl => ?_)
      refine lv_goto (tgt := 233) hx hb dX12_orders_257 (by decide) ?_
      refine lv_iload hx hb dX12_orders_233 (lv_at hl 0 rfl) ?_
      refine lv_bipush (v := 16) hx hb dX12_orders_235 (by decide) ?_
      refine lv_icmp_ge (tgt := 260) hx hb dX12_orders_237 (by decide) (fun c9 => absurd c9 (by decide)) (fun _ => ?_)
      refine lv_aload_n hx hb dX12_orders_240 rfl (lv_at hl 3 rfl) ?_
      refine va_get (D := (dC, dI)) (ci := 12) (v := .ref a31) (C := RX12) (T := TX12) (N := 56) hx hb hU inlX12 hown hK hP 2 rfl rfl 55 (by decide) (hU _ wd_204) (fun _ h9 => h9) rfl dX12_orders_241 ?_
      refine lv_iload hx hb dX12_orders_244 (lv_at hl 0 rfl) ?_
      refine lv_aload_n hx hb dX12_orders_246 rfl (lv_at hl 3 rfl) ?_
      refine va_get (D := (dC, dI)) (ci := 12) (v := .ref a19) (C := RX12) (T := TX12) (N := 56) hx hb hU inlX12 hown hK hP 2 rfl rfl 40 (by decide) (hU _ wd_190) (fun _ h9 => h9) rfl dX12_orders_247 ?_
      refine lv_iload hx hb dX12_orders_250 (lv_at hl 0 rfl) ?_
      refine va_iald hx hb hK hP 0 0 rfl rfl (vp_in_nI (n := 10) (by decide) (by decide)) dX12_orders_252 ?_
      refine tk_topi (y := 0) rfl ?_
      refine va_iast hx hb hK hP hD hS 1 0 rfl rfl (vp_in_nI (n := 10) (by decide) (by decide)) dX12_orders_253 (fun H locs hP hD hS => ?_)
      have hP : va_P (dC, dI) vwCl [(a19, .inl (cI, 16, .inl z0)), (a31, .inl (cI, 16, .inl z0)), (a0, .inr (12, [.ref a1, .ref a2, .ref a3, .int 0, .ref a4, .int 0, .int 0, .int 0, .int 0, .int 0, .int (-1), .int 0, .int 0, .int 0, .int 0, .ref a5, .ref a6, .ref a7, .ref a8, .ref a9, .ref a10, .ref a11, .ref a12, .int 0, .int 0, .int 0, .int 0, .int 0, .ref a13, .int 0, .ref a14, .ref a15, .int 0, .int 0, .ref a16, .int 0, .ref a17, .ref a18, .int 0, .int (-1), .ref a19, .ref a20, .ref a21, .int 0, .ref a22, .ref a23, .ref a24, .ref a25, .ref a26, .ref a27, .ref a28, .ref a29, .ref a30, .int 0, .int 0, .ref a31])), (a1, .inl (cI, 1560, .inl w0))] H := by rw [upd_z0] at hP; exact hP
      have hD : va_D A [(a19, .inl (cI, 16, .inl z0)), (a31, .inl (cI, 16, .inl z0)), (a0, .inr (12, [.ref a1, .ref a2, .ref a3, .int 0, .ref a4, .int 0, .int 0, .int 0, .int 0, .int 0, .int (-1), .int 0, .int 0, .int 0, .int 0, .ref a5, .ref a6, .ref a7, .ref a8, .ref a9, .ref a10, .ref a11, .ref a12, .int 0, .int 0, .int 0, .int 0, .int 0, .ref a13, .int 0, .ref a14, .ref a15, .int 0, .int 0, .ref a16, .int 0, .ref a17, .ref a18, .int 0, .int (-1), .ref a19, .ref a20, .ref a21, .int 0, .ref a22, .ref a23, .ref a24, .ref a25, .ref a26, .ref a27, .ref a28, .ref a29, .ref a30, .int 0, .int 0, .ref a31])), (a1, .inl (cI, 1560, .inl w0))] := by rw [upd_z0] at hD; exact hD
      refine lv_iinc (v := 11) (lv' := [(5, .int 11), (4, .int 0), (3, .int 0), (0, .ref a0), (1, .int 1), (2, .int 0)]) hx hb dX12_orders_254 hl (k := 0) rfl (by decide) (by decide) rfl (fun ls hl => ?_)
      refine lv_goto (tgt := 233) hx hb dX12_orders_257 (by decide) ?_
      refine lv_iload hx hb dX12_orders_233 (lv_at hl 0 rfl) ?_
      refine lv_bipush (v := 16) hx hb dX12_orders_235 (by decide) ?_
      refine lv_icmp_ge (tgt := 260) hx hb dX12_orders_237 (by decide) (fun c9 => absurd c9 (by decide)) (fun _ => ?_)
      refine lv_aload_n hx hb dX12_orders_240 rfl (lv_at hl 3 rfl) ?_
      refine va_get (D := (dC, dI)) (ci := 12) (v := .ref a31) (C := RX12) (T := TX12) (N := 56) hx hb hU inlX12 hown hK hP 2 rfl rfl 55 (by decide) (hU _ wd_204) (fun _ h9 => h9) rfl dX12_orders_241 ?_
      refine lv_iload hx hb dX12_orders_244 (lv_at hl 0 rfl) ?_
      refine lv_aload_n hx hb dX12_orders_246 rfl (lv_at hl 3 rfl) ?_
      refine va_get (D := (dC, dI)) (ci := 12) (v := .ref a19) (C := RX12) (T := TX12) (N := 56) hx hb hU inlX12 hown hK hP 2 rfl rfl 40 (by decide) (hU _ wd_190) (fun _ h9 => h9) rfl dX12_orders_247 ?_
      refine lv_iload hx hb dX12_orders_250 (lv_at hl 0 rfl) ?_
      refine va_iald hx hb hK hP 0 0 rfl rfl (vp_in_nI (n := 11) (by decide) (by decide)) dX12_orders_252 ?_
      refine tk_topi (y := 0) rfl ?_
      refine va_iast hx hb hK hP hD hS 1 0 rfl rfl (vp_in_nI (n := 11) (by decide) (by decide)) dX12_orders_253 (fun H locs hP hD hS => ?_)
      have hP : va_P (dC, dI) vwCl [(a19, .inl (cI, 16, .inl z0)), (a31, .inl (cI, 16, .inl z0)), (a0, .inr (12, [.ref a1, .ref a2, .ref a3, .int 0, .ref a4, .int 0, .int 0, .int 0, .int 0, .int 0, .int (-1), .int 0, .int 0, .int 0, .int 0, .ref a5, .ref a6, .ref a7, .ref a8, .ref a9, .ref a10, .ref a11, .ref a12, .int 0, .int 0, .int 0, .int 0, .int 0, .ref a13, .int 0, .ref a14, .ref a15, .int 0, .int 0, .ref a16, .int 0, .ref a17, .ref a18, .int 0, .int (-1), .ref a19, .ref a20, .ref a21, .int 0, .ref a22, .ref a23, .ref a24, .ref a25, .ref a26, .ref a27, .ref a28, .ref a29, .ref a30, .int 0, .int 0, .ref a31])), (a1, .inl (cI, 1560, .inl w0))] H := by rw [upd_z0] at hP; exact hP
      have hD : va_D A [(a19, .inl (cI, 16, .inl z0)), (a31, .inl (cI, 16, .inl z0)), (a0, .inr (12, [.ref a1, .ref a2, .ref a3, .int 0, .ref a4, .int 0, .int 0, .int 0, .int 0, .int 0, .int (-1), .int 0, .int 0, .int 0, .int 0, .ref a5, .ref a6, .ref a7, .ref a8, .ref a9, .ref a10, .ref a11, .ref a12, .int 0, .int 0, .int 0, .int 0, .int 0, .ref a13, .int 0, .ref a14, .ref a15, .int 0, .int 0, .ref a16, .int 0, .ref a17, .ref a18, .int 0, .int (-1), .ref a19, .ref a20, .ref a21, .int 0, .ref a22, .ref a23, .ref a24, .ref a25, .ref a26, .ref a27, .ref a28, .ref a29, .ref a30, .int 0, .int 0, .ref a31])), (a1, .inl (cI, 1560, .inl w0))] := by rw [upd_z0] at hD; exact hD
      refine lv_iinc (v := 12) (lv' := [(5, .int 12), (4, .int 0), (3, .int 0), (0, .ref a0), (1, .int 1), (2, .int 0)]) hx hb dX12_orders_254 hl (k := 0) rfl (by decide) (by decide) rfl (fun ls hl => ?_)
      refine lv_goto (tgt := 233) hx hb dX12_orders_257 (by decide) ?_
      refine lv_iload hx hb dX12_orders_233 (lv_at hl 0 rfl) ?_
      refine lv_bipush (v := 16) hx hb dX12_orders_235 (by decide) ?_
      refine lv_icmp_ge (tgt := 260) hx hb dX12_orders_237 (by decide) (fun c9 => absurd c9 (by decide)) (fun _ => ?_)
      refine lv_aload_n hx hb dX12_orders_240 rfl (lv_at hl 3 rfl) ?_
      refine va_get (D := (dC, dI)) (ci := 12) (v := .ref a31) (C := RX12) (T := TX12) (N := 56) hx hb hU inlX12 hown hK hP 2 rfl rfl 55 (by decide) (hU _ wd_204) (fun _ h9 => h9) rfl dX12_orders_241 ?_
      refine lv_iload hx hb dX12_orders_244 (lv_at hl 0 rfl) ?_
      refine lv_aload_n hx hb dX12_orders_246 rfl (lv_at hl 3 rfl) ?_
      refine va_get (D := (dC, dI)) (ci := 12) (v := .ref a19) (C := RX12) (T := TX12) (N := 56) hx hb hU inlX12 hown hK hP 2 rfl rfl 40 (by decide) (hU _ wd_190) (fun _ h9 => h9) rfl dX12_orders_247 ?_
      refine lv_iload hx hb dX12_orders_250 (lv_at hl 0 rfl) ?_
      refine va_iald hx hb hK hP 0 0 rfl rfl (vp_in_nI (n := 12) (by decide) (by decide)) dX12_orders_252 ?_
      refine tk_topi (y := 0) rfl ?_
      refine va_iast hx hb hK hP hD hS 1 0 rfl rfl (vp_in_nI (n := 12) (by decide) (by decide)) dX12_orders_253 (fun H locs hP hD hS => ?_)
      have hP : va_P (dC, dI) vwCl [(a19, .inl (cI, 16, .inl z0)), (a31, .inl (cI, 16, .inl z0)), (a0, .inr (12, [.ref a1, .ref a2, .ref a3, .int 0, .ref a4, .int 0, .int 0, .int 0, .int 0, .int 0, .int (-1), .int 0, .int 0, .int 0, .int 0, .ref a5, .ref a6, .ref a7, .ref a8, .ref a9, .ref a10, .ref a11, .ref a12, .int 0, .int 0, .int 0, .int 0, .int 0, .ref a13, .int 0, .ref a14, .ref a15, .int 0, .int 0, .ref a16, .int 0, .ref a17, .ref a18, .int 0, .int (-1), .ref a19, .ref a20, .ref a21, .int 0, .ref a22, .ref a23, .ref a24, .ref a25, .ref a26, .ref a27, .ref a28, .ref a29, .ref a30, .int 0, .int 0, .ref a31])), (a1, .inl (cI, 1560, .inl w0))] H := by rw [upd_z0] at hP; exact hP
      have hD : va_D A [(a19, .inl (cI, 16, .inl z0)), (a31, .inl (cI, 16, .inl z0)), (a0, .inr (12, [.ref a1, .ref a2, .ref a3, .int 0, .ref a4, .int 0, .int 0, .int 0, .int 0, .int 0, .int (-1), .int 0, .int 0, .int 0, .int 0, .ref a5, .ref a6, .ref a7, .ref a8, .ref a9, .ref a10, .ref a11, .ref a12, .int 0, .int 0, .int 0, .int 0, .int 0, .ref a13, .int 0, .ref a14, .ref a15, .int 0, .int 0, .ref a16, .int 0, .ref a17, .ref a18, .int 0, .int (-1), .ref a19, .ref a20, .ref a21, .int 0, .ref a22, .ref a23, .ref a24, .ref a25, .ref a26, .ref a27, .ref a28, .ref a29, .ref a30, .int 0, .int 0, .ref a31])), (a1, .inl (cI, 1560, .inl w0))] := by rw [upd_z0] at hD; exact hD
      refine lv_iinc (v := 13) (lv' := [(5, .int 13), (4, .int 0), (3, .int 0), (0, .ref a0), (1, .int 1), (2, .int 0)]) hx hb dX12_orders_254 hl (k := 0) rfl (by decide) (by decide) rfl (fun ls hl => ?_)
      refine lv_goto (tgt := 233) hx hb dX12_orders_257 (by decide) ?_
      refine lv_iload hx hb dX12_orders_233 (lv_at hl 0 rfl) ?_
      refine lv_bipush (v := 16) hx hb dX12_orders_235 (by decide) ?_
      refine lv_icmp_ge (tgt := 260) hx hb dX12_orders_237 (by decide) (fun c9 => absurd c9 (by decide)) (fun _ => ?_)
      refine lv_aload_n hx hb dX12_orders_240 rfl (lv_at hl 3 rfl) ?_
      refine va_get (D := (dC, dI)) (ci := 12) (v := .ref a31) (C := RX12) (T := TX12) (N := 56) hx hb hU inlX12 hown hK hP 2 rfl rfl 55 (by decide) (hU _ wd_204) (fun _ h9 => h9) rfl dX12_orders_241 ?_
      refine lv_iload hx hb dX12_orders_244 (lv_at hl 0 rfl) ?_
      refine lv_aload_n hx hb dX12_orders_246 rfl (lv_at hl 3 rfl) ?_
      refine va_get (D := (dC, dI)) (ci := 12) (v := .ref a19) (C := RX12) (T := TX12) (N := 56) hx hb hU inlX12 hown hK hP 2 rfl rfl 40 (by decide) (hU _ wd_190) (fun _ h9 => h9) rfl dX12_orders_247 ?_
      refine lv_iload hx hb dX12_orders_250 (lv_at hl 0 rfl) ?_
      refine va_iald hx hb hK hP 0 0 rfl rfl (vp_in_nI (n := 13) (by decide) (by decide)) dX12_orders_252 ?_
      refine tk_topi (y := 0) rfl ?_
      refine va_iast hx hb hK hP hD hS 1 0 rfl rfl (vp_in_nI (n := 13) (by decide) (by decide)) dX12_orders_253 (fun H locs hP hD hS => ?_)
      have hP : va_P (dC, dI) vwCl [(a19, .inl (cI, 16, .inl z0)), (a31, .inl (cI, 16, .inl z0)), (a0, .inr (12, [.ref a1, .ref a2, .ref a3, .int 0, .ref a4, .int 0, .int 0, .int 0, .int 0, .int 0, .int (-1), .int 0, .int 0, .int 0, .int 0, .ref a5, .ref a6, .ref a7, .ref a8, .ref a9, .ref a10, .ref a11, .ref a12, .int 0, .int 0, .int 0, .int 0, .int 0, .ref a13, .int 0, .ref a14, .ref a15, .int 0, .int 0, .ref a16, .int 0, .ref a17, .ref a18, .int 0, .int (-1), .ref a19, .ref a20, .ref a21, .int 0, .ref a22, .ref a23, .ref a24, .ref a25, .ref a26, .ref a27, .ref a28, .ref a29, .ref a30, .int 0, .int 0, .ref a31])), (a1, .inl (cI, 1560, .inl w0))] H := by rw [upd_z0] at hP; exact hP
      have hD : va_D A [(a19, .inl (cI, 16, .inl z0)), (a31, .inl (cI, 16, .inl z0)), (a0, .inr (12, [.ref a1, .ref a2, .ref a3, .int 0, .ref a4, .int 0, .int 0, .int 0, .int 0, .int 0, .int (-1), .int 0, .int 0, .int 0, .int 0, .ref a5, .ref a6, .ref a7, .ref a8, .ref a9, .ref a10, .ref a11, .ref a12, .int 0, .int 0, .int 0, .int 0, .int 0, .ref a13, .int 0, .ref a14, .ref a15, .int 0, .int 0, .ref a16, .int 0, .ref a17, .ref a18, .int 0, .int (-1), .ref a19, .ref a20, .ref a21, .int 0, .ref a22, .ref a23, .ref a24, .ref a25, .ref a26, .ref a27, .ref a28, .ref a29, .ref a30, .int 0, .int 0, .ref a31])), (a1, .inl (cI, 1560, .inl w0))] := by rw [upd_z0] at hD; exact hD
      refine lv_iinc (v := 14) (lv' := [(5, .int 14), (4, .int 0), (3, .int 0), (0, .ref a0), (1, .int 1), (2, .int 0)]) hx hb dX12_orders_254 hl (k := 0) rfl (by decide) (by decide) rfl (fun ls hl => ?_)
      refine lv_goto (tgt := 233) hx hb dX12_orders_257 (by decide) ?_
      refine lv_iload hx hb dX12_orders_233 (lv_at hl 0 rfl) ?_
      refine lv_bipush (v := 16) hx hb dX12_orders_235 (by decide) ?_
      refine lv_icmp_ge (tgt := 260) hx hb dX12_orders_237 (by decide) (fun c9 => absurd c9 (by decide)) (fun _ => ?_)
      refine lv_aload_n hx hb dX12_orders_240 rfl (lv_at hl 3 rfl) ?_
      refine va_get (D := (dC, dI)) (ci := 12) (v := .ref a31) (C := RX12) (T := TX12) (N := 56) hx hb hU inlX12 hown hK hP 2 rfl rfl 55 (by decide) (hU _ wd_204) (fun _ h9 => h9) rfl dX12_orders_241 ?_
      refine lv_iload hx hb dX12_orders_244 (lv_at hl 0 rfl) ?_
      refine lv_aload_n hx hb dX12_orders_246 rfl (lv_at hl 3 rfl) ?_
      refine va_get (D := (dC, dI)) (ci := 12) (v := .ref a19) (C := RX12) (T := TX12) (N := 56) hx hb hU inlX12 hown hK hP 2 rfl rfl 40 (by decide) (hU _ wd_190) (fun _ h9 => h9) rfl dX12_orders_247 ?_
      refine lv_iload hx hb dX12_orders_250 (lv_at hl 0 rfl) ?_
      refine va_iald hx hb hK hP 0 0 rfl rfl (vp_in_nI (n := 14) (by decide) (by decide)) dX12_orders_252 ?_
      refine tk_topi (y := 0) rfl ?_
      refine va_iast hx hb hK hP hD hS 1 0 rfl rfl (vp_in_nI (n := 14) (by decide) (by decide)) dX12_orders_253 (fun H locs hP hD hS => ?_)
      have hP : va_P (dC, dI) vwCl [(a19, .inl (cI, 16, .inl z0)), (a31, .inl (cI, 16, .inl z0)), (a0, .inr (12, [.ref a1, .ref a2, .ref a3, .int 0, .ref a4, .int 0, .int 0, .int 0, .int 0, .int 0, .int (-1), .int 0, .int 0, .int 0, .int 0, .ref a5, .ref a6, .ref a7, .ref a8, .ref a9, .ref a10, .ref a11, .ref a12, .int 0, .int 0, .int 0, .int 0, .int 0, .ref a13, .int 0, .ref a14, .ref a15, .int 0, .int 0, .ref a16, .int 0, .ref a17, .ref a18, .int 0, .int (-1), .ref a19, .ref a20, .ref a21, .int 0, .ref a22, .ref a23, .ref a24, .ref a25, .ref a26, .ref a27, .ref a28, .ref a29, .ref a30, .int 0, .int 0, .ref a31])), (a1, .inl (cI, 1560, .inl w0))] H := by rw [upd_z0] at hP; exact hP
      have hD : va_D A [(a19, .inl (cI, 16, .inl z0)), (a31, .inl (cI, 16, .inl z0)), (a0, .inr (12, [.ref a1, .ref a2, .ref a3, .int 0, .ref a4, .int 0, .int 0, .int 0, .int 0, .int 0, .int (-1), .int 0, .int 0, .int 0, .int 0, .ref a5, .ref a6, .ref a7, .ref a8, .ref a9, .ref a10, .ref a11, .ref a12, .int 0, .int 0, .int 0, .int 0, .int 0, .ref a13, .int 0, .ref a14, .ref a15, .int 0, .int 0, .ref a16, .int 0, .ref a17, .ref a18, .int 0, .int (-1), .ref a19, .ref a20, .ref a21, .int 0, .ref a22, .ref a23, .ref a24, .ref a25, .ref a26, .ref a27, .ref a28, .ref a29, .ref a30, .int 0, .int 0, .ref a31])), (a1, .inl (cI, 1560, .inl w0))] := by rw [upd_z0] at hD; exact hD
      refine lv_iinc (v := 15) (lv' := [(5, .int 15), (4, .int 0), (3, .int 0), (0, .ref a0), (1, .int 1), (2, .int 0)]) hx hb dX12_orders_254 hl (k := 0) rfl (by decide) (by decide) rfl (fun ls hl => ?_)
      refine lv_goto (tgt := 233) hx hb dX12_orders_257 (by decide) ?_
      refine lv_iload hx hb dX12_orders_233 (lv_at hl 0 rfl) ?_
      refine lv_bipush (v := 16) hx hb dX12_orders_235 (by decide) ?_
      refine lv_icmp_ge (tgt := 260) hx hb dX12_orders_237 (by decide) (fun c9 => absurd c9 (by decide)) (fun _ => ?_)
      refine lv_aload_n hx hb dX12_orders_240 rfl (lv_at hl 3 rfl) ?_
      refine va_get (D := (dC, dI)) (ci := 12) (v := .ref a31) (C := RX12) (T := TX12) (N := 56) hx hb hU inlX12 hown hK hP 2 rfl rfl 55 (by decide) (hU _ wd_204) (fun _ h9 => h9) rfl dX12_orders_241 ?_
      refine lv_iload hx hb dX12_orders_244 (lv_at hl 0 rfl) ?_
      refine lv_aload_n hx hb dX12_orders_246 rfl (lv_at hl 3 rfl) ?_
      refine va_get (D := (dC, dI)) (ci := 12) (v := .ref a19) (C := RX12) (T := TX12) (N := 56) hx hb hU inlX12 hown hK hP 2 rfl rfl 40 (by decide) (hU _ wd_190) (fun _ h9 => h9) rfl dX12_orders_247 ?_
      refine lv_iload hx hb dX12_orders_250 (lv_at hl 0 rfl) ?_
      refine va_iald hx hb hK hP 0 0 rfl rfl (vp_in_nI (n := 15) (by decide) (by decide)) dX12_orders_252 ?_
      refine tk_topi (y := 0) rfl ?_
      refine va_iast hx hb hK hP hD hS 1 0 rfl rfl (vp_in_nI (n := 15) (by decide) (by decide)) dX12_orders_253 (fun H locs hP hD hS => ?_)
      have hP : va_P (dC, dI) vwCl [(a19, .inl (cI, 16, .inl z0)), (a31, .inl (cI, 16, .inl z0)), (a0, .inr (12, [.ref a1, .ref a2, .ref a3, .int 0, .ref a4, .int 0, .int 0, .int 0, .int 0, .int 0, .int (-1), .int 0, .int 0, .int 0, .int 0, .ref a5, .ref a6, .ref a7, .ref a8, .ref a9, .ref a10, .ref a11, .ref a12, .int 0, .int 0, .int 0, .int 0, .int 0, .ref a13, .int 0, .ref a14, .ref a15, .int 0, .int 0, .ref a16, .int 0, .ref a17, .ref a18, .int 0, .int (-1), .ref a19, .ref a20, .ref a21, .int 0, .ref a22, .ref a23, .ref a24, .ref a25, .ref a26, .ref a27, .ref a28, .ref a29, .ref a30, .int 0, .int 0, .ref a31])), (a1, .inl (cI, 1560, .inl w0))] H := by rw [upd_z0] at hP; exact hP
      have hD : va_D A [(a19, .inl (cI, 16, .inl z0)), (a31, .inl (cI, 16, .inl z0)), (a0, .inr (12, [.ref a1, .ref a2, .ref a3, .int 0, .ref a4, .int 0, .int 0, .int 0, .int 0, .int 0, .int (-1), .int 0, .int 0, .int 0, .int 0, .ref a5, .ref a6, .ref a7, .ref a8, .ref a9, .ref a10, .ref a11, .ref a12, .int 0, .int 0, .int 0, .int 0, .int 0, .ref a13, .int 0, .ref a14, .ref a15, .int 0, .int 0, .ref a16, .int 0, .ref a17, .ref a18, .int 0, .int (-1), .ref a19, .ref a20, .ref a21, .int 0, .ref a22, .ref a23, .ref a24, .ref a25, .ref a26, .ref a27, .ref a28, .ref a29, .ref a30, .int 0, .int 0, .ref a31])), (a1, .inl (cI, 1560, .inl w0))] := by rw [upd_z0] at hD; exact hD
      refine lv_iinc (v := 16) (lv' := [(5, .int 16), (4, .int 0), (3, .int 0), (0, .ref a0), (1, .int 1), (2, .int 0)]) hx hb dX12_orders_254 hl (k := 0) rfl (by decide) (by decide) rfl (fun ls hl => ?_)
      refine lv_goto (tgt := 233) hx hb dX12_orders_257 (by decide) ?_
      refine lv_iload hx hb dX12_orders_233 (lv_at hl 0 rfl) ?_
      refine lv_bipush (v := 16) hx hb dX12_orders_235 (by decide) ?_
      refine lv_icmp_ge (tgt := 260) hx hb dX12_orders_237 (by decide) (fun _ => ?_) (fun c9 => absurd (by decide) c9) 
      refine lv_aload_n hx hb dX12_orders_260 rfl (lv_at hl 3 rfl) ?_
      refine lv_iconst (v := (-1)) hx hb dX12_orders_261 (by decide) ?_
      refine va_put (D := (dC, dI)) (ci := 12) (v := .int (-1)) (ty := .int) (C := RX12) (T := TX12) (N := 56) hx hb hU inlX12 tyX12 tyX12_ok nmX12 hown hK hP hD hS 2 rfl rfl 54 (by decide) (hU _ wd_1242) (fun _ h9 => h9) rfl (by decide +kernel) rfl rfl (Nat.le_of_ble_eq_true rfl) dX12_orders_262 (fun H locs hP hD hS => ?_)
      have hP : va_P (dC, dI) vwCl [(a19, .inl (cI, 16, .inl z0)), (a31, .inl (cI, 16, .inl z0)), (a0, .inr (12, [.ref a1, .ref a2, .ref a3, .int 0, .ref a4, .int 0, .int 0, .int 0, .int 0, .int 0, .int (-1), .int 0, .int 0, .int 0, .int 0, .ref a5, .ref a6, .ref a7, .ref a8, .ref a9, .ref a10, .ref a11, .ref a12, .int 0, .int 0, .int 0, .int 0, .int 0, .ref a13, .int 0, .ref a14, .ref a15, .int 0, .int 0, .ref a16, .int 0, .ref a17, .ref a18, .int 0, .int (-1), .ref a19, .ref a20, .ref a21, .int 0, .ref a22, .ref a23, .ref a24, .ref a25, .ref a26, .ref a27, .ref a28, .ref a29, .ref a30, .int 0, .int (-1), .ref a31])), (a1, .inl (cI, 1560, .inl w0))] H := hP
      have hD : va_D A [(a19, .inl (cI, 16, .inl z0)), (a31, .inl (cI, 16, .inl z0)), (a0, .inr (12, [.ref a1, .ref a2, .ref a3, .int 0, .ref a4, .int 0, .int 0, .int 0, .int 0, .int 0, .int (-1), .int 0, .int 0, .int 0, .int 0, .ref a5, .ref a6, .ref a7, .ref a8, .ref a9, .ref a10, .ref a11, .ref a12, .int 0, .int 0, .int 0, .int 0, .int 0, .ref a13, .int 0, .ref a14, .ref a15, .int 0, .int 0, .ref a16, .int 0, .ref a17, .ref a18, .int 0, .int (-1), .ref a19, .ref a20, .ref a21, .int 0, .ref a22, .ref a23, .ref a24, .ref a25, .ref a26, .ref a27, .ref a28, .ref a29, .ref a30, .int 0, .int (-1), .ref a31])), (a1, .inl (cI, 1560, .inl w0))] := hD
      refine lv_aload_n hx hb dX12_orders_265 rfl (lv_at hl 3 rfl) ?_
      refine lv_iconst (v := 0) hx hb dX12_orders_266 (by decide) ?_
      refine lv_iload_n hx hb dX12_orders_267 rfl (lv_at hl 2 rfl) ?_
      refine tk_rv (wr := [(a19, .inl (cI, 16, .inl z0)), (a31, .inl (cI, 16, .inl z0)), (a1, .inl (cI, 1560, .inl w0))]) (tk_V (As := [.int 0, .int 0]) (rest := []) (n := 2) hx hb hml hown hU hN (cc_X12_triesOrders_0 l (dC, dI) cI cL cZ H.size a0 a1 a2 a3 a4 a5 a6 a7 a8 a9 a10 a11 a12 a13 a14 a15 a16 a17 a18 a19 a20 a21 a22 a23 a24 a25 a26 a27 a28 a29 a30 a31) wd_1247 wd_1248 wd_1249 wd_5 wd_1250 (by decide +kernel) ⟨Nat.le_of_ble_eq_true rfl, Nat.le_of_ble_eq_true rfl⟩ hK hP hD [2] (by decide) rfl 0 12 rfl rfl rfl rfl hl.1 rfl (Nat.le_of_ble_eq_true rfl) dX12_orders_268 ⟨Nat.le_of_ble_eq_true rfl, Nat.le_of_ble_eq_true rfl⟩) hP hD hS hA [2] [0, 1, 3] rfl rfl (by decide) (by decide) (fun w_10 H locs hw hP hD hS => ?_)
      subst hw
      have hP : va_P (dC, dI) vwCl [(a19, .inl (cI, 16, .inl z0)), (a31, .inl (cI, 16, .inl z0)), (a1, .inl (cI, 1560, .inl w0)), (a0, .inr (12, [.ref a1, .ref a2, .ref a3, .int 0, .ref a4, .int 0, .int 0, .int 0, .int 0, .int 0, .int (-1), .int 0, .int 0, .int 0, .int 0, .ref a5, .ref a6, .ref a7, .ref a8, .ref a9, .ref a10, .ref a11, .ref a12, .int 0, .int 0, .int 0, .int 0, .int 0, .ref a13, .int 0, .ref a14, .ref a15, .int 0, .int 0, .ref a16, .int 0, .ref a17, .ref a18, .int 0, .int (-1), .ref a19, .ref a20, .ref a21, .int 0, .ref a22, .ref a23, .ref a24, .ref a25, .ref a26, .ref a27, .ref a28, .ref a29, .ref a30, .int 0, .int 0, .ref a31]))] H := hP
      have hD : va_D A [(a19, .inl (cI, 16, .inl z0)), (a31, .inl (cI, 16, .inl z0)), (a1, .inl (cI, 1560, .inl w0)), (a0, .inr (12, [.ref a1, .ref a2, .ref a3, .int 0, .ref a4, .int 0, .int 0, .int 0, .int 0, .int 0, .int (-1), .int 0, .int 0, .int 0, .int 0, .ref a5, .ref a6, .ref a7, .ref a8, .ref a9, .ref a10, .ref a11, .ref a12, .int 0, .int 0, .int 0, .int 0, .int 0, .ref a13, .int 0, .ref a14, .ref a15, .int 0, .int 0, .ref a16, .int 0, .ref a17, .ref a18, .int 0, .int (-1), .ref a19, .ref a20, .ref a21, .int 0, .ref a22, .ref a23, .ref a24, .ref a25, .ref a26, .ref a27, .ref a28, .ref a29, .ref a30, .int 0, .int 0, .ref a31]))] := hD
      refine lv_aload_n hx hb dX12_orders_271 rfl (lv_at hl 3 rfl) ?_
      refine lv_iload hx hb dX12_orders_272 (lv_at hl 1 rfl) ?_
      refine va_put (D := (dC, dI)) (ci := 12) (v := .int 0) (ty := .int) (C := RX12) (T := TX12) (N := 56) hx hb hU inlX12 tyX12 tyX12_ok nmX12 hown hK hP hD hS 3 rfl rfl 43 (by decide) (hU _ wd_572) (fun _ h9 => h9) rfl (by decide +kernel) rfl rfl (Nat.le_of_ble_eq_true rfl) dX12_orders_274 (fun H locs hP hD hS => ?_)
      have hP : va_P (dC, dI) vwCl [(a19, .inl (cI, 16, .inl z0)), (a31, .inl (cI, 16, .inl z0)), (a1, .inl (cI, 1560, .inl w0)), (a0, .inr (12, [.ref a1, .ref a2, .ref a3, .int 0, .ref a4, .int 0, .int 0, .int 0, .int 0, .int 0, .int (-1), .int 0, .int 0, .int 0, .int 0, .ref a5, .ref a6, .ref a7, .ref a8, .ref a9, .ref a10, .ref a11, .ref a12, .int 0, .int 0, .int 0, .int 0, .int 0, .ref a13, .int 0, .ref a14, .ref a15, .int 0, .int 0, .ref a16, .int 0, .ref a17, .ref a18, .int 0, .int (-1), .ref a19, .ref a20, .ref a21, .int 0, .ref a22, .ref a23, .ref a24, .ref a25, .ref a26, .ref a27, .ref a28, .ref a29, .ref a30, .int 0, .int 0, .ref a31]))] H := hP
      have hD : va_D A [(a19, .inl (cI, 16, .inl z0)), (a31, .inl (cI, 16, .inl z0)), (a1, .inl (cI, 1560, .inl w0)), (a0, .inr (12, [.ref a1, .ref a2, .ref a3, .int 0, .ref a4, .int 0, .int 0, .int 0, .int 0, .int 0, .int (-1), .int 0, .int 0, .int 0, .int 0, .ref a5, .ref a6, .ref a7, .ref a8, .ref a9, .ref a10, .ref a11, .ref a12, .int 0, .int 0, .int 0, .int 0, .int 0, .ref a13, .int 0, .ref a14, .ref a15, .int 0, .int 0, .ref a16, .int 0, .ref a17, .ref a18, .int 0, .int (-1), .ref a19, .ref a20, .ref a21, .int 0, .ref a22, .ref a23, .ref a24, .ref a25, .ref a26, .ref a27, .ref a28, .ref a29, .ref a30, .int 0, .int 0, .ref a31]))] := hD
      refine lv_iconst (v := 0) hx hb dX12_orders_277 (by decide) ?_
      refine lv_istore (lv' := [(5, .int 0), (4, .int 0), (3, .int 0), (0, .ref a0), (1, .int 1), (2, .int 0)]) hx hb dX12_orders_278 hl (by decide) rfl (fun ls hl => ?_)
      refine lv_iload hx hb dX12_orders_280 (lv_at hl 0 rfl) ?_
      refine lv_bipush (v := 16) hx hb dX12_orders_282 (by decide) ?_
      refine lv_icmp_ge (tgt := 307) hx hb dX12_orders_284 (by decide) (fun c9 => absurd c9 (by decide)) (fun _ => ?_)
      refine lv_aload_n hx hb dX12_orders_287 rfl (lv_at hl 3 rfl) ?_
      refine va_get (D := (dC, dI)) (ci := 12) (v := .ref a19) (C := RX12) (T := TX12) (N := 56) hx hb hU inlX12 hown hK hP 3 rfl rfl 40 (by decide) (hU _ wd_190) (fun _ h9 => h9) rfl dX12_orders_288 ?_
      refine lv_iload hx hb dX12_orders_291 (lv_at hl 0 rfl) ?_
      refine lv_aload_n hx hb dX12_orders_293 rfl (lv_at hl 3 rfl) ?_
      refine va_get (D := (dC, dI)) (ci := 12) (v := .ref a31) (C := RX12) (T := TX12) (N := 56) hx hb hU inlX12 hown hK hP 3 rfl rfl 55 (by decide) (hU _ wd_204) (fun _ h9 => h9) rfl dX12_orders_294 ?_
      refine lv_iload hx hb dX12_orders_297 (lv_at hl 0 rfl) ?_
      refine va_iald hx hb hK hP 1 0 rfl rfl (vp_in_nI (n := 0) (by decide) (by decide)) dX12_orders_299 ?_
      refine tk_topi (y := 0) rfl ?_
      refine va_iast hx hb hK hP hD hS 0 0 rfl rfl (vp_in_nI (n := 0) (by decide) (by decide)) dX12_orders_300 (fun H locs hP hD hS => ?_)
      have hP : va_P (dC, dI) vwCl [(a19, .inl (cI, 16, .inl z0)), (a31, .inl (cI, 16, .inl z0)), (a1, .inl (cI, 1560, .inl w0)), (a0, .inr (12, [.ref a1, .ref a2, .ref a3, .int 0, .ref a4, .int 0, .int 0, .int 0, .int 0, .int 0, .int (-1), .int 0, .int 0, .int 0, .int 0, .ref a5, .ref a6, .ref a7, .ref a8, .ref a9, .ref a10, .ref a11, .ref a12, .int 0, .int 0, .int 0, .int 0, .int 0, .ref a13, .int 0, .ref a14, .ref a15, .int 0, .int 0, .ref a16, .int 0, .ref a17, .ref a18, .int 0, .int (-1), .ref a19, .ref a20, .ref a21, .int 0, .ref a22, .ref a23, .ref a24, .ref a25, .ref a26, .ref a27, .ref a28, .ref a29, .ref a30, .int 0, .int 0, .ref a31]))] H := by rw [upd_z0] at hP; exact hP
      have hD : va_D A [(a19, .inl (cI, 16, .inl z0)), (a31, .inl (cI, 16, .inl z0)), (a1, .inl (cI, 1560, .inl w0)), (a0, .inr (12, [.ref a1, .ref a2, .ref a3, .int 0, .ref a4, .int 0, .int 0, .int 0, .int 0, .int 0, .int (-1), .int 0, .int 0, .int 0, .int 0, .ref a5, .ref a6, .ref a7, .ref a8, .ref a9, .ref a10, .ref a11, .ref a12, .int 0, .int 0, .int 0, .int 0, .int 0, .ref a13, .int 0, .ref a14, .ref a15, .int 0, .int 0, .ref a16, .int 0, .ref a17, .ref a18, .int 0, .int (-1), .ref a19, .ref a20, .ref a21, .int 0, .ref a22, .ref a23, .ref a24, .ref a25, .ref a26, .ref a27, .ref a28, .ref a29, .ref a30, .int 0, .int 0, .ref a31]))] := by rw [upd_z0] at hD; exact hD
      refine lv_iinc (v := 1) (lv' := [(5, .int 1), (4, .int 0), (3, .int 0), (0, .ref a0), (1, .int 1), (2, .int 0)]) hx hb dX12_orders_301 hl (k := 0) rfl (by decide) (by decide) rfl (fun ls hl => ?_)
      refine lv_goto (tgt := 280) hx hb dX12_orders_304 (by decide) ?_
      refine lv_iload hx hb dX12_orders_280 (lv_at hl 0 rfl) ?_
      refine lv_bipush (v := 16) hx hb dX12_orders_282 (by decide) ?_
      refine lv_icmp_ge (tgt := 307) hx hb dX12_orders_284 (by decide) (fun c9 => absurd c9 (by decide)) (fun _ => ?_)
      refine lv_aload_n hx hb dX12_orders_287 rfl (lv_at hl 3 rfl) ?_
      refine va_get (D := (dC, dI)) (ci := 12) (v := .ref a19) (C := RX12) (T := TX12) (N := 56) hx hb hU inlX12 hown hK hP 3 rfl rfl 40 (by decide) (hU _ wd_190) (fun _ h9 => h9) rfl dX12_orders_288 ?_
      refine lv_iload hx hb dX12_orders_291 (lv_at hl 0 rfl) ?_
      refine lv_aload_n hx hb dX12_orders_293 rfl (lv_at hl 3 rfl) ?_
      refine va_get (D := (dC, dI)) (ci := 12) (v := .ref a31) (C := RX12) (T := TX12) (N := 56) hx hb hU inlX12 hown hK hP 3 rfl rfl 55 (by decide) (hU _ wd_204) (fun _ h9 => h9) rfl dX12_orders_294 ?_
      refine lv_iload hx hb dX12_orders_297 (lv_at hl 0 rfl) ?_
      refine va_iald hx hb hK hP 1 0 rfl rfl (vp_in_nI (n := 1) (by decide) (by decide)) dX12_orders_299 ?_
      refine tk_topi (y := 0) rfl ?_
      refine va_iast hx hb hK hP hD hS 0 0 rfl rfl (vp_in_nI (n := 1) (by decide) (by decide)) dX12_orders_300 (fun H locs hP hD hS => ?_)
      have hP : va_P (dC, dI) vwCl [(a19, .inl (cI, 16, .inl z0)), (a31, .inl (cI, 16, .inl z0)), (a1, .inl (cI, 1560, .inl w0)), (a0, .inr (12, [.ref a1, .ref a2, .ref a3, .int 0, .ref a4, .int 0, .int 0, .int 0, .int 0, .int 0, .int (-1), .int 0, .int 0, .int 0, .int 0, .ref a5, .ref a6, .ref a7, .ref a8, .ref a9, .ref a10, .ref a11, .ref a12, .int 0, .int 0, .int 0, .int 0, .int 0, .ref a13, .int 0, .ref a14, .ref a15, .int 0, .int 0, .ref a16, .int 0, .ref a17, .ref a18, .int 0, .int (-1), .ref a19, .ref a20, .ref a21, .int 0, .ref a22, .ref a23, .ref a24, .ref a25, .ref a26, .ref a27, .ref a28, .ref a29, .ref a30, .int 0, .int 0, .ref a31]))] H := by rw [upd_z0] at hP; exact hP
      have hD : va_D A [(a19, .inl (cI, 16, .inl z0)), (a31, .inl (cI, 16, .inl z0)), (a1, .inl (cI, 1560, .inl w0)), (a0, .inr (12, [.ref a1, .ref a2, .ref a3, .int 0, .ref a4, .int 0, .int 0, .int 0, .int 0, .int 0, .int (-1), .int 0, .int 0, .int 0, .int 0, .ref a5, .ref a6, .ref a7, .ref a8, .ref a9, .ref a10, .ref a11, .ref a12, .int 0, .int 0, .int 0, .int 0, .int 0, .ref a13, .int 0, .ref a14, .ref a15, .int 0, .int 0, .ref a16, .int 0, .ref a17, .ref a18, .int 0, .int (-1), .ref a19, .ref a20, .ref a21, .int 0, .ref a22, .ref a23, .ref a24, .ref a25, .ref a26, .ref a27, .ref a28, .ref a29, .ref a30, .int 0, .int 0, .ref a31]))] := by rw [upd_z0] at hD; exact hD
      refine lv_iinc (v := 2) (lv' := [(5, .int 2), (4, .int 0), (3, .int 0), (0, .ref a0), (1, .int 1), (2, .int 0)]) hx hb dX12_orders_301 hl (k := 0) rfl (by decide) (by decide) rfl (fun ls hl => ?_)
      refine lv_goto (tgt := 280) hx hb dX12_orders_304 (by decide) ?_
      refine lv_iload hx hb dX12_orders_280 (lv_at hl 0 rfl) ?_
      refine lv_bipush (v := 16) hx hb dX12_orders_282 (by decide) ?_
      refine lv_icmp_ge (tgt := 307) hx hb dX12_orders_284 (by decide) (fun c9 => absurd c9 (by decide)) (fun _ => ?_)
      refine lv_aload_n hx hb dX12_orders_287 rfl (lv_at hl 3 rfl) ?_
      refine va_get (D := (dC, dI)) (ci := 12) (v := .ref a19) (C := RX12) (T := TX12) (N := 56) hx hb hU inlX12 hown hK hP 3 rfl rfl 40 (by decide) (hU _ wd_190) (fun _ h9 => h9) rfl dX12_orders_288 ?_
      refine lv_iload hx hb dX12_orders_291 (lv_at hl 0 rfl) ?_
      refine lv_aload_n hx hb dX12_orders_293 rfl (lv_at hl 3 rfl) ?_
      refine va_get (D := (dC, dI)) (ci := 12) (v := .ref a31) (C := RX12) (T := TX12) (N := 56) hx hb hU inlX12 hown hK hP 3 rfl rfl 55 (by decide) (hU _ wd_204) (fun _ h9 => h9) rfl dX12_orders_294 ?_
      refine lv_iload hx hb dX12_orders_297 (lv_at hl 0 rfl) ?_
      refine va_iald hx hb hK hP 1 0 rfl rfl (vp_in_nI (n := 2) (by decide) (by decide)) dX12_orders_299 ?_
      refine tk_topi (y := 0) rfl ?_
      refine va_iast hx hb hK hP hD hS 0 0 rfl rfl (vp_in_nI (n := 2) (by decide) (by decide)) dX12_orders_300 (fun H locs hP hD hS => ?_)
      have hP : va_P (dC, dI) vwCl [(a19, .inl (cI, 16, .inl z0)), (a31, .inl (cI, 16, .inl z0)), (a1, .inl (cI, 1560, .inl w0)), (a0, .inr (12, [.ref a1, .ref a2, .ref a3, .int 0, .ref a4, .int 0, .int 0, .int 0, .int 0, .int 0, .int (-1), .int 0, .int 0, .int 0, .int 0, .ref a5, .ref a6, .ref a7, .ref a8, .ref a9, .ref a10, .ref a11, .ref a12, .int 0, .int 0, .int 0, .int 0, .int 0, .ref a13, .int 0, .ref a14, .ref a15, .int 0, .int 0, .ref a16, .int 0, .ref a17, .ref a18, .int 0, .int (-1), .ref a19, .ref a20, .ref a21, .int 0, .ref a22, .ref a23, .ref a24, .ref a25, .ref a26, .ref a27, .ref a28, .ref a29, .ref a30, .int 0, .int 0, .ref a31]))] H := by rw [upd_z0] at hP; exact hP
      have hD : va_D A [(a19, .inl (cI, 16, .inl z0)), (a31, .inl (cI, 16, .inl z0)), (a1, .inl (cI, 1560, .inl w0)), (a0, .inr (12, [.ref a1, .ref a2, .ref a3, .int 0, .ref a4, .int 0, .int 0, .int 0, .int 0, .int 0, .int (-1), .int 0, .int 0, .int 0, .int 0, .ref a5, .ref a6, .ref a7, .ref a8, .ref a9, .ref a10, .ref a11, .ref a12, .int 0, .int 0, .int 0, .int 0, .int 0, .ref a13, .int 0, .ref a14, .ref a15, .int 0, .int 0, .ref a16, .int 0, .ref a17, .ref a18, .int 0, .int (-1), .ref a19, .ref a20, .ref a21, .int 0, .ref a22, .ref a23, .ref a24, .ref a25, .ref a26, .ref a27, .ref a28, .ref a29, .ref a30, .int 0, .int 0, .ref a31]))] := by rw [upd_z0] at hD; exact hD
      refine lv_iinc (v := 3) (lv' := [(5, .int 3), (4, .int 0), (3, .int 0), (0, .ref a0), (1, .int 1), (2, .int 0)]) hx hb dX12_orders_301 hl (k := 0) rfl (by decide) (by decide) rfl (fun ls hl => ?_)
      refine lv_goto (tgt := 280) hx hb dX12_orders_304 (by decide) ?_
      refine lv_iload hx hb dX12_orders_280 (lv_at hl 0 rfl) ?_
      refine lv_bipush (v := 16) hx hb dX12_orders_282 (by decide) ?_
      refine lv_icmp_ge (tgt := 307) hx hb dX12_orders_284 (by decide) (fun c9 => absurd c9 (by decide)) (fun _ => ?_)
      refine lv_aload_n hx hb dX12_orders_287 rfl (lv_at hl 3 rfl) ?_
      refine va_get (D := (dC, dI)) (ci := 12) (v := .ref a19) (C := RX12) (T := TX12) (N := 56) hx hb hU inlX12 hown hK hP 3 rfl rfl 40 (by decide) (hU _ wd_190) (fun _ h9 => h9) rfl dX12_orders_288 ?_
      refine lv_iload hx hb dX12_orders_291 (lv_at hl 0 rfl) ?_
      refine lv_aload_n hx hb dX12_orders_293 rfl (lv_at hl 3 rfl) ?_
      refine va_get (D := (dC, dI)) (ci := 12) (v := .ref a31) (C := RX12) (T := TX12) (N := 56) hx hb hU inlX12 hown hK hP 3 rfl rfl 55 (by decide) (hU _ wd_204) (fun _ h9 => h9) rfl dX12_orders_294 ?_
      refine lv_iload hx hb dX12_orders_297 (lv_at hl 0 rfl) ?_
      refine va_iald hx hb hK hP 1 0 rfl rfl (vp_in_nI (n := 3) (by decide) (by decide)) dX12_orders_299 ?_
      refine tk_topi (y := 0) rfl ?_
      refine va_iast hx hb hK hP hD hS 0 0 rfl rfl (vp_in_nI (n := 3) (by decide) (by decide)) dX12_orders_300 (fun H locs hP hD hS => ?_)
      have hP : va_P (dC, dI) vwCl [(a19, .inl (cI, 16, .inl z0)), (a31, .inl (cI, 16, .inl z0)), (a1, .inl (cI, 1560, .inl w0)), (a0, .inr (12, [.ref a1, .ref a2, .ref a3, .int 0, .ref a4, .int 0, .int 0, .int 0, .int 0, .int 0, .int (-1), .int 0, .int 0, .int 0, .int 0, .ref a5, .ref a6, .ref a7, .ref a8, .ref a9, .ref a10, .ref a11, .ref a12, .int 0, .int 0, .int 0, .int 0, .int 0, .ref a13, .int 0, .ref a14, .ref a15, .int 0, .int 0, .ref a16, .int 0, .ref a17, .ref a18, .int 0, .int (-1), .ref a19, .ref a20, .ref a21, .int 0, .ref a22, .ref a23, .ref a24, .ref a25, .ref a26, .ref a27, .ref a28, .ref a29, .ref a30, .int 0, .int 0, .ref a31]))] H := by rw [upd_z0] at hP; exact hP
      have hD : va_D A [(a19, .inl (cI, 16, .inl z0)), (a31, .inl (cI, 16, .inl z0)), (a1, .inl (cI, 1560, .inl w0)), (a0, .inr (12, [.ref a1, .ref a2, .ref a3, .int 0, .ref a4, .int 0, .int 0, .int 0, .int 0, .int 0, .int (-1), .int 0, .int 0, .int 0, .int 0, .ref a5, .ref a6, .ref a7, .ref a8, .ref a9, .ref a10, .ref a11, .ref a12, .int 0, .int 0, .int 0, .int 0, .int 0, .ref a13, .int 0, .ref a14, .ref a15, .int 0, .int 0, .ref a16, .int 0, .ref a17, .ref a18, .int 0, .int (-1), .ref a19, .ref a20, .ref a21, .int 0, .ref a22, .ref a23, .ref a24, .ref a25, .ref a26, .ref a27, .ref a28, .ref a29, .ref a30, .int 0, .int 0, .ref a31]))] := by rw [upd_z0] at hD; exact hD
      refine lv_iinc (v := 4) (lv' := [(5, .int 4), (4, .int 0), (3, .int 0), (0, .ref a0), (1, .int 1), (2, .int 0)]) hx hb dX12_orders_301 hl (k := 0) rfl (by decide) (by decide) rfl (fun ls hl => ?_)
      refine lv_goto (tgt := 280) hx hb dX12_orders_304 (by decide) ?_
      refine lv_iload hx hb dX12_orders_280 (lv_at hl 0 rfl) ?_
      refine lv_bipush (v := 16) hx hb dX12_orders_282 (by decide) ?_
      refine lv_icmp_ge (tgt := 307) hx hb dX12_orders_284 (by decide) (fun c9 => absurd c9 (by decide)) (fun _ => ?_)
      refine lv_aload_n hx hb dX12_orders_287 rfl (lv_at hl 3 rfl) ?_
      refine va_get (D := (dC, dI)) (ci := 12) (v := .ref a19) (C := RX12) (T := TX12) (N := 56) hx hb hU inlX12 hown hK hP 3 rfl rfl 40 (by decide) (hU _ wd_190) (fun _ h9 => h9) rfl dX12_orders_288 ?_
      refine lv_iload hx hb dX12_orders_291 (lv_at hl 0 rfl) ?_
      refine lv_aload_n hx hb dX12_orders_293 rfl (lv_at hl 3 rfl) ?_
      refine va_get (D := (dC, dI)) (ci := 12) (v := .ref a31) (C := RX12) (T := TX12) (N := 56) hx hb hU inlX12 hown hK hP 3 rfl rfl 55 (by decide) (hU _ wd_204) (fun _ h9 => h9) rfl dX12_orders_294 ?_
      refine lv_iload hx hb dX12_orders_297 (lv_at hl 0 rfl) ?_
      refine va_iald hx hb hK hP 1 0 rfl rfl (vp_in_nI (n := 4) (by decide) (by decide)) dX12_orders_299 ?_
      refine tk_topi (y := 0) rfl ?_
      refine va_iast hx hb hK hP hD hS 0 0 rfl rfl (vp_in_nI (n := 4) (by decide) (by decide)) dX12_orders_300 (fun H locs hP hD hS => ?_)
      have hP : va_P (dC, dI) vwCl [(a19, .inl (cI, 16, .inl z0)), (a31, .inl (cI, 16, .inl z0)), (a1, .inl (cI, 1560, .inl w0)), (a0, .inr (12, [.ref a1, .ref a2, .ref a3, .int 0, .ref a4, .int 0, .int 0, .int 0, .int 0, .int 0, .int (-1), .int 0, .int 0, .int 0, .int 0, .ref a5, .ref a6, .ref a7, .ref a8, .ref a9, .ref a10, .ref a11, .ref a12, .int 0, .int 0, .int 0, .int 0, .int 0, .ref a13, .int 0, .ref a14, .ref a15, .int 0, .int 0, .ref a16, .int 0, .ref a17, .ref a18, .int 0, .int (-1), .ref a19, .ref a20, .ref a21, .int 0, .ref a22, .ref a23, .ref a24, .ref a25, .ref a26, .ref a27, .ref a28, .ref a29, .ref a30, .int 0, .int 0, .ref a31]))] H := by rw [upd_z0] at hP; exact hP
      have hD : va_D A [(a19, .inl (cI, 16, .inl z0)), (a31, .inl (cI, 16, .inl z0)), (a1, .inl (cI, 1560, .inl w0)), (a0, .inr (12, [.ref a1, .ref a2, .ref a3, .int 0, .ref a4, .int 0, .int 0, .int 0, .int 0, .int 0, .int (-1), .int 0, .int 0, .int 0, .int 0, .ref a5, .ref a6, .ref a7, .ref a8, .ref a9, .ref a10, .ref a11, .ref a12, .int 0, .int 0, .int 0, .int 0, .int 0, .ref a13, .int 0, .ref a14, .ref a15, .int 0, .int 0, .ref a16, .int 0, .ref a17, .ref a18, .int 0, .int (-1), .ref a19, .ref a20, .ref a21, .int 0, .ref a22, .ref a23, .ref a24, .ref a25, .ref a26, .ref a27, .ref a28, .ref a29, .ref a30, .int 0, .int 0, .ref a31]))] := by rw [upd_z0] at hD; exact hD
      refine lv_iinc (v := 5) (lv' := [(5, .int 5), (4, .int 0), (3, .int 0), (0, .ref a0), (1, .int 1), (2, .int 0)]) hx hb dX12_orders_301 hl (k := 0) rfl (by decide) (by decide) rfl (fun ls hl => ?_)
      refine lv_goto (tgt := 280) hx hb dX12_orders_304 (by decide) ?_
      refine lv_iload hx hb dX12_orders_280 (lv_at hl 0 rfl) ?_
      refine lv_bipush (v := 16) hx hb dX12_orders_282 (by decide) ?_
      refine lv_icmp_ge (tgt := 307) hx hb dX12_orders_284 (by decide) (fun c9 => absurd c9 (by decide)) (fun _ => ?_)
      refine lv_aload_n hx hb dX12_orders_287 rfl (lv_at hl 3 rfl) ?_
      refine va_get (D := (dC, dI)) (ci := 12) (v := .ref a19) (C := RX12) (T := TX12) (N := 56) hx hb hU inlX12 hown hK hP 3 rfl rfl 40 (by decide) (hU _ wd_190) (fun _ h9 => h9) rfl dX12_orders_288 ?_
      refine lv_iload hx hb dX12_orders_291 (lv_at hl 0 rfl) ?_
      refine lv_aload_n hx hb dX12_orders_293 rfl (lv_at hl 3 rfl) ?_
      refine va_get (D := (dC, dI)) (ci := 12) (v := .ref a31) (C := RX12) (T := TX12) (N := 56) hx hb hU inlX12 hown hK hP 3 rfl rfl 55 (by decide) (hU _ wd_204) (fun _ h9 => h9) rfl dX12_orders_294 ?_
      refine lv_iload hx hb dX12_orders_297 (lv_at hl 0 rfl) ?_
      refine va_iald hx hb hK hP 1 0 rfl rfl (vp_in_nI (n := 5) (by decide) (by decide)) dX12_orders_299 ?_
      refine tk_topi (y := 0) rfl ?_
      refine va_iast hx hb hK hP hD hS 0 0 rfl rfl (vp_in_nI (n := 5) (by decide) (by decide)) dX12_orders_300 (fun H locs hP hD hS => ?_)
      have hP : va_P (dC, dI) vwCl [(a19, .inl (cI, 16, .inl z0)), (a31, .inl (cI, 16, .inl z0)), (a1, .inl (cI, 1560, .inl w0)), (a0, .inr (12, [.ref a1, .ref a2, .ref a3, .int 0, .ref a4, .int 0, .int 0, .int 0, .int 0, .int 0, .int (-1), .int 0, .int 0, .int 0, .int 0, .ref a5, .ref a6, .ref a7, .ref a8, .ref a9, .ref a10, .ref a11, .ref a12, .int 0, .int 0, .int 0, .int 0, .int 0, .ref a13, .int 0, .ref a14, .ref a15, .int 0, .int 0, .ref a16, .int 0, .ref a17, .ref a18, .int 0, .int (-1), .ref a19, .ref a20, .ref a21, .int 0, .ref a22, .ref a23, .ref a24, .ref a25, .ref a26, .ref a27, .ref a28, .ref a29, .ref a30, .int 0, .int 0, .ref a31]))] H := by rw [upd_z0] at hP; exact hP
      have hD : va_D A [(a19, .inl (cI, 16, .inl z0)), (a31, .inl (cI, 16, .inl z0)), (a1, .inl (cI, 1560, .inl w0)), (a0, .inr (12, [.ref a1, .ref a2, .ref a3, .int 0, .ref a4, .int 0, .int 0, .int 0, .int 0, .int 0, .int (-1), .int 0, .int 0, .int 0, .int 0, .ref a5, .ref a6, .ref a7, .ref a8, .ref a9, .ref a10, .ref a11, .ref a12, .int 0, .int 0, .int 0, .int 0, .int 0, .ref a13, .int 0, .ref a14, .ref a15, .int 0, .int 0, .ref a16, .int 0, .ref a17, .ref a18, .int 0, .int (-1), .ref a19, .ref a20, .ref a21, .int 0, .ref a22, .ref a23, .ref a24, .ref a25, .ref a26, .ref a27, .ref a28, .ref a29, .ref a30, .int 0, .int 0, .ref a31]))] := by rw [upd_z0] at hD; exact hD
      refine lv_iinc (v := 6) (lv' := [(5, .int 6), (4, .int 0), (3, .int 0), (0, .ref a0), (1, .int 1), (2, .int 0)]) hx hb dX12_orders_301 hl (k := 0) rfl (by decide) (by decide) rfl (fun ls hl => ?_)
      refine lv_goto (tgt := 280) hx hb dX12_orders_304 (by decide) ?_
      refine lv_iload hx hb dX12_orders_280 (lv_at hl 0 rfl) ?_
      refine lv_bipush (v := 16) hx hb dX12_orders_282 (by decide) ?_
      refine lv_icmp_ge (tgt := 307) hx hb dX12_orders_284 (by decide) (fun c9 => absurd c9 (by decide)) (fun _ => ?_)
      refine lv_aload_n hx hb dX12_orders_287 rfl (lv_at hl 3 rfl) ?_
      refine va_get (D := (dC, dI)) (ci := 12) (v := .ref a19) (C := RX12) (T := TX12) (N := 56) hx hb hU inlX12 hown hK hP 3 rfl rfl 40 (by decide) (hU _ wd_190) (fun _ h9 => h9) rfl dX12_orders_288 ?_
      refine lv_iload hx hb dX12_orders_291 (lv_at hl 0 rfl) ?_
      refine lv_aload_n hx hb dX12_orders_293 rfl (lv_at hl 3 rfl) ?_
      refine va_get (D := (dC, dI)) (ci := 12) (v := .ref a31) (C := RX12) (T := TX12) (N := 56) hx hb hU inlX12 hown hK hP 3 rfl rfl 55 (by decide) (hU _ wd_204) (fun _ h9 => h9) rfl dX12_orders_294 ?_
      refine lv_iload hx hb dX12_orders_297 (lv_at hl 0 rfl) ?_
      refine va_iald hx hb hK hP 1 0 rfl rfl (vp_in_nI (n := 6) (by decide) (by decide)) dX12_orders_299 ?_
      refine tk_topi (y := 0) rfl ?_
      refine va_iast hx hb hK hP hD hS 0 0 rfl rfl (vp_in_nI (n := 6) (by decide) (by decide)) dX12_orders_300 (fun H locs hP hD hS => ?_)
      have hP : va_P (dC, dI) vwCl [(a19, .inl (cI, 16, .inl z0)), (a31, .inl (cI, 16, .inl z0)), (a1, .inl (cI, 1560, .inl w0)), (a0, .inr (12, [.ref a1, .ref a2, .ref a3, .int 0, .ref a4, .int 0, .int 0, .int 0, .int 0, .int 0, .int (-1), .int 0, .int 0, .int 0, .int 0, .ref a5, .ref a6, .ref a7, .ref a8, .ref a9, .ref a10, .ref a11, .ref a12, .int 0, .int 0, .int 0, .int 0, .int 0, .ref a13, .int 0, .ref a14, .ref a15, .int 0, .int 0, .ref a16, .int 0, .ref a17, .ref a18, .int 0, .int (-1), .ref a19, .ref a20, .ref a21, .int 0, .ref a22, .ref a23, .ref a24, .ref a25, .ref a26, .ref a27, .ref a28, .ref a29, .ref a30, .int 0, .int 0, .ref a31]))] H := by rw [upd_z0] at hP; exact hP
      have hD : va_D A [(a19, .inl (cI, 16, .inl z0)), (a31, .inl (cI, 16, .inl z0)), (a1, .inl (cI, 1560, .inl w0)), (a0, .inr (12, [.ref a1, .ref a2, .ref a3, .int 0, .ref a4, .int 0, .int 0, .int 0, .int 0, .int 0, .int (-1), .int 0, .int 0, .int 0, .int 0, .ref a5, .ref a6, .ref a7, .ref a8, .ref a9, .ref a10, .ref a11, .ref a12, .int 0, .int 0, .int 0, .int 0, .int 0, .ref a13, .int 0, .ref a14, .ref a15, .int 0, .int 0, .ref a16, .int 0, .ref a17, .ref a18, .int 0, .int (-1), .ref a19, .ref a20, .ref a21, .int 0, .ref a22, .ref a23, .ref a24, .ref a25, .ref a26, .ref a27, .ref a28, .ref a29, .ref a30, .int 0, .int 0, .ref a31]))] := by rw [upd_z0] at hD; exact hD
      refine lv_iinc (v := 7) (lv' := [(5, .int 7), (4, .int 0), (3, .int 0), (0, .ref a0), (1, .int 1), (2, .int 0)]) hx hb dX12_orders_301 hl (k := 0) rfl (by decide) (by decide) rfl (fun ls hl => ?_)
      refine lv_goto (tgt := 280) hx hb dX12_orders_304 (by decide) ?_
      refine lv_iload hx hb dX12_orders_280 (lv_at hl 0 rfl) ?_
      refine lv_bipush (v := 16) hx hb dX12_orders_282 (by decide) ?_
      refine lv_icmp_ge (tgt := 307) hx hb dX12_orders_284 (by decide) (fun c9 => absurd c9 (by decide)) (fun _ => ?_)
      refine lv_aload_n hx hb dX12_orders_287 rfl (lv_at hl 3 rfl) ?_
      refine va_get (D := (dC, dI)) (ci := 12) (v := .ref a19) (C := RX12) (T := TX12) (N := 56) hx hb hU inlX12 hown hK hP 3 rfl rfl 40 (by decide) (hU _ wd_190) (fun _ h9 => h9) rfl dX12_orders_288 ?_
      refine lv_iload hx hb dX12_orders_291 (lv_at hl 0 rfl) ?_
      refine lv_aload_n hx hb dX12_orders_293 rfl (lv_at hl 3 rfl) ?_
      refine va_get (D := (dC, dI)) (ci := 12) (v := .ref a31) (C := RX12) (T := TX12) (N := 56) hx hb hU inlX12 hown hK hP 3 rfl rfl 55 (by decide) (hU _ wd_204) (fun _ h9 => h9) rfl dX12_orders_294 ?_
      refine lv_iload hx hb dX12_orders_297 (lv_at hl 0 rfl) ?_
      refine va_iald hx hb hK hP 1 0 rfl rfl (vp_in_nI (n := 7) (by decide) (by decide)) dX12_orders_299 ?_
      refine tk_topi (y := 0) rfl ?_
      refine va_iast hx hb hK hP hD hS 0 0 rfl rfl (vp_in_nI (n := 7) (by decide) (by decide)) dX12_orders_300 (fun H locs hP hD hS => ?_)
      have hP : va_P (dC, dI) vwCl [(a19, .inl (cI, 16, .inl z0)), (a31, .inl (cI, 16, .inl z0)), (a1, .inl (cI, 1560, .inl w0)), (a0, .inr (12, [.ref a1, .ref a2, .ref a3, .int 0, .ref a4, .int 0, .int 0, .int 0, .int 0, .int 0, .int (-1), .int 0, .int 0, .int 0, .int 0, .ref a5, .ref a6, .ref a7, .ref a8, .ref a9, .ref a10, .ref a11, .ref a12, .int 0, .int 0, .int 0, .int 0, .int 0, .ref a13, .int 0, .ref a14, .ref a15, .int 0, .int 0, .ref a16, .int 0, .ref a17, .ref a18, .int 0, .int (-1), .ref a19, .ref a20, .ref a21, .int 0, .ref a22, .ref a23, .ref a24, .ref a25, .ref a26, .ref a27, .ref a28, .ref a29, .ref a30, .int 0, .int 0, .ref a31]))] H := by rw [upd_z0] at hP; exact hP
      have hD : va_D A [(a19, .inl (cI, 16, .inl z0)), (a31, .inl (cI, 16, .inl z0)), (a1, .inl (cI, 1560, .inl w0)), (a0, .inr (12, [.ref a1, .ref a2, .ref a3, .int 0, .ref a4, .int 0, .int 0, .int 0, .int 0, .int 0, .int (-1), .int 0, .int 0, .int 0, .int 0, .ref a5, .ref a6, .ref a7, .ref a8, .ref a9, .ref a10, .ref a11, .ref a12, .int 0, .int 0, .int 0, .int 0, .int 0, .ref a13, .int 0, .ref a14, .ref a15, .int 0, .int 0, .ref a16, .int 0, .ref a17, .ref a18, .int 0, .int (-1), .ref a19, .ref a20, .ref a21, .int 0, .ref a22, .ref a23, .ref a24, .ref a25, .ref a26, .ref a27, .ref a28, .ref a29, .ref a30, .int 0, .int 0, .ref a31]))] := by rw [upd_z0] at hD; exact hD
      refine lv_iinc (v := 8) (lv' := [(5, .int 8), (4, .int 0), (3, .int 0), (0, .ref a0), (1, .int 1), (2, .int 0)]) hx hb dX12_orders_301 hl (k := 0) rfl (by decide) (by decide) rfl (fun ls hl => ?_)
      refine lv_goto (tgt := 280) hx hb dX12_orders_304 (by decide) ?_
      refine lv_iload hx hb dX12_orders_280 (lv_at hl 0 rfl) ?_
      refine lv_bipush (v := 16) hx hb dX12_orders_282 (by decide) ?_
      refine lv_icmp_ge (tgt := 307) hx hb dX12_orders_284 (by decide) (fun c9 => absurd c9 (by decide)) (fun _ => ?_)
      refine lv_aload_n hx hb dX12_orders_287 rfl (lv_at hl 3 rfl) ?_
      refine va_get (D := (dC, dI)) (ci := 12) (v := .ref a19) (C := RX12) (T := TX12) (N := 56) hx hb hU inlX12 hown hK hP 3 rfl rfl 40 (by decide) (hU _ wd_190) (fun _ h9 => h9) rfl dX12_orders_288 ?_
      refine lv_iload hx hb dX12_orders_291 (lv_at hl 0 rfl) ?_
      refine lv_aload_n hx hb dX12_orders_293 rfl (lv_at hl 3 rfl) ?_
      refine va_get (D := (dC, dI)) (ci := 12) (v := .ref a31) (C := RX12) (T := TX12) (N := 56) hx hb hU inlX12 hown hK hP 3 rfl rfl 55 (by decide) (hU _ wd_204) (fun _ h9 => h9) rfl dX12_orders_294 ?_
      refine lv_iload hx hb dX12_orders_297 (lv_at hl 0 rfl) ?_
      refine va_iald hx hb hK hP 1 0 rfl rfl (vp_in_nI (n := 8) (by decide) (by decide)) dX12_orders_299 ?_
      refine tk_topi (y := 0) rfl ?_
      refine va_iast hx hb hK hP hD hS 0 0 rfl rfl (vp_in_nI (n := 8) (by decide) (by decide)) dX12_orders_300 (fun H locs hP hD hS => ?_)
      have hP : va_P (dC, dI) vwCl [(a19, .inl (cI, 16, .inl z0)), (a31, .inl (cI, 16, .inl z0)), (a1, .inl (cI, 1560, .inl w0)), (a0, .inr (12, [.ref a1, .ref a2, .ref a3, .int 0, .ref a4, .int 0, .int 0, .int 0, .int 0, .int 0, .int (-1), .int 0, .int 0, .int 0, .int 0, .ref a5, .ref a6, .ref a7, .ref a8, .ref a9, .ref a10, .ref a11, .ref a12, .int 0, .int 0, .int 0, .int 0, .int 0, .ref a13, .int 0, .ref a14, .ref a15, .int 0, .int 0, .ref a16, .int 0, .ref a17, .ref a18, .int 0, .int (-1), .ref a19, .ref a20, .ref a21, .int 0, .ref a22, .ref a23, .ref a24, .ref a25, .ref a26, .ref a27, .ref a28, .ref a29, .ref a30, .int 0, .int 0, .ref a31]))] H := by rw [upd_z0] at hP; exact hP
      have hD : va_D A [(a19, .inl (cI, 16, .inl z0)), (a31, .inl (cI, 16, .inl z0)), (a1, .inl (cI, 1560, .inl w0)), (a0, .inr (12, [.ref a1, .ref a2, .ref a3, .int 0, .ref a4, .int 0, .int 0, .int 0, .int 0, .int 0, .int (-1), .int 0, .int 0, .int 0, .int 0, .ref a5, .ref a6, .ref a7, .ref a8, .ref a9, .ref a10, .ref a11, .ref a12, .int 0, .int 0, .int 0, .int 0, .int 0, .ref a13, .int 0, .ref a14, .ref a15, .int 0, .int 0, .ref a16, .int 0, .ref a17, .ref a18, .int 0, .int (-1), .ref a19, .ref a20, .ref a21, .int 0, .ref a22, .ref a23, .ref a24, .ref a25, .ref a26, .ref a27, .ref a28, .ref a29, .ref a30, .int 0, .int 0, .ref a31]))] := by rw [upd_z0] at hD; exact hD
      refine lv_iinc (v := 9) (lv' := [(5, .int 9), (4, .int 0), (3, .int 0), (0, .ref a0), (1, .int 1), (2, .int 0)]) hx hb dX12_orders_301 hl (k := 0) rfl (by decide) (by decide) rfl (fun ls hl => ?_)
      refine lv_goto (tgt := 280) hx hb dX12_orders_304 (by decide) ?_
      refine lv_iload hx hb dX12_orders_280 (lv_at hl 0 rfl) ?_
      refine lv_bipush (v := 16) hx hb dX12_orders_282 (by decide) ?_
      refine lv_icmp_ge (tgt := 307) hx hb dX12_orders_284 (by decide) (fun c9 => absurd c9 (by decide)) (fun _ => ?_)
      refine lv_aload_n hx hb dX12_orders_287 rfl (lv_at hl 3 rfl) ?_
      refine va_get (D := (dC, dI)) (ci := 12) (v := .ref a19) (C := RX12) (T := TX12) (N := 56) hx hb hU inlX12 hown hK hP 3 rfl rfl 40 (by decide) (hU _ wd_190) (fun _ h9 => h9) rfl dX12_orders_288 ?_
      refine lv_iload hx hb dX12_orders_291 (lv_at hl 0 rfl) ?_
      refine lv_aload_n hx hb dX12_orders_293 rfl (lv_at hl 3 rfl) ?_
      refine va_get (D := (dC, dI)) (ci := 12) (v := .ref a31) (C := RX12) (T := TX12) (N := 56) hx hb hU inlX12 hown hK hP 3 rfl rfl 55 (by decide) (hU _ wd_204) (fun _ h9 => h9) rfl dX12_orders_294 ?_
      refine lv_iload hx hb dX12_orders_297 (lv_at hl 0 rfl) ?_
      refine va_iald hx hb hK hP 1 0 rfl rfl (vp_in_nI (n := 9) (by decide) (by decide)) dX12_orders_299 ?_
      refine tk_topi (y := 0) rfl ?_
      refine va_iast hx hb hK hP hD hS 0 0 rfl rfl (vp_in_nI (n := 9) (by decide) (by decide)) dX12_orders_300 (fun H locs hP hD hS => ?_)
      have hP : va_P (dC, dI) vwCl [(a19, .inl (cI, 16, .inl z0)), (a31, .inl (cI, 16, .inl z0)), (a1, .inl (cI, 1560, .inl w0)), (a0, .inr (12, [.ref a1, .ref a2, .ref a3, .int 0, .ref a4, .int 0, .int 0, .int 0, .int 0, .int 0, .int (-1), .int 0, .int 0, .int 0, .int 0, .ref a5, .ref a6, .ref a7, .ref a8, .ref a9, .ref a10, .ref a11, .ref a12, .int 0, .int 0, .int 0, .int 0, .int 0, .ref a13, .int 0, .ref a14, .ref a15, .int 0, .int 0, .ref a16, .int 0, .ref a17, .ref a18, .int 0, .int (-1), .ref a19, .ref a20, .ref a21, .int 0, .ref a22, .ref a23, .ref a24, .ref a25, .ref a26, .ref a27, .ref a28, .ref a29, .ref a30, .int 0, .int 0, .ref a31]))] H := by rw [upd_z0] at hP; exact hP
      have hD : va_D A [(a19, .inl (cI, 16, .inl z0)), (a31, .inl (cI, 16, .inl z0)), (a1, .inl (cI, 1560, .inl w0)), (a0, .inr (12, [.ref a1, .ref a2, .ref a3, .int 0, .ref a4, .int 0, .int 0, .int 0, .int 0, .int 0, .int (-1), .int 0, .int 0, .int 0, .int 0, .ref a5, .ref a6, .ref a7, .ref a8, .ref a9, .ref a10, .ref a11, .ref a12, .int 0, .int 0, .int 0, .int 0, .int 0, .ref a13, .int 0, .ref a14, .ref a15, .int 0, .int 0, .ref a16, .int 0, .ref a17, .ref a18, .int 0, .int (-1), .ref a19, .ref a20, .ref a21, .int 0, .ref a22, .ref a23, .ref a24, .ref a25, .ref a26, .ref a27, .ref a28, .ref a29, .ref a30, .int 0, .int 0, .ref a31]))] := by rw [upd_z0] at hD; exact hD
      refine lv_iinc (v := 10) (lv' := [(5, .int 10), (4, .int 0), (3, .int 0), (0, .ref a0), (1, .int 1), (2, .int 0)]) hx hb dX12_orders_301 hl (k := 0) rfl (by decide) (by decide) rfl (fun ls hl => ?_)
      refine lv_goto (tgt := 280) hx hb dX12_orders_304 (by decide) ?_
      refine lv_iload hx hb dX12_orders_280 (lv_at hl 0 rfl) ?_
      refine lv_bipush (v := 16) hx hb dX12_orders_282 (by decide) ?_
      refine lv_icmp_ge (tgt := 307) hx hb dX12_orders_284 (by decide) (fun c9 => absurd c9 (by decide)) (fun _ => ?_)
      refine lv_aload_n hx hb dX12_orders_287 rfl (lv_at hl 3 rfl) ?_
      refine va_get (D := (dC, dI)) (ci := 12) (v := .ref a19) (C := RX12) (T := TX12) (N := 56) hx hb hU inlX12 hown hK hP 3 rfl rfl 40 (by decide) (hU _ wd_190) (fun _ h9 => h9) rfl dX12_orders_288 ?_
      refine lv_iload hx hb dX12_orders_291 (lv_at hl 0 rfl) ?_
      refine lv_aload_n hx hb dX12_orders_293 rfl (lv_at hl 3 rfl) ?_
      refine va_get (D := (dC, dI)) (ci := 12) (v := .ref a31) (C := RX12) (T := TX12) (N := 56) hx hb hU inlX12 hown hK hP 3 rfl rfl 55 (by decide) (hU _ wd_204) (fun _ h9 => h9) rfl dX12_orders_294 ?_
      refine lv_iload hx hb dX12_orders_297 (lv_at hl 0 rfl) ?_
      refine va_iald hx hb hK hP 1 0 rfl rfl (vp_in_nI (n := 10) (by decide) (by decide)) dX12_orders_299 ?_
      refine tk_topi (y := 0) rfl ?_
      refine va_iast hx hb hK hP hD hS 0 0 rfl rfl (vp_in_nI (n := 10) (by decide) (by decide)) dX12_orders_300 (fun H locs hP hD hS => ?_)
      have hP : va_P (dC, dI) vwCl [(a19, .inl (cI, 16, .inl z0)), (a31, .inl (cI, 16, .inl z0)), (a1, .inl (cI, 1560, .inl w0)), (a0, .inr (12, [.ref a1, .ref a2, .ref a3, .int 0, .ref a4, .int 0, .int 0, .int 0, .int 0, .int 0, .int (-1), .int 0, .int 0, .int 0, .int 0, .ref a5, .ref a6, .ref a7, .ref a8, .ref a9, .ref a10, .ref a11, .ref a12, .int 0, .int 0, .int 0, .int 0, .int 0, .ref a13, .int 0, .ref a14, .ref a15, .int 0, .int 0, .ref a16, .int 0, .ref a17, .ref a18, .int 0, .int (-1), .ref a19, .ref a20, .ref a21, .int 0, .ref a22, .ref a23, .ref a24, .ref a25, .ref a26, .ref a27, .ref a28, .ref a29, .ref a30, .int 0, .int 0, .ref a31]))] H := by rw [upd_z0] at hP; exact hP
      have hD : va_D A [(a19, .inl (cI, 16, .inl z0)), (a31, .inl (cI, 16, .inl z0)), (a1, .inl (cI, 1560, .inl w0)), (a0, .inr (12, [.ref a1, .ref a2, .ref a3, .int 0, .ref a4, .int 0, .int 0, .int 0, .int 0, .int 0, .int (-1), .int 0, .int 0, .int 0, .int 0, .ref a5, .ref a6, .ref a7, .ref a8, .ref a9, .ref a10, .ref a11, .ref a12, .int 0, .int 0, .int 0, .int 0, .int 0, .ref a13, .int 0, .ref a14, .ref a15, .int 0, .int 0, .ref a16, .int 0, .ref a17, .ref a18, .int 0, .int (-1), .ref a19, .ref a20, .ref a21, .int 0, .ref a22, .ref a23, .ref a24, .ref a25, .ref a26, .ref a27, .ref a28, .ref a29, .ref a30, .int 0, .int 0, .ref a31]))] := by rw [upd_z0] at hD; exact hD
      refine lv_iinc (v := 11) (lv' := [(5, .int 11), (4, .int 0), (3, .int 0), (0, .ref a0), (1, .int 1), (2, .int 0)]) hx hb dX12_orders_301 hl (k := 0) rfl (by decide) (by decide) rfl (fun ls hl => ?_)
      refine lv_goto (tgt := 280) hx hb dX12_orders_304 (by decide) ?_
      refine lv_iload hx hb dX12_orders_280 (lv_at hl 0 rfl) ?_
      refine lv_bipush (v := 16) hx hb dX12_orders_282 (by decide) ?_
      refine lv_icmp_ge (tgt := 307) hx hb dX12_orders_284 (by decide) (fun c9 => absurd c9 (by decide)) (fun _ => ?_)
      refine lv_aload_n hx hb dX12_orders_287 rfl (lv_at hl 3 rfl) ?_
      refine va_get (D := (dC, dI)) (ci := 12) (v := .ref a19) (C := RX12) (T := TX12) (N := 56) hx hb hU inlX12 hown hK hP 3 rfl rfl 40 (by decide) (hU _ wd_190) (fun _ h9 => h9) rfl dX12_orders_288 ?_
      refine lv_iload hx hb dX12_orders_291 (lv_at hl 0 rfl) ?_
      refine lv_aload_n hx hb dX12_orders_293 rfl (lv_at hl 3 rfl) ?_
      refine va_get (D := (dC, dI)) (ci := 12) (v := .ref a31) (C := RX12) (T := TX12) (N := 56) hx hb hU inlX12 hown hK hP 3 rfl rfl 55 (by decide) (hU _ wd_204) (fun _ h9 => h9) rfl dX12_orders_294 ?_
      refine lv_iload hx hb dX12_orders_297 (lv_at hl 0 rfl) ?_
      refine va_iald hx hb hK hP 1 0 rfl rfl (vp_in_nI (n := 11) (by decide) (by decide)) dX12_orders_299 ?_
      refine tk_topi (y := 0) rfl ?_
      refine va_iast hx hb hK hP hD hS 0 0 rfl rfl (vp_in_nI (n := 11) (by decide) (by decide)) dX12_orders_300 (fun H locs hP hD hS => ?_)
      have hP : va_P (dC, dI) vwCl [(a19, .inl (cI, 16, .inl z0)), (a31, .inl (cI, 16, .inl z0)), (a1, .inl (cI, 1560, .inl w0)), (a0, .inr (12, [.ref a1, .ref a2, .ref a3, .int 0, .ref a4, .int 0, .int 0, .int 0, .int 0, .int 0, .int (-1), .int 0, .int 0, .int 0, .int 0, .ref a5, .ref a6, .ref a7, .ref a8, .ref a9, .ref a10, .ref a11, .ref a12, .int 0, .int 0, .int 0, .int 0, .int 0, .ref a13, .int 0, .ref a14, .ref a15, .int 0, .int 0, .ref a16, .int 0, .ref a17, .ref a18, .int 0, .int (-1), .ref a19, .ref a20, .ref a21, .int 0, .ref a22, .ref a23, .ref a24, .ref a25, .ref a26, .ref a27, .ref a28, .ref a29, .ref a30, .int 0, .int 0, .ref a31]))] H := by rw [upd_z0] at hP; exact hP
      have hD : va_D A [(a19, .inl (cI, 16, .inl z0)), (a31, .inl (cI, 16, .inl z0)), (a1, .inl (cI, 1560, .inl w0)), (a0, .inr (12, [.ref a1, .ref a2, .ref a3, .int 0, .ref a4, .int 0, .int 0, .int 0, .int 0, .int 0, .int (-1), .int 0, .int 0, .int 0, .int 0, .ref a5, .ref a6, .ref a7, .ref a8, .ref a9, .ref a10, .ref a11, .ref a12, .int 0, .int 0, .int 0, .int 0, .int 0, .ref a13, .int 0, .ref a14, .ref a15, .int 0, .int 0, .ref a16, .int 0, .ref a17, .ref a18, .int 0, .int (-1), .ref a19, .ref a20, .ref a21, .int 0, .ref a22, .ref a23, .ref a24, .ref a25, .ref a26, .ref a27, .ref a28, .ref a29, .ref a30, .int 0, .int 0, .ref a31]))] := by rw [upd_z0] at hD; exact hD
      refine lv_iinc (v := 12) (lv' := [(5, .int 12), (4, .int 0), (3, .int 0), (0, .ref a0), (1, .int 1), (2, .int 0)]) hx hb dX12_orders_301 hl (k := 0) rfl (by decide) (by decide) rfl (fun ls hl => ?_)
      refine lv_goto (tgt := 280) hx hb dX12_orders_304 (by decide) ?_
      refine lv_iload hx hb dX12_orders_280 (lv_at hl 0 rfl) ?_
      refine lv_bipush (v := 16) hx hb dX12_orders_282 (by decide) ?_
      refine lv_icmp_ge (tgt := 307) hx hb dX12_orders_284 (by decide) (fun c9 => absurd c9 (by decide)) (fun _ => ?_)
      refine lv_aload_n hx hb dX12_orders_287 rfl (lv_at hl 3 rfl) ?_
      refine va_get (D := (dC, dI)) (ci := 12) (v := .ref a19) (C := RX12) (T := TX12) (N := 56) hx hb hU inlX12 hown hK hP 3 rfl rfl 40 (by decide) (hU _ wd_190) (fun _ h9 => h9) rfl dX12_orders_288 ?_
      refine lv_iload hx hb dX12_orders_291 (lv_at hl 0 rfl) ?_
      refine lv_aload_n hx hb dX12_orders_293 rfl (lv_at hl 3 rfl) ?_
      refine va_get (D := (dC, dI)) (ci := 12) (v := .ref a31) (C := RX12) (T := TX12) (N := 56) hx hb hU inlX12 hown hK hP 3 rfl rfl 55 (by decide) (hU _ wd_204) (fun _ h9 => h9) rfl dX12_orders_294 ?_
      refine lv_iload hx hb dX12_orders_297 (lv_at hl 0 rfl) ?_
      refine va_iald hx hb hK hP 1 0 rfl rfl (vp_in_nI (n := 12) (by decide) (by decide)) dX12_orders_299 ?_
      refine tk_topi (y := 0) rfl ?_
      refine va_iast hx hb hK hP hD hS 0 0 rfl rfl (vp_in_nI (n := 12) (by decide) (by decide)) dX12_orders_300 (fun H locs hP hD hS => ?_)
      have hP : va_P (dC, dI) vwCl [(a19, .inl (cI, 16, .inl z0)), (a31, .inl (cI, 16, .inl z0)), (a1, .inl (cI, 1560, .inl w0)), (a0, .inr (12, [.ref a1, .ref a2, .ref a3, .int 0, .ref a4, .int 0, .int 0, .int 0, .int 0, .int 0, .int (-1), .int 0, .int 0, .int 0, .int 0, .ref a5, .ref a6, .ref a7, .ref a8, .ref a9, .ref a10, .ref a11, .ref a12, .int 0, .int 0, .int 0, .int 0, .int 0, .ref a13, .int 0, .ref a14, .ref a15, .int 0, .int 0, .ref a16, .int 0, .ref a17, .ref a18, .int 0, .int (-1), .ref a19, .ref a20, .ref a21, .int 0, .ref a22, .ref a23, .ref a24, .ref a25, .ref a26, .ref a27, .ref a28, .ref a29, .ref a30, .int 0, .int 0, .ref a31]))] H := by rw [upd_z0] at hP; exact hP
      have hD : va_D A [(a19, .inl (cI, 16, .inl z0)), (a31, .inl (cI, 16, .inl z0)), (a1, .inl (cI, 1560, .inl w0)), (a0, .inr (12, [.ref a1, .ref a2, .ref a3, .int 0, .ref a4, .int 0, .int 0, .int 0, .int 0, .int 0, .int (-1), .int 0, .int 0, .int 0, .int 0, .ref a5, .ref a6, .ref a7, .ref a8, .ref a9, .ref a10, .ref a11, .ref a12, .int 0, .int 0, .int 0, .int 0, .int 0, .ref a13, .int 0, .ref a14, .ref a15, .int 0, .int 0, .ref a16, .int 0, .ref a17, .ref a18, .int 0, .int (-1), .ref a19, .ref a20, .ref a21, .int 0, .ref a22, .ref a23, .ref a24, .ref a25, .ref a26, .ref a27, .ref a28, .ref a29, .ref a30, .int 0, .int 0, .ref a31]))] := by rw [upd_z0] at hD; exact hD
      refine lv_iinc (v := 13) (lv' := [(5, .int 13), (4, .int 0), (3, .int 0), (0, .ref a0), (1, .int 1), (2, .int 0)]) hx hb dX12_orders_301 hl (k := 0) rfl (by decide) (by decide) rfl (fun ls hl => ?_)
      refine lv_goto (tgt := 280) hx hb dX12_orders_304 (by decide) ?_
      refine lv_iload hx hb dX12_orders_280 (lv_at hl 0 rfl) ?_
      refine lv_bipush (v := 16) hx hb dX12_orders_282 (by decide) ?_
      refine lv_icmp_ge (tgt := 307) hx hb dX12_orders_284 (by decide) (fun c9 => absurd c9 (by decide)) (fun _ => ?_)
      refine lv_aload_n hx hb dX12_orders_287 rfl (lv_at hl 3 rfl) ?_
      refine va_get (D := (dC, dI)) (ci := 12) (v := .ref a19) (C := RX12) (T := TX12) (N := 56) hx hb hU inlX12 hown hK hP 3 rfl rfl 40 (by decide) (hU _ wd_190) (fun _ h9 => h9) rfl dX12_orders_288 ?_
      refine lv_iload hx hb dX12_orders_291 (lv_at hl 0 rfl) ?_
      refine lv_aload_n hx hb dX12_orders_293 rfl (lv_at hl 3 rfl) ?_
      refine va_get (D := (dC, dI)) (ci := 12) (v := .ref a31) (C := RX12) (T := TX12) (N := 56) hx hb hU inlX12 hown hK hP 3 rfl rfl 55 (by decide) (hU _ wd_204) (fun _ h9 => h9) rfl dX12_orders_294 ?_
      refine lv_iload hx hb dX12_orders_297 (lv_at hl 0 rfl) ?_
      refine va_iald hx hb hK hP 1 0 rfl rfl (vp_in_nI (n := 13) (by decide) (by decide)) dX12_orders_299 ?_
      refine tk_topi (y := 0) rfl ?_
      refine va_iast hx hb hK hP hD hS 0 0 rfl rfl (vp_in_nI (n := 13) (by decide) (by decide)) dX12_orders_300 (fun H locs hP hD hS => ?_)
      have hP : va_P (dC, dI) vwCl [(a19, .inl (cI, 16, .inl z0)), (a31, .inl (cI, 16, .inl z0)), (a1, .inl (cI, 1560, .inl w0)), (a0, .inr (12, [.ref a1, .ref a2, .ref a3, .int 0, .ref a4, .int 0, .int 0, .int 0, .int 0, .int 0, .int (-1), .int 0, .int 0, .int 0, .int 0, .ref a5, .ref a6, .ref a7, .ref a8, .ref a9, .ref a10, .ref a11, .ref a12, .int 0, .int 0, .int 0, .int 0, .int 0, .ref a13, .int 0, .ref a14, .ref a15, .int 0, .int 0, .ref a16, .int 0, .ref a17, .ref a18, .int 0, .int (-1), .ref a19, .ref a20, .ref a21, .int 0, .ref a22, .ref a23, .ref a24, .ref a25, .ref a26, .ref a27, .ref a28, .ref a29, .ref a30, .int 0, .int 0, .ref a31]))] H := by rw [upd_z0] at hP; exact hP
      have hD : va_D A [(a19, .inl (cI, 16, .inl z0)), (a31, .inl (cI, 16, .inl z0)), (a1, .inl (cI, 1560, .inl w0)), (a0, .inr (12, [.ref a1, .ref a2, .ref a3, .int 0, .ref a4, .int 0, .int 0, .int 0, .int 0, .int 0, .int (-1), .int 0, .int 0, .int 0, .int 0, .ref a5, .ref a6, .ref a7, .ref a8, .ref a9, .ref a10, .ref a11, .ref a12, .int 0, .int 0, .int 0, .int 0, .int 0, .ref a13, .int 0, .ref a14, .ref a15, .int 0, .int 0, .ref a16, .int 0, .ref a17, .ref a18, .int 0, .int (-1), .ref a19, .ref a20, .ref a21, .int 0, .ref a22, .ref a23, .ref a24, .ref a25, .ref a26, .ref a27, .ref a28, .ref a29, .ref a30, .int 0, .int 0, .ref a31]))] := by rw [upd_z0] at hD; exact hD
      refine lv_iinc (v := 14) (lv' := [(5, .int 14), (4, .int 0), (3, .int 0), (0, .ref a0), (1, .int 1), (2, .int 0)]) hx hb dX12_orders_301 hl (k := 0) rfl (by decide) (by decide) rfl (fun ls hl => ?_)
      refine lv_goto (tgt := 280) hx hb dX12_orders_304 (by decide) ?_
      refine lv_iload hx hb dX12_orders_280 (lv_at hl 0 rfl) ?_
      refine lv_bipush (v := 16) hx hb dX12_orders_282 (by decide) ?_
      refine lv_icmp_ge (tgt := 307) hx hb dX12_orders_284 (by decide) (fun c9 => absurd c9 (by decide)) (fun _ => ?_)
      refine lv_aload_n hx hb dX12_orders_287 rfl (lv_at hl 3 rfl) ?_
      refine va_get (D := (dC, dI)) (ci := 12) (v := .ref a19) (C := RX12) (T := TX12) (N := 56) hx hb hU inlX12 hown hK hP 3 rfl rfl 40 (by decide) (hU _ wd_190) (fun _ h9 => h9) rfl dX12_orders_288 ?_
      refine lv_iload hx hb dX12_orders_291 (lv_at hl 0 rfl) ?_
      refine lv_aload_n hx hb dX12_orders_293 rfl (lv_at hl 3 rfl) ?_
      refine va_get (D := (dC, dI)) (ci := 12) (v := .ref a31) (C := RX12) (T := TX12) (N := 56) hx hb hU inlX12 hown hK hP 3 rfl rfl 55 (by decide) (hU _ wd_204) (fun _ h9 => h9) rfl dX12_orders_294 ?_
      refine lv_iload hx hb dX12_orders_297 (lv_at hl 0 rfl) ?_
      refine va_iald hx hb hK hP 1 0 rfl rfl (vp_in_nI (n := 14) (by decide) (by decide)) dX12_orders_299 ?_
      refine tk_topi (y := 0) rfl ?_
      refine va_iast hx hb hK hP hD hS 0 0 rfl rfl (vp_in_nI (n := 14) (by decide) (by decide)) dX12_orders_300 (fun H locs hP hD hS => ?_)
      have hP : va_P (dC, dI) vwCl [(a19, .inl (cI, 16, .inl z0)), (a31, .inl (cI, 16, .inl z0)), (a1, .inl (cI, 1560, .inl w0)), (a0, .inr (12, [.ref a1, .ref a2, .ref a3, .int 0, .ref a4, .int 0, .int 0, .int 0, .int 0, .int 0, .int (-1), .int 0, .int 0, .int 0, .int 0, .ref a5, .ref a6, .ref a7, .ref a8, .ref a9, .ref a10, .ref a11, .ref a12, .int 0, .int 0, .int 0, .int 0, .int 0, .ref a13, .int 0, .ref a14, .ref a15, .int 0, .int 0, .ref a16, .int 0, .ref a17, .ref a18, .int 0, .int (-1), .ref a19, .ref a20, .ref a21, .int 0, .ref a22, .ref a23, .ref a24, .ref a25, .ref a26, .ref a27, .ref a28, .ref a29, .ref a30, .int 0, .int 0, .ref a31]))] H := by rw [upd_z0] at hP; exact hP
      have hD : va_D A [(a19, .inl (cI, 16, .inl z0)), (a31, .inl (cI, 16, .inl z0)), (a1, .inl (cI, 1560, .inl w0)), (a0, .inr (12, [.ref a1, .ref a2, .ref a3, .int 0, .ref a4, .int 0, .int 0, .int 0, .int 0, .int 0, .int (-1), .int 0, .int 0, .int 0, .int 0, .ref a5, .ref a6, .ref a7, .ref a8, .ref a9, .ref a10, .ref a11, .ref a12, .int 0, .int 0, .int 0, .int 0, .int 0, .ref a13, .int 0, .ref a14, .ref a15, .int 0, .int 0, .ref a16, .int 0, .ref a17, .ref a18, .int 0, .int (-1), .ref a19, .ref a20, .ref a21, .int 0, .ref a22, .ref a23, .ref a24, .ref a25, .ref a26, .ref a27, .ref a28, .ref a29, .ref a30, .int 0, .int 0, .ref a31]))] := by rw [upd_z0] at hD; exact hD
      refine lv_iinc (v := 15) (lv' := [(5, .int 15), (4, .int 0), (3, .int 0), (0, .ref a0), (1, .int 1), (2, .int 0)]) hx hb dX12_orders_301 hl (k := 0) rfl (by decide) (by decide) rfl (fun ls hl => ?_)
      refine lv_goto (tgt := 280) hx hb dX12_orders_304 (by decide) ?_
      refine lv_iload hx hb dX12_orders_280 (lv_at hl 0 rfl) ?_
      refine lv_bipush (v := 16) hx hb dX12_orders_282 (by decide) ?_
      refine lv_icmp_ge (tgt := 307) hx hb dX12_orders_284 (by decide) (fun c9 => absurd c9 (by decide)) (fun _ => ?_)
      refine lv_aload_n hx hb dX12_orders_287 rfl (lv_at hl 3 rfl) ?_
      refine va_get (D := (dC, dI)) (ci := 12) (v := .ref a19) (C := RX12) (T := TX12) (N := 56) hx hb hU inlX12 hown hK hP 3 rfl rfl 40 (by decide) (hU _ wd_190) (fun _ h9 => h9) rfl dX12_orders_288 ?_
      refine lv_iload hx hb dX12_orders_291 (lv_at hl 0 rfl) ?_
      refine lv_aload_n hx hb dX12_orders_293 rfl (lv_at hl 3 rfl) ?_
      refine va_get (D := (dC, dI)) (ci := 12) (v := .ref a31) (C := RX12) (T := TX12) (N := 56) hx hb hU inlX12 hown hK hP 3 rfl rfl 55 (by decide) (hU _ wd_204) (fun _ h9 => h9) rfl dX12_orders_294 ?_
      refine lv_iload hx hb dX12_orders_297 (lv_at hl 0 rfl) ?_
      refine va_iald hx hb hK hP 1 0 rfl rfl (vp_in_nI (n := 15) (by decide) (by decide)) dX12_orders_299 ?_
      refine tk_topi (y := 0) rfl ?_
      refine va_iast hx hb hK hP hD hS 0 0 rfl rfl (vp_in_nI (n := 15) (by decide) (by decide)) dX12_orders_300 (fun H locs hP hD hS => ?_)
      have hP : va_P (dC, dI) vwCl [(a19, .inl (cI, 16, .inl z0)), (a31, .inl (cI, 16, .inl z0)), (a1, .inl (cI, 1560, .inl w0)), (a0, .inr (12, [.ref a1, .ref a2, .ref a3, .int 0, .ref a4, .int 0, .int 0, .int 0, .int 0, .int 0, .int (-1), .int 0, .int 0, .int 0, .int 0, .ref a5, .ref a6, .ref a7, .ref a8, .ref a9, .ref a10, .ref a11, .ref a12, .int 0, .int 0, .int 0, .int 0, .int 0, .ref a13, .int 0, .ref a14, .ref a15, .int 0, .int 0, .ref a16, .int 0, .ref a17, .ref a18, .int 0, .int (-1), .ref a19, .ref a20, .ref a21, .int 0, .ref a22, .ref a23, .ref a24, .ref a25, .ref a26, .ref a27, .ref a28, .ref a29, .ref a30, .int 0, .int 0, .ref a31]))] H := by rw [upd_z0] at hP; exact hP
      have hD : va_D A [(a19, .inl (cI, 16, .inl z0)), (a31, .inl (cI, 16, .inl z0)), (a1, .inl (cI, 1560, .inl w0)), (a0, .inr (12, [.ref a1, .ref a2, .ref a3, .int 0, .ref a4, .int 0, .int 0, .int 0, .int 0, .int 0, .int (-1), .int 0, .int 0, .int 0, .int 0, .ref a5, .ref a6, .ref a7, .ref a8, .ref a9, .ref a10, .ref a11, .ref a12, .int 0, .int 0, .int 0, .int 0, .int 0, .ref a13, .int 0, .ref a14, .ref a15, .int 0, .int 0, .ref a16, .int 0, .ref a17, .ref a18, .int 0, .int (-1), .ref a19, .ref a20, .ref a21, .int 0, .ref a22, .ref a23, .ref a24, .ref a25, .ref a26, .ref a27, .ref a28, .ref a29, .ref a30, .int 0, .int 0, .ref a31]))] := by rw [upd_z0] at hD; exact hD
      refine lv_iinc (v := 16) (lv' := [(5, .int 16), (4, .int 0), (3, .int 0), (0, .ref a0), (1, .int 1), (2, .int 0)]) hx hb dX12_orders_301 hl (k := 0) rfl (by decide) (by decide) rfl (fun ls hl => ?_)
      refine lv_goto (tgt := 280) hx hb dX12_orders_304 (by decide) ?_
      refine lv_iload hx hb dX12_orders_280 (lv_at hl 0 rfl) ?_
      refine lv_bipush (v := 16) hx hb dX12_orders_282 (by decide) ?_
      refine lv_icmp_ge (tgt := 307) hx hb dX12_orders_284 (by decide) (fun _ => ?_) (fun c9 => absurd (by decide) c9) 
      refine lv_iload_n hx hb dX12_orders_307 rfl (lv_at hl 5 rfl) ?_
      refine lv_if_ne (tgt := 318) hx hb dX12_orders_308 (by decide) (fun c9 => absurd (by decide) c9) (fun _ => ?_)
      refine lv_aload_n hx hb dX12_orders_311 rfl (lv_at hl 3 rfl) ?_
      refine va_get (D := (dC, dI)) (ci := 12) (v := .int 0) (C := RX12) (T := TX12) (N := 56) hx hb hU inlX12 hown hK hP 3 rfl rfl 54 (by decide) (hU _ wd_1242) (fun _ h9 => h9) rfl dX12_orders_312 ?_
      refine lv_goto (tgt := 327) hx hb dX12_orders_315 (by decide) ?_
      have hP9 := hP.sub (ws' := []) [] rfl
      have hD9 := hD.sub (ws' := []) [] (by decide) rfl
      refine W.widen (k := 0) (n := 0) (Nat.le_of_ble_eq_true rfl) (Nat.le_of_ble_eq_true rfl) ?_
      exact W.iret (v := 0) hx hb hr (fun t ht hW => ⟨⟨0, [], rfl, ⟨by decide, rfl⟩, by rw [ht]; exact hP9, va_K.moved hW.alike hK, hD9⟩, hS.F ht⟩) hS.2.2 dX12_orders_327
    by_cases c_11 : x1 = 1
    · subst c_11
      refine lv_aload_n hx hb dX12_orders_0 rfl (lv_at hl 0 rfl) ?_
      refine lv_iconst (v := 0) hx hb dX12_orders_1 (by decide) ?_
      refine va_put (D := (dC, dI)) (ci := 12) (v := .int 0) (ty := .int) (C := RX12) (T := TX12) (N := 56) hx hb hU inlX12 tyX12 tyX12_ok nmX12 hown hK hP hD hS 0 rfl rfl 53 (by decide) (hU _ wd_1241) (fun _ h9 => h9) rfl (by decide +kernel) rfl rfl (Nat.le_of_ble_eq_true rfl) dX12_orders_2 (fun H locs hP hD hS => ?_)
      have hP : va_P (dC, dI) vwCl [(a0, .inr (12, [.ref a1, .ref a2, .ref a3, .int 0, .ref a4, .int 0, .int 0, .int 0, .int 0, .int 0, .int (-1), .int 0, .int 0, .int 0, .int 0, .ref a5, .ref a6, .ref a7, .ref a8, .ref a9, .ref a10, .ref a11, .ref a12, .int 0, .int 0, .int 0, .int 0, .int 0, .ref a13, .int 0, .ref a14, .ref a15, .int 0, .int 0, .ref a16, .int 0, .ref a17, .ref a18, .int 0, .int (-1), .ref a19, .ref a20, .ref a21, .int 0, .ref a22, .ref a23, .ref a24, .ref a25, .ref a26, .ref a27, .ref a28, .ref a29, .ref a30, .int 0, .int 0, .ref a31])), (a1, .inl (cI, 1560, .inl w0)), (a19, .inl (cI, 16, .inl z0)), (a31, .inl (cI, 16, .inl z0))] H := hP
      have hD : va_D A [(a0, .inr (12, [.ref a1, .ref a2, .ref a3, .int 0, .ref a4, .int 0, .int 0, .int 0, .int 0, .int 0, .int (-1), .int 0, .int 0, .int 0, .int 0, .ref a5, .ref a6, .ref a7, .ref a8, .ref a9, .ref a10, .ref a11, .ref a12, .int 0, .int 0, .int 0, .int 0, .int 0, .ref a13, .int 0, .ref a14, .ref a15, .int 0, .int 0, .ref a16, .int 0, .ref a17, .ref a18, .int 0, .int (-1), .ref a19, .ref a20, .ref a21, .int 0, .ref a22, .ref a23, .ref a24, .ref a25, .ref a26, .ref a27, .ref a28, .ref a29, .ref a30, .int 0, .int 0, .ref a31])), (a1, .inl (cI, 1560, .inl w0)), (a19, .inl (cI, 16, .inl z0)), (a31, .inl (cI, 16, .inl z0))] := hD
      refine lv_iconst (v := 0) hx hb dX12_orders_5 (by decide) ?_
      refine lv_istore_n (lv' := [(3, .int 0), (0, .ref a0), (1, .int 1), (2, .int 1)]) hx hb dX12_orders_6 rfl hl (by decide) rfl (fun ls hl => ?_)
      refine lv_iload_n hx hb dX12_orders_7 rfl (lv_at hl 0 rfl) ?_
      refine lv_aload_n hx hb dX12_orders_8 rfl (lv_at hl 1 rfl) ?_
      refine va_get (D := (dC, dI)) (ci := 12) (v := .ref a1) (C := RX12) (T := TX12) (N := 56) hx hb hU inlX12 hown hK hP 0 rfl rfl 0 (by decide) (hU _ wd_169) (fun _ h9 => h9) rfl dX12_orders_9 ?_
      refine lv_bipush (v := 17) hx hb dX12_orders_12 (by decide) ?_
      refine va_iald hx hb hK hP 1 0 rfl rfl (vp_in_nI (n := 17) (by decide) (by decide)) dX12_orders_14 ?_
      refine tk_topi (y := 0) (by decide) ?_
      refine lv_icmp_ge (tgt := 61) hx hb dX12_orders_15 (by decide) (fun _ => ?_) (fun c9 => absurd (by decide) c9) 
      refine lv_iload_n hx hb dX12_orders_61 rfl (lv_at hl 2 rfl) ?_
      refine lv_iconst (v := 1) hx hb dX12_orders_62 (by decide) ?_
      refine lv_iconst (v := 2) hx hb dX12_orders_63 (by decide) ?_
      refine tk_ri (wr := [(a0, .inr (12, [.ref a1, .ref a2, .ref a3, .int 0, .ref a4, .int 0, .int 0, .int 0, .int 0, .int 0, .int (-1), .int 0, .int 0, .int 0, .int 0, .ref a5, .ref a6, .ref a7, .ref a8, .ref a9, .ref a10, .ref a11, .ref a12, .int 0, .int 0, .int 0, .int 0, .int 0, .ref a13, .int 0, .ref a14, .ref a15, .int 0, .int 0, .ref a16, .int 0, .ref a17, .ref a18, .int 0, .int (-1), .ref a19, .ref a20, .ref a21, .int 0, .ref a22, .ref a23, .ref a24, .ref a25, .ref a26, .ref a27, .ref a28, .ref a29, .ref a30, .int 0, .int 0, .ref a31])), (a1, .inl (cI, 1560, .inl w0)), (a19, .inl (cI, 16, .inl z0)), (a31, .inl (cI, 16, .inl z0))]) (tk_S (As := [.int 1, .int 1, .int 2]) (rest := []) (n := 3) hx hb hml hown hU hN (cc_X12_isIn_8 l (dC, dI) cI cL cZ H.size ) wd_227 wd_228 wd_5 wd_229 (by decide +kernel) ⟨Nat.le_of_ble_eq_true rfl, Nat.le_of_ble_eq_true rfl⟩ hK hP hD [] (by decide) rfl rfl hl.1 rfl (Nat.le_of_ble_eq_true rfl) dX12_orders_64 ⟨Nat.le_of_ble_eq_true rfl, Nat.le_of_ble_eq_true rfl⟩) hP hD hS hA [] [0, 1, 2, 3] rfl rfl (by decide) (by decide) (fun r_12 w_13 H locs hw hP hD hS => ?_)
      obtain ⟨rfl, rfl⟩ := hw
      have hP : va_P (dC, dI) vwCl [(a0, .inr (12, [.ref a1, .ref a2, .ref a3, .int 0, .ref a4, .int 0, .int 0, .int 0, .int 0, .int 0, .int (-1), .int 0, .int 0, .int 0, .int 0, .ref a5, .ref a6, .ref a7, .ref a8, .ref a9, .ref a10, .ref a11, .ref a12, .int 0, .int 0, .int 0, .int 0, .int 0, .ref a13, .int 0, .ref a14, .ref a15, .int 0, .int 0, .ref a16, .int 0, .ref a17, .ref a18, .int 0, .int (-1), .ref a19, .ref a20, .ref a21, .int 0, .ref a22, .ref a23, .ref a24, .ref a25, .ref a26, .ref a27, .ref a28, .ref a29, .ref a30, .int 0, .int 0, .ref a31])), (a1, .inl (cI, 1560, .inl w0)), (a19, .inl (cI, 16, .inl z0)), (a31, .inl (cI, 16, .inl z0))] H := hP
      have hD : va_D A [(a0, .inr (12, [.ref a1, .ref a2, .ref a3, .int 0, .ref a4, .int 0, .int 0, .int 0, .int 0, .int 0, .int (-1), .int 0, .int 0, .int 0, .int 0, .ref a5, .ref a6, .ref a7, .ref a8, .ref a9, .ref a10, .ref a11, .ref a12, .int 0, .int 0, .int 0, .int 0, .int 0, .ref a13, .int 0, .ref a14, .ref a15, .int 0, .int 0, .ref a16, .int 0, .ref a17, .ref a18, .int 0, .int (-1), .ref a19, .ref a20, .ref a21, .int 0, .ref a22, .ref a23, .ref a24, .ref a25, .ref a26, .ref a27, .ref a28, .ref a29, .ref a30, .int 0, .int 0, .ref a31])), (a1, .inl (cI, 1560, .inl w0)), (a19, .inl (cI, 16, .inl z0)), (a31, .inl (cI, 16, .inl z0))] := hD
      refine lv_if_eq (tgt := 104) hx hb dX12_orders_67 (by decide) (fun c9 => absurd c9 (by decide)) (fun _ => ?_)
      refine lv_aload_n hx hb dX12_orders_70 rfl (lv_at hl 1 rfl) ?_
      refine va_get (D := (dC, dI)) (ci := 12) (v := .int 0) (C := RX12) (T := TX12) (N := 56) hx hb hU inlX12 hown hK hP 0 rfl rfl 53 (by decide) (hU _ wd_1241) (fun _ h9 => h9) rfl dX12_orders_71 ?_
      refine lv_bipush (v := 6) hx hb dX12_orders_74 (by decide) ?_
      refine lv_icmp_gt (tgt := 104) hx hb dX12_orders_76 (by decide) (fun c9 => absurd c9 (by decide)) (fun _ => ?_)
      refine lv_iload_n hx hb dX12_orders_79 rfl (lv_at hl 3 rfl) ?_
      refine lv_iconst (v := 0) hx hb dX12_orders_80 (by decide) ?_
      refine lv_iconst (v := 1) hx hb dX12_orders_81 (by decide) ?_
      refine tk_ri (wr := [(a0, .inr (12, [.ref a1, .ref a2, .ref a3, .int 0, .ref a4, .int 0, .int 0, .int 0, .int 0, .int 0, .int (-1), .int 0, .int 0, .int 0, .int 0, .ref a5, .ref a6, .ref a7, .ref a8, .ref a9, .ref a10, .ref a11, .ref a12, .int 0, .int 0, .int 0, .int 0, .int 0, .ref a13, .int 0, .ref a14, .ref a15, .int 0, .int 0, .ref a16, .int 0, .ref a17, .ref a18, .int 0, .int (-1), .ref a19, .ref a20, .ref a21, .int 0, .ref a22, .ref a23, .ref a24, .ref a25, .ref a26, .ref a27, .ref a28, .ref a29, .ref a30, .int 0, .int 0, .ref a31])), (a1, .inl (cI, 1560, .inl w0)), (a19, .inl (cI, 16, .inl z0)), (a31, .inl (cI, 16, .inl z0))]) (tk_S (As := [.int 1, .int 0, .int 1]) (rest := []) (n := 3) hx hb hml hown hU hN (cc_X12_isIn_3 l (dC, dI) cI cL cZ H.size ) wd_227 wd_228 wd_5 wd_229 (by decide +kernel) ⟨Nat.le_of_ble_eq_true rfl, Nat.le_of_ble_eq_true rfl⟩ hK hP hD [] (by decide) rfl rfl hl.1 rfl (Nat.le_of_ble_eq_true rfl) dX12_orders_82 ⟨Nat.le_of_ble_eq_true rfl, Nat.le_of_ble_eq_true rfl⟩) hP hD hS hA [] [0, 1, 2, 3] rfl rfl (by decide) (by decide) (fun r_14 w_15 H locs hw hP hD hS => ?_)
      obtain ⟨rfl, rfl⟩ := hw
      have hP : va_P (dC, dI) vwCl [(a0, .inr (12, [.ref a1, .ref a2, .ref a3, .int 0, .ref a4, .int 0, .int 0, .int 0, .int 0, .int 0, .int (-1), .int 0, .int 0, .int 0, .int 0, .ref a5, .ref a6, .ref a7, .ref a8, .ref a9, .ref a10, .ref a11, .ref a12, .int 0, .int 0, .int 0, .int 0, .int 0, .ref a13, .int 0, .ref a14, .ref a15, .int 0, .int 0, .ref a16, .int 0, .ref a17, .ref a18, .int 0, .int (-1), .ref a19, .ref a20, .ref a21, .int 0, .ref a22, .ref a23, .ref a24, .ref a25, .ref a26, .ref a27, .ref a28, .ref a29, .ref a30, .int 0, .int 0, .ref a31])), (a1, .inl (cI, 1560, .inl w0)), (a19, .inl (cI, 16, .inl z0)), (a31, .inl (cI, 16, .inl z0))] H := hP
      have hD : va_D A [(a0, .inr (12, [.ref a1, .ref a2, .ref a3, .int 0, .ref a4, .int 0, .int 0, .int 0, .int 0, .int 0, .int (-1), .int 0, .int 0, .int 0, .int 0, .ref a5, .ref a6, .ref a7, .ref a8, .ref a9, .ref a10, .ref a11, .ref a12, .int 0, .int 0, .int 0, .int 0, .int 0, .ref a13, .int 0, .ref a14, .ref a15, .int 0, .int 0, .ref a16, .int 0, .ref a17, .ref a18, .int 0, .int (-1), .ref a19, .ref a20, .ref a21, .int 0, .ref a22, .ref a23, .ref a24, .ref a25, .ref a26, .ref a27, .ref a28, .ref a29, .ref a30, .int 0, .int 0, .ref a31])), (a1, .inl (cI, 1560, .inl w0)), (a19, .inl (cI, 16, .inl z0)), (a31, .inl (cI, 16, .inl z0))] := hD
      refine lv_if_ne (tgt := 106) hx hb dX12_orders_85 (by decide) (fun _ => ?_) (fun c9 => absurd c9 (by decide)) 
      refine lv_aload_n hx hb dX12_orders_106 rfl (lv_at hl 1 rfl) ?_
      refine lv_iload_n hx hb dX12_orders_107 rfl (lv_at hl 2 rfl) ?_
      refine tk_ri (wr := [(a19, .inl (cI, 16, .inl z0)), (a31, .inl (cI, 16, .inl z0))]) (tk_V (As := [.int 1]) (rest := []) (n := 1) hx hb hml hown hU hN (cc_X12_wordsUpTo_0 l (dC, dI) cI cL cZ H.size a0 a1 a2 a3 a4 a5 a6 a7 a8 a9 a10 a11 a12 a13 a14 a15 a16 a17 a18 a19 a20 a21 a22 a23 a24 a25 a26 a27 a28 a29 a30 a31) wd_1169 wd_1170 wd_1171 wd_5 wd_1172 (by decide +kernel) ⟨Nat.le_of_ble_eq_true rfl, Nat.le_of_ble_eq_true rfl⟩ hK hP hD [0, 1] (by decide) rfl 0 12 rfl rfl rfl rfl hl.1 rfl (Nat.le_of_ble_eq_true rfl) dX12_orders_108 ⟨Nat.le_of_ble_eq_true rfl, Nat.le_of_ble_eq_true rfl⟩) hP hD hS hA [0, 1] [2, 3] rfl rfl (by decide) (by decide) (fun r_16 w_17 H locs hw hP hD hS => ?_)
      obtain ⟨rfl, rfl⟩ := hw
      have hP : va_P (dC, dI) vwCl [(a19, .inl (cI, 16, .inl z0)), (a31, .inl (cI, 16, .inl z0)), (a0, .inr (12, [.ref a1, .ref a2, .ref a3, .int 0, .ref a4, .int 0, .int 0, .int 0, .int 0, .int 0, .int (-1), .int 0, .int 0, .int 0, .int 0, .ref a5, .ref a6, .ref a7, .ref a8, .ref a9, .ref a10, .ref a11, .ref a12, .int 0, .int 0, .int 0, .int 0, .int 0, .ref a13, .int 0, .ref a14, .ref a15, .int 0, .int 0, .ref a16, .int 0, .ref a17, .ref a18, .int 0, .int (-1), .ref a19, .ref a20, .ref a21, .int 0, .ref a22, .ref a23, .ref a24, .ref a25, .ref a26, .ref a27, .ref a28, .ref a29, .ref a30, .int 0, .int 0, .ref a31])), (a1, .inl (cI, 1560, .inl w0))] H := hP
      have hD : va_D A [(a19, .inl (cI, 16, .inl z0)), (a31, .inl (cI, 16, .inl z0)), (a0, .inr (12, [.ref a1, .ref a2, .ref a3, .int 0, .ref a4, .int 0, .int 0, .int 0, .int 0, .int 0, .int (-1), .int 0, .int 0, .int 0, .int 0, .ref a5, .ref a6, .ref a7, .ref a8, .ref a9, .ref a10, .ref a11, .ref a12, .int 0, .int 0, .int 0, .int 0, .int 0, .ref a13, .int 0, .ref a14, .ref a15, .int 0, .int 0, .ref a16, .int 0, .ref a17, .ref a18, .int 0, .int (-1), .ref a19, .ref a20, .ref a21, .int 0, .ref a22, .ref a23, .ref a24, .ref a25, .ref a26, .ref a27, .ref a28, .ref a29, .ref a30, .int 0, .int 0, .ref a31])), (a1, .inl (cI, 1560, .inl w0))] := hD
      refine lv_istore_n (lv' := [(3, .int 0), (0, .ref a0), (1, .int 1), (2, .int 1)]) hx hb dX12_orders_111 rfl hl (by decide) rfl (fun ls hl => ?_)
      refine lv_iload_n hx hb dX12_orders_112 rfl (lv_at hl 3 rfl) ?_
      refine lv_iconst (v := 1) hx hb dX12_orders_113 (by decide) ?_
      refine lv_icmp_ne (tgt := 119) hx hb dX12_orders_114 (by decide) (fun c9 => absurd (by decide) c9) (fun _ => ?_)
      refine lv_iload_n hx hb dX12_orders_117 rfl (lv_at hl 0 rfl) ?_
      have hP9 := hP.sub (ws' := []) [] rfl
      have hD9 := hD.sub (ws' := []) [] (by decide) rfl
      refine W.widen (k := 0) (n := 0) (Nat.le_of_ble_eq_true rfl) (Nat.le_of_ble_eq_true rfl) ?_
      exact W.iret (v := 0) hx hb hr (fun t ht hW => ⟨⟨0, [], rfl, ⟨by decide, rfl⟩, by rw [ht]; exact hP9, va_K.moved hW.alike hK, hD9⟩, hS.F ht⟩) hS.2.2 dX12_orders_118
    refine lv_aload_n hx hb dX12_orders_0 rfl (lv_at hl 0 rfl) ?_
    refine lv_iconst (v := 0) hx hb dX12_orders_1 (by decide) ?_
    refine va_put (D := (dC, dI)) (ci := 12) (v := .int 0) (ty := .int) (C := RX12) (T := TX12) (N := 56) hx hb hU inlX12 tyX12 tyX12_ok nmX12 hown hK hP hD hS 0 rfl rfl 53 (by decide) (hU _ wd_1241) (fun _ h9 => h9) rfl (by decide +kernel) rfl rfl (Nat.le_of_ble_eq_true rfl) dX12_orders_2 (fun H locs hP hD hS => ?_)
    have hP : va_P (dC, dI) vwCl [(a0, .inr (12, [.ref a1, .ref a2, .ref a3, .int 0, .ref a4, .int 0, .int 0, .int 0, .int 0, .int 0, .int (-1), .int 0, .int 0, .int 0, .int 0, .ref a5, .ref a6, .ref a7, .ref a8, .ref a9, .ref a10, .ref a11, .ref a12, .int 0, .int 0, .int 0, .int 0, .int 0, .ref a13, .int 0, .ref a14, .ref a15, .int 0, .int 0, .ref a16, .int 0, .ref a17, .ref a18, .int 0, .int (-1), .ref a19, .ref a20, .ref a21, .int 0, .ref a22, .ref a23, .ref a24, .ref a25, .ref a26, .ref a27, .ref a28, .ref a29, .ref a30, .int 0, .int 0, .ref a31])), (a1, .inl (cI, 1560, .inl w0)), (a19, .inl (cI, 16, .inl z0)), (a31, .inl (cI, 16, .inl z0))] H := hP
    have hD : va_D A [(a0, .inr (12, [.ref a1, .ref a2, .ref a3, .int 0, .ref a4, .int 0, .int 0, .int 0, .int 0, .int 0, .int (-1), .int 0, .int 0, .int 0, .int 0, .ref a5, .ref a6, .ref a7, .ref a8, .ref a9, .ref a10, .ref a11, .ref a12, .int 0, .int 0, .int 0, .int 0, .int 0, .ref a13, .int 0, .ref a14, .ref a15, .int 0, .int 0, .ref a16, .int 0, .ref a17, .ref a18, .int 0, .int (-1), .ref a19, .ref a20, .ref a21, .int 0, .ref a22, .ref a23, .ref a24, .ref a25, .ref a26, .ref a27, .ref a28, .ref a29, .ref a30, .int 0, .int 0, .ref a31])), (a1, .inl (cI, 1560, .inl w0)), (a19, .inl (cI, 16, .inl z0)), (a31, .inl (cI, 16, .inl z0))] := hD
    refine lv_iconst (v := 0) hx hb dX12_orders_5 (by decide) ?_
    refine lv_istore_n (lv' := [(3, .int 0), (0, .ref a0), (1, .int 1), (2, .int x1)]) hx hb dX12_orders_6 rfl hl (by decide) rfl (fun ls hl => ?_)
    refine lv_iload_n hx hb dX12_orders_7 rfl (lv_at hl 0 rfl) ?_
    refine lv_aload_n hx hb dX12_orders_8 rfl (lv_at hl 1 rfl) ?_
    refine va_get (D := (dC, dI)) (ci := 12) (v := .ref a1) (C := RX12) (T := TX12) (N := 56) hx hb hU inlX12 hown hK hP 0 rfl rfl 0 (by decide) (hU _ wd_169) (fun _ h9 => h9) rfl dX12_orders_9 ?_
    refine lv_bipush (v := 17) hx hb dX12_orders_12 (by decide) ?_
    refine va_iald hx hb hK hP 1 0 rfl rfl (vp_in_nI (n := 17) (by decide) (by decide)) dX12_orders_14 ?_
    refine tk_topi (y := 0) (by decide) ?_
    refine lv_icmp_ge (tgt := 61) hx hb dX12_orders_15 (by decide) (fun _ => ?_) (fun c9 => absurd (by decide) c9) 
    refine lv_iload_n hx hb dX12_orders_61 rfl (lv_at hl 2 rfl) ?_
    refine lv_iconst (v := 1) hx hb dX12_orders_62 (by decide) ?_
    refine lv_iconst (v := 2) hx hb dX12_orders_63 (by decide) ?_
    refine tk_ri (wr := [(a0, .inr (12, [.ref a1, .ref a2, .ref a3, .int 0, .ref a4, .int 0, .int 0, .int 0, .int 0, .int 0, .int (-1), .int 0, .int 0, .int 0, .int 0, .ref a5, .ref a6, .ref a7, .ref a8, .ref a9, .ref a10, .ref a11, .ref a12, .int 0, .int 0, .int 0, .int 0, .int 0, .ref a13, .int 0, .ref a14, .ref a15, .int 0, .int 0, .ref a16, .int 0, .ref a17, .ref a18, .int 0, .int (-1), .ref a19, .ref a20, .ref a21, .int 0, .ref a22, .ref a23, .ref a24, .ref a25, .ref a26, .ref a27, .ref a28, .ref a29, .ref a30, .int 0, .int 0, .ref a31])), (a1, .inl (cI, 1560, .inl w0)), (a19, .inl (cI, 16, .inl z0)), (a31, .inl (cI, 16, .inl z0))]) (tk_S (As := [.int 1, .int 1, .int 2]) (rest := []) (n := 3) hx hb hml hown hU hN (cc_X12_isIn_8 l (dC, dI) cI cL cZ H.size ) wd_227 wd_228 wd_5 wd_229 (by decide +kernel) ⟨Nat.le_of_ble_eq_true rfl, Nat.le_of_ble_eq_true rfl⟩ hK hP hD [] (by decide) rfl rfl hl.1 rfl (Nat.le_of_ble_eq_true rfl) dX12_orders_64 ⟨Nat.le_of_ble_eq_true rfl, Nat.le_of_ble_eq_true rfl⟩) hP hD hS hA [] [0, 1, 2, 3] rfl rfl (by decide) (by decide) (fun r_18 w_19 H locs hw hP hD hS => ?_)
    obtain ⟨rfl, rfl⟩ := hw
    have hP : va_P (dC, dI) vwCl [(a0, .inr (12, [.ref a1, .ref a2, .ref a3, .int 0, .ref a4, .int 0, .int 0, .int 0, .int 0, .int 0, .int (-1), .int 0, .int 0, .int 0, .int 0, .ref a5, .ref a6, .ref a7, .ref a8, .ref a9, .ref a10, .ref a11, .ref a12, .int 0, .int 0, .int 0, .int 0, .int 0, .ref a13, .int 0, .ref a14, .ref a15, .int 0, .int 0, .ref a16, .int 0, .ref a17, .ref a18, .int 0, .int (-1), .ref a19, .ref a20, .ref a21, .int 0, .ref a22, .ref a23, .ref a24, .ref a25, .ref a26, .ref a27, .ref a28, .ref a29, .ref a30, .int 0, .int 0, .ref a31])), (a1, .inl (cI, 1560, .inl w0)), (a19, .inl (cI, 16, .inl z0)), (a31, .inl (cI, 16, .inl z0))] H := hP
    have hD : va_D A [(a0, .inr (12, [.ref a1, .ref a2, .ref a3, .int 0, .ref a4, .int 0, .int 0, .int 0, .int 0, .int 0, .int (-1), .int 0, .int 0, .int 0, .int 0, .ref a5, .ref a6, .ref a7, .ref a8, .ref a9, .ref a10, .ref a11, .ref a12, .int 0, .int 0, .int 0, .int 0, .int 0, .ref a13, .int 0, .ref a14, .ref a15, .int 0, .int 0, .ref a16, .int 0, .ref a17, .ref a18, .int 0, .int (-1), .ref a19, .ref a20, .ref a21, .int 0, .ref a22, .ref a23, .ref a24, .ref a25, .ref a26, .ref a27, .ref a28, .ref a29, .ref a30, .int 0, .int 0, .ref a31])), (a1, .inl (cI, 1560, .inl w0)), (a19, .inl (cI, 16, .inl z0)), (a31, .inl (cI, 16, .inl z0))] := hD
    refine lv_if_eq (tgt := 104) hx hb dX12_orders_67 (by decide) (fun c9 => absurd c9 (by decide)) (fun _ => ?_)
    refine lv_aload_n hx hb dX12_orders_70 rfl (lv_at hl 1 rfl) ?_
    refine va_get (D := (dC, dI)) (ci := 12) (v := .int 0) (C := RX12) (T := TX12) (N := 56) hx hb hU inlX12 hown hK hP 0 rfl rfl 53 (by decide) (hU _ wd_1241) (fun _ h9 => h9) rfl dX12_orders_71 ?_
    refine lv_bipush (v := 6) hx hb dX12_orders_74 (by decide) ?_
    refine lv_icmp_gt (tgt := 104) hx hb dX12_orders_76 (by decide) (fun c9 => absurd c9 (by decide)) (fun _ => ?_)
    refine lv_iload_n hx hb dX12_orders_79 rfl (lv_at hl 3 rfl) ?_
    refine lv_iconst (v := 0) hx hb dX12_orders_80 (by decide) ?_
    refine lv_iconst (v := 1) hx hb dX12_orders_81 (by decide) ?_
    refine tk_ri (wr := [(a0, .inr (12, [.ref a1, .ref a2, .ref a3, .int 0, .ref a4, .int 0, .int 0, .int 0, .int 0, .int 0, .int (-1), .int 0, .int 0, .int 0, .int 0, .ref a5, .ref a6, .ref a7, .ref a8, .ref a9, .ref a10, .ref a11, .ref a12, .int 0, .int 0, .int 0, .int 0, .int 0, .ref a13, .int 0, .ref a14, .ref a15, .int 0, .int 0, .ref a16, .int 0, .ref a17, .ref a18, .int 0, .int (-1), .ref a19, .ref a20, .ref a21, .int 0, .ref a22, .ref a23, .ref a24, .ref a25, .ref a26, .ref a27, .ref a28, .ref a29, .ref a30, .int 0, .int 0, .ref a31])), (a1, .inl (cI, 1560, .inl w0)), (a19, .inl (cI, 16, .inl z0)), (a31, .inl (cI, 16, .inl z0))]) (tk_S (As := [.int x1, .int 0, .int 1]) (rest := []) (n := 3) hx hb hml hown hU hN (cc_X12_isIn_4 l (dC, dI) cI cL cZ H.size x1) wd_227 wd_228 wd_5 wd_229 (by decide +kernel) ⟨Nat.le_of_ble_eq_true rfl, Nat.le_of_ble_eq_true rfl⟩ hK hP hD [] (by decide) rfl rfl hl.1 rfl (Nat.le_of_ble_eq_true rfl) dX12_orders_82 ⟨Nat.le_of_ble_eq_true rfl, Nat.le_of_ble_eq_true rfl⟩) hP hD hS hA [] [0, 1, 2, 3] rfl rfl (by decide) (by decide) (fun r_20 w_21 H locs hw hP hD hS => ?_)
    rcases hw with ⟨c_22, rfl, rfl⟩ | ⟨c_23, c_24, rfl, rfl⟩ | ⟨c_25, c_26, rfl, rfl⟩
    · skip
      have hP : va_P (dC, dI) vwCl [(a0, .inr (12, [.ref a1, .ref a2, .ref a3, .int 0, .ref a4, .int 0, .int 0, .int 0, .int 0, .int 0, .int (-1), .int 0, .int 0, .int 0, .int 0, .ref a5, .ref a6, .ref a7, .ref a8, .ref a9, .ref a10, .ref a11, .ref a12, .int 0, .int 0, .int 0, .int 0, .int 0, .ref a13, .int 0, .ref a14, .ref a15, .int 0, .int 0, .ref a16, .int 0, .ref a17, .ref a18, .int 0, .int (-1), .ref a19, .ref a20, .ref a21, .int 0, .ref a22, .ref a23, .ref a24, .ref a25, .ref a26, .ref a27, .ref a28, .ref a29, .ref a30, .int 0, .int 0, .ref a31])), (a1, .inl (cI, 1560, .inl w0)), (a19, .inl (cI, 16, .inl z0)), (a31, .inl (cI, 16, .inl z0))] H := hP
      have hD : va_D A [(a0, .inr (12, [.ref a1, .ref a2, .ref a3, .int 0, .ref a4, .int 0, .int 0, .int 0, .int 0, .int 0, .int (-1), .int 0, .int 0, .int 0, .int 0, .ref a5, .ref a6, .ref a7, .ref a8, .ref a9, .ref a10, .ref a11, .ref a12, .int 0, .int 0, .int 0, .int 0, .int 0, .ref a13, .int 0, .ref a14, .ref a15, .int 0, .int 0, .ref a16, .int 0, .ref a17, .ref a18, .int 0, .int (-1), .ref a19, .ref a20, .ref a21, .int 0, .ref a22, .ref a23, .ref a24, .ref a25, .ref a26, .ref a27, .ref a28, .ref a29, .ref a30, .int 0, .int 0, .ref a31])), (a1, .inl (cI, 1560, .inl w0)), (a19, .inl (cI, 16, .inl z0)), (a31, .inl (cI, 16, .inl z0))] := hD
      refine lv_if_ne (tgt := 106) hx hb dX12_orders_85 (by decide) (fun c9 => absurd (by decide) c9) (fun _ => ?_)
      refine lv_iload_n hx hb dX12_orders_88 rfl (lv_at hl 3 rfl) ?_
      refine lv_bipush (v := 10) hx hb dX12_orders_89 (by decide) ?_
      refine lv_bipush (v := 9) hx hb dX12_orders_91 (by decide) ?_
      refine lv_aload_n hx hb dX12_orders_93 rfl (lv_at hl 1 rfl) ?_
      refine va_get (D := (dC, dI)) (ci := 12) (v := .int 0) (C := RX12) (T := TX12) (N := 56) hx hb hU inlX12 hown hK hP 0 rfl rfl 53 (by decide) (hU _ wd_1241) (fun _ h9 => h9) rfl dX12_orders_94 ?_
      refine lv_iadd hx hb dX12_orders_97 ?_
      refine tk_topi (y := 9) (by decide) ?_
      refine tk_ri (wr := [(a0, .inr (12, [.ref a1, .ref a2, .ref a3, .int 0, .ref a4, .int 0, .int 0, .int 0, .int 0, .int 0, .int (-1), .int 0, .int 0, .int 0, .int 0, .ref a5, .ref a6, .ref a7, .ref a8, .ref a9, .ref a10, .ref a11, .ref a12, .int 0, .int 0, .int 0, .int 0, .int 0, .ref a13, .int 0, .ref a14, .ref a15, .int 0, .int 0, .ref a16, .int 0, .ref a17, .ref a18, .int 0, .int (-1), .ref a19, .ref a20, .ref a21, .int 0, .ref a22, .ref a23, .ref a24, .ref a25, .ref a26, .ref a27, .ref a28, .ref a29, .ref a30, .int 0, .int 0, .ref a31])), (a1, .inl (cI, 1560, .inl w0)), (a19, .inl (cI, 16, .inl z0)), (a31, .inl (cI, 16, .inl z0))]) (tk_S (As := [.int x1, .int 10, .int 9]) (rest := []) (n := 3) hx hb hml hown hU hN (cc_X12_isIn_9 l (dC, dI) cI cL cZ H.size x1) wd_227 wd_228 wd_5 wd_229 (by decide +kernel) ⟨Nat.le_of_ble_eq_true rfl, Nat.le_of_ble_eq_true rfl⟩ hK hP hD [] (by decide) rfl rfl hl.1 rfl (Nat.le_of_ble_eq_true rfl) dX12_orders_98 ⟨Nat.le_of_ble_eq_true rfl, Nat.le_of_ble_eq_true rfl⟩) hP hD hS hA [] [0, 1, 2, 3] rfl rfl (by decide) (by decide) (fun r_27 w_28 H locs hw hP hD hS => ?_)
      obtain ⟨rfl, rfl⟩ := hw
      have hP : va_P (dC, dI) vwCl [(a0, .inr (12, [.ref a1, .ref a2, .ref a3, .int 0, .ref a4, .int 0, .int 0, .int 0, .int 0, .int 0, .int (-1), .int 0, .int 0, .int 0, .int 0, .ref a5, .ref a6, .ref a7, .ref a8, .ref a9, .ref a10, .ref a11, .ref a12, .int 0, .int 0, .int 0, .int 0, .int 0, .ref a13, .int 0, .ref a14, .ref a15, .int 0, .int 0, .ref a16, .int 0, .ref a17, .ref a18, .int 0, .int (-1), .ref a19, .ref a20, .ref a21, .int 0, .ref a22, .ref a23, .ref a24, .ref a25, .ref a26, .ref a27, .ref a28, .ref a29, .ref a30, .int 0, .int 0, .ref a31])), (a1, .inl (cI, 1560, .inl w0)), (a19, .inl (cI, 16, .inl z0)), (a31, .inl (cI, 16, .inl z0))] H := hP
      have hD : va_D A [(a0, .inr (12, [.ref a1, .ref a2, .ref a3, .int 0, .ref a4, .int 0, .int 0, .int 0, .int 0, .int 0, .int (-1), .int 0, .int 0, .int 0, .int 0, .ref a5, .ref a6, .ref a7, .ref a8, .ref a9, .ref a10, .ref a11, .ref a12, .int 0, .int 0, .int 0, .int 0, .int 0, .ref a13, .int 0, .ref a14, .ref a15, .int 0, .int 0, .ref a16, .int 0, .ref a17, .ref a18, .int 0, .int (-1), .ref a19, .ref a20, .ref a21, .int 0, .ref a22, .ref a23, .ref a24, .ref a25, .ref a26, .ref a27, .ref a28, .ref a29, .ref a30, .int 0, .int 0, .ref a31])), (a1, .inl (cI, 1560, .inl w0)), (a19, .inl (cI, 16, .inl z0)), (a31, .inl (cI, 16, .inl z0))] := hD
      refine lv_if_ne (tgt := 106) hx hb dX12_orders_101 (by decide) (fun c9 => absurd (by decide) c9) (fun _ => ?_)
      refine lv_iconst (v := (-1)) hx hb dX12_orders_104 (by decide) ?_
      have hP9 := hP.sub (ws' := []) [] rfl
      have hD9 := hD.sub (ws' := []) [] (by decide) rfl
      refine W.widen (k := 0) (n := 0) (Nat.le_of_ble_eq_true rfl) (Nat.le_of_ble_eq_true rfl) ?_
      exact W.iret (v := (-1)) hx hb hr (fun t ht hW => ⟨⟨(-1), [], rfl, ⟨by simp [an_orders, c_2, c_11], rfl⟩, by rw [ht]; exact hP9, va_K.moved hW.alike hK, hD9⟩, hS.F ht⟩) hS.2.2 dX12_orders_105
    · skip
      have hP : va_P (dC, dI) vwCl [(a0, .inr (12, [.ref a1, .ref a2, .ref a3, .int 0, .ref a4, .int 0, .int 0, .int 0, .int 0, .int 0, .int (-1), .int 0, .int 0, .int 0, .int 0, .ref a5, .ref a6, .ref a7, .ref a8, .ref a9, .ref a10, .ref a11, .ref a12, .int 0, .int 0, .int 0, .int 0, .int 0, .ref a13, .int 0, .ref a14, .ref a15, .int 0, .int 0, .ref a16, .int 0, .ref a17, .ref a18, .int 0, .int (-1), .ref a19, .ref a20, .ref a21, .int 0, .ref a22, .ref a23, .ref a24, .ref a25, .ref a26, .ref a27, .ref a28, .ref a29, .ref a30, .int 0, .int 0, .ref a31])), (a1, .inl (cI, 1560, .inl w0)), (a19, .inl (cI, 16, .inl z0)), (a31, .inl (cI, 16, .inl z0))] H := hP
      have hD : va_D A [(a0, .inr (12, [.ref a1, .ref a2, .ref a3, .int 0, .ref a4, .int 0, .int 0, .int 0, .int 0, .int 0, .int (-1), .int 0, .int 0, .int 0, .int 0, .ref a5, .ref a6, .ref a7, .ref a8, .ref a9, .ref a10, .ref a11, .ref a12, .int 0, .int 0, .int 0, .int 0, .int 0, .ref a13, .int 0, .ref a14, .ref a15, .int 0, .int 0, .ref a16, .int 0, .ref a17, .ref a18, .int 0, .int (-1), .ref a19, .ref a20, .ref a21, .int 0, .ref a22, .ref a23, .ref a24, .ref a25, .ref a26, .ref a27, .ref a28, .ref a29, .ref a30, .int 0, .int 0, .ref a31])), (a1, .inl (cI, 1560, .inl w0)), (a19, .inl (cI, 16, .inl z0)), (a31, .inl (cI, 16, .inl z0))] := hD
      refine lv_if_ne (tgt := 106) hx hb dX12_orders_85 (by decide) (fun c9 => absurd (by decide) c9) (fun _ => ?_)
      refine lv_iload_n hx hb dX12_orders_88 rfl (lv_at hl 3 rfl) ?_
      refine lv_bipush (v := 10) hx hb dX12_orders_89 (by decide) ?_
      refine lv_bipush (v := 9) hx hb dX12_orders_91 (by decide) ?_
      refine lv_aload_n hx hb dX12_orders_93 rfl (lv_at hl 1 rfl) ?_
      refine va_get (D := (dC, dI)) (ci := 12) (v := .int 0) (C := RX12) (T := TX12) (N := 56) hx hb hU inlX12 hown hK hP 0 rfl rfl 53 (by decide) (hU _ wd_1241) (fun _ h9 => h9) rfl dX12_orders_94 ?_
      refine lv_iadd hx hb dX12_orders_97 ?_
      refine tk_topi (y := 9) (by decide) ?_
      refine tk_ri (wr := [(a0, .inr (12, [.ref a1, .ref a2, .ref a3, .int 0, .ref a4, .int 0, .int 0, .int 0, .int 0, .int 0, .int (-1), .int 0, .int 0, .int 0, .int 0, .ref a5, .ref a6, .ref a7, .ref a8, .ref a9, .ref a10, .ref a11, .ref a12, .int 0, .int 0, .int 0, .int 0, .int 0, .ref a13, .int 0, .ref a14, .ref a15, .int 0, .int 0, .ref a16, .int 0, .ref a17, .ref a18, .int 0, .int (-1), .ref a19, .ref a20, .ref a21, .int 0, .ref a22, .ref a23, .ref a24, .ref a25, .ref a26, .ref a27, .ref a28, .ref a29, .ref a30, .int 0, .int 0, .ref a31])), (a1, .inl (cI, 1560, .inl w0)), (a19, .inl (cI, 16, .inl z0)), (a31, .inl (cI, 16, .inl z0))]) (tk_S (As := [.int x1, .int 10, .int 9]) (rest := []) (n := 3) hx hb hml hown hU hN (cc_X12_isIn_9 l (dC, dI) cI cL cZ H.size x1) wd_227 wd_228 wd_5 wd_229 (by decide +kernel) ⟨Nat.le_of_ble_eq_true rfl, Nat.le_of_ble_eq_true rfl⟩ hK hP hD [] (by decide) rfl rfl hl.1 rfl (Nat.le_of_ble_eq_true rfl) dX12_orders_98 ⟨Nat.le_of_ble_eq_true rfl, Nat.le_of_ble_eq_true rfl⟩) hP hD hS hA [] [0, 1, 2, 3] rfl rfl (by decide) (by decide) (fun r_29 w_30 H locs hw hP hD hS => ?_)
      obtain ⟨rfl, rfl⟩ := hw
      have hP : va_P (dC, dI) vwCl [(a0, .inr (12, [.ref a1, .ref a2, .ref a3, .int 0, .ref a4, .int 0, .int 0, .int 0, .int 0, .int 0, .int (-1), .int 0, .int 0, .int 0, .int 0, .ref a5, .ref a6, .ref a7, .ref a8, .ref a9, .ref a10, .ref a11, .ref a12, .int 0, .int 0, .int 0, .int 0, .int 0, .ref a13, .int 0, .ref a14, .ref a15, .int 0, .int 0, .ref a16, .int 0, .ref a17, .ref a18, .int 0, .int (-1), .ref a19, .ref a20, .ref a21, .int 0, .ref a22, .ref a23, .ref a24, .ref a25, .ref a26, .ref a27, .ref a28, .ref a29, .ref a30, .int 0, .int 0, .ref a31])), (a1, .inl (cI, 1560, .inl w0)), (a19, .inl (cI, 16, .inl z0)), (a31, .inl (cI, 16, .inl z0))] H := hP
      have hD : va_D A [(a0, .inr (12, [.ref a1, .ref a2, .ref a3, .int 0, .ref a4, .int 0, .int 0, .int 0, .int 0, .int 0, .int (-1), .int 0, .int 0, .int 0, .int 0, .ref a5, .ref a6, .ref a7, .ref a8, .ref a9, .ref a10, .ref a11, .ref a12, .int 0, .int 0, .int 0, .int 0, .int 0, .ref a13, .int 0, .ref a14, .ref a15, .int 0, .int 0, .ref a16, .int 0, .ref a17, .ref a18, .int 0, .int (-1), .ref a19, .ref a20, .ref a21, .int 0, .ref a22, .ref a23, .ref a24, .ref a25, .ref a26, .ref a27, .ref a28, .ref a29, .ref a30, .int 0, .int 0, .ref a31])), (a1, .inl (cI, 1560, .inl w0)), (a19, .inl (cI, 16, .inl z0)), (a31, .inl (cI, 16, .inl z0))] := hD
      refine lv_if_ne (tgt := 106) hx hb dX12_orders_101 (by decide) (fun c9 => absurd (by decide) c9) (fun _ => ?_)
      refine lv_iconst (v := (-1)) hx hb dX12_orders_104 (by decide) ?_
      have hP9 := hP.sub (ws' := []) [] rfl
      have hD9 := hD.sub (ws' := []) [] (by decide) rfl
      refine W.widen (k := 0) (n := 0) (Nat.le_of_ble_eq_true rfl) (Nat.le_of_ble_eq_true rfl) ?_
      exact W.iret (v := (-1)) hx hb hr (fun t ht hW => ⟨⟨(-1), [], rfl, ⟨by simp [an_orders, c_2, c_11], rfl⟩, by rw [ht]; exact hP9, va_K.moved hW.alike hK, hD9⟩, hS.F ht⟩) hS.2.2 dX12_orders_105
    · skip
      exfalso
      simp only [Int32.lt_iff_toInt_lt, Int32.le_iff_toInt_le, ← Int32.toInt_inj, ti_0, ti_1] at c_2 c_11 c_25 c_26
      omega
  by_cases c_31 : x0 = 2
  · subst c_31
    by_cases c_32 : x1 = 0
    · subst c_32
      refine lv_aload_n hx hb dX12_orders_0 rfl (lv_at hl 0 rfl) ?_
      refine lv_iconst (v := 0) hx hb dX12_orders_1 (by decide) ?_
      refine va_put (D := (dC, dI)) (ci := 12) (v := .int 0) (ty := .int) (C := RX12) (T := TX12) (N := 56) hx hb hU inlX12 tyX12 tyX12_ok nmX12 hown hK hP hD hS 0 rfl rfl 53 (by decide) (hU _ wd_1241) (fun _ h9 => h9) rfl (by decide +kernel) rfl rfl (Nat.le_of_ble_eq_true rfl) dX12_orders_2 (fun H locs hP hD hS => ?_)
      have hP : va_P (dC, dI) vwCl [(a0, .inr (12, [.ref a1, .ref a2, .ref a3, .int 0, .ref a4, .int 0, .int 0, .int 0, .int 0, .int 0, .int (-1), .int 0, .int 0, .int 0, .int 0, .ref a5, .ref a6, .ref a7, .ref a8, .ref a9, .ref a10, .ref a11, .ref a12, .int 0, .int 0, .int 0, .int 0, .int 0, .ref a13, .int 0, .ref a14, .ref a15, .int 0, .int 0, .ref a16, .int 0, .ref a17, .ref a18, .int 0, .int (-1), .ref a19, .ref a20, .ref a21, .int 0, .ref a22, .ref a23, .ref a24, .ref a25, .ref a26, .ref a27, .ref a28, .ref a29, .ref a30, .int 0, .int 0, .ref a31])), (a1, .inl (cI, 1560, .inl w0)), (a19, .inl (cI, 16, .inl z0)), (a31, .inl (cI, 16, .inl z0))] H := hP
      have hD : va_D A [(a0, .inr (12, [.ref a1, .ref a2, .ref a3, .int 0, .ref a4, .int 0, .int 0, .int 0, .int 0, .int 0, .int (-1), .int 0, .int 0, .int 0, .int 0, .ref a5, .ref a6, .ref a7, .ref a8, .ref a9, .ref a10, .ref a11, .ref a12, .int 0, .int 0, .int 0, .int 0, .int 0, .ref a13, .int 0, .ref a14, .ref a15, .int 0, .int 0, .ref a16, .int 0, .ref a17, .ref a18, .int 0, .int (-1), .ref a19, .ref a20, .ref a21, .int 0, .ref a22, .ref a23, .ref a24, .ref a25, .ref a26, .ref a27, .ref a28, .ref a29, .ref a30, .int 0, .int 0, .ref a31])), (a1, .inl (cI, 1560, .inl w0)), (a19, .inl (cI, 16, .inl z0)), (a31, .inl (cI, 16, .inl z0))] := hD
      refine lv_iconst (v := 0) hx hb dX12_orders_5 (by decide) ?_
      refine lv_istore_n (lv' := [(3, .int 0), (0, .ref a0), (1, .int 2), (2, .int 0)]) hx hb dX12_orders_6 rfl hl (by decide) rfl (fun ls hl => ?_)
      refine lv_iload_n hx hb dX12_orders_7 rfl (lv_at hl 0 rfl) ?_
      refine lv_aload_n hx hb dX12_orders_8 rfl (lv_at hl 1 rfl) ?_
      refine va_get (D := (dC, dI)) (ci := 12) (v := .ref a1) (C := RX12) (T := TX12) (N := 56) hx hb hU inlX12 hown hK hP 0 rfl rfl 0 (by decide) (hU _ wd_169) (fun _ h9 => h9) rfl dX12_orders_9 ?_
      refine lv_bipush (v := 17) hx hb dX12_orders_12 (by decide) ?_
      refine va_iald hx hb hK hP 1 0 rfl rfl (vp_in_nI (n := 17) (by decide) (by decide)) dX12_orders_14 ?_
      refine tk_topi (y := 0) (by decide) ?_
      refine lv_icmp_ge (tgt := 61) hx hb dX12_orders_15 (by decide) (fun _ => ?_) (fun c9 => absurd (by decide) c9) 
      refine lv_iload_n hx hb dX12_orders_61 rfl (lv_at hl 2 rfl) ?_
      refine lv_iconst (v := 1) hx hb dX12_orders_62 (by decide) ?_
      refine lv_iconst (v := 2) hx hb dX12_orders_63 (by decide) ?_
      refine tk_ri (wr := [(a0, .inr (12, [.ref a1, .ref a2, .ref a3, .int 0, .ref a4, .int 0, .int 0, .int 0, .int 0, .int 0, .int (-1), .int 0, .int 0, .int 0, .int 0, .ref a5, .ref a6, .ref a7, .ref a8, .ref a9, .ref a10, .ref a11, .ref a12, .int 0, .int 0, .int 0, .int 0, .int 0, .ref a13, .int 0, .ref a14, .ref a15, .int 0, .int 0, .ref a16, .int 0, .ref a17, .ref a18, .int 0, .int (-1), .ref a19, .ref a20, .ref a21, .int 0, .ref a22, .ref a23, .ref a24, .ref a25, .ref a26, .ref a27, .ref a28, .ref a29, .ref a30, .int 0, .int 0, .ref a31])), (a1, .inl (cI, 1560, .inl w0)), (a19, .inl (cI, 16, .inl z0)), (a31, .inl (cI, 16, .inl z0))]) (tk_S (As := [.int 2, .int 1, .int 2]) (rest := []) (n := 3) hx hb hml hown hU hN (cc_X12_isIn_10 l (dC, dI) cI cL cZ H.size ) wd_227 wd_228 wd_5 wd_229 (by decide +kernel) ⟨Nat.le_of_ble_eq_true rfl, Nat.le_of_ble_eq_true rfl⟩ hK hP hD [] (by decide) rfl rfl hl.1 rfl (Nat.le_of_ble_eq_true rfl) dX12_orders_64 ⟨Nat.le_of_ble_eq_true rfl, Nat.le_of_ble_eq_true rfl⟩) hP hD hS hA [] [0, 1, 2, 3] rfl rfl (by decide) (by decide) (fun r_33 w_34 H locs hw hP hD hS => ?_)
      obtain ⟨rfl, rfl⟩ := hw
      have hP : va_P (dC, dI) vwCl [(a0, .inr (12, [.ref a1, .ref a2, .ref a3, .int 0, .ref a4, .int 0, .int 0, .int 0, .int 0, .int 0, .int (-1), .int 0, .int 0, .int 0, .int 0, .ref a5, .ref a6, .ref a7, .ref a8, .ref a9, .ref a10, .ref a11, .ref a12, .int 0, .int 0, .int 0, .int 0, .int 0, .ref a13, .int 0, .ref a14, .ref a15, .int 0, .int 0, .ref a16, .int 0, .ref a17, .ref a18, .int 0, .int (-1), .ref a19, .ref a20, .ref a21, .int 0, .ref a22, .ref a23, .ref a24, .ref a25, .ref a26, .ref a27, .ref a28, .ref a29, .ref a30, .int 0, .int 0, .ref a31])), (a1, .inl (cI, 1560, .inl w0)), (a19, .inl (cI, 16, .inl z0)), (a31, .inl (cI, 16, .inl z0))] H := hP
      have hD : va_D A [(a0, .inr (12, [.ref a1, .ref a2, .ref a3, .int 0, .ref a4, .int 0, .int 0, .int 0, .int 0, .int 0, .int (-1), .int 0, .int 0, .int 0, .int 0, .ref a5, .ref a6, .ref a7, .ref a8, .ref a9, .ref a10, .ref a11, .ref a12, .int 0, .int 0, .int 0, .int 0, .int 0, .ref a13, .int 0, .ref a14, .ref a15, .int 0, .int 0, .ref a16, .int 0, .ref a17, .ref a18, .int 0, .int (-1), .ref a19, .ref a20, .ref a21, .int 0, .ref a22, .ref a23, .ref a24, .ref a25, .ref a26, .ref a27, .ref a28, .ref a29, .ref a30, .int 0, .int 0, .ref a31])), (a1, .inl (cI, 1560, .inl w0)), (a19, .inl (cI, 16, .inl z0)), (a31, .inl (cI, 16, .inl z0))] := hD
      refine lv_if_eq (tgt := 104) hx hb dX12_orders_67 (by decide) (fun c9 => absurd c9 (by decide)) (fun _ => ?_)
      refine lv_aload_n hx hb dX12_orders_70 rfl (lv_at hl 1 rfl) ?_
      refine va_get (D := (dC, dI)) (ci := 12) (v := .int 0) (C := RX12) (T := TX12) (N := 56) hx hb hU inlX12 hown hK hP 0 rfl rfl 53 (by decide) (hU _ wd_1241) (fun _ h9 => h9) rfl dX12_orders_71 ?_
      refine lv_bipush (v := 6) hx hb dX12_orders_74 (by decide) ?_
      refine lv_icmp_gt (tgt := 104) hx hb dX12_orders_76 (by decide) (fun c9 => absurd c9 (by decide)) (fun _ => ?_)
      refine lv_iload_n hx hb dX12_orders_79 rfl (lv_at hl 3 rfl) ?_
      refine lv_iconst (v := 0) hx hb dX12_orders_80 (by decide) ?_
      refine lv_iconst (v := 1) hx hb dX12_orders_81 (by decide) ?_
      refine tk_ri (wr := [(a0, .inr (12, [.ref a1, .ref a2, .ref a3, .int 0, .ref a4, .int 0, .int 0, .int 0, .int 0, .int 0, .int (-1), .int 0, .int 0, .int 0, .int 0, .ref a5, .ref a6, .ref a7, .ref a8, .ref a9, .ref a10, .ref a11, .ref a12, .int 0, .int 0, .int 0, .int 0, .int 0, .ref a13, .int 0, .ref a14, .ref a15, .int 0, .int 0, .ref a16, .int 0, .ref a17, .ref a18, .int 0, .int (-1), .ref a19, .ref a20, .ref a21, .int 0, .ref a22, .ref a23, .ref a24, .ref a25, .ref a26, .ref a27, .ref a28, .ref a29, .ref a30, .int 0, .int 0, .ref a31])), (a1, .inl (cI, 1560, .inl w0)), (a19, .inl (cI, 16, .inl z0)), (a31, .inl (cI, 16, .inl z0))]) (tk_S (As := [.int 0, .int 0, .int 1]) (rest := []) (n := 3) hx hb hml hown hU hN (cc_X12_isIn_2 l (dC, dI) cI cL cZ H.size ) wd_227 wd_228 wd_5 wd_229 (by decide +kernel) ⟨Nat.le_of_ble_eq_true rfl, Nat.le_of_ble_eq_true rfl⟩ hK hP hD [] (by decide) rfl rfl hl.1 rfl (Nat.le_of_ble_eq_true rfl) dX12_orders_82 ⟨Nat.le_of_ble_eq_true rfl, Nat.le_of_ble_eq_true rfl⟩) hP hD hS hA [] [0, 1, 2, 3] rfl rfl (by decide) (by decide) (fun r_35 w_36 H locs hw hP hD hS => ?_)
      obtain ⟨rfl, rfl⟩ := hw
      have hP : va_P (dC, dI) vwCl [(a0, .inr (12, [.ref a1, .ref a2, .ref a3, .int 0, .ref a4, .int 0, .int 0, .int 0, .int 0, .int 0, .int (-1), .int 0, .int 0, .int 0, .int 0, .ref a5, .ref a6, .ref a7, .ref a8, .ref a9, .ref a10, .ref a11, .ref a12, .int 0, .int 0, .int 0, .int 0, .int 0, .ref a13, .int 0, .ref a14, .ref a15, .int 0, .int 0, .ref a16, .int 0, .ref a17, .ref a18, .int 0, .int (-1), .ref a19, .ref a20, .ref a21, .int 0, .ref a22, .ref a23, .ref a24, .ref a25, .ref a26, .ref a27, .ref a28, .ref a29, .ref a30, .int 0, .int 0, .ref a31])), (a1, .inl (cI, 1560, .inl w0)), (a19, .inl (cI, 16, .inl z0)), (a31, .inl (cI, 16, .inl z0))] H := hP
      have hD : va_D A [(a0, .inr (12, [.ref a1, .ref a2, .ref a3, .int 0, .ref a4, .int 0, .int 0, .int 0, .int 0, .int 0, .int (-1), .int 0, .int 0, .int 0, .int 0, .ref a5, .ref a6, .ref a7, .ref a8, .ref a9, .ref a10, .ref a11, .ref a12, .int 0, .int 0, .int 0, .int 0, .int 0, .ref a13, .int 0, .ref a14, .ref a15, .int 0, .int 0, .ref a16, .int 0, .ref a17, .ref a18, .int 0, .int (-1), .ref a19, .ref a20, .ref a21, .int 0, .ref a22, .ref a23, .ref a24, .ref a25, .ref a26, .ref a27, .ref a28, .ref a29, .ref a30, .int 0, .int 0, .ref a31])), (a1, .inl (cI, 1560, .inl w0)), (a19, .inl (cI, 16, .inl z0)), (a31, .inl (cI, 16, .inl z0))] := hD
      refine lv_if_ne (tgt := 106) hx hb dX12_orders_85 (by decide) (fun _ => ?_) (fun c9 => absurd c9 (by decide)) 
      refine lv_aload_n hx hb dX12_orders_106 rfl (lv_at hl 1 rfl) ?_
      refine lv_iload_n hx hb dX12_orders_107 rfl (lv_at hl 2 rfl) ?_
      refine tk_ri (wr := [(a19, .inl (cI, 16, .inl z0)), (a31, .inl (cI, 16, .inl z0))]) (tk_V (As := [.int 2]) (rest := []) (n := 1) hx hb hml hown hU hN (cc_X12_wordsUpTo_1 l (dC, dI) cI cL cZ H.size a0 a1 a2 a3 a4 a5 a6 a7 a8 a9 a10 a11 a12 a13 a14 a15 a16 a17 a18 a19 a20 a21 a22 a23 a24 a25 a26 a27 a28 a29 a30 a31) wd_1169 wd_1170 wd_1171 wd_5 wd_1172 (by decide +kernel) ⟨Nat.le_of_ble_eq_true rfl, Nat.le_of_ble_eq_true rfl⟩ hK hP hD [0, 1] (by decide) rfl 0 12 rfl rfl rfl rfl hl.1 rfl (Nat.le_of_ble_eq_true rfl) dX12_orders_108 ⟨Nat.le_of_ble_eq_true rfl, Nat.le_of_ble_eq_true rfl⟩) hP hD hS hA [0, 1] [2, 3] rfl rfl (by decide) (by decide) (fun r_37 w_38 H locs hw hP hD hS => ?_)
      obtain ⟨rfl, rfl⟩ := hw
      have hP : va_P (dC, dI) vwCl [(a19, .inl (cI, 16, .inl z0)), (a31, .inl (cI, 16, .inl z0)), (a0, .inr (12, [.ref a1, .ref a2, .ref a3, .int 0, .ref a4, .int 0, .int 0, .int 0, .int 0, .int 0, .int (-1), .int 0, .int 0, .int 0, .int 0, .ref a5, .ref a6, .ref a7, .ref a8, .ref a9, .ref a10, .ref a11, .ref a12, .int 0, .int 0, .int 0, .int 0, .int 0, .ref a13, .int 0, .ref a14, .ref a15, .int 0, .int 0, .ref a16, .int 0, .ref a17, .ref a18, .int 0, .int (-1), .ref a19, .ref a20, .ref a21, .int 0, .ref a22, .ref a23, .ref a24, .ref a25, .ref a26, .ref a27, .ref a28, .ref a29, .ref a30, .int 0, .int 0, .ref a31])), (a1, .inl (cI, 1560, .inl w0))] H := hP
      have hD : va_D A [(a19, .inl (cI, 16, .inl z0)), (a31, .inl (cI, 16, .inl z0)), (a0, .inr (12, [.ref a1, .ref a2, .ref a3, .int 0, .ref a4, .int 0, .int 0, .int 0, .int 0, .int 0, .int (-1), .int 0, .int 0, .int 0, .int 0, .ref a5, .ref a6, .ref a7, .ref a8, .ref a9, .ref a10, .ref a11, .ref a12, .int 0, .int 0, .int 0, .int 0, .int 0, .ref a13, .int 0, .ref a14, .ref a15, .int 0, .int 0, .ref a16, .int 0, .ref a17, .ref a18, .int 0, .int (-1), .ref a19, .ref a20, .ref a21, .int 0, .ref a22, .ref a23, .ref a24, .ref a25, .ref a26, .ref a27, .ref a28, .ref a29, .ref a30, .int 0, .int 0, .ref a31])), (a1, .inl (cI, 1560, .inl w0))] := hD
      refine lv_istore_n (lv' := [(3, .int 0), (0, .ref a0), (1, .int 2), (2, .int 0)]) hx hb dX12_orders_111 rfl hl (by decide) rfl (fun ls hl => ?_)
      refine lv_iload_n hx hb dX12_orders_112 rfl (lv_at hl 3 rfl) ?_
      refine lv_iconst (v := 1) hx hb dX12_orders_113 (by decide) ?_
      refine lv_icmp_ne (tgt := 119) hx hb dX12_orders_114 (by decide) (fun _ => ?_) (fun c9 => absurd c9 (by decide)) 
      refine lv_iconst (v := 0) hx hb dX12_orders_119 (by decide) ?_
      refine lv_istore (lv' := [(4, .int 0), (3, .int 0), (0, .ref a0), (1, .int 2), (2, .int 0)]) hx hb dX12_orders_120 hl (by decide) rfl (fun ls hl => ?_)
      refine lv_iload hx hb dX12_orders_122 (lv_at hl 0 rfl) ?_
      refine lv_iload_n hx hb dX12_orders_124 rfl (lv_at hl 1 rfl) ?_
      refine lv_icmp_ge (tgt := 224) hx hb dX12_orders_125 (by decide) (fun _ => ?_) (fun c9 => absurd (by decide) c9) 
      refine lv_aload_n hx hb dX12_orders_224 rfl (lv_at hl 2 rfl) ?_
      refine va_get (D := (dC, dI)) (ci := 12) (v := .int 0) (C := RX12) (T := TX12) (N := 56) hx hb hU inlX12 hown hK hP 2 rfl rfl 43 (by decide) (hU _ wd_572) (fun _ h9 => h9) rfl dX12_orders_225 ?_
      refine lv_istore (lv' := [(4, .int 0), (3, .int 0), (0, .ref a0), (1, .int 2), (2, .int 0)]) hx hb dX12_orders_228 hl (by decide) rfl (fun ls hl => ?_)
      refine lv_iconst (v := 0) hx hb dX12_orders_230 (by decide) ?_
      refine lv_istore (lv' := [(5, .int 0), (4, .int 0), (3, .int 0), (0, .ref a0), (1, .int 2), (2, .int 0)]) hx hb dX12_orders_231 hl (by decide) rfl (fun ls hl => ?_)
      refine lv_iload hx hb dX12_orders_233 (lv_at hl 0 rfl) ?_
      refine lv_bipush (v := 16) hx hb dX12_orders_235 (by decide) ?_
      refine lv_icmp_ge (tgt := 260) hx hb dX12_orders_237 (by decide) (fun c9 => absurd c9 (by decide)) (fun _ => ?_)
      refine lv_aload_n hx hb dX12_orders_240 rfl (lv_at hl 3 rfl) ?_
      refine va_get (D := (dC, dI)) (ci := 12) (v := .ref a31) (C := RX12) (T := TX12) (N := 56) hx hb hU inlX12 hown hK hP 2 rfl rfl 55 (by decide) (hU _ wd_204) (fun _ h9 => h9) rfl dX12_orders_241 ?_
      refine lv_iload hx hb dX12_orders_244 (lv_at hl 0 rfl) ?_
      refine lv_aload_n hx hb dX12_orders_246 rfl (lv_at hl 3 rfl) ?_
      refine va_get (D := (dC, dI)) (ci := 12) (v := .ref a19) (C := RX12) (T := TX12) (N := 56) hx hb hU inlX12 hown hK hP 2 rfl rfl 40 (by decide) (hU _ wd_190) (fun _ h9 => h9) rfl dX12_orders_247 ?_
      refine lv_iload hx hb dX12_orders_250 (lv_at hl 0 rfl) ?_
      refine va_iald hx hb hK hP 0 0 rfl rfl (vp_in_nI (n := 0) (by decide) (by decide)) dX12_orders_252 ?_
      refine tk_topi (y := 0) rfl ?_
      refine va_iast hx hb hK hP hD hS 1 0 rfl rfl (vp_in_nI (n := 0) (by decide) (by decide)) dX12_orders_253 (fun H locs hP hD hS => ?_)
      have hP : va_P (dC, dI) vwCl [(a19, .inl (cI, 16, .inl z0)), (a31, .inl (cI, 16, .inl z0)), (a0, .inr (12, [.ref a1, .ref a2, .ref a3, .int 0, .ref a4, .int 0, .int 0, .int 0, .int 0, .int 0, .int (-1), .int 0, .int 0, .int 0, .int 0, .ref a5, .ref a6, .ref a7, .ref a8, .ref a9, .ref a10, .ref a11, .ref a12, .int 0, .int 0, .int 0, .int 0, .int 0, .ref a13, .int 0, .ref a14, .ref a15, .int 0, .int 0, .ref a16, .int 0, .ref a17, .ref a18, .int 0, .int (-1), .ref a19, .ref a20, .ref a21, .int 0, .ref a22, .ref a23, .ref a24, .ref a25, .ref a26, .ref a27, .ref a28, .ref a29, .ref a30, .int 0, .int 0, .ref a31])), (a1, .inl (cI, 1560, .inl w0))] H := by rw [upd_z0] at hP; exact hP
      have hD : va_D A [(a19, .inl (cI, 16, .inl z0)), (a31, .inl (cI, 16, .inl z0)), (a0, .inr (12, [.ref a1, .ref a2, .ref a3, .int 0, .ref a4, .int 0, .int 0, .int 0, .int 0, .int 0, .int (-1), .int 0, .int 0, .int 0, .int 0, .ref a5, .ref a6, .ref a7, .ref a8, .ref a9, .ref a10, .ref a11, .ref a12, .int 0, .int 0, .int 0, .int 0, .int 0, .ref a13, .int 0, .ref a14, .ref a15, .int 0, .int 0, .ref a16, .int 0, .ref a17, .ref a18, .int 0, .int (-1), .ref a19, .ref a20, .ref a21, .int 0, .ref a22, .ref a23, .ref a24, .ref a25, .ref a26, .ref a27, .ref a28, .ref a29, .ref a30, .int 0, .int 0, .ref a31])), (a1, .inl (cI, 1560, .inl w0))] := by rw [upd_z0] at hD; exact hD
      refine lv_iinc (v := 1) (lv' := [(5, .int 1), (4, .int 0), (3, .int 0), (0, .ref a0), (1, .int 2), (2, .int 0)]) hx hb dX12_orders_254 hl (k := 0) rfl (by decide) (by decide) rfl (fun ls hl => ?_)
      refine lv_goto (tgt := 233) hx hb dX12_orders_257 (by decide) ?_
      refine lv_iload hx hb dX12_orders_233 (lv_at hl 0 rfl) ?_
      refine lv_bipush (v := 16) hx hb dX12_orders_235 (by decide) ?_
      refine lv_icmp_ge (tgt := 260) hx hb dX12_orders_237 (by decide) (fun c9 => absurd c9 (by decide)) (fun _ => ?_)
      refine lv_aload_n hx hb dX12_orders_240 rfl (lv_at hl 3 rfl) ?_
      refine va_get (D := (dC, dI)) (ci := 12) (v := .ref a31) (C := RX12) (T := TX12) (N := 56) hx hb hU inlX12 hown hK hP 2 rfl rfl 55 (by decide) (hU _ wd_204) (fun _ h9 => h9) rfl dX12_orders_241 ?_
      refine lv_iload hx hb dX12_orders_244 (lv_at hl 0 rfl) ?_
      refine lv_aload_n hx hb dX12_orders_246 rfl (lv_at hl 3 rfl) ?_
      refine va_get (D := (dC, dI)) (ci := 12) (v := .ref a19) (C := RX12) (T := TX12) (N := 56) hx hb hU inlX12 hown hK hP 2 rfl rfl 40 (by decide) (hU _ wd_190) (fun _ h9 => h9) rfl dX12_orders_247 ?_
      refine lv_iload hx hb dX12_orders_250 (lv_at hl 0 rfl) ?_
      refine va_iald hx hb hK hP 0 0 rfl rfl (vp_in_nI (n := 1) (by decide) (by decide)) dX12_orders_252 ?_
      refine tk_topi (y := 0) rfl ?_
      refine va_iast hx hb hK hP hD hS 1 0 rfl rfl (vp_in_nI (n := 1) (by decide) (by decide)) dX12_orders_253 (fun H locs hP hD hS => ?_)
      have hP : va_P (dC, dI) vwCl [(a19, .inl (cI, 16, .inl z0)), (a31, .inl (cI, 16, .inl z0)), (a0, .inr (12, [.ref a1, .ref a2, .ref a3, .int 0, .ref a4, .int 0, .int 0, .int 0, .int 0, .int 0, .int (-1), .int 0, .int 0, .int 0, .int 0, .ref a5, .ref a6, .ref a7, .ref a8, .ref a9, .ref a10, .ref a11, .ref a12, .int 0, .int 0, .int 0, .int 0, .int 0, .ref a13, .int 0, .ref a14, .ref a15, .int 0, .int 0, .ref a16, .int 0, .ref a17, .ref a18, .int 0, .int (-1), .ref a19, .ref a20, .ref a21, .int 0, .ref a22, .ref a23, .ref a24, .ref a25, .ref a26, .ref a27, .ref a28, .ref a29, .ref a30, .int 0, .int 0, .ref a31])), (a1, .inl (cI, 1560, .inl w0))] H := by rw [upd_z0] at hP; exact hP
      have hD : va_D A [(a19, .inl (cI, 16, .inl z0)), (a31, .inl (cI, 16, .inl z0)), (a0, .inr (12, [.ref a1, .ref a2, .ref a3, .int 0, .ref a4, .int 0, .int 0, .int 0, .int 0, .int 0, .int (-1), .int 0, .int 0, .int 0, .int 0, .ref a5, .ref a6, .ref a7, .ref a8, .ref a9, .ref a10, .ref a11, .ref a12, .int 0, .int 0, .int 0, .int 0, .int 0, .ref a13, .int 0, .ref a14, .ref a15, .int 0, .int 0, .ref a16, .int 0, .ref a17, .ref a18, .int 0, .int (-1), .ref a19, .ref a20, .ref a21, .int 0, .ref a22, .ref a23, .ref a24, .ref a25, .ref a26, .ref a27, .ref a28, .ref a29, .ref a30, .int 0, .int 0, .ref a31])), (a1, .inl (cI, 1560, .inl w0))] := by rw [upd_z0] at hD; exact hD
      refine lv_iinc (v := 2) (lv' := [(5, .int 2), (4, .int 0), (3, .int 0), (0, .ref a0), (1, .int 2), (2, .int 0)]) hx hb dX12_orders_254 hl (k := 0) rfl (by decide) (by decide) rfl (fun ls hl => ?_)
      refine lv_goto (tgt := 233) hx hb dX12_orders_257 (by decide) ?_
      refine lv_iload hx hb dX12_orders_233 (lv_at hl 0 rfl) ?_
      refine lv_bipush (v := 16) hx hb dX12_orders_235 (by decide) ?_
      refine lv_icmp_ge (tgt := 260) hx hb dX12_orders_237 (by decide) (fun c9 => absurd c9 (by decide)) (fun _ => ?_)
      refine lv_aload_n hx hb dX12_orders_240 rfl (lv_at hl 3 rfl) ?_
      refine va_get (D := (dC, dI)) (ci := 12) (v := .ref a31) (C := RX12) (T := TX12) (N := 56) hx hb hU inlX12 hown hK hP 2 rfl rfl 55 (by decide) (hU _ wd_204) (fun _ h9 => h9) rfl dX12_orders_241 ?_
      refine lv_iload hx hb dX12_orders_244 (lv_at hl 0 rfl) ?_
      refine lv_aload_n hx hb dX12_orders_246 rfl (lv_at hl 3 rfl) ?_
      refine va_get (D := (dC, dI)) (ci := 12) (v := .ref a19) (C := RX12) (T := TX12) (N := 56) hx hb hU inlX12 hown hK hP 2 rfl rfl 40 (by decide) (hU _ wd_190) (fun _ h9 => h9) rfl dX12_orders_247 ?_
      refine lv_iload hx hb dX12_orders_250 (lv_at hl 0 rfl) ?_
      refine va_iald hx hb hK hP 0 0 rfl rfl (vp_in_nI (n := 2) (by decide) (by decide)) dX12_orders_252 ?_
      refine tk_topi (y := 0) rfl ?_
      refine va_iast hx hb hK hP hD hS 1 0 rfl rfl (vp_in_nI (n := 2) (by decide) (by decide)) dX12_orders_253 (fun H locs hP hD hS => ?_)
      have hP : va_P (dC, dI) vwCl [(a19, .inl (cI, 16, .inl z0)), (a31, .inl (cI, 16, .inl z0)), (a0, .inr (12, [.ref a1, .ref a2, .ref a3, .int 0, .ref a4, .int 0, .int 0, .int 0, .int 0, .int 0, .int (-1), .int 0, .int 0, .int 0, .int 0, .ref a5, .ref a6, .ref a7, .ref a8, .ref a9, .ref a10, .ref a11, .ref a12, .int 0, .int 0, .int 0, .int 0, .int 0, .ref a13, .int 0, .ref a14, .ref a15, .int 0, .int 0, .ref a16, .int 0, .ref a17, .ref a18, .int 0, .int (-1), .ref a19, .ref a20, .ref a21, .int 0, .ref a22, .ref a23, .ref a24, .ref a25, .ref a26, .ref a27, .ref a28, .ref a29, .ref a30, .int 0, .int 0, .ref a31])), (a1, .inl (cI, 1560, .inl w0))] H := by rw [upd_z0] at hP; exact hP
      have hD : va_D A [(a19, .inl (cI, 16, .inl z0)), (a31, .inl (cI, 16, .inl z0)), (a0, .inr (12, [.ref a1, .ref a2, .ref a3, .int 0, .ref a4, .int 0, .int 0, .int 0, .int 0, .int 0, .int (-1), .int 0, .int 0, .int 0, .int 0, .ref a5, .ref a6, .ref a7, .ref a8, .ref a9, .ref a10, .ref a11, .ref a12, .int 0, .int 0, .int 0, .int 0, .int 0, .ref a13, .int 0, .ref a14, .ref a15, .int 0, .int 0, .ref a16, .int 0, .ref a17, .ref a18, .int 0, .int (-1), .ref a19, .ref a20, .ref a21, .int 0, .ref a22, .ref a23, .ref a24, .ref a25, .ref a26, .ref a27, .ref a28, .ref a29, .ref a30, .int 0, .int 0, .ref a31])), (a1, .inl (cI, 1560, .inl w0))] := by rw [upd_z0] at hD; exact hD
      refine lv_iinc (v := 3) (lv' := [(5, .int 3), (4, .int 0), (3, .int 0), (0, .ref a0), (1, .int 2), (2, .int 0)]) hx hb dX12_orders_254 hl (k := 0) rfl (by decide) (by decide) rfl (fun ls hl => ?_)
      refine lv_goto (tgt := 233) hx hb dX12_orders_257 (by decide) ?_
      refine lv_iload hx hb dX12_orders_233 (lv_at hl 0 rfl) ?_
      refine lv_bipush (v := 16) hx hb dX12_orders_235 (by decide) ?_
      refine lv_icmp_ge (tgt := 260) hx hb dX12_orders_237 (by decide) (fun c9 => absurd c9 (by decide)) (fun _ => ?_)
      refine lv_aload_n hx hb dX12_orders_240 rfl (lv_at hl 3 rfl) ?_
      refine va_get (D := (dC, dI)) (ci := 12) (v := .ref a31) (C := RX12) (T := TX12) (N := 56) hx hb hU inlX12 hown hK hP 2 rfl rfl 55 (by decide) (hU _ wd_204) (fun _ h9 => h9) rfl dX12_orders_241 ?_
      refine lv_iload hx hb dX12_orders_244 (lv_at hl 0 rfl) ?_
      refine lv_aload_n hx hb dX12_orders_246 rfl (lv_at hl 3 rfl) ?_
      refine va_get (D := (dC, dI)) (ci := 12) (v := .ref a19) (C := RX12) (T := TX12) (N := 56) hx hb hU inlX12 hown hK hP 2 rfl rfl 40 (by decide) (hU _ wd_190) (fun _ h9 => h9) rfl dX12_orders_247 ?_
      refine lv_iload hx hb dX12_orders_250 (lv_at hl 0 rfl) ?_
      refine va_iald hx hb hK hP 0 0 rfl rfl (vp_in_nI (n := 3) (by decide) (by decide)) dX12_orders_252 ?_
      refine tk_topi (y := 0) rfl ?_
      refine va_iast hx hb hK hP hD hS 1 0 rfl rfl (vp_in_nI (n := 3) (by decide) (by decide)) dX12_orders_253 (fun H locs hP hD hS => ?_)
      have hP : va_P (dC, dI) vwCl [(a19, .inl (cI, 16, .inl z0)), (a31, .inl (cI, 16, .inl z0)), (a0, .inr (12, [.ref a1, .ref a2, .ref a3, .int 0, .ref a4, .int 0, .int 0, .int 0, .int 0, .int 0, .int (-1), .int 0, .int 0, .int 0, .int 0, .ref a5, .ref a6, .ref a7, .ref a8, .ref a9, .ref a10, .ref a11, .ref a12, .int 0, .int 0, .int 0, .int 0, .int 0, .ref a13, .int 0, .ref a14, .ref a15, .int 0, .int 0, .ref a16, .int 0, .ref a17, .ref a18, .int 0, .int (-1), .ref a19, .ref a20, .ref a21, .int 0, .ref a22, .ref a23, .ref a24, .ref a25, .ref a26, .ref a27, .ref a28, .ref a29, .ref a30, .int 0, .int 0, .ref a31])), (a1, .inl (cI, 1560, .inl w0))] H := by rw [upd_z0] at hP; exact hP
      have hD : va_D A [(a19, .inl (cI, 16, .inl z0)), (a31, .inl (cI, 16, .inl z0)), (a0, .inr (12, [.ref a1, .ref a2, .ref a3, .int 0, .ref a4, .int 0, .int 0, .int 0, .int 0, .int 0, .int (-1), .int 0, .int 0, .int 0, .int 0, .ref a5, .ref a6, .ref a7, .ref a8, .ref a9, .ref a10, .ref a11, .ref a12, .int 0, .int 0, .int 0, .int 0, .int 0, .ref a13, .int 0, .ref a14, .ref a15, .int 0, .int 0, .ref a16, .int 0, .ref a17, .ref a18, .int 0, .int (-1), .ref a19, .ref a20, .ref a21, .int 0, .ref a22, .ref a23, .ref a24, .ref a25, .ref a26, .ref a27, .ref a28, .ref a29, .ref a30, .int 0, .int 0, .ref a31])), (a1, .inl (cI, 1560, .inl w0))] := by rw [upd_z0] at hD; exact hD
      refine lv_iinc (v := 4) (lv' := [(5, .int 4), (4, .int 0), (3, .int 0), (0, .ref a0), (1, .int 2), (2, .int 0)]) hx hb dX12_orders_254 hl (k := 0) rfl (by decide) (by decide) rfl (fun ls hl => ?_)
      refine lv_goto (tgt := 233) hx hb dX12_orders_257 (by decide) ?_
      refine lv_iload hx hb dX12_orders_233 (lv_at hl 0 rfl) ?_
      refine lv_bipush (v := 16) hx hb dX12_orders_235 (by decide) ?_
      refine lv_icmp_ge (tgt := 260) hx hb dX12_orders_237 (by decide) (fun c9 => absurd c9 (by decide)) (fun _ => ?_)
      refine lv_aload_n hx hb dX12_orders_240 rfl (lv_at hl 3 rfl) ?_
      refine va_get (D := (dC, dI)) (ci := 12) (v := .ref a31) (C := RX12) (T := TX12) (N := 56) hx hb hU inlX12 hown hK hP 2 rfl rfl 55 (by decide) (hU _ wd_204) (fun _ h9 => h9) rfl dX12_orders_241 ?_
      refine lv_iload hx hb dX12_orders_244 (lv_at hl 0 rfl) ?_
      refine lv_aload_n hx hb dX12_orders_246 rfl (lv_at hl 3 rfl) ?_
      refine va_get (D := (dC, dI)) (ci := 12) (v := .ref a19) (C := RX12) (T := TX12) (N := 56) hx hb hU inlX12 hown hK hP 2 rfl rfl 40 (by decide) (hU _ wd_190) (fun _ h9 => h9) rfl dX12_orders_247 ?_
      refine lv_iload hx hb dX12_orders_250 (lv_at hl 0 rfl) ?_
      refine va_iald hx hb hK hP 0 0 rfl rfl (vp_in_nI (n := 4) (by decide) (by decide)) dX12_orders_252 ?_
      refine tk_topi (y := 0) rfl ?_
      refine va_iast hx hb hK hP hD hS 1 0 rfl rfl (vp_in_nI (n := 4) (by decide) (by decide)) dX12_orders_253 (fun H locs hP hD hS => ?_)
      have hP : va_P (dC, dI) vwCl [(a19, .inl (cI, 16, .inl z0)), (a31, .inl (cI, 16, .inl z0)), (a0, .inr (12, [.ref a1, .ref a2, .ref a3, .int 0, .ref a4, .int 0, .int 0, .int 0, .int 0, .int 0, .int (-1), .int 0, .int 0, .int 0, .int 0, .ref a5, .ref a6, .ref a7, .ref a8, .ref a9, .ref a10, .ref a11, .ref a12, .int 0, .int 0, .int 0, .int 0, .int 0, .ref a13, .int 0, .ref a14, .ref a15, .int 0, .int 0, .ref a16, .int 0, .ref a17, .ref a18, .int 0, .int (-1), .ref a19, .ref a20, .ref a21, .int 0, .ref a22, .ref a23, .ref a24, .ref a25, .ref a26, .ref a27, .ref a28, .ref a29, .ref a30, .int 0, .int 0, .ref a31])), (a1, .inl (cI, 1560, .inl w0))] H := by rw [upd_z0] at hP; exact hP
      have hD : va_D A [(a19, .inl (cI, 16, .inl z0)), (a31, .inl (cI, 16, .inl z0)), (a0, .inr (12, [.ref a1, .ref a2, .ref a3, .int 0, .ref a4, .int 0, .int 0, .int 0, .int 0, .int 0, .int (-1), .int 0, .int 0, .int 0, .int 0, .ref a5, .ref a6, .ref a7, .ref a8, .ref a9, .ref a10, .ref a11, .ref a12, .int 0, .int 0, .int 0, .int 0, .int 0, .ref a13, .int 0, .ref a14, .ref a15, .int 0, .int 0, .ref a16, .int 0, .ref a17, .ref a18, .int 0, .int (-1), .ref a19, .ref a20, .ref a21, .int 0, .ref a22, .ref a23, .ref a24, .ref a25, .ref a26, .ref a27, .ref a28, .ref a29, .ref a30, .int 0, .int 0, .ref a31])), (a1, .inl (cI, 1560, .inl w0))] := by rw [upd_z0] at hD; exact hD
      refine lv_iinc (v := 5) (lv' := [(5, .int 5), (4, .int 0), (3, .int 0), (0, .ref a0), (1, .int 2), (2, .int 0)]) hx hb dX12_orders_254 hl (k := 0) rfl (by decide) (by decide) rfl (fun ls hl => ?_)
      refine lv_goto (tgt := 233) hx hb dX12_orders_257 (by decide) ?_
      refine lv_iload hx hb dX12_orders_233 (lv_at hl 0 rfl) ?_
      refine lv_bipush (v := 16) hx hb dX12_orders_235 (by decide) ?_
      refine lv_icmp_ge (tgt := 260) hx hb dX12_orders_237 (by decide) (fun c9 => absurd c9 (by decide)) (fun _ => ?_)
      refine lv_aload_n hx hb dX12_orders_240 rfl (lv_at hl 3 rfl) ?_
      refine va_get (D := (dC, dI)) (ci := 12) (v := .ref a31) (C := RX12) (T := TX12) (N := 56) hx hb hU inlX12 hown hK hP 2 rfl rfl 55 (by decide) (hU _ wd_204) (fun _ h9 => h9) rfl dX12_orders_241 ?_
      refine lv_iload hx hb dX12_orders_244 (lv_at hl 0 rfl) ?_
      refine lv_aload_n hx hb dX12_orders_246 rfl (lv_at hl 3 rfl) ?_
      refine va_get (D := (dC, dI)) (ci := 12) (v := .ref a19) (C := RX12) (T := TX12) (N := 56) hx hb hU inlX12 hown hK hP 2 rfl rfl 40 (by decide) (hU _ wd_190) (fun _ h9 => h9) rfl dX12_orders_247 ?_
      refine lv_iload hx hb dX12_orders_250 (lv_at hl 0 rfl) ?_
      refine va_iald hx hb hK hP 0 0 rfl rfl (vp_in_nI (n := 5) (by decide) (by decide)) dX12_orders_252 ?_
      refine tk_topi (y := 0) rfl ?_
      refine va_iast hx hb hK hP hD hS 1 0 rfl rfl (vp_in_nI (n := 5) (by decide) (by decide)) dX12_orders_253 (fun H locs hP hD hS => ?_)
      have hP : va_P (dC, dI) vwCl [(a19, .inl (cI, 16, .inl z0)), (a31, .inl (cI, 16, .inl z0)), (a0, .inr (12, [.ref a1, .ref a2, .ref a3, .int 0, .ref a4, .int 0, .int 0, .int 0, .int 0, .int 0, .int (-1), .int 0, .int 0, .int 0, .int 0, .ref a5, .ref a6, .ref a7, .ref a8, .ref a9, .ref a10, .ref a11, .ref a12, .int 0, .int 0, .int 0, .int 0, .int 0, .ref a13, .int 0, .ref a14, .ref a15, .int 0, .int 0, .ref a16, .int 0, .ref a17, .ref a18, .int 0, .int (-1), .ref a19, .ref a20, .ref a21, .int 0, .ref a22, .ref a23, .ref a24, .ref a25, .ref a26, .ref a27, .ref a28, .ref a29, .ref a30, .int 0, .int 0, .ref a31])), (a1, .inl (cI, 1560, .inl w0))] H := by rw [upd_z0] at hP; exact hP
      have hD : va_D A [(a19, .inl (cI, 16, .inl z0)), (a31, .inl (cI, 16, .inl z0)), (a0, .inr (12, [.ref a1, .ref a2, .ref a3, .int 0, .ref a4, .int 0, .int 0, .int 0, .int 0, .int 0, .int (-1), .int 0, .int 0, .int 0, .int 0, .ref a5, .ref a6, .ref a7, .ref a8, .ref a9, .ref a10, .ref a11, .ref a12, .int 0, .int 0, .int 0, .int 0, .int 0, .ref a13, .int 0, .ref a14, .ref a15, .int 0, .int 0, .ref a16, .int 0, .ref a17, .ref a18, .int 0, .int (-1), .ref a19, .ref a20, .ref a21, .int 0, .ref a22, .ref a23, .ref a24, .ref a25, .ref a26, .ref a27, .ref a28, .ref a29, .ref a30, .int 0, .int 0, .ref a31])), (a1, .inl (cI, 1560, .inl w0))] := by rw [upd_z0] at hD; exact hD
      refine lv_iinc (v := 6) (lv' := [(5, .int 6), (4, .int 0), (3, .int 0), (0, .ref a0), (1, .int 2), (2, .int 0)]) hx hb dX12_orders_254 hl (k := 0) rfl (by decide) (by decide) rfl (fun ls hl => ?_)
      refine lv_goto (tgt := 233) hx hb dX12_orders_257 (by decide) ?_
      refine lv_iload hx hb dX12_orders_233 (lv_at hl 0 rfl) ?_
      refine lv_bipush (v := 16) hx hb dX12_orders_235 (by decide) ?_
      refine lv_icmp_ge (tgt := 260) hx hb dX12_orders_237 (by decide) (fun c9 => absurd c9 (by decide)) (fun _ => ?_)
      refine lv_aload_n hx hb dX12_orders_240 rfl (lv_at hl 3 rfl) ?_
      refine va_get (D := (dC, dI)) (ci := 12) (v := .ref a31) (C := RX12) (T := TX12) (N := 56) hx hb hU inlX12 hown hK hP 2 rfl rfl 55 (by decide) (hU _ wd_204) (fun _ h9 => h9) rfl dX12_orders_241 ?_
      refine lv_iload hx hb dX12_orders_244 (lv_at hl 0 rfl) ?_
      refine lv_aload_n hx hb dX12_orders_246 rfl (lv_at hl 3 rfl) ?_
      refine va_get (D := (dC, dI)) (ci := 12) (v := .ref a19) (C := RX12) (T := TX12) (N := 56) hx hb hU inlX12 hown hK hP 2 rfl rfl 40 (by decide) (hU _ wd_190) (fun _ h9 => h9) rfl dX12_orders_247 ?_
      refine lv_iload hx hb dX12_orders_250 (lv_at hl 0 rfl) ?_
      refine va_iald hx hb hK hP 0 0 rfl rfl (vp_in_nI (n := 6) (by decide) (by decide)) dX12_orders_252 ?_
      refine tk_topi (y := 0) rfl ?_
      refine va_iast hx hb hK hP hD hS 1 0 rfl rfl (vp_in_nI (n := 6) (by decide) (by decide)) dX12_orders_253 (fun H locs hP hD hS => ?_)
      have hP : va_P (dC, dI) vwCl [(a19, .inl (cI, 16, .inl z0)), (a31, .inl (cI, 16, .inl z0)), (a0, .inr (12, [.ref a1, .ref a2, .ref a3, .int 0, .ref a4, .int 0, .int 0, .int 0, .int 0, .int 0, .int (-1), .int 0, .int 0, .int 0, .int 0, .ref a5, .ref a6, .ref a7, .ref a8, .ref a9, .ref a10, .ref a11, .ref a12, .int 0, .int 0, .int 0, .int 0, .int 0, .ref a13, .int 0, .ref a14, .ref a15, .int 0, .int 0, .ref a16, .int 0, .ref a17, .ref a18, .int 0, .int (-1), .ref a19, .ref a20, .ref a21, .int 0, .ref a22, .ref a23, .ref a24, .ref a25, .ref a26, .ref a27, .ref a28, .ref a29, .ref a30, .int 0, .int 0, .ref a31])), (a1, .inl (cI, 1560, .inl w0))] H := by rw [upd_z0] at hP; exact hP
      have hD : va_D A [(a19, .inl (cI, 16, .inl z0)), (a31, .inl (cI, 16, .inl z0)), (a0, .inr (12, [.ref a1, .ref a2, .ref a3, .int 0, .ref a4, .int 0, .int 0, .int 0, .int 0, .int 0, .int (-1), .int 0, .int 0, .int 0, .int 0, .ref a5, .ref a6, .ref a7, .ref a8, .ref a9, .ref a10, .ref a11, .ref a12, .int 0, .int 0, .int 0, .int 0, .int 0, .ref a13, .int 0, .ref a14, .ref a15, .int 0, .int 0, .ref a16, .int 0, .ref a17, .ref a18, .int 0, .int (-1), .ref a19, .ref a20, .ref a21, .int 0, .ref a22, .ref a23, .ref a24, .ref a25, .ref a26, .ref a27, .ref a28, .ref a29, .ref a30, .int 0, .int 0, .ref a31])), (a1, .inl (cI, 1560, .inl w0))] := by rw [upd_z0] at hD; exact hD
      refine lv_iinc (v := 7) (lv' := [(5, .int 7), (4, .int 0), (3, .int 0), (0, .ref a0), (1, .int 2), (2, .int 0)]) hx hb dX12_orders_254 hl (k := 0) rfl (by decide) (by decide) rfl (fun ls hl => ?_)
      refine lv_goto (tgt := 233) hx hb dX12_orders_257 (by decide) ?_
      refine lv_iload hx hb dX12_orders_233 (lv_at hl 0 rfl) ?_
      refine lv_bipush (v := 16) hx hb dX12_orders_235 (by decide) ?_
      refine lv_icmp_ge (tgt := 260) hx hb dX12_orders_237 (by decide) (fun c9 => absurd c9 (by decide)) (fun _ => ?_)
      refine lv_aload_n hx hb dX12_orders_240 rfl (lv_at hl 3 rfl) ?_
      refine va_get (D := (dC, dI)) (ci := 12) (v := .ref a31) (C := RX12) (T := TX12) (N := 56) hx hb hU inlX12 hown hK hP 2 rfl rfl 55 (by decide) (hU _ wd_204) (fun _ h9 => h9) rfl dX12_orders_241 ?_
      refine lv_iload hx hb dX12_orders_244 (lv_at hl 0 rfl) ?_
      refine lv_aload_n hx hb dX12_orders_246 rfl (lv_at hl 3 rfl) ?_
      refine va_get (D := (dC, dI)) (ci := 12) (v := .ref a19) (C := RX12) (T := TX12) (N := 56) hx hb hU inlX12 hown hK hP 2 rfl rfl 40 (by decide) (hU _ wd_190) (fun _ h9 => h9) rfl dX12_orders_247 ?_
      refine lv_iload hx hb dX12_orders_250 (lv_at hl 0 rfl) ?_
      refine va_iald hx hb hK hP 0 0 rfl rfl (vp_in_nI (n := 7) (by decide) (by decide)) dX12_orders_252 ?_
      refine tk_topi (y := 0) rfl ?_
      refine va_iast hx hb hK hP hD hS 1 0 rfl rfl (vp_in_nI (n := 7) (by decide) (by decide)) dX12_orders_253 (fun H locs hP hD hS => ?_)
      have hP : va_P (dC, dI) vwCl [(a19, .inl (cI, 16, .inl z0)), (a31, .inl (cI, 16, .inl z0)), (a0, .inr (12, [.ref a1, .ref a2, .ref a3, .int 0, .ref a4, .int 0, .int 0, .int 0, .int 0, .int 0, .int (-1), .int 0, .int 0, .int 0, .int 0, .ref a5, .ref a6, .ref a7, .ref a8, .ref a9, .ref a10, .ref a11, .ref a12, .int 0, .int 0, .int 0, .int 0, .int 0, .ref a13, .int 0, .ref a14, .ref a15, .int 0, .int 0, .ref a16, .int 0, .ref a17, .ref a18, .int 0, .int (-1), .ref a19, .ref a20, .ref a21, .int 0, .ref a22, .ref a23, .ref a24, .ref a25, .ref a26, .ref a27, .ref a28, .ref a29, .ref a30, .int 0, .int 0, .ref a31])), (a1, .inl (cI, 1560, .inl w0))] H := by rw [upd_z0] at hP; exact hP
      have hD : va_D A [(a19, .inl (cI, 16, .inl z0)), (a31, .inl (cI, 16, .inl z0)), (a0, .inr (12, [.ref a1, .ref a2, .ref a3, .int 0, .ref a4, .int 0, .int 0, .int 0, .int 0, .int 0, .int (-1), .int 0, .int 0, .int 0, .int 0, .ref a5, .ref a6, .ref a7, .ref a8, .ref a9, .ref a10, .ref a11, .ref a12, .int 0, .int 0, .int 0, .int 0, .int 0, .ref a13, .int 0, .ref a14, .ref a15, .int 0, .int 0, .ref a16, .int 0, .ref a17, .ref a18, .int 0, .int (-1), .ref a19, .ref a20, .ref a21, .int 0, .ref a22, .ref a23, .ref a24, .ref a25, .ref a26, .ref a27, .ref a28, .ref a29, .ref a30, .int 0, .int 0, .ref a31])), (a1, .inl (cI, 1560, .inl w0))] := by rw [upd_z0] at hD; exact hD
      refine lv_iinc (v := 8) (lv' := [(5, .int 8), (4, .int 0), (3, .int 0), (0, .ref a0), (1, .int 2), (2, .int 0)]) hx hb dX12_orders_254 hl (k := 0) rfl (by decide) (by decide) rfl (fun ls hl => ?_)
      refine lv_goto (tgt := 233) hx hb dX12_orders_257 (by decide) ?_
      refine lv_iload hx hb dX12_orders_233 (lv_at hl 0 rfl) ?_
      refine lv_bipush (v := 16) hx hb dX12_orders_235 (by decide) ?_
      refine lv_icmp_ge (tgt := 260) hx hb dX12_orders_237 (by decide) (fun c9 => absurd c9 (by decide)) (fun _ => ?_)
      refine lv_aload_n hx hb dX12_orders_240 rfl (lv_at hl 3 rfl) ?_
      refine va_get (D := (dC, dI)) (ci := 12) (v := .ref a31) (C := RX12) (T := TX12) (N := 56) hx hb hU inlX12 hown hK hP 2 rfl rfl 55 (by decide) (hU _ wd_204) (fun _ h9 => h9) rfl dX12_orders_241 ?_
      refine lv_iload hx hb dX12_orders_244 (lv_at hl 0 rfl) ?_
      refine lv_aload_n hx hb dX12_orders_246 rfl (lv_at hl 3 rfl) ?_
      refine va_get (D := (dC, dI)) (ci := 12) (v := .ref a19) (C := RX12) (T := TX12) (N := 56) hx hb hU inlX12 hown hK hP 2 rfl rfl 40 (by decide) (hU _ wd_190) (fun _ h9 => h9) rfl dX12_orders_247 ?_
      refine lv_iload hx hb dX12_orders_250 (lv_at hl 0 rfl) ?_
      refine va_iald hx hb hK hP 0 0 rfl rfl (vp_in_nI (n := 8) (by decide) (by decide)) dX12_orders_252 ?_
      refine tk_topi (y := 0) rfl ?_
      refine va_iast hx hb hK hP hD hS 1 0 rfl rfl (vp_in_nI (n := 8) (by decide) (by decide)) dX12_orders_253 (fun H locs hP hD hS => ?_)
      have hP : va_P (dC, dI) vwCl [(a19, .inl (cI, 16, .inl z0)), (a31, .inl (cI, 16, .inl z0)), (a0, .inr (12, [.ref a1, .ref a2, .ref a3, .int 0, .ref a4, .int 0, .int 0, .int 0, .int 0, .int 0, .int (-1), .int 0, .int 0, .int 0, .int 0, .ref a5, .ref a6, .ref a7, .ref a8, .ref a9, .ref a10, .ref a11, .ref a12, .int 0, .int 0, .int 0, .int 0, .int 0, .ref a13, .int 0, .ref a14, .ref a15, .int 0, .int 0, .ref a16, .int 0, .ref a17, .ref a18, .int 0, .int (-1), .ref a19, .ref a20, .ref a21, .int 0, .ref a22, .ref a23, .ref a24, .ref a25, .ref a26, .ref a27, .ref a28, .ref a29, .ref a30, .int 0, .int 0, .ref a31])), (a1, .inl (cI, 1560, .inl w0))] H := by rw [upd_z0] at hP; exact hP
      have hD : va_D A [(a19, .inl (cI, 16, .inl z0)), (a31, .inl (cI, 16, .inl z0)), (a0, .inr (12, [.ref a1, .ref a2, .ref a3, .int 0, .ref a4, .int 0, .int 0, .int 0, .int 0, .int 0, .int (-1), .int 0, .int 0, .int 0, .int 0, .ref a5, .ref a6, .ref a7, .ref a8, .ref a9, .ref a10, .ref a11, .ref a12, .int 0, .int 0, .int 0, .int 0, .int 0, .ref a13, .int 0, .ref a14, .ref a15, .int 0, .int 0, .ref a16, .int 0, .ref a17, .ref a18, .int 0, .int (-1), .ref a19, .ref a20, .ref a21, .int 0, .ref a22, .ref a23, .ref a24, .ref a25, .ref a26, .ref a27, .ref a28, .ref a29, .ref a30, .int 0, .int 0, .ref a31])), (a1, .inl (cI, 1560, .inl w0))] := by rw [upd_z0] at hD; exact hD
      refine lv_iinc (v := 9) (lv' := [(5, .int 9), (4, .int 0), (3, .int 0), (0, .ref a0), (1, .int 2), (2, .int 0)]) hx hb dX12_orders_254 hl (k := 0) rfl (by decide) (by decide) rfl (fun ls hl => ?_)
      refine lv_goto (tgt := 233) hx hb dX12_orders_257 (by decide) ?_
      refine lv_iload hx hb dX12_orders_233 (lv_at hl 0 rfl) ?_
      refine lv_bipush (v := 16) hx hb dX12_orders_235 (by decide) ?_
      refine lv_icmp_ge (tgt := 260) hx hb dX12_orders_237 (by decide) (fun c9 => absurd c9 (by decide)) (fun _ => ?_)
      refine lv_aload_n hx hb dX12_orders_240 rfl (lv_at hl 3 rfl) ?_
      refine va_get (D := (dC, dI)) (ci := 12) (v := .ref a31) (C := RX12) (T := TX12) (N := 56) hx hb hU inlX12 hown hK hP 2 rfl rfl 55 (by decide) (hU _ wd_204) (fun _ h9 => h9) rfl dX12_orders_241 ?_
      refine lv_iload hx hb dX12_orders_244 (lv_at hl 0 rfl) ?_
      refine lv_aload_n hx hb dX12_orders_246 rfl (lv_at hl 3 rfl) ?_
      refine va_get (D := (dC, dI)) (ci := 12) (v := .ref a19) (C := RX12) (T := TX12) (N := 56) hx hb hU inlX12 hown hK hP 2 rfl rfl 40 (by decide) (hU _ wd_190) (fun _ h9 => h9) rfl dX12_orders_247 ?_
      refine lv_iload hx hb dX12_orders_250 (lv_at hl 0 rfl) ?_
      refine va_iald hx hb hK hP 0 0 rfl rfl (vp_in_nI (n := 9) (by decide) (by decide)) dX12_orders_252 ?_
      refine tk_topi (y := 0) rfl ?_
      refine va_iast hx hb hK hP hD hS 1 0 rfl rfl (vp_in_nI (n := 9) (by decide) (by decide)) dX12_orders_253 (fun H locs hP hD hS => ?_)
      have hP : va_P (dC, dI) vwCl [(a19, .inl (cI, 16, .inl z0)), (a31, .inl (cI, 16, .inl z0)), (a0, .inr (12, [.ref a1, .ref a2, .ref a3, .int 0, .ref a4, .int 0, .int 0, .int 0, .int 0, .int 0, .int (-1), .int 0, .int 0, .int 0, .int 0, .ref a5, .ref a6, .ref a7, .ref a8, .ref a9, .ref a10, .ref a11, .ref a12, .int 0, .int 0, .int 0, .int 0, .int 0, .ref a13, .int 0, .ref a14, .ref a15, .int 0, .int 0, .ref a16, .int 0, .ref a17, .ref a18, .int 0, .int (-1), .ref a19, .ref a20, .ref a21, .int 0, .ref a22, .ref a23, .ref a24, .ref a25, .ref a26, .ref a27, .ref a28, .ref a29, .ref a30, .int 0, .int 0, .ref a31])), (a1, .inl (cI, 1560, .inl w0))] H := by rw [upd_z0] at hP; exact hP
      have hD : va_D A [(a19, .inl (cI, 16, .inl z0)), (a31, .inl (cI, 16, .inl z0)), (a0, .inr (12, [.ref a1, .ref a2, .ref a3, .int 0, .ref a4, .int 0, .int 0, .int 0, .int 0, .int 0, .int (-1), .int 0, .int 0, .int 0, .int 0, .ref a5, .ref a6, .ref a7, .ref a8, .ref a9, .ref a10, .ref a11, .ref a12, .int 0, .int 0, .int 0, .int 0, .int 0, .ref a13, .int 0, .ref a14, .ref a15, .int 0, .int 0, .ref a16, .int 0, .ref a17, .ref a18, .int 0, .int (-1), .ref a19, .ref a20, .ref a21, .int 0, .ref a22, .ref a23, .ref a24, .ref a25, .ref a26, .ref a27, .ref a28, .ref a29, .ref a30, .int 0, .int 0, .ref a31])), (a1, .inl (cI, 1560, .inl w0))] := by rw [upd_z0] at hD; exact hD
      refine lv_iinc (v := 10) (lv' := [(5, .int 10), (4, .int 0), (3, .int 0), (0, .ref a0), (1, .int 2), (2, .int 0)]) hx hb dX12_orders_254 hl (k := 0) rfl (by decide) (by decide) rfl (fun ls hl => ?_)
      refine lv_goto (tgt := 233) hx hb dX12_orders_257 (by decide) ?_
      refine lv_iload hx hb dX12_orders_233 (lv_at hl 0 rfl) ?_
      refine lv_bipush (v := 16) hx hb dX12_orders_235 (by decide) ?_
      refine lv_icmp_ge (tgt := 260) hx hb dX12_orders_237 (by decide) (fun c9 => absurd c9 (by decide)) (fun _ => ?_)
      refine lv_aload_n hx hb dX12_orders_240 rfl (lv_at hl 3 rfl) ?_
      refine va_get (D := (dC, dI)) (ci := 12) (v := .ref a31) (C := RX12) (T := TX12) (N := 56) hx hb hU inlX12 hown hK hP 2 rfl rfl 55 (by decide) (hU _ wd_204) (fun _ h9 => h9) rfl dX12_orders_241 ?_
      refine lv_iload hx hb dX12_orders_244 (lv_at hl 0 rfl) ?_
      refine lv_aload_n hx hb dX12_orders_246 rfl (lv_at hl 3 rfl) ?_
      refine va_get (D := (dC, dI)) (ci := 12) (v := .ref a19) (C := RX12) (T := TX12) (N := 56) hx hb hU inlX12 hown hK hP 2 rfl rfl 40 (by decide) (hU _ wd_190) (fun _ h9 => h9) rfl dX12_orders_247 ?_
      refine lv_iload hx hb dX12_orders_250 (lv_at hl 0 rfl) ?_
      refine va_iald hx hb hK hP 0 0 rfl rfl (vp_in_nI (n := 10) (by decide) (by decide)) dX12_orders_252 ?_
      refine tk_topi (y := 0) rfl ?_
      refine va_iast hx hb hK hP hD hS 1 0 rfl rfl (vp_in_nI (n := 10) (by decide) (by decide)) dX12_orders_253 (fun H locs hP hD hS => ?_)
      have hP : va_P (dC, dI) vwCl [(a19, .inl (cI, 16, .inl z0)), (a31, .inl (cI, 16, .inl z0)), (a0, .inr (12, [.ref a1, .ref a2, .ref a3, .int 0, .ref a4, .int 0, .int 0, .int 0, .int 0, .int 0, .int (-1), .int 0, .int 0, .int 0, .int 0, .ref a5, .ref a6, .ref a7, .ref a8, .ref a9, .ref a10, .ref a11, .ref a12, .int 0, .int 0, .int 0, .int 0, .int 0, .ref a13, .int 0, .ref a14, .ref a15, .int 0, .int 0, .ref a16, .int 0, .ref a17, .ref a18, .int 0, .int (-1), .ref a19, .ref a20, .ref a21, .int 0, .ref a22, .ref a23, .ref a24, .ref a25, .ref a26, .ref a27, .ref a28, .ref a29, .ref a30, .int 0, .int 0, .ref a31])), (a1, .inl (cI, 1560, .inl w0))] H := by rw [upd_z0] at hP; exact hP
      have hD : va_D A [(a19, .inl (cI, 16, .inl z0)), (a31, .inl (cI, 16, .inl z0)), (a0, .inr (12, [.ref a1, .ref a2, .ref a3, .int 0, .ref a4, .int 0, .int 0, .int 0, .int 0, .int 0, .int (-1), .int 0, .int 0, .int 0, .int 0, .ref a5, .ref a6, .ref a7, .ref a8, .ref a9, .ref a10, .ref a11, .ref a12, .int 0, .int 0, .int 0, .int 0, .int 0, .ref a13, .int 0, .ref a14, .ref a15, .int 0, .int 0, .ref a16, .int 0, .ref a17, .ref a18, .int 0, .int (-1), .ref a19, .ref a20, .ref a21, .int 0, .ref a22, .ref a23, .ref a24, .ref a25, .ref a26, .ref a27, .ref a28, .ref a29, .ref a30, .int 0, .int 0, .ref a31])), (a1, .inl (cI, 1560, .inl w0))] := by rw [upd_z0] at hD; exact hD
      refine lv_iinc (v := 11) (lv' := [(5, .int 11), (4, .int 0), (3, .int 0), (0, .ref a0), (1, .int 2), (2, .int 0)]) hx hb dX12_orders_254 hl (k := 0) rfl (by decide) (by decide) rfl (fun ls hl => ?_)
      refine lv_goto (tgt := 233) hx hb dX12_orders_257 (by decide) ?_
      refine lv_iload hx hb dX12_orders_233 (lv_at hl 0 rfl) ?_
      refine lv_bipush (v := 16) hx hb dX12_orders_235 (by decide) ?_
      refine lv_icmp_ge (tgt := 260) hx hb dX12_orders_237 (by decide) (fun c9 => absurd c9 (by decide)) (fun _ => ?_)
      refine lv_aload_n hx hb dX12_orders_240 rfl (lv_at hl 3 rfl) ?_
      refine va_get (D := (dC, dI)) (ci := 12) (v := .ref a31) (C := RX12) (T := TX12) (N := 56) hx hb hU inlX12 hown hK hP 2 rfl rfl 55 (by decide) (hU _ wd_204) (fun _ h9 => h9) rfl dX12_orders_241 ?_
      refine lv_iload hx hb dX12_orders_244 (lv_at hl 0 rfl) ?_
      refine lv_aload_n hx hb dX12_orders_246 rfl (lv_at hl 3 rfl) ?_
      refine va_get (D := (dC, dI)) (ci := 12) (v := .ref a19) (C := RX12) (T := TX12) (N := 56) hx hb hU inlX12 hown hK hP 2 rfl rfl 40 (by decide) (hU _ wd_190) (fun _ h9 => h9) rfl dX12_orders_247 ?_
      refine lv_iload hx hb dX12_orders_250 (lv_at hl 0 rfl) ?_
      refine va_iald hx hb hK hP 0 0 rfl rfl (vp_in_nI (n := 11) (by decide) (by decide)) dX12_orders_252 ?_
      refine tk_topi (y := 0) rfl ?_
      refine va_iast hx hb hK hP hD hS 1 0 rfl rfl (vp_in_nI (n := 11) (by decide) (by decide)) dX12_orders_253 (fun H locs hP hD hS => ?_)
      have hP : va_P (dC, dI) vwCl [(a19, .inl (cI, 16, .inl z0)), (a31, .inl (cI, 16, .inl z0)), (a0, .inr (12, [.ref a1, .ref a2, .ref a3, .int 0, .ref a4, .int 0, .int 0, .int 0, .int 0, .int 0, .int (-1), .int 0, .int 0, .int 0, .int 0, .ref a5, .ref a6, .ref a7, .ref a8, .ref a9, .ref a10, .ref a11, .ref a12, .int 0, .int 0, .int 0, .int 0, .int 0, .ref a13, .int 0, .ref a14, .ref a15, .int 0, .int 0, .ref a16, .int 0, .ref a17, .ref a18, .int 0, .int (-1), .ref a19, .ref a20, .ref a21, .int 0, .ref a22, .ref a23, .ref a24, .ref a25, .ref a26, .ref a27, .ref a28, .ref a29, .ref a30, .int 0, .int 0, .ref a31])), (a1, .inl (cI, 1560, .inl w0))] H := by rw [upd_z0] at hP; exact hP
      have hD : va_D A [(a19, .inl (cI, 16, .inl z0)), (a31, .inl (cI, 16, .inl z0)), (a0, .inr (12, [.ref a1, .ref a2, .ref a3, .int 0, .ref a4, .int 0, .int 0, .int 0, .int 0, .int 0, .int (-1), .int 0, .int 0, .int 0, .int 0, .ref a5, .ref a6, .ref a7, .ref a8, .ref a9, .ref a10, .ref a11, .ref a12, .int 0, .int 0, .int 0, .int 0, .int 0, .ref a13, .int 0, .ref a14, .ref a15, .int 0, .int 0, .ref a16, .int 0, .ref a17, .ref a18, .int 0, .int (-1), .ref a19, .ref a20, .ref a21, .int 0, .ref a22, .ref a23, .ref a24, .ref a25, .ref a26, .ref a27, .ref a28, .ref a29, .ref a30, .int 0, .int 0, .ref a31])), (a1, .inl (cI, 1560, .inl w0))] := by rw [upd_z0] at hD; exact hD
      refine lv_iinc (v := 12) (lv' := [(5, .int 12), (4, .int 0), (3, .int 0), (0, .ref a0), (1, .int 2), (2, .int 0)]) hx hb dX12_orders_254 hl (k := 0) rfl (by decide) (by decide) rfl (fun ls hl => ?_)
      refine lv_goto (tgt := 233) hx hb dX12_orders_257 (by decide) ?_
      refine lv_iload hx hb dX12_orders_233 (lv_at hl 0 rfl) ?_
      refine lv_bipush (v := 16) hx hb dX12_orders_235 (by decide) ?_
      refine lv_icmp_ge (tgt := 260) hx hb dX12_orders_237 (by decide) (fun c9 => absurd c9 (by decide)) (fun _ => ?_)
      refine lv_aload_n hx hb dX12_orders_240 rfl (lv_at hl 3 rfl) ?_
      refine va_get (D := (dC, dI)) (ci := 12) (v := .ref a31) (C := RX12) (T := TX12) (N := 56) hx hb hU inlX12 hown hK hP 2 rfl rfl 55 (by decide) (hU _ wd_204) (fun _ h9 => h9) rfl dX12_orders_241 ?_
      refine lv_iload hx hb dX12_orders_244 (lv_at hl 0 rfl) ?_
      refine lv_aload_n hx hb dX12_orders_246 rfl (lv_at hl 3 rfl) ?_
      refine va_get (D := (dC, dI)) (ci := 12) (v := .ref a19) (C := RX12) (T := TX12) (N := 56) hx hb hU inlX12 hown hK hP 2 rfl rfl 40 (by decide) (hU _ wd_190) (fun _ h9 => h9) rfl dX12_orders_247 ?_
      refine lv_iload hx hb dX12_orders_250 (lv_at hl 0 rfl) ?_
      refine va_iald hx hb hK hP 0 0 rfl rfl (vp_in_nI (n := 12) (by decide) (by decide)) dX12_orders_252 ?_
      refine tk_topi (y := 0) rfl ?_
      refine va_iast hx hb hK hP hD hS 1 0 rfl rfl (vp_in_nI (n := 12) (by decide) (by decide)) dX12_orders_253 (fun H locs hP hD hS => ?_)
      have hP : va_P (dC, dI) vwCl [(a19, .inl (cI, 16, .inl z0)), (a31, .inl (cI, 16, .inl z0)), (a0, .inr (12, [.ref a1, .ref a2, .ref a3, .int 0, .ref a4, .int 0, .int 0, .int 0, .int 0, .int 0, .int (-1), .int 0, .int 0, .int 0, .int 0, .ref a5, .ref a6, .ref a7, .ref a8, .ref a9, .ref a10, .ref a11, .ref a12, .int 0, .int 0, .int 0, .int 0, .int 0, .ref a13, .int 0, .ref a14, .ref a15, .int 0, .int 0, .ref a16, .int 0, .ref a17, .ref a18, .int 0, .int (-1), .ref a19, .ref a20, .ref a21, .int 0, .ref a22, .ref a23, .ref a24, .ref a25, .ref a26, .ref a27, .ref a28, .ref a29, .ref a30, .int 0, .int 0, .ref a31])), (a1, .inl (cI, 1560, .inl w0))] H := by rw [upd_z0] at hP; exact hP
      have hD : va_D A [(a19, .inl (cI, 16, .inl z0)), (a31, .inl (cI, 16, .inl z0)), (a0, .inr (12, [.ref a1, .ref a2, .ref a3, .int 0, .ref a4, .int 0, .int 0, .int 0, .int 0, .int 0, .int (-1), .int 0, .int 0, .int 0, .int 0, .ref a5, .ref a6, .ref a7, .ref a8, .ref a9, .ref a10, .ref a11, .ref a12, .int 0, .int 0, .int 0, .int 0, .int 0, .ref a13, .int 0, .ref a14, .ref a15, .int 0, .int 0, .ref a16, .int 0, .ref a17, .ref a18, .int 0, .int (-1), .ref a19, .ref a20, .ref a21, .int 0, .ref a22, .ref a23, .ref a24, .ref a25, .ref a26, .ref a27, .ref a28, .ref a29, .ref a30, .int 0, .int 0, .ref a31])), (a1, .inl (cI, 1560, .inl w0))] := by rw [upd_z0] at hD; exact hD
      refine lv_iinc (v := 13) (lv' := [(5, .int 13), (4, .int 0), (3, .int 0), (0, .ref a0), (1, .int 2), (2, .int 0)]) hx hb dX12_orders_254 hl (k := 0) rfl (by decide) (by decide) rfl (fun ls hl => ?_)
      refine lv_goto (tgt := 233) hx hb dX12_orders_257 (by decide) ?_
      refine lv_iload hx hb dX12_orders_233 (lv_at hl 0 rfl) ?_
      refine lv_bipush (v := 16) hx hb dX12_orders_235 (by decide) ?_
      refine lv_icmp_ge (tgt := 260) hx hb dX12_orders_237 (by decide) (fun c9 => absurd c9 (by decide)) (fun _ => ?_)
      refine lv_aload_n hx hb dX12_orders_240 rfl (lv_at hl 3 rfl) ?_
      refine va_get (D := (dC, dI)) (ci := 12) (v := .ref a31) (C := RX12) (T := TX12) (N := 56) hx hb hU inlX12 hown hK hP 2 rfl rfl 55 (by decide) (hU _ wd_204) (fun _ h9 => h9) rfl dX12_orders_241 ?_
      refine lv_iload hx hb dX12_orders_244 (lv_at hl 0 rfl) ?_
      refine lv_aload_n hx hb dX12_orders_246 rfl (lv_at hl 3 rfl) ?_
      refine va_get (D := (dC, dI)) (ci := 12) (v := .ref a19) (C := RX12) (T := TX12) (N := 56) hx hb hU inlX12 hown hK hP 2 rfl rfl 40 (by decide) (hU _ wd_190) (fun _ h9 => h9) rfl dX12_orders_247 ?_
      refine lv_iload hx hb dX12_orders_250 (lv_at hl 0 rfl) ?_
      refine va_iald hx hb hK hP 0 0 rfl rfl (vp_in_nI (n := 13) (by decide) (by decide)) dX12_orders_252 ?_
      refine tk_topi (y := 0) rfl ?_
      refine va_iast hx hb hK hP hD hS 1 0 rfl rfl (vp_in_nI (n := 13) (by decide) (by decide)) dX12_orders_253 (fun H locs hP hD hS => ?_)
      have hP : va_P (dC, dI) vwCl [(a19, .inl (cI, 16, .inl z0)), (a31, .inl (cI, 16, .inl z0)), (a0, .inr (12, [.ref a1, .ref a2, .ref a3, .int 0, .ref a4, .int 0, .int 0, .int 0, .int 0, .int 0, .int (-1), .int 0, .int 0, .int 0, .int 0, .ref a5, .ref a6, .ref a7, .ref a8, .ref a9, .ref a10, .ref a11, .ref a12, .int 0, .int 0, .int 0, .int 0, .int 0, .ref a13, .int 0, .ref a14, .ref a15, .int 0, .int 0, .ref a16, .int 0, .ref a17, .ref a18, .int 0, .int (-1), .ref a19, .ref a20, .ref a21, .int 0, .ref a22, .ref a23, .ref a24, .ref a25, .ref a26, .ref a27, .ref a28, .ref a29, .ref a30, .int 0, .int 0, .ref a31])), (a1, .inl (cI, 1560, .inl w0))] H := by rw [upd_z0] at hP; exact hP
      have hD : va_D A [(a19, .inl (cI, 16, .inl z0)), (a31, .inl (cI, 16, .inl z0)), (a0, .inr (12, [.ref a1, .ref a2, .ref a3, .int 0, .ref a4, .int 0, .int 0, .int 0, .int 0, .int 0, .int (-1), .int 0, .int 0, .int 0, .int 0, .ref a5, .ref a6, .ref a7, .ref a8, .ref a9, .ref a10, .ref a11, .ref a12, .int 0, .int 0, .int 0, .int 0, .int 0, .ref a13, .int 0, .ref a14, .ref a15, .int 0, .int 0, .ref a16, .int 0, .ref a17, .ref a18, .int 0, .int (-1), .ref a19, .ref a20, .ref a21, .int 0, .ref a22, .ref a23, .ref a24, .ref a25, .ref a26, .ref a27, .ref a28, .ref a29, .ref a30, .int 0, .int 0, .ref a31])), (a1, .inl (cI, 1560, .inl w0))] := by rw [upd_z0] at hD; exact hD
      refine lv_iinc (v := 14) (lv' := [(5, .int 14), (4, .int 0), (3, .int 0), (0, .ref a0), (1, .int 2), (2, .int 0)]) hx hb dX12_orders_254 hl (k := 0) rfl (by decide) (by decide) rfl (fun ls hl => ?_)
      refine lv_goto (tgt := 233) hx hb dX12_orders_257 (by decide) ?_
      refine lv_iload hx hb dX12_orders_233 (lv_at hl 0 rfl) ?_
      refine lv_bipush (v := 16) hx hb dX12_orders_235 (by decide) ?_
      refine lv_icmp_ge (tgt := 260) hx hb dX12_orders_237 (by decide) (fun c9 => absurd c9 (by decide)) (fun _ => ?_)
      refine lv_aload_n hx hb dX12_orders_240 rfl (lv_at hl 3 rfl) ?_
      refine va_get (D := (dC, dI)) (ci := 12) (v := .ref a31) (C := RX12) (T := TX12) (N := 56) hx hb hU inlX12 hown hK hP 2 rfl rfl 55 (by decide) (hU _ wd_204) (fun _ h9 => h9) rfl dX12_orders_241 ?_
      refine lv_iload hx hb dX12_orders_244 (lv_at hl 0 rfl) ?_
      refine lv_aload_n hx hb dX12_orders_246 rfl (lv_at hl 3 rfl) ?_
      refine va_get (D := (dC, dI)) (ci := 12) (v := .ref a19) (C := RX12) (T := TX12) (N := 56) hx hb hU inlX12 hown hK hP 2 rfl rfl 40 (by decide) (hU _ wd_190) (fun _ h9 => h9) rfl dX12_orders_247 ?_
      refine lv_iload hx hb dX12_orders_250 (lv_at hl 0 rfl) ?_
      refine va_iald hx hb hK hP 0 0 rfl rfl (vp_in_nI (n := 14) (by decide) (by decide)) dX12_orders_252 ?_
      refine tk_topi (y := 0) rfl ?_
      refine va_iast hx hb hK hP hD hS 1 0 rfl rfl (vp_in_nI (n := 14) (by decide) (by decide)) dX12_orders_253 (fun H locs hP hD hS => ?_)
      have hP : va_P (dC, dI) vwCl [(a19, .inl (cI, 16, .inl z0)), (a31, .inl (cI, 16, .inl z0)), (a0, .inr (12, [.ref a1, .ref a2, .ref a3, .int 0, .ref a4, .int 0, .int 0, .int 0, .int 0, .int 0, .int (-1), .int 0, .int 0, .int 0, .int 0, .ref a5, .ref a6, .ref a7, .ref a8, .ref a9, .ref a10, .ref a11, .ref a12, .int 0, .int 0, .int 0, .int 0, .int 0, .ref a13, .int 0, .ref a14, .ref a15, .int 0, .int 0, .ref a16, .int 0, .ref a17, .ref a18, .int 0, .int (-1), .ref a19, .ref a20, .ref a21, .int 0, .ref a22, .ref a23, .ref a24, .ref a25, .ref a26, .ref a27, .ref a28, .ref a29, .ref a30, .int 0, .int 0, .ref a31])), (a1, .inl (cI, 1560, .inl w0))] H := by rw [upd_z0] at hP; exact hP
      have hD : va_D A [(a19, .inl (cI, 16, .inl z0)), (a31, .inl (cI, 16, .inl z0)), (a0, .inr (12, [.ref a1, .ref a2, .ref a3, .int 0, .ref a4, .int 0, .int 0, .int 0, .int 0, .int 0, .int (-1), .int 0, .int 0, .int 0, .int 0, .ref a5, .ref a6, .ref a7, .ref a8, .ref a9, .ref a10, .ref a11, .ref a12, .int 0, .int 0, .int 0, .int 0, .int 0, .ref a13, .int 0, .ref a14, .ref a15, .int 0, .int 0, .ref a16, .int 0, .ref a17, .ref a18, .int 0, .int (-1), .ref a19, .ref a20, .ref a21, .int 0, .ref a22, .ref a23, .ref a24, .ref a25, .ref a26, .ref a27, .ref a28, .ref a29, .ref a30, .int 0, .int 0, .ref a31])), (a1, .inl (cI, 1560, .inl w0))] := by rw [upd_z0] at hD; exact hD
      refine lv_iinc (v := 15) (lv' := [(5, .int 15), (4, .int 0), (3, .int 0), (0, .ref a0), (1, .int 2), (2, .int 0)]) hx hb dX12_orders_254 hl (k := 0) rfl (by decide) (by decide) rfl (fun ls hl => ?_)
      refine lv_goto (tgt := 233) hx hb dX12_orders_257 (by decide) ?_
      refine lv_iload hx hb dX12_orders_233 (lv_at hl 0 rfl) ?_
      refine lv_bipush (v := 16) hx hb dX12_orders_235 (by decide) ?_
      refine lv_icmp_ge (tgt := 260) hx hb dX12_orders_237 (by decide) (fun c9 => absurd c9 (by decide)) (fun _ => ?_)
      refine lv_aload_n hx hb dX12_orders_240 rfl (lv_at hl 3 rfl) ?_
      refine va_get (D := (dC, dI)) (ci := 12) (v := .ref a31) (C := RX12) (T := TX12) (N := 56) hx hb hU inlX12 hown hK hP 2 rfl rfl 55 (by decide) (hU _ wd_204) (fun _ h9 => h9) rfl dX12_orders_241 ?_
      refine lv_iload hx hb dX12_orders_244 (lv_at hl 0 rfl) ?_
      refine lv_aload_n hx hb dX12_orders_246 rfl (lv_at hl 3 rfl) ?_
      refine va_get (D := (dC, dI)) (ci := 12) (v := .ref a19) (C := RX12) (T := TX12) (N := 56) hx hb hU inlX12 hown hK hP 2 rfl rfl 40 (by decide) (hU _ wd_190) (fun _ h9 => h9) rfl dX12_orders_247 ?_
      refine lv_iload hx hb dX12_orders_250 (lv_at hl 0 rfl) ?_
      refine va_iald hx hb hK hP 0 0 rfl rfl (vp_in_nI (n := 15) (by decide) (by decide)) dX12_orders_252 ?_
      refine tk_topi (y := 0) rfl ?_
      refine va_iast hx hb hK hP hD hS 1 0 rfl rfl (vp_in_nI (n := 15) (by decide) (by decide)) dX12_orders_253 (fun H locs hP hD hS => ?_)
      have hP : va_P (dC, dI) vwCl [(a19, .inl (cI, 16, .inl z0)), (a31, .inl (cI, 16, .inl z0)), (a0, .inr (12, [.ref a1, .ref a2, .ref a3, .int 0, .ref a4, .int 0, .int 0, .int 0, .int 0, .int 0, .int (-1), .int 0, .int 0, .int 0, .int 0, .ref a5, .ref a6, .ref a7, .ref a8, .ref a9, .ref a10, .ref a11, .ref a12, .int 0, .int 0, .int 0, .int 0, .int 0, .ref a13, .int 0, .ref a14, .ref a15, .int 0, .int 0, .ref a16, .int 0, .ref a17, .ref a18, .int 0, .int (-1), .ref a19, .ref a20, .ref a21, .int 0, .ref a22, .ref a23, .ref a24, .ref a25, .ref a26, .ref a27, .ref a28, .ref a29, .ref a30, .int 0, .int 0, .ref a31])), (a1, .inl (cI, 1560, .inl w0))] H := by rw [upd_z0] at hP; exact hP
      have hD : va_D A [(a19, .inl (cI, 16, .inl z0)), (a31, .inl (cI, 16, .inl z0)), (a0, .inr (12, [.ref a1, .ref a2, .ref a3, .int 0, .ref a4, .int 0, .int 0, .int 0, .int 0, .int 0, .int (-1), .int 0, .int 0, .int 0, .int 0, .ref a5, .ref a6, .ref a7, .ref a8, .ref a9, .ref a10, .ref a11, .ref a12, .int 0, .int 0, .int 0, .int 0, .int 0, .ref a13, .int 0, .ref a14, .ref a15, .int 0, .int 0, .ref a16, .int 0, .ref a17, .ref a18, .int 0, .int (-1), .ref a19, .ref a20, .ref a21, .int 0, .ref a22, .ref a23, .ref a24, .ref a25, .ref a26, .ref a27, .ref a28, .ref a29, .ref a30, .int 0, .int 0, .ref a31])), (a1, .inl (cI, 1560, .inl w0))] := by rw [upd_z0] at hD; exact hD
      refine lv_iinc (v := 16) (lv' := [(5, .int 16), (4, .int 0), (3, .int 0), (0, .ref a0), (1, .int 2), (2, .int 0)]) hx hb dX12_orders_254 hl (k := 0) rfl (by decide) (by decide) rfl (fun ls hl => ?_)
      refine lv_goto (tgt := 233) hx hb dX12_orders_257 (by decide) ?_
      refine lv_iload hx hb dX12_orders_233 (lv_at hl 0 rfl) ?_
      refine lv_bipush (v := 16) hx hb dX12_orders_235 (by decide) ?_
      refine lv_icmp_ge (tgt := 260) hx hb dX12_orders_237 (by decide) (fun _ => ?_) (fun c9 => absurd (by decide) c9) 
      refine lv_aload_n hx hb dX12_orders_260 rfl (lv_at hl 3 rfl) ?_
      refine lv_iconst (v := (-1)) hx hb dX12_orders_261 (by decide) ?_
      refine va_put (D := (dC, dI)) (ci := 12) (v := .int (-1)) (ty := .int) (C := RX12) (T := TX12) (N := 56) hx hb hU inlX12 tyX12 tyX12_ok nmX12 hown hK hP hD hS 2 rfl rfl 54 (by decide) (hU _ wd_1242) (fun _ h9 => h9) rfl (by decide +kernel) rfl rfl (Nat.le_of_ble_eq_true rfl) dX12_orders_262 (fun H locs hP hD hS => ?_)
      have hP : va_P (dC, dI) vwCl [(a19, .inl (cI, 16, .inl z0)), (a31, .inl (cI, 16, .inl z0)), (a0, .inr (12, [.ref a1, .ref a2, .ref a3, .int 0, .ref a4, .int 0, .int 0, .int 0, .int 0, .int 0, .int (-1), .int 0, .int 0, .int 0, .int 0, .ref a5, .ref a6, .ref a7, .ref a8, .ref a9, .ref a10, .ref a11, .ref a12, .int 0, .int 0, .int 0, .int 0, .int 0, .ref a13, .int 0, .ref a14, .ref a15, .int 0, .int 0, .ref a16, .int 0, .ref a17, .ref a18, .int 0, .int (-1), .ref a19, .ref a20, .ref a21, .int 0, .ref a22, .ref a23, .ref a24, .ref a25, .ref a26, .ref a27, .ref a28, .ref a29, .ref a30, .int 0, .int (-1), .ref a31])), (a1, .inl (cI, 1560, .inl w0))] H := hP
      have hD : va_D A [(a19, .inl (cI, 16, .inl z0)), (a31, .inl (cI, 16, .inl z0)), (a0, .inr (12, [.ref a1, .ref a2, .ref a3, .int 0, .ref a4, .int 0, .int 0, .int 0, .int 0, .int 0, .int (-1), .int 0, .int 0, .int 0, .int 0, .ref a5, .ref a6, .ref a7, .ref a8, .ref a9, .ref a10, .ref a11, .ref a12, .int 0, .int 0, .int 0, .int 0, .int 0, .ref a13, .int 0, .ref a14, .ref a15, .int 0, .int 0, .ref a16, .int 0, .ref a17, .ref a18, .int 0, .int (-1), .ref a19, .ref a20, .ref a21, .int 0, .ref a22, .ref a23, .ref a24, .ref a25, .ref a26, .ref a27, .ref a28, .ref a29, .ref a30, .int 0, .int (-1), .ref a31])), (a1, .inl (cI, 1560, .inl w0))] := hD
      refine lv_aload_n hx hb dX12_orders_265 rfl (lv_at hl 3 rfl) ?_
      refine lv_iconst (v := 0) hx hb dX12_orders_266 (by decide) ?_
      refine lv_iload_n hx hb dX12_orders_267 rfl (lv_at hl 2 rfl) ?_
      refine tk_rv (wr := [(a19, .inl (cI, 16, .inl z0)), (a31, .inl (cI, 16, .inl z0)), (a1, .inl (cI, 1560, .inl w0))]) (tk_V (As := [.int 0, .int 0]) (rest := []) (n := 2) hx hb hml hown hU hN (cc_X12_triesOrders_0 l (dC, dI) cI cL cZ H.size a0 a1 a2 a3 a4 a5 a6 a7 a8 a9 a10 a11 a12 a13 a14 a15 a16 a17 a18 a19 a20 a21 a22 a23 a24 a25 a26 a27 a28 a29 a30 a31) wd_1247 wd_1248 wd_1249 wd_5 wd_1250 (by decide +kernel) ⟨Nat.le_of_ble_eq_true rfl, Nat.le_of_ble_eq_true rfl⟩ hK hP hD [2] (by decide) rfl 0 12 rfl rfl rfl rfl hl.1 rfl (Nat.le_of_ble_eq_true rfl) dX12_orders_268 ⟨Nat.le_of_ble_eq_true rfl, Nat.le_of_ble_eq_true rfl⟩) hP hD hS hA [2] [0, 1, 3] rfl rfl (by decide) (by decide) (fun w_40 H locs hw hP hD hS => ?_)
      subst hw
      have hP : va_P (dC, dI) vwCl [(a19, .inl (cI, 16, .inl z0)), (a31, .inl (cI, 16, .inl z0)), (a1, .inl (cI, 1560, .inl w0)), (a0, .inr (12, [.ref a1, .ref a2, .ref a3, .int 0, .ref a4, .int 0, .int 0, .int 0, .int 0, .int 0, .int (-1), .int 0, .int 0, .int 0, .int 0, .ref a5, .ref a6, .ref a7, .ref a8, .ref a9, .ref a10, .ref a11, .ref a12, .int 0, .int 0, .int 0, .int 0, .int 0, .ref a13, .int 0, .ref a14, .ref a15, .int 0, .int 0, .ref a16, .int 0, .ref a17, .ref a18, .int 0, .int (-1), .ref a19, .ref a20, .ref a21, .int 0, .ref a22, .ref a23, .ref a24, .ref a25, .ref a26, .ref a27, .ref a28, .ref a29, .ref a30, .int 0, .int 0, .ref a31]))] H := hP
      have hD : va_D A [(a19, .inl (cI, 16, .inl z0)), (a31, .inl (cI, 16, .inl z0)), (a1, .inl (cI, 1560, .inl w0)), (a0, .inr (12, [.ref a1, .ref a2, .ref a3, .int 0, .ref a4, .int 0, .int 0, .int 0, .int 0, .int 0, .int (-1), .int 0, .int 0, .int 0, .int 0, .ref a5, .ref a6, .ref a7, .ref a8, .ref a9, .ref a10, .ref a11, .ref a12, .int 0, .int 0, .int 0, .int 0, .int 0, .ref a13, .int 0, .ref a14, .ref a15, .int 0, .int 0, .ref a16, .int 0, .ref a17, .ref a18, .int 0, .int (-1), .ref a19, .ref a20, .ref a21, .int 0, .ref a22, .ref a23, .ref a24, .ref a25, .ref a26, .ref a27, .ref a28, .ref a29, .ref a30, .int 0, .int 0, .ref a31]))] := hD
      refine lv_aload_n hx hb dX12_orders_271 rfl (lv_at hl 3 rfl) ?_
      refine lv_iload hx hb dX12_orders_272 (lv_at hl 1 rfl) ?_
      refine va_put (D := (dC, dI)) (ci := 12) (v := .int 0) (ty := .int) (C := RX12) (T := TX12) (N := 56) hx hb hU inlX12 tyX12 tyX12_ok nmX12 hown hK hP hD hS 3 rfl rfl 43 (by decide) (hU _ wd_572) (fun _ h9 => h9) rfl (by decide +kernel) rfl rfl (Nat.le_of_ble_eq_true rfl) dX12_orders_274 (fun H locs hP hD hS => ?_)
      have hP : va_P (dC, dI) vwCl [(a19, .inl (cI, 16, .inl z0)), (a31, .inl (cI, 16, .inl z0)), (a1, .inl (cI, 1560, .inl w0)), (a0, .inr (12, [.ref a1, .ref a2, .ref a3, .int 0, .ref a4, .int 0, .int 0, .int 0, .int 0, .int 0, .int (-1), .int 0, .int 0, .int 0, .int 0, .ref a5, .ref a6, .ref a7, .ref a8, .ref a9, .ref a10, .ref a11, .ref a12, .int 0, .int 0, .int 0, .int 0, .int 0, .ref a13, .int 0, .ref a14, .ref a15, .int 0, .int 0, .ref a16, .int 0, .ref a17, .ref a18, .int 0, .int (-1), .ref a19, .ref a20, .ref a21, .int 0, .ref a22, .ref a23, .ref a24, .ref a25, .ref a26, .ref a27, .ref a28, .ref a29, .ref a30, .int 0, .int 0, .ref a31]))] H := hP
      have hD : va_D A [(a19, .inl (cI, 16, .inl z0)), (a31, .inl (cI, 16, .inl z0)), (a1, .inl (cI, 1560, .inl w0)), (a0, .inr (12, [.ref a1, .ref a2, .ref a3, .int 0, .ref a4, .int 0, .int 0, .int 0, .int 0, .int 0, .int (-1), .int 0, .int 0, .int 0, .int 0, .ref a5, .ref a6, .ref a7, .ref a8, .ref a9, .ref a10, .ref a11, .ref a12, .int 0, .int 0, .int 0, .int 0, .int 0, .ref a13, .int 0, .ref a14, .ref a15, .int 0, .int 0, .ref a16, .int 0, .ref a17, .ref a18, .int 0, .int (-1), .ref a19, .ref a20, .ref a21, .int 0, .ref a22, .ref a23, .ref a24, .ref a25, .ref a26, .ref a27, .ref a28, .ref a29, .ref a30, .int 0, .int 0, .ref a31]))] := hD
      refine lv_iconst (v := 0) hx hb dX12_orders_277 (by decide) ?_
      refine lv_istore (lv' := [(5, .int 0), (4, .int 0), (3, .int 0), (0, .ref a0), (1, .int 2), (2, .int 0)]) hx hb dX12_orders_278 hl (by decide) rfl (fun ls hl => ?_)
      refine lv_iload hx hb dX12_orders_280 (lv_at hl 0 rfl) ?_
      refine lv_bipush (v := 16) hx hb dX12_orders_282 (by decide) ?_
      refine lv_icmp_ge (tgt := 307) hx hb dX12_orders_284 (by decide) (fun c9 => absurd c9 (by decide)) (fun _ => ?_)
      refine lv_aload_n hx hb dX12_orders_287 rfl (lv_at hl 3 rfl) ?_
      refine va_get (D := (dC, dI)) (ci := 12) (v := .ref a19) (C := RX12) (T := TX12) (N := 56) hx hb hU inlX12 hown hK hP 3 rfl rfl 40 (by decide) (hU _ wd_190) (fun _ h9 => h9) rfl dX12_orders_288 ?_
      refine lv_iload hx hb dX12_orders_291 (lv_at hl 0 rfl) ?_
      refine lv_aload_n hx hb dX12_orders_293 rfl (lv_at hl 3 rfl) ?_
      refine va_get (D := (dC, dI)) (ci := 12) (v := .ref a31) (C := RX12) (T := TX12) (N := 56) hx hb hU inlX12 hown hK hP 3 rfl rfl 55 (by decide) (hU _ wd_204) (fun _ h9 => h9) rfl dX12_orders_294 ?_
      refine lv_iload hx hb dX12_orders_297 (lv_at hl 0 rfl) ?_
      refine va_iald hx hb hK hP 1 0 rfl rfl (vp_in_nI (n := 0) (by decide) (by decide)) dX12_orders_299 ?_
      refine tk_topi (y := 0) rfl ?_
      refine va_iast hx hb hK hP hD hS 0 0 rfl rfl (vp_in_nI (n := 0) (by decide) (by decide)) dX12_orders_300 (fun H locs hP hD hS => ?_)
      have hP : va_P (dC, dI) vwCl [(a19, .inl (cI, 16, .inl z0)), (a31, .inl (cI, 16, .inl z0)), (a1, .inl (cI, 1560, .inl w0)), (a0, .inr (12, [.ref a1, .ref a2, .ref a3, .int 0, .ref a4, .int 0, .int 0, .int 0, .int 0, .int 0, .int (-1), .int 0, .int 0, .int 0, .int 0, .ref a5, .ref a6, .ref a7, .ref a8, .ref a9, .ref a10, .ref a11, .ref a12, .int 0, .int 0, .int 0, .int 0, .int 0, .ref a13, .int 0, .ref a14, .ref a15, .int 0, .int 0, .ref a16, .int 0, .ref a17, .ref a18, .int 0, .int (-1), .ref a19, .ref a20, .ref a21, .int 0, .ref a22, .ref a23, .ref a24, .ref a25, .ref a26, .ref a27, .ref a28, .ref a29, .ref a30, .int 0, .int 0, .ref a31]))] H := by rw [upd_z0] at hP; exact hP
      have hD : va_D A [(a19, .inl (cI, 16, .inl z0)), (a31, .inl (cI, 16, .inl z0)), (a1, .inl (cI, 1560, .inl w0)), (a0, .inr (12, [.ref a1, .ref a2, .ref a3, .int 0, .ref a4, .int 0, .int 0, .int 0, .int 0, .int 0, .int (-1), .int 0, .int 0, .int 0, .int 0, .ref a5, .ref a6, .ref a7, .ref a8, .ref a9, .ref a10, .ref a11, .ref a12, .int 0, .int 0, .int 0, .int 0, .int 0, .ref a13, .int 0, .ref a14, .ref a15, .int 0, .int 0, .ref a16, .int 0, .ref a17, .ref a18, .int 0, .int (-1), .ref a19, .ref a20, .ref a21, .int 0, .ref a22, .ref a23, .ref a24, .ref a25, .ref a26, .ref a27, .ref a28, .ref a29, .ref a30, .int 0, .int 0, .ref a31]))] := by rw [upd_z0] at hD; exact hD
      refine lv_iinc (v := 1) (lv' := [(5, .int 1), (4, .int 0), (3, .int 0), (0, .ref a0), (1, .int 2), (2, .int 0)]) hx hb dX12_orders_301 hl (k := 0) rfl (by decide) (by decide) rfl (fun ls hl => ?_)
      refine lv_goto (tgt := 280) hx hb dX12_orders_304 (by decide) ?_
      refine lv_iload hx hb dX12_orders_280 (lv_at hl 0 rfl) ?_
      refine lv_bipush (v := 16) hx hb dX12_orders_282 (by decide) ?_
      refine lv_icmp_ge (tgt := 307) hx hb dX12_orders_284 (by decide) (fun c9 => absurd c9 (by decide)) (fun _ => ?_)
      refine lv_aload_n hx hb dX12_orders_287 rfl (lv_at hl 3 rfl) ?_
      refine va_get (D := (dC, dI)) (ci := 12) (v := .ref a19) (C := RX12) (T := TX12) (N := 56) hx hb hU inlX12 hown hK hP 3 rfl rfl 40 (by decide) (hU _ wd_190) (fun _ h9 => h9) rfl dX12_orders_288 ?_
      refine lv_iload hx hb dX12_orders_291 (lv_at hl 0 rfl) ?_
      refine lv_aload_n hx hb dX12_orders_293 rfl (lv_at hl 3 rfl) ?_
      refine va_get (D := (dC, dI)) (ci := 12) (v := .ref a31) (C := RX12) (T := TX12) (N := 56) hx hb hU inlX12 hown hK hP 3 rfl rfl 55 (by decide) (hU _ wd_204) (fun _ h9 => h9) rfl dX12_orders_294 ?_
      refine lv_iload hx hb dX12_orders_297 (lv_at hl 0 rfl) ?_
      refine va_iald hx hb hK hP 1 0 rfl rfl (vp_in_nI (n := 1) (by decide) (by decide)) dX12_orders_299 ?_
      refine tk_topi (y := 0) rfl ?_
      refine va_iast hx hb hK hP hD hS 0 0 rfl rfl (vp_in_nI (n := 1) (by decide) (by decide)) dX12_orders_300 (fun H locs hP hD hS => ?_)
      have hP : va_P (dC, dI) vwCl [(a19, .inl (cI, 16, .inl z0)), (a31, .inl (cI, 16, .inl z0)), (a1, .inl (cI, 1560, .inl w0)), (a0, .inr (12, [.ref a1, .ref a2, .ref a3, .int 0, .ref a4, .int 0, .int 0, .int 0, .int 0, .int 0, .int (-1), .int 0, .int 0, .int 0, .int 0, .ref a5, .ref a6, .ref a7, .ref a8, .ref a9, .ref a10, .ref a11, .ref a12, .int 0, .int 0, .int 0, .int 0, .int 0, .ref a13, .int 0, .ref a14, .ref a15, .int 0, .int 0, .ref a16, .int 0, .ref a17, .ref a18, .int 0, .int (-1), .ref a19, .ref a20, .ref a21, .int 0, .ref a22, .ref a23, .ref a24, .ref a25, .ref a26, .ref a27, .ref a28, .ref a29, .ref a30, .int 0, .int 0, .ref a31]))] H := by rw [upd_z0] at hP; exact hP
      have hD : va_D A [(a19, .inl (cI, 16, .inl z0)), (a31, .inl (cI, 16, .inl z0)), (a1, .inl (cI, 1560, .inl w0)), (a0, .inr (12, [.ref a1, .ref a2, .ref a3, .int 0, .ref a4, .int 0, .int 0, .int 0, .int 0, .int 0, .int (-1), .int 0, .int 0, .int 0, .int 0, .ref a5, .ref a6, .ref a7, .ref a8, .ref a9, .ref a10, .ref a11, .ref a12, .int 0, .int 0, .int 0, .int 0, .int 0, .ref a13, .int 0, .ref a14, .ref a15, .int 0, .int 0, .ref a16, .int 0, .ref a17, .ref a18, .int 0, .int (-1), .ref a19, .ref a20, .ref a21, .int 0, .ref a22, .ref a23, .ref a24, .ref a25, .ref a26, .ref a27, .ref a28, .ref a29, .ref a30, .int 0, .int 0, .ref a31]))] := by rw [upd_z0] at hD; exact hD
      refine lv_iinc (v := 2) (lv' := [(5, .int 2), (4, .int 0), (3, .int 0), (0, .ref a0), (1, .int 2), (2, .int 0)]) hx hb dX12_orders_301 hl (k := 0) rfl (by decide) (by decide) rfl (fun ls hl => ?_)
      refine lv_goto (tgt := 280) hx hb dX12_orders_304 (by decide) ?_
      refine lv_iload hx hb dX12_orders_280 (lv_at hl 0 rfl) ?_
      refine lv_bipush (v := 16) hx hb dX12_orders_282 (by decide) ?_
      refine lv_icmp_ge (tgt := 307) hx hb dX12_orders_284 (by decide) (fun c9 => absurd c9 (by decide)) (fun _ => ?_)
      refine lv_aload_n hx hb dX12_orders_287 rfl (lv_at hl 3 rfl) ?_
      refine va_get (D := (dC, dI)) (ci := 12) (v := .ref a19) (C := RX12) (T := TX12) (N := 56) hx hb hU inlX12 hown hK hP 3 rfl rfl 40 (by decide) (hU _ wd_190) (fun _ h9 => h9) rfl dX12_orders_288 ?_
      refine lv_iload hx hb dX12_orders_291 (lv_at hl 0 rfl) ?_
      refine lv_aload_n hx hb dX12_orders_293 rfl (lv_at hl 3 rfl) ?_
      refine va_get (D := (dC, dI)) (ci := 12) (v := .ref a31) (C := RX12) (T := TX12) (N := 56) hx hb hU inlX12 hown hK hP 3 rfl rfl 55 (by decide) (hU _ wd_204) (fun _ h9 => h9) rfl dX12_orders_294 ?_
      refine lv_iload hx hb dX12_orders_297 (lv_at hl 0 rfl) ?_
      refine va_iald hx hb hK hP 1 0 rfl rfl (vp_in_nI (n := 2) (by decide) (by decide)) dX12_orders_299 ?_
      refine tk_topi (y := 0) rfl ?_
      refine va_iast hx hb hK hP hD hS 0 0 rfl rfl (vp_in_nI (n := 2) (by decide) (by decide)) dX12_orders_300 (fun H locs hP hD hS => ?_)
      have hP : va_P (dC, dI) vwCl [(a19, .inl (cI, 16, .inl z0)), (a31, .inl (cI, 16, .inl z0)), (a1, .inl (cI, 1560, .inl w0)), (a0, .inr (12, [.ref a1, .ref a2, .ref a3, .int 0, .ref a4, .int 0, .int 0, .int 0, .int 0, .int 0, .int (-1), .int 0, .int 0, .int 0, .int 0, .ref a5, .ref a6, .ref a7, .ref a8, .ref a9, .ref a10, .ref a11, .ref a12, .int 0, .int 0, .int 0, .int 0, .int 0, .ref a13, .int 0, .ref a14, .ref a15, .int 0, .int 0, .ref a16, .int 0, .ref a17, .ref a18, .int 0, .int (-1), .ref a19, .ref a20, .ref a21, .int 0, .ref a22, .ref a23, .ref a24, .ref a25, .ref a26, .ref a27, .ref a28, .ref a29, .ref a30, .int 0, .int 0, .ref a31]))] H := by rw [upd_z0] at hP; exact hP
      have hD : va_D A [(a19, .inl (cI, 16, .inl z0)), (a31, .inl (cI, 16, .inl z0)), (a1, .inl (cI, 1560, .inl w0)), (a0, .inr (12, [.ref a1, .ref a2, .ref a3, .int 0, .ref a4, .int 0, .int 0, .int 0, .int 0, .int 0, .int (-1), .int 0, .int 0, .int 0, .int 0, .ref a5, .ref a6, .ref a7, .ref a8, .ref a9, .ref a10, .ref a11, .ref a12, .int 0, .int 0, .int 0, .int 0, .int 0, .ref a13, .int 0, .ref a14, .ref a15, .int 0, .int 0, .ref a16, .int 0, .ref a17, .ref a18, .int 0, .int (-1), .ref a19, .ref a20, .ref a21, .int 0, .ref a22, .ref a23, .ref a24, .ref a25, .ref a26, .ref a27, .ref a28, .ref a29, .ref a30, .int 0, .int 0, .ref a31]))] := by rw [upd_z0] at hD; exact hD
      refine lv_iinc (v := 3) (lv' := [(5, .int 3), (4, .int 0), (3, .int 0), (0, .ref a0), (1, .int 2), (2, .int 0)]) hx hb dX12_orders_301 hl (k := 0) rfl (by decide) (by decide) rfl (fun ls hl => ?_)
      refine lv_goto (tgt := 280) hx hb dX12_orders_304 (by decide) ?_
      refine lv_iload hx hb dX12_orders_280 (lv_at hl 0 rfl) ?_
      refine lv_bipush (v := 16) hx hb dX12_orders_282 (by decide) ?_
      refine lv_icmp_ge (tgt := 307) hx hb dX12_orders_284 (by decide) (fun c9 => absurd c9 (by decide)) (fun _ => ?_)
      refine lv_aload_n hx hb dX12_orders_287 rfl (lv_at hl 3 rfl) ?_
      refine va_get (D := (dC, dI)) (ci := 12) (v := .ref a19) (C := RX12) (T := TX12) (N := 56) hx hb hU inlX12 hown hK hP 3 rfl rfl 40 (by decide) (hU _ wd_190) (fun _ h9 => h9) rfl dX12_orders_288 ?_
      refine lv_iload hx hb dX12_orders_291 (lv_at hl 0 rfl) ?_
      refine lv_aload_n hx hb dX12_orders_293 rfl (lv_at hl 3 rfl) ?_
      refine va_get (D := (dC, dI)) (ci := 12) (v := .ref a31) (C := RX12) (T := TX12) (N := 56) hx hb hU inlX12 hown hK hP 3 rfl rfl 55 (by decide) (hU _ wd_204) (fun _ h9 => h9) rfl dX12_orders_294 ?_
      refine lv_iload hx hb dX12_orders_297 (lv_at hl 0 rfl) ?_
      refine va_iald hx hb hK hP 1 0 rfl rfl (vp_in_nI (n := 3) (by decide) (by decide)) dX12_orders_299 ?_
      refine tk_topi (y := 0) rfl ?_
      refine va_iast hx hb hK hP hD hS 0 0 rfl rfl (vp_in_nI (n := 3) (by decide) (by decide)) dX12_orders_300 (fun H locs hP hD hS => ?_)
      have hP : va_P (dC, dI) vwCl [(a19, .inl (cI, 16, .inl z0)), (a31, .inl (cI, 16, .inl z0)), (a1, .inl (cI, 1560, .inl w0)), (a0, .inr (12, [.ref a1, .ref a2, .ref a3, .int 0, .ref a4, .int 0, .int 0, .int 0, .int 0, .int 0, .int (-1), .int 0, .int 0, .int 0, .int 0, .ref a5, .ref a6, .ref a7, .ref a8, .ref a9, .ref a10, .ref a11, .ref a12, .int 0, .int 0, .int 0, .int 0, .int 0, .ref a13, .int 0, .ref a14, .ref a15, .int 0, .int 0, .ref a16, .int 0, .ref a17, .ref a18, .int 0, .int (-1), .ref a19, .ref a20, .ref a21, .int 0, .ref a22, .ref a23, .ref a24, .ref a25, .ref a26, .ref a27, .ref a28, .ref a29, .ref a30, .int 0, .int 0, .ref a31]))] H := by rw [upd_z0] at hP; exact hP
      have hD : va_D A [(a19, .inl (cI, 16, .inl z0)), (a31, .inl (cI, 16, .inl z0)), (a1, .inl (cI, 1560, .inl w0)), (a0, .inr (12, [.ref a1, .ref a2, .ref a3, .int 0, .ref a4, .int 0, .int 0, .int 0, .int 0, .int 0, .int (-1), .int 0, .int 0, .int 0, .int 0, .ref a5, .ref a6, .ref a7, .ref a8, .ref a9, .ref a10, .ref a11, .ref a12, .int 0, .int 0, .int 0, .int 0, .int 0, .ref a13, .int 0, .ref a14, .ref a15, .int 0, .int 0, .ref a16, .int 0, .ref a17, .ref a18, .int 0, .int (-1), .ref a19, .ref a20, .ref a21, .int 0, .ref a22, .ref a23, .ref a24, .ref a25, .ref a26, .ref a27, .ref a28, .ref a29, .ref a30, .int 0, .int 0, .ref a31]))] := by rw [upd_z0] at hD; exact hD
      refine lv_iinc (v := 4) (lv' := [(5, .int 4), (4, .int 0), (3, .int 0), (0, .ref a0), (1, .int 2), (2, .int 0)]) hx hb dX12_orders_301 hl (k := 0) rfl (by decide) (by decide) rfl (fun ls hl => ?_)
      refine lv_goto (tgt := 280) hx hb dX12_orders_304 (by decide) ?_
      refine lv_iload hx hb dX12_orders_280 (lv_at hl 0 rfl) ?_
      refine lv_bipush (v := 16) hx hb dX12_orders_282 (by decide) ?_
      refine lv_icmp_ge (tgt := 307) hx hb dX12_orders_284 (by decide) (fun c9 => absurd c9 (by decide)) (fun _ => ?_)
      refine lv_aload_n hx hb dX12_orders_287 rfl (lv_at hl 3 rfl) ?_
      refine va_get (D := (dC, dI)) (ci := 12) (v := .ref a19) (C := RX12) (T := TX12) (N := 56) hx hb hU inlX12 hown hK hP 3 rfl rfl 40 (by decide) (hU _ wd_190) (fun _ h9 => h9) rfl dX12_orders_288 ?_
      refine lv_iload hx hb dX12_orders_291 (lv_at hl 0 rfl) ?_
      refine lv_aload_n hx hb dX12_orders_293 rfl (lv_at hl 3 rfl) ?_
      refine va_get (D := (dC, dI)) (ci := 12) (v := .ref a31) (C := RX12) (T := TX12) (N := 56) hx hb hU inlX12 hown hK hP 3 rfl rfl 55 (by decide) (hU _ wd_204) (fun _ h9 => h9) rfl dX12_orders_294 ?_
      refine lv_iload hx hb dX12_orders_297 (lv_at hl 0 rfl) ?_
      refine va_iald hx hb hK hP 1 0 rfl rfl (vp_in_nI (n := 4) (by decide) (by decide)) dX12_orders_299 ?_
      refine tk_topi (y := 0) rfl ?_
      refine va_iast hx hb hK hP hD hS 0 0 rfl rfl (vp_in_nI (n := 4) (by decide) (by decide)) dX12_orders_300 (fun H locs hP hD hS => ?_)
      have hP : va_P (dC, dI) vwCl [(a19, .inl (cI, 16, .inl z0)), (a31, .inl (cI, 16, .inl z0)), (a1, .inl (cI, 1560, .inl w0)), (a0, .inr (12, [.ref a1, .ref a2, .ref a3, .int 0, .ref a4, .int 0, .int 0, .int 0, .int 0, .int 0, .int (-1), .int 0, .int 0, .int 0, .int 0, .ref a5, .ref a6, .ref a7, .ref a8, .ref a9, .ref a10, .ref a11, .ref a12, .int 0, .int 0, .int 0, .int 0, .int 0, .ref a13, .int 0, .ref a14, .ref a15, .int 0, .int 0, .ref a16, .int 0, .ref a17, .ref a18, .int 0, .int (-1), .ref a19, .ref a20, .ref a21, .int 0, .ref a22, .ref a23, .ref a24, .ref a25, .ref a26, .ref a27, .ref a28, .ref a29, .ref a30, .int 0, .int 0, .ref a31]))] H := by rw [upd_z0] at hP; exact hP
      have hD : va_D A [(a19, .inl (cI, 16, .inl z0)), (a31, .inl (cI, 16, .inl z0)), (a1, .inl (cI, 1560, .inl w0)), (a0, .inr (12, [.ref a1, .ref a2, .ref a3, .int 0, .ref a4, .int 0, .int 0, .int 0, .int 0, .int 0, .int (-1), .int 0, .int 0, .int 0, .int 0, .ref a5, .ref a6, .ref a7, .ref a8, .ref a9, .ref a10, .ref a11, .ref a12, .int 0, .int 0, .int 0, .int 0, .int 0, .ref a13, .int 0, .ref a14, .ref a15, .int 0, .int 0, .ref a16, .int 0, .ref a17, .ref a18, .int 0, .int (-1), .ref a19, .ref a20, .ref a21, .int 0, .ref a22, .ref a23, .ref a24, .ref a25, .ref a26, .ref a27, .ref a28, .ref a29, .ref a30, .int 0, .int 0, .ref a31]))] := by rw [upd_z0] at hD; exact hD
      refine lv_iinc (v := 5) (lv' := [(5, .int 5), (4, .int 0), (3, .int 0), (0, .ref a0), (1, .int 2), (2, .int 0)]) hx hb dX12_orders_301 hl (k := 0) rfl (by decide) (by decide) rfl (fun ls hl => ?_)
      refine lv_goto (tgt := 280) hx hb dX12_orders_304 (by decide) ?_
      refine lv_iload hx hb dX12_orders_280 (lv_at hl 0 rfl) ?_
      refine lv_bipush (v := 16) hx hb dX12_orders_282 (by decide) ?_
      refine lv_icmp_ge (tgt := 307) hx hb dX12_orders_284 (by decide) (fun c9 => absurd c9 (by decide)) (fun _ => ?_)
      refine lv_aload_n hx hb dX12_orders_287 rfl (lv_at hl 3 rfl) ?_
      refine va_get (D := (dC, dI)) (ci := 12) (v := .ref a19) (C := RX12) (T := TX12) (N := 56) hx hb hU inlX12 hown hK hP 3 rfl rfl 40 (by decide) (hU _ wd_190) (fun _ h9 => h9) rfl dX12_orders_288 ?_
      refine lv_iload hx hb dX12_orders_291 (lv_at hl 0 rfl) ?_
      refine lv_aload_n hx hb dX12_orders_293 rfl (lv_at hl 3 rfl) ?_
      refine va_get (D := (dC, dI)) (ci := 12) (v := .ref a31) (C := RX12) (T := TX12) (N := 56) hx hb hU inlX12 hown hK hP 3 rfl rfl 55 (by decide) (hU _ wd_204) (fun _ h9 => h9) rfl dX12_orders_294 ?_
      refine lv_iload hx hb dX12_orders_297 (lv_at hl 0 rfl) ?_
      refine va_iald hx hb hK hP 1 0 rfl rfl (vp_in_nI (n := 5) (by decide) (by decide)) dX12_orders_299 ?_
      refine tk_topi (y := 0) rfl ?_
      refine va_iast hx hb hK hP hD hS 0 0 rfl rfl (vp_in_nI (n := 5) (by decide) (by decide)) dX12_orders_300 (fun H locs hP hD hS => ?_)
      have hP : va_P (dC, dI) vwCl [(a19, .inl (cI, 16, .inl z0)), (a31, .inl (cI, 16, .inl z0)), (a1, .inl (cI, 1560, .inl w0)), (a0, .inr (12, [.ref a1, .ref a2, .ref a3, .int 0, .ref a4, .int 0, .int 0, .int 0, .int 0, .int 0, .int (-1), .int 0, .int 0, .int 0, .int 0, .ref a5, .ref a6, .ref a7, .ref a8, .ref a9, .ref a10, .ref a11, .ref a12, .int 0, .int 0, .int 0, .int 0, .int 0, .ref a13, .int 0, .ref a14, .ref a15, .int 0, .int 0, .ref a16, .int 0, .ref a17, .ref a18, .int 0, .int (-1), .ref a19, .ref a20, .ref a21, .int 0, .ref a22, .ref a23, .ref a24, .ref a25, .ref a26, .ref a27, .ref a28, .ref a29, .ref a30, .int 0, .int 0, .ref a31]))] H := by rw [upd_z0] at hP; exact hP
      have hD : va_D A [(a19, .inl (cI, 16, .inl z0)), (a31, .inl (cI, 16, .inl z0)), (a1, .inl (cI, 1560, .inl w0)), (a0, .inr (12, [.ref a1, .ref a2, .ref a3, .int 0, .ref a4, .int 0, .int 0, .int 0, .int 0, .int 0, .int (-1), .int 0, .int 0, .int 0, .int 0, .ref a5, .ref a6, .ref a7, .ref a8, .ref a9, .ref a10, .ref a11, .ref a12, .int 0, .int 0, .int 0, .int 0, .int 0, .ref a13, .int 0, .ref a14, .ref a15, .int 0, .int 0, .ref a16, .int 0, .ref a17, .ref a18, .int 0, .int (-1), .ref a19, .ref a20, .ref a21, .int 0, .ref a22, .ref a23, .ref a24, .ref a25, .ref a26, .ref a27, .ref a28, .ref a29, .ref a30, .int 0, .int 0, .ref a31]))] := by rw [upd_z0] at hD; exact hD
      refine lv_iinc (v := 6) (lv' := [(5, .int 6), (4, .int 0), (3, .int 0), (0, .ref a0), (1, .int 2), (2, .int 0)]) hx hb dX12_orders_301 hl (k := 0) rfl (by decide) (by decide) rfl (fun ls hl => ?_)
      refine lv_goto (tgt := 280) hx hb dX12_orders_304 (by decide) ?_
      refine lv_iload hx hb dX12_orders_280 (lv_at hl 0 rfl) ?_
      refine lv_bipush (v := 16) hx hb dX12_orders_282 (by decide) ?_
      refine lv_icmp_ge (tgt := 307) hx hb dX12_orders_284 (by decide) (fun c9 => absurd c9 (by decide)) (fun _ => ?_)
      refine lv_aload_n hx hb dX12_orders_287 rfl (lv_at hl 3 rfl) ?_
      refine va_get (D := (dC, dI)) (ci := 12) (v := .ref a19) (C := RX12) (T := TX12) (N := 56) hx hb hU inlX12 hown hK hP 3 rfl rfl 40 (by decide) (hU _ wd_190) (fun _ h9 => h9) rfl dX12_orders_288 ?_
      refine lv_iload hx hb dX12_orders_291 (lv_at hl 0 rfl) ?_
      refine lv_aload_n hx hb dX12_orders_293 rfl (lv_at hl 3 rfl) ?_
      refine va_get (D := (dC, dI)) (ci := 12) (v := .ref a31) (C := RX12) (T := TX12) (N := 56) hx hb hU inlX12 hown hK hP 3 rfl rfl 55 (by decide) (hU _ wd_204) (fun _ h9 => h9) rfl dX12_orders_294 ?_
      refine lv_iload hx hb dX12_orders_297 (lv_at hl 0 rfl) ?_
      refine va_iald hx hb hK hP 1 0 rfl rfl (vp_in_nI (n := 6) (by decide) (by decide)) dX12_orders_299 ?_
      refine tk_topi (y := 0) rfl ?_
      refine va_iast hx hb hK hP hD hS 0 0 rfl rfl (vp_in_nI (n := 6) (by decide) (by decide)) dX12_orders_300 (fun H locs hP hD hS => ?_)
      have hP : va_P (dC, dI) vwCl [(a19, .inl (cI, 16, .inl z0)), (a31, .inl (cI, 16, .inl z0)), (a1, .inl (cI, 1560, .inl w0)), (a0, .inr (12, [.ref a1, .ref a2, .ref a3, .int 0, .ref a4, .int 0, .int 0, .int 0, .int 0, .int 0, .int (-1), .int 0, .int 0, .int 0, .int 0, .ref a5, .ref a6, .ref a7, .ref a8, .ref a9, .ref a10, .ref a11, .ref a12, .int 0, .int 0, .int 0, .int 0, .int 0, .ref a13, .int 0, .ref a14, .ref a15, .int 0, .int 0, .ref a16, .int 0, .ref a17, .ref a18, .int 0, .int (-1), .ref a19, .ref a20, .ref a21, .int 0, .ref a22, .ref a23, .ref a24, .ref a25, .ref a26, .ref a27, .ref a28, .ref a29, .ref a30, .int 0, .int 0, .ref a31]))] H := by rw [upd_z0] at hP; exact hP
      have hD : va_D A [(a19, .inl (cI, 16, .inl z0)), (a31, .inl (cI, 16, .inl z0)), (a1, .inl (cI, 1560, .inl w0)), (a0, .inr (12, [.ref a1, .ref a2, .ref a3, .int 0, .ref a4, .int 0, .int 0, .int 0, .int 0, .int 0, .int (-1), .int 0, .int 0, .int 0, .int 0, .ref a5, .ref a6, .ref a7, .ref a8, .ref a9, .ref a10, .ref a11, .ref a12, .int 0, .int 0, .int 0, .int 0, .int 0, .ref a13, .int 0, .ref a14, .ref a15, .int 0, .int 0, .ref a16, .int 0, .ref a17, .ref a18, .int 0, .int (-1), .ref a19, .ref a20, .ref a21, .int 0, .ref a22, .ref a23, .ref a24, .ref a25, .ref a26, .ref a27, .ref a28, .ref a29, .ref a30, .int 0, .int 0, .ref a31]))] := by rw [upd_z0] at hD; exact hD
      refine lv_iinc (v := 7) (lv' := [(5, .int 7), (4, .int 0), (3, .int 0), (0, .ref a0), (1, .int 2), (2, .int 0)]) hx hb dX12_orders_301 hl (k := 0) rfl (by decide) (by decide) rfl (fun ls hl => ?_)
      refine lv_goto (tgt := 280) hx hb dX12_orders_304 (by decide) ?_
      refine lv_iload hx hb dX12_orders_280 (lv_at hl 0 rfl) ?_
      refine lv_bipush (v := 16) hx hb dX12_orders_282 (by decide) ?_
      refine lv_icmp_ge (tgt := 307) hx hb dX12_orders_284 (by decide) (fun c9 => absurd c9 (by decide)) (fun _ => ?_)
      refine lv_aload_n hx hb dX12_orders_287 rfl (lv_at hl 3 rfl) ?_
      refine va_get (D := (dC, dI)) (ci := 12) (v := .ref a19) (C := RX12) (T := TX12) (N := 56) hx hb hU inlX12 hown hK hP 3 rfl rfl 40 (by decide) (hU _ wd_190) (fun _ h9 => h9) rfl dX12_orders_288 ?_
      refine lv_iload hx hb dX12_orders_291 (lv_at hl 0 rfl) ?_
      refine lv_aload_n hx hb dX12_orders_293 rfl (lv_at hl 3 rfl) ?_
      refine va_get (D := (dC, dI)) (ci := 12) (v := .ref a31) (C := RX12) (T := TX12) (N := 56) hx hb hU inlX12 hown hK hP 3 rfl rfl 55 (by decide) (hU _ wd_204) (fun _ h9 => h9) rfl dX12_orders_294 ?_
      refine lv_iload hx hb dX12_orders_297 (lv_at hl 0 rfl) ?_
      refine va_iald hx hb hK hP 1 0 rfl rfl (vp_in_nI (n := 7) (by decide) (by decide)) dX12_orders_299 ?_
      refine tk_topi (y := 0) rfl ?_
      refine va_iast hx hb hK hP hD hS 0 0 rfl rfl (vp_in_nI (n := 7) (by decide) (by decide)) dX12_orders_300 (fun H locs hP hD hS => ?_)
      have hP : va_P (dC, dI) vwCl [(a19, .inl (cI, 16, .inl z0)), (a31, .inl (cI, 16, .inl z0)), (a1, .inl (cI, 1560, .inl w0)), (a0, .inr (12, [.ref a1, .ref a2, .ref a3, .int 0, .ref a4, .int 0, .int 0, .int 0, .int 0, .int 0, .int (-1), .int 0, .int 0, .int 0, .int 0, .ref a5, .ref a6, .ref a7, .ref a8, .ref a9, .ref a10, .ref a11, .ref a12, .int 0, .int 0, .int 0, .int 0, .int 0, .ref a13, .int 0, .ref a14, .ref a15, .int 0, .int 0, .ref a16, .int 0, .ref a17, .ref a18, .int 0, .int (-1), .ref a19, .ref a20, .ref a21, .int 0, .ref a22, .ref a23, .ref a24, .ref a25, .ref a26, .ref a27, .ref a28, .ref a29, .ref a30, .int 0, .int 0, .ref a31]))] H := by rw [upd_z0] at hP; exact hP
      have hD : va_D A [(a19, .inl (cI, 16, .inl z0)), (a31, .inl (cI, 16, .inl z0)), (a1, .inl (cI, 1560, .inl w0)), (a0, .inr (12, [.ref a1, .ref a2, .ref a3, .int 0, .ref a4, .int 0, .int 0, .int 0, .int 0, .int 0, .int (-1), .int 0, .int 0, .int 0, .int 0, .ref a5, .ref a6, .ref a7, .ref a8, .ref a9, .ref a10, .ref a11, .ref a12, .int 0, .int 0, .int 0, .int 0, .int 0, .ref a13, .int 0, .ref a14, .ref a15, .int 0, .int 0, .ref a16, .int 0, .ref a17, .ref a18, .int 0, .int (-1), .ref a19, .ref a20, .ref a21, .int 0, .ref a22, .ref a23, .ref a24, .ref a25, .ref a26, .ref a27, .ref a28, .ref a29, .ref a30, .int 0, .int 0, .ref a31]))] := by rw [upd_z0] at hD; exact hD
      refine lv_iinc (v := 8) (lv' := [(5, .int 8), (4, .int 0), (3, .int 0), (0, .ref a0), (1, .int 2), (2, .int 0)]) hx hb dX12_orders_301 hl (k := 0) rfl (by decide) (by decide) rfl (fun ls hl => ?_)
      refine lv_goto (tgt := 280) hx hb dX12_orders_304 (by decide) ?_
      refine lv_iload hx hb dX12_orders_280 (lv_at hl 0 rfl) ?_
      refine lv_bipush (v := 16) hx hb dX12_orders_282 (by decide) ?_
      refine lv_icmp_ge (tgt := 307) hx hb dX12_orders_284 (by decide) (fun c9 => absurd c9 (by decide)) (fun _ => ?_)
      refine lv_aload_n hx hb dX12_orders_287 rfl (lv_at hl 3 rfl) ?_
      refine va_get (D := (dC, dI)) (ci := 12) (v := .ref a19) (C := RX12) (T := TX12) (N := 56) hx hb hU inlX12 hown hK hP 3 rfl rfl 40 (by decide) (hU _ wd_190) (fun _ h9 => h9) rfl dX12_orders_288 ?_
      refine lv_iload hx hb dX12_orders_291 (lv_at hl 0 rfl) ?_
      refine lv_aload_n hx hb dX12_orders_293 rfl (lv_at hl 3 rfl) ?_
      refine va_get (D := (dC, dI)) (ci := 12) (v := .ref a31) (C := RX12) (T := TX12) (N := 56) hx hb hU inlX12 hown hK hP 3 rfl rfl 55 (by decide) (hU _ wd_204) (fun _ h9 => h9) rfl dX12_orders_294 ?_
      refine lv_iload hx hb dX12_orders_297 (lv_at hl 0 rfl) ?_
      refine va_iald hx hb hK hP 1 0 rfl rfl (vp_in_nI (n := 8) (by decide) (by decide)) dX12_orders_299 ?_
      refine tk_topi (y := 0) rfl ?_
      refine va_iast hx hb hK hP hD hS 0 0 rfl rfl (vp_in_nI (n := 8) (by decide) (by decide)) dX12_orders_300 (fun H locs hP hD hS => ?_)
      have hP : va_P (dC, dI) vwCl [(a19, .inl (cI, 16, .inl z0)), (a31, .inl (cI, 16, .inl z0)), (a1, .inl (cI, 1560, .inl w0)), (a0, .inr (12, [.ref a1, .ref a2, .ref a3, .int 0, .ref a4, .int 0, .int 0, .int 0, .int 0, .int 0, .int (-1), .int 0, .int 0, .int 0, .int 0, .ref a5, .ref a6, .ref a7, .ref a8, .ref a9, .ref a10, .ref a11, .ref a12, .int 0, .int 0, .int 0, .int 0, .int 0, .ref a13, .int 0, .ref a14, .ref a15, .int 0, .int 0, .ref a16, .int 0, .ref a17, .ref a18, .int 0, .int (-1), .ref a19, .ref a20, .ref a21, .int 0, .ref a22, .ref a23, .ref a24, .ref a25, .ref a26, .ref a27, .ref a28, .ref a29, .ref a30, .int 0, .int 0, .ref a31]))] H := by rw [upd_z0] at hP; exact hP
      have hD : va_D A [(a19, .inl (cI, 16, .inl z0)), (a31, .inl (cI, 16, .inl z0)), (a1, .inl (cI, 1560, .inl w0)), (a0, .inr (12, [.ref a1, .ref a2, .ref a3, .int 0, .ref a4, .int 0, .int 0, .int 0, .int 0, .int 0, .int (-1), .int 0, .int 0, .int 0, .int 0, .ref a5, .ref a6, .ref a7, .ref a8, .ref a9, .ref a10, .ref a11, .ref a12, .int 0, .int 0, .int 0, .int 0, .int 0, .ref a13, .int 0, .ref a14, .ref a15, .int 0, .int 0, .ref a16, .int 0, .ref a17, .ref a18, .int 0, .int (-1), .ref a19, .ref a20, .ref a21, .int 0, .ref a22, .ref a23, .ref a24, .ref a25, .ref a26, .ref a27, .ref a28, .ref a29, .ref a30, .int 0, .int 0, .ref a31]))] := by rw [upd_z0] at hD; exact hD
      refine lv_iinc (v := 9) (lv' := [(5, .int 9), (4, .int 0), (3, .int 0), (0, .ref a0), (1, .int 2), (2, .int 0)]) hx hb dX12_orders_301 hl (k := 0) rfl (by decide) (by decide) rfl (fun ls hl => ?_)
      refine lv_goto (tgt := 280) hx hb dX12_orders_304 (by decide) ?_
      refine lv_iload hx hb dX12_orders_280 (lv_at hl 0 rfl) ?_
      refine lv_bipush (v := 16) hx hb dX12_orders_282 (by decide) ?_
      refine lv_icmp_ge (tgt := 307) hx hb dX12_orders_284 (by decide) (fun c9 => absurd c9 (by decide)) (fun _ => ?_)
      refine lv_aload_n hx hb dX12_orders_287 rfl (lv_at hl 3 rfl) ?_
      refine va_get (D := (dC, dI)) (ci := 12) (v := .ref a19) (C := RX12) (T := TX12) (N := 56) hx hb hU inlX12 hown hK hP 3 rfl rfl 40 (by decide) (hU _ wd_190) (fun _ h9 => h9) rfl dX12_orders_288 ?_
      refine lv_iload hx hb dX12_orders_291 (lv_at hl 0 rfl) ?_
      refine lv_aload_n hx hb dX12_orders_293 rfl (lv_at hl 3 rfl) ?_
      refine va_get (D := (dC, dI)) (ci := 12) (v := .ref a31) (C := RX12) (T := TX12) (N := 56) hx hb hU inlX12 hown hK hP 3 rfl rfl 55 (by decide) (hU _ wd_204) (fun _ h9 => h9) rfl dX12_orders_294 ?_
      refine lv_iload hx hb dX12_orders_297 (lv_at hl 0 rfl) ?_
      refine va_iald hx hb hK hP 1 0 rfl rfl (vp_in_nI (n := 9) (by decide) (by decide)) dX12_orders_299 ?_
      refine tk_topi (y := 0) rfl ?_
      refine va_iast hx hb hK hP hD hS 0 0 rfl rfl (vp_in_nI (n := 9) (by decide) (by decide)) dX12_orders_300 (fun H locs hP hD hS => ?_)
      have hP : va_P (dC, dI) vwCl [(a19, .inl (cI, 16, .inl z0)), (a31, .inl (cI, 16, .inl z0)), (a1, .inl (cI, 1560, .inl w0)), (a0, .inr (12, [.ref a1, .ref a2, .ref a3, .int 0, .ref a4, .int 0, .int 0, .int 0, .int 0, .int 0, .int (-1), .int 0, .int 0, .int 0, .int 0, .ref a5, .ref a6, .ref a7, .ref a8, .ref a9, .ref a10, .ref a11, .ref a12, .int 0, .int 0, .int 0, .int 0, .int 0, .ref a13, .int 0, .ref a14, .ref a15, .int 0, .int 0, .ref a16, .int 0, .ref a17, .ref a18, .int 0, .int (-1), .ref a19, .ref a20, .ref a21, .int 0, .ref a22, .ref a23, .ref a24, .ref a25, .ref a26, .ref a27, .ref a28, .ref a29, .ref a30, .int 0, .int 0, .ref a31]))] H := by rw [upd_z0] at hP; exact hP
      have hD : va_D A [(a19, .inl (cI, 16, .inl z0)), (a31, .inl (cI, 16, .inl z0)), (a1, .inl (cI, 1560, .inl w0)), (a0, .inr (12, [.ref a1, .ref a2, .ref a3, .int 0, .ref a4, .int 0, .int 0, .int 0, .int 0, .int 0, .int (-1), .int 0, .int 0, .int 0, .int 0, .ref a5, .ref a6, .ref a7, .ref a8, .ref a9, .ref a10, .ref a11, .ref a12, .int 0, .int 0, .int 0, .int 0, .int 0, .ref a13, .int 0, .ref a14, .ref a15, .int 0, .int 0, .ref a16, .int 0, .ref a17, .ref a18, .int 0, .int (-1), .ref a19, .ref a20, .ref a21, .int 0, .ref a22, .ref a23, .ref a24, .ref a25, .ref a26, .ref a27, .ref a28, .ref a29, .ref a30, .int 0, .int 0, .ref a31]))] := by rw [upd_z0] at hD; exact hD
      refine lv_iinc (v := 10) (lv' := [(5, .int 10), (4, .int 0), (3, .int 0), (0, .ref a0), (1, .int 2), (2, .int 0)]) hx hb dX12_orders_301 hl (k := 0) rfl (by decide) (by decide) rfl (fun ls hl => ?_)
      refine lv_goto (tgt := 280) hx hb dX12_orders_304 (by decide) ?_
      refine lv_iload hx hb dX12_orders_280 (lv_at hl 0 rfl) ?_
      refine lv_bipush (v := 16) hx hb dX12_orders_282 (by decide) ?_
      refine lv_icmp_ge (tgt := 307) hx hb dX12_orders_284 (by decide) (fun c9 => absurd c9 (by decide)) (fun _ => ?_)
      refine lv_aload_n hx hb dX12_orders_287 rfl (lv_at hl 3 rfl) ?_
      refine va_get (D := (dC, dI)) (ci := 12) (v := .ref a19) (C := RX12) (T := TX12) (N := 56) hx hb hU inlX12 hown hK hP 3 rfl rfl 40 (by decide) (hU _ wd_190) (fun _ h9 => h9) rfl dX12_orders_288 ?_
      refine lv_iload hx hb dX12_orders_291 (lv_at hl 0 rfl) ?_
      refine lv_aload_n hx hb dX12_orders_293 rfl (lv_at hl 3 rfl) ?_
      refine va_get (D := (dC, dI)) (ci := 12) (v := .ref a31) (C := RX12) (T := TX12) (N := 56) hx hb hU inlX12 hown hK hP 3 rfl rfl 55 (by decide) (hU _ wd_204) (fun _ h9 => h9) rfl dX12_orders_294 ?_
      refine lv_iload hx hb dX12_orders_297 (lv_at hl 0 rfl) ?_
      refine va_iald hx hb hK hP 1 0 rfl rfl (vp_in_nI (n := 10) (by decide) (by decide)) dX12_orders_299 ?_
      refine tk_topi (y := 0) rfl ?_
      refine va_iast hx hb hK hP hD hS 0 0 rfl rfl (vp_in_nI (n := 10) (by decide) (by decide)) dX12_orders_300 (fun H locs hP hD hS => ?_)
      have hP : va_P (dC, dI) vwCl [(a19, .inl (cI, 16, .inl z0)), (a31, .inl (cI, 16, .inl z0)), (a1, .inl (cI, 1560, .inl w0)), (a0, .inr (12, [.ref a1, .ref a2, .ref a3, .int 0, .ref a4, .int 0, .int 0, .int 0, .int 0, .int 0, .int (-1), .int 0, .int 0, .int 0, .int 0, .ref a5, .ref a6, .ref a7, .ref a8, .ref a9, .ref a10, .ref a11, .ref a12, .int 0, .int 0, .int 0, .int 0, .int 0, .ref a13, .int 0, .ref a14, .ref a15, .int 0, .int 0, .ref a16, .int 0, .ref a17, .ref a18, .int 0, .int (-1), .ref a19, .ref a20, .ref a21, .int 0, .ref a22, .ref a23, .ref a24, .ref a25, .ref a26, .ref a27, .ref a28, .ref a29, .ref a30, .int 0, .int 0, .ref a31]))] H := by rw [upd_z0] at hP; exact hP
      have hD : va_D A [(a19, .inl (cI, 16, .inl z0)), (a31, .inl (cI, 16, .inl z0)), (a1, .inl (cI, 1560, .inl w0)), (a0, .inr (12, [.ref a1, .ref a2, .ref a3, .int 0, .ref a4, .int 0, .int 0, .int 0, .int 0, .int 0, .int (-1), .int 0, .int 0, .int 0, .int 0, .ref a5, .ref a6, .ref a7, .ref a8, .ref a9, .ref a10, .ref a11, .ref a12, .int 0, .int 0, .int 0, .int 0, .int 0, .ref a13, .int 0, .ref a14, .ref a15, .int 0, .int 0, .ref a16, .int 0, .ref a17, .ref a18, .int 0, .int (-1), .ref a19, .ref a20, .ref a21, .int 0, .ref a22, .ref a23, .ref a24, .ref a25, .ref a26, .ref a27, .ref a28, .ref a29, .ref a30, .int 0, .int 0, .ref a31]))] := by rw [upd_z0] at hD; exact hD
      refine lv_iinc (v := 11) (lv' := [(5, .int 11), (4, .int 0), (3, .int 0), (0, .ref a0), (1, .int 2), (2, .int 0)]) hx hb dX12_orders_301 hl (k := 0) rfl (by decide) (by decide) rfl (fun ls hl => ?_)
      refine lv_goto (tgt := 280) hx hb dX12_orders_304 (by decide) ?_
      refine lv_iload hx hb dX12_orders_280 (lv_at hl 0 rfl) ?_
      refine lv_bipush (v := 16) hx hb dX12_orders_282 (by decide) ?_
      refine lv_icmp_ge (tgt := 307) hx hb dX12_orders_284 (by decide) (fun c9 => absurd c9 (by decide)) (fun _ => ?_)
      refine lv_aload_n hx hb dX12_orders_287 rfl (lv_at hl 3 rfl) ?_
      refine va_get (D := (dC, dI)) (ci := 12) (v := .ref a19) (C := RX12) (T := TX12) (N := 56) hx hb hU inlX12 hown hK hP 3 rfl rfl 40 (by decide) (hU _ wd_190) (fun _ h9 => h9) rfl dX12_orders_288 ?_
      refine lv_iload hx hb dX12_orders_291 (lv_at hl 0 rfl) ?_
      refine lv_aload_n hx hb dX12_orders_293 rfl (lv_at hl 3 rfl) ?_
      refine va_get (D := (dC, dI)) (ci := 12) (v := .ref a31) (C := RX12) (T := TX12) (N := 56) hx hb hU inlX12 hown hK hP 3 rfl rfl 55 (by decide) (hU _ wd_204) (fun _ h9 => h9) rfl dX12_orders_294 ?_
      refine lv_iload hx hb dX12_orders_297 (lv_at hl 0 rfl) ?_
      refine va_iald hx hb hK hP 1 0 rfl rfl (vp_in_nI (n := 11) (by decide) (by decide)) dX12_orders_299 ?_
      refine tk_topi (y := 0) rfl ?_
      refine va_iast hx hb hK hP hD hS 0 0 rfl rfl (vp_in_nI (n := 11) (by decide) (by decide)) dX12_orders_300 (fun H locs hP hD hS => ?_)
      have hP : va_P (dC, dI) vwCl [(a19, .inl (cI, 16, .inl z0)), (a31, .inl (cI, 16, .inl z0)), (a1, .inl (cI, 1560, .inl w0)), (a0, .inr (12, [.ref a1, .ref a2, .ref a3, .int 0, .ref a4, .int 0, .int 0, .int 0, .int 0, .int 0, .int (-1), .int 0, .int 0, .int 0, .int 0, .ref a5, .ref a6, .ref a7, .ref a8, .ref a9, .ref a10, .ref a11, .ref a12, .int 0, .int 0, .int 0, .int 0, .int 0, .ref a13, .int 0, .ref a14, .ref a15, .int 0, .int 0, .ref a16, .int 0, .ref a17, .ref a18, .int 0, .int (-1), .ref a19, .ref a20, .ref a21, .int 0, .ref a22, .ref a23, .ref a24, .ref a25, .ref a26, .ref a27, .ref a28, .ref a29, .ref a30, .int 0, .int 0, .ref a31]))] H := by rw [upd_z0] at hP; exact hP
      have hD : va_D A [(a19, .inl (cI, 16, .inl z0)), (a31, .inl (cI, 16, .inl z0)), (a1, .inl (cI, 1560, .inl w0)), (a0, .inr (12, [.ref a1, .ref a2, .ref a3, .int 0, .ref a4, .int 0, .int 0, .int 0, .int 0, .int 0, .int (-1), .int 0, .int 0, .int 0, .int 0, .ref a5, .ref a6, .ref a7, .ref a8, .ref a9, .ref a10, .ref a11, .ref a12, .int 0, .int 0, .int 0, .int 0, .int 0, .ref a13, .int 0, .ref a14, .ref a15, .int 0, .int 0, .ref a16, .int 0, .ref a17, .ref a18, .int 0, .int (-1), .ref a19, .ref a20, .ref a21, .int 0, .ref a22, .ref a23, .ref a24, .ref a25, .ref a26, .ref a27, .ref a28, .ref a29, .ref a30, .int 0, .int 0, .ref a31]))] := by rw [upd_z0] at hD; exact hD
      refine lv_iinc (v := 12) (lv' := [(5, .int 12), (4, .int 0), (3, .int 0), (0, .ref a0), (1, .int 2), (2, .int 0)]) hx hb dX12_orders_301 hl (k := 0) rfl (by decide) (by decide) rfl (fun ls hl => ?_)
      refine lv_goto (tgt := 280) hx hb dX12_orders_304 (by decide) ?_
      refine lv_iload hx hb dX12_orders_280 (lv_at hl 0 rfl) ?_
      refine lv_bipush (v := 16) hx hb dX12_orders_282 (by decide) ?_
      refine lv_icmp_ge (tgt := 307) hx hb dX12_orders_284 (by decide) (fun c9 => absurd c9 (by decide)) (fun _ => ?_)
      refine lv_aload_n hx hb dX12_orders_287 rfl (lv_at hl 3 rfl) ?_
      refine va_get (D := (dC, dI)) (ci := 12) (v := .ref a19) (C := RX12) (T := TX12) (N := 56) hx hb hU inlX12 hown hK hP 3 rfl rfl 40 (by decide) (hU _ wd_190) (fun _ h9 => h9) rfl dX12_orders_288 ?_
      refine lv_iload hx hb dX12_orders_291 (lv_at hl 0 rfl) ?_
      refine lv_aload_n hx hb dX12_orders_293 rfl (lv_at hl 3 rfl) ?_
      refine va_get (D := (dC, dI)) (ci := 12) (v := .ref a31) (C := RX12) (T := TX12) (N := 56) hx hb hU inlX12 hown hK hP 3 rfl rfl 55 (by decide) (hU _ wd_204) (fun _ h9 => h9) rfl dX12_orders_294 ?_
      refine lv_iload hx hb dX12_orders_297 (lv_at hl 0 rfl) ?_
      refine va_iald hx hb hK hP 1 0 rfl rfl (vp_in_nI (n := 12) (by decide) (by decide)) dX12_orders_299 ?_
      refine tk_topi (y := 0) rfl ?_
      refine va_iast hx hb hK hP hD hS 0 0 rfl rfl (vp_in_nI (n := 12) (by decide) (by decide)) dX12_orders_300 (fun H locs hP hD hS => ?_)
      have hP : va_P (dC, dI) vwCl [(a19, .inl (cI, 16, .inl z0)), (a31, .inl (cI, 16, .inl z0)), (a1, .inl (cI, 1560, .inl w0)), (a0, .inr (12, [.ref a1, .ref a2, .ref a3, .int 0, .ref a4, .int 0, .int 0, .int 0, .int 0, .int 0, .int (-1), .int 0, .int 0, .int 0, .int 0, .ref a5, .ref a6, .ref a7, .ref a8, .ref a9, .ref a10, .ref a11, .ref a12, .int 0, .int 0, .int 0, .int 0, .int 0, .ref a13, .int 0, .ref a14, .ref a15, .int 0, .int 0, .ref a16, .int 0, .ref a17, .ref a18, .int 0, .int (-1), .ref a19, .ref a20, .ref a21, .int 0, .ref a22, .ref a23, .ref a24, .ref a25, .ref a26, .ref a27, .ref a28, .ref a29, .ref a30, .int 0, .int 0, .ref a31]))] H := by rw [upd_z0] at hP; exact hP
      have hD : va_D A [(a19, .inl (cI, 16, .inl z0)), (a31, .inl (cI, 16, .inl z0)), (a1, .inl (cI, 1560, .inl w0)), (a0, .inr (12, [.ref a1, .ref a2, .ref a3, .int 0, .ref a4, .int 0, .int 0, .int 0, .int 0, .int 0, .int (-1), .int 0, .int 0, .int 0, .int 0, .ref a5, .ref a6, .ref a7, .ref a8, .ref a9, .ref a10, .ref a11, .ref a12, .int 0, .int 0, .int 0, .int 0, .int 0, .ref a13, .int 0, .ref a14, .ref a15, .int 0, .int 0, .ref a16, .int 0, .ref a17, .ref a18, .int 0, .int (-1), .ref a19, .ref a20, .ref a21, .int 0, .ref a22, .ref a23, .ref a24, .ref a25, .ref a26, .ref a27, .ref a28, .ref a29, .ref a30, .int 0, .int 0, .ref a31]))] := by rw [upd_z0] at hD; exact hD
      refine lv_iinc (v := 13) (lv' := [(5, .int 13), (4, .int 0), (3, .int 0), (0, .ref a0), (1, .int 2), (2, .int 0)]) hx hb dX12_orders_301 hl (k := 0) rfl (by decide) (by decide) rfl (fun ls hl => ?_)
      refine lv_goto (tgt := 280) hx hb dX12_orders_304 (by decide) ?_
      refine lv_iload hx hb dX12_orders_280 (lv_at hl 0 rfl) ?_
      refine lv_bipush (v := 16) hx hb dX12_orders_282 (by decide) ?_
      refine lv_icmp_ge (tgt := 307) hx hb dX12_orders_284 (by decide) (fun c9 => absurd c9 (by decide)) (fun _ => ?_)
      refine lv_aload_n hx hb dX12_orders_287 rfl (lv_at hl 3 rfl) ?_
      refine va_get (D := (dC, dI)) (ci := 12) (v := .ref a19) (C := RX12) (T := TX12) (N := 56) hx hb hU inlX12 hown hK hP 3 rfl rfl 40 (by decide) (hU _ wd_190) (fun _ h9 => h9) rfl dX12_orders_288 ?_
      refine lv_iload hx hb dX12_orders_291 (lv_at hl 0 rfl) ?_
      refine lv_aload_n hx hb dX12_orders_293 rfl (lv_at hl 3 rfl) ?_
      refine va_get (D := (dC, dI)) (ci := 12) (v := .ref a31) (C := RX12) (T := TX12) (N := 56) hx hb hU inlX12 hown hK hP 3 rfl rfl 55 (by decide) (hU _ wd_204) (fun _ h9 => h9) rfl dX12_orders_294 ?_
      refine lv_iload hx hb dX12_orders_297 (lv_at hl 0 rfl) ?_
      refine va_iald hx hb hK hP 1 0 rfl rfl (vp_in_nI (n := 13) (by decide) (by decide)) dX12_orders_299 ?_
      refine tk_topi (y := 0) rfl ?_
      refine va_iast hx hb hK hP hD hS 0 0 rfl rfl (vp_in_nI (n := 13) (by decide) (by decide)) dX12_orders_300 (fun H locs hP hD hS => ?_)
      have hP : va_P (dC, dI) vwCl [(a19, .inl (cI, 16, .inl z0)), (a31, .inl (cI, 16, .inl z0)), (a1, .inl (cI, 1560, .inl w0)), (a0, .inr (12, [.ref a1, .ref a2, .ref a3, .int 0, .ref a4, .int 0, .int 0, .int 0, .int 0, .int 0, .int (-1), .int 0, .int 0, .int 0, .int 0, .ref a5, .ref a6, .ref a7, .ref a8, .ref a9, .ref a10, .ref a11, .ref a12, .int 0, .int 0, .int 0, .int 0, .int 0, .ref a13, .int 0, .ref a14, .ref a15, .int 0, .int 0, .ref a16, .int 0, .ref a17, .ref a18, .int 0, .int (-1), .ref a19, .ref a20, .ref a21, .int 0, .ref a22, .ref a23, .ref a24, .ref a25, .ref a26, .ref a27, .ref a28, .ref a29, .ref a30, .int 0, .int 0, .ref a31]))] H := by rw [upd_z0] at hP; exact hP
      have hD : va_D A [(a19, .inl (cI, 16, .inl z0)), (a31, .inl (cI, 16, .inl z0)), (a1, .inl (cI, 1560, .inl w0)), (a0, .inr (12, [.ref a1, .ref a2, .ref a3, .int 0, .ref a4, .int 0, .int 0, .int 0, .int 0, .int 0, .int (-1), .int 0, .int 0, .int 0, .int 0, .ref a5, .ref a6, .ref a7, .ref a8, .ref a9, .ref a10, .ref a11, .ref a12, .int 0, .int 0, .int 0, .int 0, .int 0, .ref a13, .int 0, .ref a14, .ref a15, .int 0, .int 0, .ref a16, .int 0, .ref a17, .ref a18, .int 0, .int (-1), .ref a19, .ref a20, .ref a21, .int 0, .ref a22, .ref a23, .ref a24, .ref a25, .ref a26, .ref a27, .ref a28, .ref a29, .ref a30, .int 0, .int 0, .ref a31]))] := by rw [upd_z0] at hD; exact hD
      refine lv_iinc (v := 14) (lv' := [(5, .int 14), (4, .int 0), (3, .int 0), (0, .ref a0), (1, .int 2), (2, .int 0)]) hx hb dX12_orders_301 hl (k := 0) rfl (by decide) (by decide) rfl (fun ls hl => ?_)
      refine lv_goto (tgt := 280) hx hb dX12_orders_304 (by decide) ?_
      refine lv_iload hx hb dX12_orders_280 (lv_at hl 0 rfl) ?_
      refine lv_bipush (v := 16) hx hb dX12_orders_282 (by decide) ?_
      refine lv_icmp_ge (tgt := 307) hx hb dX12_orders_284 (by decide) (fun c9 => absurd c9 (by decide)) (fun _ => ?_)
      refine lv_aload_n hx hb dX12_orders_287 rfl (lv_at hl 3 rfl) ?_
      refine va_get (D := (dC, dI)) (ci := 12) (v := .ref a19) (C := RX12) (T := TX12) (N := 56) hx hb hU inlX12 hown hK hP 3 rfl rfl 40 (by decide) (hU _ wd_190) (fun _ h9 => h9) rfl dX12_orders_288 ?_
      refine lv_iload hx hb dX12_orders_291 (lv_at hl 0 rfl) ?_
      refine lv_aload_n hx hb dX12_orders_293 rfl (lv_at hl 3 rfl) ?_
      refine va_get (D := (dC, dI)) (ci := 12) (v := .ref a31) (C := RX12) (T := TX12) (N := 56) hx hb hU inlX12 hown hK hP 3 rfl rfl 55 (by decide) (hU _ wd_204) (fun _ h9 => h9) rfl dX12_orders_294 ?_
      refine lv_iload hx hb dX12_orders_297 (lv_at hl 0 rfl) ?_
      refine va_iald hx hb hK hP 1 0 rfl rfl (vp_in_nI (n := 14) (by decide) (by decide)) dX12_orders_299 ?_
      refine tk_topi (y := 0) rfl ?_
      refine va_iast hx hb hK hP hD hS 0 0 rfl rfl (vp_in_nI (n := 14) (by decide) (by decide)) dX12_orders_300 (fun H locs hP hD hS => ?_)
      have hP : va_P (dC, dI) vwCl [(a19, .inl (cI, 16, .inl z0)), (a31, .inl (cI, 16, .inl z0)), (a1, .inl (cI, 1560, .inl w0)), (a0, .inr (12, [.ref a1, .ref a2, .ref a3, .int 0, .ref a4, .int 0, .int 0, .int 0, .int 0, .int 0, .int (-1), .int 0, .int 0, .int 0, .int 0, .ref a5, .ref a6, .ref a7, .ref a8, .ref a9, .ref a10, .ref a11, .ref a12, .int 0, .int 0, .int 0, .int 0, .int 0, .ref a13, .int 0, .ref a14, .ref a15, .int 0, .int 0, .ref a16, .int 0, .ref a17, .ref a18, .int 0, .int (-1), .ref a19, .ref a20, .ref a21, .int 0, .ref a22, .ref a23, .ref a24, .ref a25, .ref a26, .ref a27, .ref a28, .ref a29, .ref a30, .int 0, .int 0, .ref a31]))] H := by rw [upd_z0] at hP; exact hP
      have hD : va_D A [(a19, .inl (cI, 16, .inl z0)), (a31, .inl (cI, 16, .inl z0)), (a1, .inl (cI, 1560, .inl w0)), (a0, .inr (12, [.ref a1, .ref a2, .ref a3, .int 0, .ref a4, .int 0, .int 0, .int 0, .int 0, .int 0, .int (-1), .int 0, .int 0, .int 0, .int 0, .ref a5, .ref a6, .ref a7, .ref a8, .ref a9, .ref a10, .ref a11, .ref a12, .int 0, .int 0, .int 0, .int 0, .int 0, .ref a13, .int 0, .ref a14, .ref a15, .int 0, .int 0, .ref a16, .int 0, .ref a17, .ref a18, .int 0, .int (-1), .ref a19, .ref a20, .ref a21, .int 0, .ref a22, .ref a23, .ref a24, .ref a25, .ref a26, .ref a27, .ref a28, .ref a29, .ref a30, .int 0, .int 0, .ref a31]))] := by rw [upd_z0] at hD; exact hD
      refine lv_iinc (v := 15) (lv' := [(5, .int 15), (4, .int 0), (3, .int 0), (0, .ref a0), (1, .int 2), (2, .int 0)]) hx hb dX12_orders_301 hl (k := 0) rfl (by decide) (by decide) rfl (fun ls hl => ?_)
      refine lv_goto (tgt := 280) hx hb dX12_orders_304 (by decide) ?_
      refine lv_iload hx hb dX12_orders_280 (lv_at hl 0 rfl) ?_
      refine lv_bipush (v := 16) hx hb dX12_orders_282 (by decide) ?_
      refine lv_icmp_ge (tgt := 307) hx hb dX12_orders_284 (by decide) (fun c9 => absurd c9 (by decide)) (fun _ => ?_)
      refine lv_aload_n hx hb dX12_orders_287 rfl (lv_at hl 3 rfl) ?_
      refine va_get (D := (dC, dI)) (ci := 12) (v := .ref a19) (C := RX12) (T := TX12) (N := 56) hx hb hU inlX12 hown hK hP 3 rfl rfl 40 (by decide) (hU _ wd_190) (fun _ h9 => h9) rfl dX12_orders_288 ?_
      refine lv_iload hx hb dX12_orders_291 (lv_at hl 0 rfl) ?_
      refine lv_aload_n hx hb dX12_orders_293 rfl (lv_at hl 3 rfl) ?_
      refine va_get (D := (dC, dI)) (ci := 12) (v := .ref a31) (C := RX12) (T := TX12) (N := 56) hx hb hU inlX12 hown hK hP 3 rfl rfl 55 (by decide) (hU _ wd_204) (fun _ h9 => h9) rfl dX12_orders_294 ?_
      refine lv_iload hx hb dX12_orders_297 (lv_at hl 0 rfl) ?_
      refine va_iald hx hb hK hP 1 0 rfl rfl (vp_in_nI (n := 15) (by decide) (by decide)) dX12_orders_299 ?_
      refine tk_topi (y := 0) rfl ?_
      refine va_iast hx hb hK hP hD hS 0 0 rfl rfl (vp_in_nI (n := 15) (by decide) (by decide)) dX12_orders_300 (fun H locs hP hD hS => ?_)
      have hP : va_P (dC, dI) vwCl [(a19, .inl (cI, 16, .inl z0)), (a31, .inl (cI, 16, .inl z0)), (a1, .inl (cI, 1560, .inl w0)), (a0, .inr (12, [.ref a1, .ref a2, .ref a3, .int 0, .ref a4, .int 0, .int 0, .int 0, .int 0, .int 0, .int (-1), .int 0, .int 0, .int 0, .int 0, .ref a5, .ref a6, .ref a7, .ref a8, .ref a9, .ref a10, .ref a11, .ref a12, .int 0, .int 0, .int 0, .int 0, .int 0, .ref a13, .int 0, .ref a14, .ref a15, .int 0, .int 0, .ref a16, .int 0, .ref a17, .ref a18, .int 0, .int (-1), .ref a19, .ref a20, .ref a21, .int 0, .ref a22, .ref a23, .ref a24, .ref a25, .ref a26, .ref a27, .ref a28, .ref a29, .ref a30, .int 0, .int 0, .ref a31]))] H := by rw [upd_z0] at hP; exact hP
      have hD : va_D A [(a19, .inl (cI, 16, .inl z0)), (a31, .inl (cI, 16, .inl z0)), (a1, .inl (cI, 1560, .inl w0)), (a0, .inr (12, [.ref a1, .ref a2, .ref a3, .int 0, .ref a4, .int 0, .int 0, .int 0, .int 0, .int 0, .int (-1), .int 0, .int 0, .int 0, .int 0, .ref a5, .ref a6, .ref a7, .ref a8, .ref a9, .ref a10, .ref a11, .ref a12, .int 0, .int 0, .int 0, .int 0, .int 0, .ref a13, .int 0, .ref a14, .ref a15, .int 0, .int 0, .ref a16, .int 0, .ref a17, .ref a18, .int 0, .int (-1), .ref a19, .ref a20, .ref a21, .int 0, .ref a22, .ref a23, .ref a24, .ref a25, .ref a26, .ref a27, .ref a28, .ref a29, .ref a30, .int 0, .int 0, .ref a31]))] := by rw [upd_z0] at hD; exact hD
      refine lv_iinc (v := 16) (lv' := [(5, .int 16), (4, .int 0), (3, .int 0), (0, .ref a0), (1, .int 2), (2, .int 0)]) hx hb dX12_orders_301 hl (k := 0) rfl (by decide) (by decide) rfl (fun ls hl => ?_)
      refine lv_goto (tgt := 280) hx hb dX12_orders_304 (by decide) ?_
      refine lv_iload hx hb dX12_orders_280 (lv_at hl 0 rfl) ?_
      refine lv_bipush (v := 16) hx hb dX12_orders_282 (by decide) ?_
      refine lv_icmp_ge (tgt := 307) hx hb dX12_orders_284 (by decide) (fun _ => ?_) (fun c9 => absurd (by decide) c9) 
      refine lv_iload_n hx hb dX12_orders_307 rfl (lv_at hl 5 rfl) ?_
      refine lv_if_ne (tgt := 318) hx hb dX12_orders_308 (by decide) (fun c9 => absurd (by decide) c9) (fun _ => ?_)
      refine lv_aload_n hx hb dX12_orders_311 rfl (lv_at hl 3 rfl) ?_
      refine va_get (D := (dC, dI)) (ci := 12) (v := .int 0) (C := RX12) (T := TX12) (N := 56) hx hb hU inlX12 hown hK hP 3 rfl rfl 54 (by decide) (hU _ wd_1242) (fun _ h9 => h9) rfl dX12_orders_312 ?_
      refine lv_goto (tgt := 327) hx hb dX12_orders_315 (by decide) ?_
      have hP9 := hP.sub (ws' := []) [] rfl
      have hD9 := hD.sub (ws' := []) [] (by decide) rfl
      refine W.widen (k := 0) (n := 0) (Nat.le_of_ble_eq_true rfl) (Nat.le_of_ble_eq_true rfl) ?_
      exact W.iret (v := 0) hx hb hr (fun t ht hW => ⟨⟨0, [], rfl, ⟨by decide, rfl⟩, by rw [ht]; exact hP9, va_K.moved hW.alike hK, hD9⟩, hS.F ht⟩) hS.2.2 dX12_orders_327
    by_cases c_41 : x1 = 1
    · subst c_41
      refine lv_aload_n hx hb dX12_orders_0 rfl (lv_at hl 0 rfl) ?_
      refine lv_iconst (v := 0) hx hb dX12_orders_1 (by decide) ?_
      refine va_put (D := (dC, dI)) (ci := 12) (v := .int 0) (ty := .int) (C := RX12) (T := TX12) (N := 56) hx hb hU inlX12 tyX12 tyX12_ok nmX12 hown hK hP hD hS 0 rfl rfl 53 (by decide) (hU _ wd_1241) (fun _ h9 => h9) rfl (by decide +kernel) rfl rfl (Nat.le_of_ble_eq_true rfl) dX12_orders_2 (fun H locs hP hD hS => ?_)
      have hP : va_P (dC, dI) vwCl [(a0, .inr (12, [.ref a1, .ref a2, .ref a3, .int 0, .ref a4, .int 0, .int 0, .int 0, .int 0, .int 0, .int (-1), .int 0, .int 0, .int 0, .int 0, .ref a5, .ref a6, .ref a7, .ref a8, .ref a9, .ref a10, .ref a11, .ref a12, .int 0, .int 0, .int 0, .int 0, .int 0, .ref a13, .int 0, .ref a14, .ref a15, .int 0, .int 0, .ref a16, .int 0, .ref a17, .ref a18, .int 0, .int (-1), .ref a19, .ref a20, .ref a21, .int 0, .ref a22, .ref a23, .ref a24, .ref a25, .ref a26, .ref a27, .ref a28, .ref a29, .ref a30, .int 0, .int 0, .ref a31])), (a1, .inl (cI, 1560, .inl w0)), (a19, .inl (cI, 16, .inl z0)), (a31, .inl (cI, 16, .inl z0))] H := hP
      have hD : va_D A [(a0, .inr (12, [.ref a1, .ref a2, .ref a3, .int 0, .ref a4, .int 0, .int 0, .int 0, .int 0, .int 0, .int (-1), .int 0, .int 0, .int 0, .int 0, .ref a5, .ref a6, .ref a7, .ref a8, .ref a9, .ref a10, .ref a11, .ref a12, .int 0, .int 0, .int 0, .int 0, .int 0, .ref a13, .int 0, .ref a14, .ref a15, .int 0, .int 0, .ref a16, .int 0, .ref a17, .ref a18, .int 0, .int (-1), .ref a19, .ref a20, .ref a21, .int 0, .ref a22, .ref a23, .ref a24, .ref a25, .ref a26, .ref a27, .ref a28, .ref a29, .ref a30, .int 0, .int 0, .ref a31])), (a1, .inl (cI, 1560, .inl w0)), (a19, .inl (cI, 16, .inl z0)), (a31, .inl (cI, 16, .inl z0))] := hD
      refine lv_iconst (v := 0) hx hb dX12_orders_5 (by decide) ?_
      refine lv_istore_n (lv' := [(3, .int 0), (0, .ref a0), (1, .int 2), (2, .int 1)]) hx hb dX12_orders_6 rfl hl (by decide) rfl (fun ls hl => ?_)
      refine lv_iload_n hx hb dX12_orders_7 rfl (lv_at hl 0 rfl) ?_
      refine lv_aload_n hx hb dX12_orders_8 rfl (lv_at hl 1 rfl) ?_
      refine va_get (D := (dC, dI)) (ci := 12) (v := .ref a1) (C := RX12) (T := TX12) (N := 56) hx hb hU inlX12 hown hK hP 0 rfl rfl 0 (by decide) (hU _ wd_169) (fun _ h9 => h9) rfl dX12_orders_9 ?_
      refine lv_bipush (v := 17) hx hb dX12_orders_12 (by decide) ?_
      refine va_iald hx hb hK hP 1 0 rfl rfl (vp_in_nI (n := 17) (by decide) (by decide)) dX12_orders_14 ?_
      refine tk_topi (y := 0) (by decide) ?_
      refine lv_icmp_ge (tgt := 61) hx hb dX12_orders_15 (by decide) (fun _ => ?_) (fun c9 => absurd (by decide) c9) 
      refine lv_iload_n hx hb dX12_orders_61 rfl (lv_at hl 2 rfl) ?_
      refine lv_iconst (v := 1) hx hb dX12_orders_62 (by decide) ?_
      refine lv_iconst (v := 2) hx hb dX12_orders_63 (by decide) ?_
      refine tk_ri (wr := [(a0, .inr (12, [.ref a1, .ref a2, .ref a3, .int 0, .ref a4, .int 0, .int 0, .int 0, .int 0, .int 0, .int (-1), .int 0, .int 0, .int 0, .int 0, .ref a5, .ref a6, .ref a7, .ref a8, .ref a9, .ref a10, .ref a11, .ref a12, .int 0, .int 0, .int 0, .int 0, .int 0, .ref a13, .int 0, .ref a14, .ref a15, .int 0, .int 0, .ref a16, .int 0, .ref a17, .ref a18, .int 0, .int (-1), .ref a19, .ref a20, .ref a21, .int 0, .ref a22, .ref a23, .ref a24, .ref a25, .ref a26, .ref a27, .ref a28, .ref a29, .ref a30, .int 0, .int 0, .ref a31])), (a1, .inl (cI, 1560, .inl w0)), (a19, .inl (cI, 16, .inl z0)), (a31, .inl (cI, 16, .inl z0))]) (tk_S (As := [.int 2, .int 1, .int 2]) (rest := []) (n := 3) hx hb hml hown hU hN (cc_X12_isIn_10 l (dC, dI) cI cL cZ H.size ) wd_227 wd_228 wd_5 wd_229 (by decide +kernel) ⟨Nat.le_of_ble_eq_true rfl, Nat.le_of_ble_eq_true rfl⟩ hK hP hD [] (by decide) rfl rfl hl.1 rfl (Nat.le_of_ble_eq_true rfl) dX12_orders_64 ⟨Nat.le_of_ble_eq_true rfl, Nat.le_of_ble_eq_true rfl⟩) hP hD hS hA [] [0, 1, 2, 3] rfl rfl (by decide) (by decide) (fun r_42 w_43 H locs hw hP hD hS => ?_)
      obtain ⟨rfl, rfl⟩ := hw
      have hP : va_P (dC, dI) vwCl [(a0, .inr (12, [.ref a1, .ref a2, .ref a3, .int 0, .ref a4, .int 0, .int 0, .int 0, .int 0, .int 0, .int (-1), .int 0, .int 0, .int 0, .int 0, .ref a5, .ref a6, .ref a7, .ref a8, .ref a9, .ref a10, .ref a11, .ref a12, .int 0, .int 0, .int 0, .int 0, .int 0, .ref a13, .int 0, .ref a14, .ref a15, .int 0, .int 0, .ref a16, .int 0, .ref a17, .ref a18, .int 0, .int (-1), .ref a19, .ref a20, .ref a21, .int 0, .ref a22, .ref a23, .ref a24, .ref a25, .ref a26, .ref a27, .ref a28, .ref a29, .ref a30, .int 0, .int 0, .ref a31])), (a1, .inl (cI, 1560, .inl w0)), (a19, .inl (cI, 16, .inl z0)), (a31, .inl (cI, 16, .inl z0))] H := hP
      have hD : va_D A [(a0, .inr (12, [.ref a1, .ref a2, .ref a3, .int 0, .ref a4, .int 0, .int 0, .int 0, .int 0, .int 0, .int (-1), .int 0, .int 0, .int 0, .int 0, .ref a5, .ref a6, .ref a7, .ref a8, .ref a9, .ref a10, .ref a11, .ref a12, .int 0, .int 0, .int 0, .int 0, .int 0, .ref a13, .int 0, .ref a14, .ref a15, .int 0, .int 0, .ref a16, .int 0, .ref a17, .ref a18, .int 0, .int (-1), .ref a19, .ref a20, .ref a21, .int 0, .ref a22, .ref a23, .ref a24, .ref a25, .ref a26, .ref a27, .ref a28, .ref a29, .ref a30, .int 0, .int 0, .ref a31])), (a1, .inl (cI, 1560, .inl w0)), (a19, .inl (cI, 16, .inl z0)), (a31, .inl (cI, 16, .inl z0))] := hD
      refine lv_if_eq (tgt := 104) hx hb dX12_orders_67 (by decide) (fun c9 => absurd c9 (by decide)) (fun _ => ?_)
      refine lv_aload_n hx hb dX12_orders_70 rfl (lv_at hl 1 rfl) ?_
      refine va_get (D := (dC, dI)) (ci := 12) (v := .int 0) (C := RX12) (T := TX12) (N := 56) hx hb hU inlX12 hown hK hP 0 rfl rfl 53 (by decide) (hU _ wd_1241) (fun _ h9 => h9) rfl dX12_orders_71 ?_
      refine lv_bipush (v := 6) hx hb dX12_orders_74 (by decide) ?_
      refine lv_icmp_gt (tgt := 104) hx hb dX12_orders_76 (by decide) (fun c9 => absurd c9 (by decide)) (fun _ => ?_)
      refine lv_iload_n hx hb dX12_orders_79 rfl (lv_at hl 3 rfl) ?_
      refine lv_iconst (v := 0) hx hb dX12_orders_80 (by decide) ?_
      refine lv_iconst (v := 1) hx hb dX12_orders_81 (by decide) ?_
      refine tk_ri (wr := [(a0, .inr (12, [.ref a1, .ref a2, .ref a3, .int 0, .ref a4, .int 0, .int 0, .int 0, .int 0, .int 0, .int (-1), .int 0, .int 0, .int 0, .int 0, .ref a5, .ref a6, .ref a7, .ref a8, .ref a9, .ref a10, .ref a11, .ref a12, .int 0, .int 0, .int 0, .int 0, .int 0, .ref a13, .int 0, .ref a14, .ref a15, .int 0, .int 0, .ref a16, .int 0, .ref a17, .ref a18, .int 0, .int (-1), .ref a19, .ref a20, .ref a21, .int 0, .ref a22, .ref a23, .ref a24, .ref a25, .ref a26, .ref a27, .ref a28, .ref a29, .ref a30, .int 0, .int 0, .ref a31])), (a1, .inl (cI, 1560, .inl w0)), (a19, .inl (cI, 16, .inl z0)), (a31, .inl (cI, 16, .inl z0))]) (tk_S (As := [.int 1, .int 0, .int 1]) (rest := []) (n := 3) hx hb hml hown hU hN (cc_X12_isIn_3 l (dC, dI) cI cL cZ H.size ) wd_227 wd_228 wd_5 wd_229 (by decide +kernel) ⟨Nat.le_of_ble_eq_true rfl, Nat.le_of_ble_eq_true rfl⟩ hK hP hD [] (by decide) rfl rfl hl.1 rfl (Nat.le_of_ble_eq_true rfl) dX12_orders_82 ⟨Nat.le_of_ble_eq_true rfl, Nat.le_of_ble_eq_true rfl⟩) hP hD hS hA [] [0, 1, 2, 3] rfl rfl (by decide) (by decide) (fun r_44 w_45 H locs hw hP hD hS => ?_)
      obtain ⟨rfl, rfl⟩ := hw
      have hP : va_P (dC, dI) vwCl [(a0, .inr (12, [.ref a1, .ref a2, .ref a3, .int 0, .ref a4, .int 0, .int 0, .int 0, .int 0, .int 0, .int (-1), .int 0, .int 0, .int 0, .int 0, .ref a5, .ref a6, .ref a7, .ref a8, .ref a9, .ref a10, .ref a11, .ref a12, .int 0, .int 0, .int 0, .int 0, .int 0, .ref a13, .int 0, .ref a14, .ref a15, .int 0, .int 0, .ref a16, .int 0, .ref a17, .ref a18, .int 0, .int (-1), .ref a19, .ref a20, .ref a21, .int 0, .ref a22, .ref a23, .ref a24, .ref a25, .ref a26, .ref a27, .ref a28, .ref a29, .ref a30, .int 0, .int 0, .ref a31])), (a1, .inl (cI, 1560, .inl w0)), (a19, .inl (cI, 16, .inl z0)), (a31, .inl (cI, 16, .inl z0))] H := hP
      have hD : va_D A [(a0, .inr (12, [.ref a1, .ref a2, .ref a3, .int 0, .ref a4, .int 0, .int 0, .int 0, .int 0, .int 0, .int (-1), .int 0, .int 0, .int 0, .int 0, .ref a5, .ref a6, .ref a7, .ref a8, .ref a9, .ref a10, .ref a11, .ref a12, .int 0, .int 0, .int 0, .int 0, .int 0, .ref a13, .int 0, .ref a14, .ref a15, .int 0, .int 0, .ref a16, .int 0, .ref a17, .ref a18, .int 0, .int (-1), .ref a19, .ref a20, .ref a21, .int 0, .ref a22, .ref a23, .ref a24, .ref a25, .ref a26, .ref a27, .ref a28, .ref a29, .ref a30, .int 0, .int 0, .ref a31])), (a1, .inl (cI, 1560, .inl w0)), (a19, .inl (cI, 16, .inl z0)), (a31, .inl (cI, 16, .inl z0))] := hD
      refine lv_if_ne (tgt := 106) hx hb dX12_orders_85 (by decide) (fun _ => ?_) (fun c9 => absurd c9 (by decide)) 
      refine lv_aload_n hx hb dX12_orders_106 rfl (lv_at hl 1 rfl) ?_
      refine lv_iload_n hx hb dX12_orders_107 rfl (lv_at hl 2 rfl) ?_
      refine tk_ri (wr := [(a19, .inl (cI, 16, .inl z0)), (a31, .inl (cI, 16, .inl z0))]) (tk_V (As := [.int 2]) (rest := []) (n := 1) hx hb hml hown hU hN (cc_X12_wordsUpTo_1 l (dC, dI) cI cL cZ H.size a0 a1 a2 a3 a4 a5 a6 a7 a8 a9 a10 a11 a12 a13 a14 a15 a16 a17 a18 a19 a20 a21 a22 a23 a24 a25 a26 a27 a28 a29 a30 a31) wd_1169 wd_1170 wd_1171 wd_5 wd_1172 (by decide +kernel) ⟨Nat.le_of_ble_eq_true rfl, Nat.le_of_ble_eq_true rfl⟩ hK hP hD [0, 1] (by decide) rfl 0 12 rfl rfl rfl rfl hl.1 rfl (Nat.le_of_ble_eq_true rfl) dX12_orders_108 ⟨Nat.le_of_ble_eq_true rfl, Nat.le_of_ble_eq_true rfl⟩) hP hD hS hA [0, 1] [2, 3] rfl rfl (by decide) (by decide) (fun r_46 w_47 H locs hw hP hD hS => ?_)
      obtain ⟨rfl, rfl⟩ := hw
      have hP : va_P (dC, dI) vwCl [(a19, .inl (cI, 16, .inl z0)), (a31, .inl (cI, 16, .inl z0)), (a0, .inr (12, [.ref a1, .ref a2, .ref a3, .int 0, .ref a4, .int 0, .int 0, .int 0, .int 0, .int 0, .int (-1), .int 0, .int 0, .int 0, .int 0, .ref a5, .ref a6, .ref a7, .ref a8, .ref a9, .ref a10, .ref a11, .ref a12, .int 0, .int 0, .int 0, .int 0, .int 0, .ref a13, .int 0, .ref a14, .ref a15, .int 0, .int 0, .ref a16, .int 0, .ref a17, .ref a18, .int 0, .int (-1), .ref a19, .ref a20, .ref a21, .int 0, .ref a22, .ref a23, .ref a24, .ref a25, .ref a26, .ref a27, .ref a28, .ref a29, .ref a30, .int 0, .int 0, .ref a31])), (a1, .inl (cI, 1560, .inl w0))] H := hP
      have hD : va_D A [(a19, .inl (cI, 16, .inl z0)), (a31, .inl (cI, 16, .inl z0)), (a0, .inr (12, [.ref a1, .ref a2, .ref a3, .int 0, .ref a4, .int 0, .int 0, .int 0, .int 0, .int 0, .int (-1), .int 0, .int 0, .int 0, .int 0, .ref a5, .ref a6, .ref a7, .ref a8, .ref a9, .ref a10, .ref a11, .ref a12, .int 0, .int 0, .int 0, .int 0, .int 0, .ref a13, .int 0, .ref a14, .ref a15, .int 0, .int 0, .ref a16, .int 0, .ref a17, .ref a18, .int 0, .int (-1), .ref a19, .ref a20, .ref a21, .int 0, .ref a22, .ref a23, .ref a24, .ref a25, .ref a26, .ref a27, .ref a28, .ref a29, .ref a30, .int 0, .int 0, .ref a31])), (a1, .inl (cI, 1560, .inl w0))] := hD
      refine lv_istore_n (lv' := [(3, .int 0), (0, .ref a0), (1, .int 2), (2, .int 1)]) hx hb dX12_orders_111 rfl hl (by decide) rfl (fun ls hl => ?_)
      refine lv_iload_n hx hb dX12_orders_112 rfl (lv_at hl 3 rfl) ?_
      refine lv_iconst (v := 1) hx hb dX12_orders_113 (by decide) ?_
      refine lv_icmp_ne (tgt := 119) hx hb dX12_orders_114 (by decide) (fun c9 => absurd (by decide) c9) (fun _ => ?_)
      refine lv_iload_n hx hb dX12_orders_117 rfl (lv_at hl 0 rfl) ?_
      have hP9 := hP.sub (ws' := []) [] rfl
      have hD9 := hD.sub (ws' := []) [] (by decide) rfl
      refine W.widen (k := 0) (n := 0) (Nat.le_of_ble_eq_true rfl) (Nat.le_of_ble_eq_true rfl) ?_
      exact W.iret (v := 0) hx hb hr (fun t ht hW => ⟨⟨0, [], rfl, ⟨by decide, rfl⟩, by rw [ht]; exact hP9, va_K.moved hW.alike hK, hD9⟩, hS.F ht⟩) hS.2.2 dX12_orders_118
    refine lv_aload_n hx hb dX12_orders_0 rfl (lv_at hl 0 rfl) ?_
    refine lv_iconst (v := 0) hx hb dX12_orders_1 (by decide) ?_
    refine va_put (D := (dC, dI)) (ci := 12) (v := .int 0) (ty := .int) (C := RX12) (T := TX12) (N := 56) hx hb hU inlX12 tyX12 tyX12_ok nmX12 hown hK hP hD hS 0 rfl rfl 53 (by decide) (hU _ wd_1241) (fun _ h9 => h9) rfl (by decide +kernel) rfl rfl (Nat.le_of_ble_eq_true rfl) dX12_orders_2 (fun H locs hP hD hS => ?_)
    have hP : va_P (dC, dI) vwCl [(a0, .inr (12, [.ref a1, .ref a2, .ref a3, .int 0, .ref a4, .int 0, .int 0, .int 0, .int 0, .int 0, .int (-1), .int 0, .int 0, .int 0, .int 0, .ref a5, .ref a6, .ref a7, .ref a8, .ref a9, .ref a10, .ref a11, .ref a12, .int 0, .int 0, .int 0, .int 0, .int 0, .ref a13, .int 0, .ref a14, .ref a15, .int 0, .int 0, .ref a16, .int 0, .ref a17, .ref a18, .int 0, .int (-1), .ref a19, .ref a20, .ref a21, .int 0, .ref a22, .ref a23, .ref a24, .ref a25, .ref a26, .ref a27, .ref a28, .ref a29, .ref a30, .int 0, .int 0, .ref a31])), (a1, .inl (cI, 1560, .inl w0)), (a19, .inl (cI, 16, .inl z0)), (a31, .inl (cI, 16, .inl z0))] H := hP
    have hD : va_D A [(a0, .inr (12, [.ref a1, .ref a2, .ref a3, .int 0, .ref a4, .int 0, .int 0, .int 0, .int 0, .int 0, .int (-1), .int 0, .int 0, .int 0, .int 0, .ref a5, .ref a6, .ref a7, .ref a8, .ref a9, .ref a10, .ref a11, .ref a12, .int 0, .int 0, .int 0, .int 0, .int 0, .ref a13, .int 0, .ref a14, .ref a15, .int 0, .int 0, .ref a16, .int 0, .ref a17, .ref a18, .int 0, .int (-1), .ref a19, .ref a20, .ref a21, .int 0, .ref a22, .ref a23, .ref a24, .ref a25, .ref a26, .ref a27, .ref a28, .ref a29, .ref a30, .int 0, .int 0, .ref a31])), (a1, .inl (cI, 1560, .inl w0)), (a19, .inl (cI, 16, .inl z0)), (a31, .inl (cI, 16, .inl z0))] := hD
    refine lv_iconst (v := 0) hx hb dX12_orders_5 (by decide) ?_
    refine lv_istore_n (lv' := [(3, .int 0), (0, .ref a0), (1, .int 2), (2, .int x1)]) hx hb dX12_orders_6 rfl hl (by decide) rfl (fun ls hl => ?_)
    refine lv_iload_n hx hb dX12_orders_7 rfl (lv_at hl 0 rfl) ?_
    refine lv_aload_n hx hb dX12_orders_8 rfl (lv_at hl 1 rfl) ?_
    refine va_get (D := (dC, dI)) (ci := 12) (v := .ref a1) (C := RX12) (T := TX12) (N := 56) hx hb hU inlX12 hown hK hP 0 rfl rfl 0 (by decide) (hU _ wd_169) (fun _ h9 => h9) rfl dX12_orders_9 ?_
    refine lv_bipush (v := 17) hx hb dX12_orders_12 (by decide) ?_
    refine va_iald hx hb hK hP 1 0 rfl rfl (vp_in_nI (n := 17) (by decide) (by decide)) dX12_orders_14 ?_
    refine tk_topi (y := 0) (by decide) ?_
    refine lv_icmp_ge (tgt := 61) hx hb dX12_orders_15 (by decide) (fun _ => ?_) (fun c9 => absurd (by decide) c9) 
    refine lv_iload_n hx hb dX12_orders_61 rfl (lv_at hl 2 rfl) ?_
    refine lv_iconst (v := 1) hx hb dX12_orders_62 (by decide) ?_
    refine lv_iconst (v := 2) hx hb dX12_orders_63 (by decide) ?_
    refine tk_ri (wr := [(a0, .inr (12, [.ref a1, .ref a2, .ref a3, .int 0, .ref a4, .int 0, .int 0, .int 0, .int 0, .int 0, .int (-1), .int 0, .int 0, .int 0, .int 0, .ref a5, .ref a6, .ref a7, .ref a8, .ref a9, .ref a10, .ref a11, .ref a12, .int 0, .int 0, .int 0, .int 0, .int 0, .ref a13, .int 0, .ref a14, .ref a15, .int 0, .int 0, .ref a16, .int 0, .ref a17, .ref a18, .int 0, .int (-1), .ref a19, .ref a20, .ref a21, .int 0, .ref a22, .ref a23, .ref a24, .ref a25, .ref a26, .ref a27, .ref a28, .ref a29, .ref a30, .int 0, .int 0, .ref a31])), (a1, .inl (cI, 1560, .inl w0)), (a19, .inl (cI, 16, .inl z0)), (a31, .inl (cI, 16, .inl z0))]) (tk_S (As := [.int 2, .int 1, .int 2]) (rest := []) (n := 3) hx hb hml hown hU hN (cc_X12_isIn_10 l (dC, dI) cI cL cZ H.size ) wd_227 wd_228 wd_5 wd_229 (by decide +kernel) ⟨Nat.le_of_ble_eq_true rfl, Nat.le_of_ble_eq_true rfl⟩ hK hP hD [] (by decide) rfl rfl hl.1 rfl (Nat.le_of_ble_eq_true rfl) dX12_orders_64 ⟨Nat.le_of_ble_eq_true rfl, Nat.le_of_ble_eq_true rfl⟩) hP hD hS hA [] [0, 1, 2, 3] rfl rfl (by decide) (by decide) (fun r_48 w_49 H locs hw hP hD hS => ?_)
    obtain ⟨rfl, rfl⟩ := hw
    have hP : va_P (dC, dI) vwCl [(a0, .inr (12, [.ref a1, .ref a2, .ref a3, .int 0, .ref a4, .int 0, .int 0, .int 0, .int 0, .int 0, .int (-1), .int 0, .int 0, .int 0, .int 0, .ref a5, .ref a6, .ref a7, .ref a8, .ref a9, .ref a10, .ref a11, .ref a12, .int 0, .int 0, .int 0, .int 0, .int 0, .ref a13, .int 0, .ref a14, .ref a15, .int 0, .int 0, .ref a16, .int 0, .ref a17, .ref a18, .int 0, .int (-1), .ref a19, .ref a20, .ref a21, .int 0, .ref a22, .ref a23, .ref a24, .ref a25, .ref a26, .ref a27, .ref a28, .ref a29, .ref a30, .int 0, .int 0, .ref a31])), (a1, .inl (cI, 1560, .inl w0)), (a19, .inl (cI, 16, .inl z0)), (a31, .inl (cI, 16, .inl z0))] H := hP
    have hD : va_D A [(a0, .inr (12, [.ref a1, .ref a2, .ref a3, .int 0, .ref a4, .int 0, .int 0, .int 0, .int 0, .int 0, .int (-1), .int 0, .int 0, .int 0, .int 0, .ref a5, .ref a6, .ref a7, .ref a8, .ref a9, .ref a10, .ref a11, .ref a12, .int 0, .int 0, .int 0, .int 0, .int 0, .ref a13, .int 0, .ref a14, .ref a15, .int 0, .int 0, .ref a16, .int 0, .ref a17, .ref a18, .int 0, .int (-1), .ref a19, .ref a20, .ref a21, .int 0, .ref a22, .ref a23, .ref a24, .ref a25, .ref a26, .ref a27, .ref a28, .ref a29, .ref a30, .int 0, .int 0, .ref a31])), (a1, .inl (cI, 1560, .inl w0)), (a19, .inl (cI, 16, .inl z0)), (a31, .inl (cI, 16, .inl z0))] := hD
    refine lv_if_eq (tgt := 104) hx hb dX12_orders_67 (by decide) (fun c9 => absurd c9 (by decide)) (fun _ => ?_)
    refine lv_aload_n hx hb dX12_orders_70 rfl (lv_at hl 1 rfl) ?_
    refine va_get (D := (dC, dI)) (ci := 12) (v := .int 0) (C := RX12) (T := TX12) (N := 56) hx hb hU inlX12 hown hK hP 0 rfl rfl 53 (by decide) (hU _ wd_1241) (fun _ h9 => h9) rfl dX12_orders_71 ?_
    refine lv_bipush (v := 6) hx hb dX12_orders_74 (by decide) ?_
    refine lv_icmp_gt (tgt := 104) hx hb dX12_orders_76 (by decide) (fun c9 => absurd c9 (by decide)) (fun _ => ?_)
    refine lv_iload_n hx hb dX12_orders_79 rfl (lv_at hl 3 rfl) ?_
    refine lv_iconst (v := 0) hx hb dX12_orders_80 (by decide) ?_
    refine lv_iconst (v := 1) hx hb dX12_orders_81 (by decide) ?_
    refine tk_ri (wr := [(a0, .inr (12, [.ref a1, .ref a2, .ref a3, .int 0, .ref a4, .int 0, .int 0, .int 0, .int 0, .int 0, .int (-1), .int 0, .int 0, .int 0, .int 0, .ref a5, .ref a6, .ref a7, .ref a8, .ref a9, .ref a10, .ref a11, .ref a12, .int 0, .int 0, .int 0, .int 0, .int 0, .ref a13, .int 0, .ref a14, .ref a15, .int 0, .int 0, .ref a16, .int 0, .ref a17, .ref a18, .int 0, .int (-1), .ref a19, .ref a20, .ref a21, .int 0, .ref a22, .ref a23, .ref a24, .ref a25, .ref a26, .ref a27, .ref a28, .ref a29, .ref a30, .int 0, .int 0, .ref a31])), (a1, .inl (cI, 1560, .inl w0)), (a19, .inl (cI, 16, .inl z0)), (a31, .inl (cI, 16, .inl z0))]) (tk_S (As := [.int x1, .int 0, .int 1]) (rest := []) (n := 3) hx hb hml hown hU hN (cc_X12_isIn_4 l (dC, dI) cI cL cZ H.size x1) wd_227 wd_228 wd_5 wd_229 (by decide +kernel) ⟨Nat.le_of_ble_eq_true rfl, Nat.le_of_ble_eq_true rfl⟩ hK hP hD [] (by decide) rfl rfl hl.1 rfl (Nat.le_of_ble_eq_true rfl) dX12_orders_82 ⟨Nat.le_of_ble_eq_true rfl, Nat.le_of_ble_eq_true rfl⟩) hP hD hS hA [] [0, 1, 2, 3] rfl rfl (by decide) (by decide) (fun r_50 w_51 H locs hw hP hD hS => ?_)
    rcases hw with ⟨c_52, rfl, rfl⟩ | ⟨c_53, c_54, rfl, rfl⟩ | ⟨c_55, c_56, rfl, rfl⟩
    · skip
      have hP : va_P (dC, dI) vwCl [(a0, .inr (12, [.ref a1, .ref a2, .ref a3, .int 0, .ref a4, .int 0, .int 0, .int 0, .int 0, .int 0, .int (-1), .int 0, .int 0, .int 0, .int 0, .ref a5, .ref a6, .ref a7, .ref a8, .ref a9, .ref a10, .ref a11, .ref a12, .int 0, .int 0, .int 0, .int 0, .int 0, .ref a13, .int 0, .ref a14, .ref a15, .int 0, .int 0, .ref a16, .int 0, .ref a17, .ref a18, .int 0, .int (-1), .ref a19, .ref a20, .ref a21, .int 0, .ref a22, .ref a23, .ref a24, .ref a25, .ref a26, .ref a27, .ref a28, .ref a29, .ref a30, .int 0, .int 0, .ref a31])), (a1, .inl (cI, 1560, .inl w0)), (a19, .inl (cI, 16, .inl z0)), (a31, .inl (cI, 16, .inl z0))] H := hP
      have hD : va_D A [(a0, .inr (12, [.ref a1, .ref a2, .ref a3, .int 0, .ref a4, .int 0, .int 0, .int 0, .int 0, .int 0, .int (-1), .int 0, .int 0, .int 0, .int 0, .ref a5, .ref a6, .ref a7, .ref a8, .ref a9, .ref a10, .ref a11, .ref a12, .int 0, .int 0, .int 0, .int 0, .int 0, .ref a13, .int 0, .ref a14, .ref a15, .int 0, .int 0, .ref a16, .int 0, .ref a17, .ref a18, .int 0, .int (-1), .ref a19, .ref a20, .ref a21, .int 0, .ref a22, .ref a23, .ref a24, .ref a25, .ref a26, .ref a27, .ref a28, .ref a29, .ref a30, .int 0, .int 0, .ref a31])), (a1, .inl (cI, 1560, .inl w0)), (a19, .inl (cI, 16, .inl z0)), (a31, .inl (cI, 16, .inl z0))] := hD
      refine lv_if_ne (tgt := 106) hx hb dX12_orders_85 (by decide) (fun c9 => absurd (by decide) c9) (fun _ => ?_)
      refine lv_iload_n hx hb dX12_orders_88 rfl (lv_at hl 3 rfl) ?_
      refine lv_bipush (v := 10) hx hb dX12_orders_89 (by decide) ?_
      refine lv_bipush (v := 9) hx hb dX12_orders_91 (by decide) ?_
      refine lv_aload_n hx hb dX12_orders_93 rfl (lv_at hl 1 rfl) ?_
      refine va_get (D := (dC, dI)) (ci := 12) (v := .int 0) (C := RX12) (T := TX12) (N := 56) hx hb hU inlX12 hown hK hP 0 rfl rfl 53 (by decide) (hU _ wd_1241) (fun _ h9 => h9) rfl dX12_orders_94 ?_
      refine lv_iadd hx hb dX12_orders_97 ?_
      refine tk_topi (y := 9) (by decide) ?_
      refine tk_ri (wr := [(a0, .inr (12, [.ref a1, .ref a2, .ref a3, .int 0, .ref a4, .int 0, .int 0, .int 0, .int 0, .int 0, .int (-1), .int 0, .int 0, .int 0, .int 0, .ref a5, .ref a6, .ref a7, .ref a8, .ref a9, .ref a10, .ref a11, .ref a12, .int 0, .int 0, .int 0, .int 0, .int 0, .ref a13, .int 0, .ref a14, .ref a15, .int 0, .int 0, .ref a16, .int 0, .ref a17, .ref a18, .int 0, .int (-1), .ref a19, .ref a20, .ref a21, .int 0, .ref a22, .ref a23, .ref a24, .ref a25, .ref a26, .ref a27, .ref a28, .ref a29, .ref a30, .int 0, .int 0, .ref a31])), (a1, .inl (cI, 1560, .inl w0)), (a19, .inl (cI, 16, .inl z0)), (a31, .inl (cI, 16, .inl z0))]) (tk_S (As := [.int x1, .int 10, .int 9]) (rest := []) (n := 3) hx hb hml hown hU hN (cc_X12_isIn_9 l (dC, dI) cI cL cZ H.size x1) wd_227 wd_228 wd_5 wd_229 (by decide +kernel) ⟨Nat.le_of_ble_eq_true rfl, Nat.le_of_ble_eq_true rfl⟩ hK hP hD [] (by decide) rfl rfl hl.1 rfl (Nat.le_of_ble_eq_true rfl) dX12_orders_98 ⟨Nat.le_of_ble_eq_true rfl, Nat.le_of_ble_eq_true rfl⟩) hP hD hS hA [] [0, 1, 2, 3] rfl rfl (by decide) (by decide) (fun r_57 w_58 H locs hw hP hD hS => ?_)
      obtain ⟨rfl, rfl⟩ := hw
      have hP : va_P (dC, dI) vwCl [(a0, .inr (12, [.ref a1, .ref a2, .ref a3, .int 0, .ref a4, .int 0, .int 0, .int 0, .int 0, .int 0, .int (-1), .int 0, .int 0, .int 0, .int 0, .ref a5, .ref a6, .ref a7, .ref a8, .ref a9, .ref a10, .ref a11, .ref a12, .int 0, .int 0, .int 0, .int 0, .int 0, .ref a13, .int 0, .ref a14, .ref a15, .int 0, .int 0, .ref a16, .int 0, .ref a17, .ref a18, .int 0, .int (-1), .ref a19, .ref a20, .ref a21, .int 0, .ref a22, .ref a23, .ref a24, .ref a25, .ref a26, .ref a27, .ref a28, .ref a29, .ref a30, .int 0, .int 0, .ref a31])), (a1, .inl (cI, 1560, .inl w0)), (a19, .inl (cI, 16, .inl z0)), (a31, .inl (cI, 16, .inl z0))] H := hP
      have hD : va_D A [(a0, .inr (12, [.ref a1, .ref a2, .ref a3, .int 0, .ref a4, .int 0, .int 0, .int 0, .int 0, .int 0, .int (-1), .int 0, .int 0, .int 0, .int 0, .ref a5, .ref a6, .ref a7, .ref a8, .ref a9, .ref a10, .ref a11, .ref a12, .int 0, .int 0, .int 0, .int 0, .int 0, .ref a13, .int 0, .ref a14, .ref a15, .int 0, .int 0, .ref a16, .int 0, .ref a17, .ref a18, .int 0, .int (-1), .ref a19, .ref a20, .ref a21, .int 0, .ref a22, .ref a23, .ref a24, .ref a25, .ref a26, .ref a27, .ref a28, .ref a29, .ref a30, .int 0, .int 0, .ref a31])), (a1, .inl (cI, 1560, .inl w0)), (a19, .inl (cI, 16, .inl z0)), (a31, .inl (cI, 16, .inl z0))] := hD
      refine lv_if_ne (tgt := 106) hx hb dX12_orders_101 (by decide) (fun c9 => absurd (by decide) c9) (fun _ => ?_)
      refine lv_iconst (v := (-1)) hx hb dX12_orders_104 (by decide) ?_
      have hP9 := hP.sub (ws' := []) [] rfl
      have hD9 := hD.sub (ws' := []) [] (by decide) rfl
      refine W.widen (k := 0) (n := 0) (Nat.le_of_ble_eq_true rfl) (Nat.le_of_ble_eq_true rfl) ?_
      exact W.iret (v := (-1)) hx hb hr (fun t ht hW => ⟨⟨(-1), [], rfl, ⟨by simp [an_orders, c_1, c_32, c_41], rfl⟩, by rw [ht]; exact hP9, va_K.moved hW.alike hK, hD9⟩, hS.F ht⟩) hS.2.2 dX12_orders_105
    · skip
      have hP : va_P (dC, dI) vwCl [(a0, .inr (12, [.ref a1, .ref a2, .ref a3, .int 0, .ref a4, .int 0, .int 0, .int 0, .int 0, .int 0, .int (-1), .int 0, .int 0, .int 0, .int 0, .ref a5, .ref a6, .ref a7, .ref a8, .ref a9, .ref a10, .ref a11, .ref a12, .int 0, .int 0, .int 0, .int 0, .int 0, .ref a13, .int 0, .ref a14, .ref a15, .int 0, .int 0, .ref a16, .int 0, .ref a17, .ref a18, .int 0, .int (-1), .ref a19, .ref a20, .ref a21, .int 0, .ref a22, .ref a23, .ref a24, .ref a25, .ref a26, .ref a27, .ref a28, .ref a29, .ref a30, .int 0, .int 0, .ref a31])), (a1, .inl (cI, 1560, .inl w0)), (a19, .inl (cI, 16, .inl z0)), (a31, .inl (cI, 16, .inl z0))] H := hP
      have hD : va_D A [(a0, .inr (12, [.ref a1, .ref a2, .ref a3, .int 0, .ref a4, .int 0, .int 0, .int 0, .int 0, .int 0, .int (-1), .int 0, .int 0, .int 0, .int 0, .ref a5, .ref a6, .ref a7, .ref a8, .ref a9, .ref a10, .ref a11, .ref a12, .int 0, .int 0, .int 0, .int 0, .int 0, .ref a13, .int 0, .ref a14, .ref a15, .int 0, .int 0, .ref a16, .int 0, .ref a17, .ref a18, .int 0, .int (-1), .ref a19, .ref a20, .ref a21, .int 0, .ref a22, .ref a23, .ref a24, .ref a25, .ref a26, .ref a27, .ref a28, .ref a29, .ref a30, .int 0, .int 0, .ref a31])), (a1, .inl (cI, 1560, .inl w0)), (a19, .inl (cI, 16, .inl z0)), (a31, .inl (cI, 16, .inl z0))] := hD
      refine lv_if_ne (tgt := 106) hx hb dX12_orders_85 (by decide) (fun c9 => absurd (by decide) c9) (fun _ => ?_)
      refine lv_iload_n hx hb dX12_orders_88 rfl (lv_at hl 3 rfl) ?_
      refine lv_bipush (v := 10) hx hb dX12_orders_89 (by decide) ?_
      refine lv_bipush (v := 9) hx hb dX12_orders_91 (by decide) ?_
      refine lv_aload_n hx hb dX12_orders_93 rfl (lv_at hl 1 rfl) ?_
      refine va_get (D := (dC, dI)) (ci := 12) (v := .int 0) (C := RX12) (T := TX12) (N := 56) hx hb hU inlX12 hown hK hP 0 rfl rfl 53 (by decide) (hU _ wd_1241) (fun _ h9 => h9) rfl dX12_orders_94 ?_
      refine lv_iadd hx hb dX12_orders_97 ?_
      refine tk_topi (y := 9) (by decide) ?_
      refine tk_ri (wr := [(a0, .inr (12, [.ref a1, .ref a2, .ref a3, .int 0, .ref a4, .int 0, .int 0, .int 0, .int 0, .int 0, .int (-1), .int 0, .int 0, .int 0, .int 0, .ref a5, .ref a6, .ref a7, .ref a8, .ref a9, .ref a10, .ref a11, .ref a12, .int 0, .int 0, .int 0, .int 0, .int 0, .ref a13, .int 0, .ref a14, .ref a15, .int 0, .int 0, .ref a16, .int 0, .ref a17, .ref a18, .int 0, .int (-1), .ref a19, .ref a20, .ref a21, .int 0, .ref a22, .ref a23, .ref a24, .ref a25, .ref a26, .ref a27, .ref a28, .ref a29, .ref a30, .int 0, .int 0, .ref a31])), (a1, .inl (cI, 1560, .inl w0)), (a19, .inl (cI, 16, .inl z0)), (a31, .inl (cI, 16, .inl z0))]) (tk_S (As := [.int x1, .int 10, .int 9]) (rest := []) (n := 3) hx hb hml hown hU hN (cc_X12_isIn_9 l (dC, dI) cI cL cZ H.size x1) wd_227 wd_228 wd_5 wd_229 (by decide +kernel) ⟨Nat.le_of_ble_eq_true rfl, Nat.le_of_ble_eq_true rfl⟩ hK hP hD [] (by decide) rfl rfl hl.1 rfl (Nat.le_of_ble_eq_true rfl) dX12_orders_98 ⟨Nat.le_of_ble_eq_true rfl, Nat.le_of_ble_eq_true rfl⟩) hP hD hS hA [] [0, 1, 2, 3] rfl rfl (by decide) (by decide) (fun r_59 w_60 H locs hw hP hD hS => ?_)
      obtain ⟨rfl, rfl⟩ := hw
      have hP : va_P (dC, dI) vwCl [(a0, .inr (12, [.ref a1, .ref a2, .ref a3, .int 0, .ref a4, .int 0, .int 0, .int 0, .int 0, .int 0, .int (-1), .int 0, .int 0, .int 0, .int 0, .ref a5, .ref a6, .ref a7, .ref a8, .ref a9, .ref a10, .ref a11, .ref a12, .int 0, .int 0, .int 0, .int 0, .int 0, .ref a13, .int 0, .ref a14, .ref a15, .int 0, .int 0, .ref a16, .int 0, .ref a17, .ref a18, .int 0, .int (-1), .ref a19, .ref a20, .ref a21, .int 0, .ref a22, .ref a23, .ref a24, .ref a25, .ref a26, .ref a27, .ref a28, .ref a29, .ref a30, .int 0, .int 0, .ref a31])), (a1, .inl (cI, 1560, .inl w0)), (a19, .inl (cI, 16, .inl z0)), (a31, .inl (cI, 16, .inl z0))] H := hP
      have hD : va_D A [(a0, .inr (12, [.ref a1, .ref a2, .ref a3, .int 0, .ref a4, .int 0, .int 0, .int 0, .int 0, .int 0, .int (-1), .int 0, .int 0, .int 0, .int 0, .ref a5, .ref a6, .ref a7, .ref a8, .ref a9, .ref a10, .ref a11, .ref a12, .int 0, .int 0, .int 0, .int 0, .int 0, .ref a13, .int 0, .ref a14, .ref a15, .int 0, .int 0, .ref a16, .int 0, .ref a17, .ref a18, .int 0, .int (-1), .ref a19, .ref a20, .ref a21, .int 0, .ref a22, .ref a23, .ref a24, .ref a25, .ref a26, .ref a27, .ref a28, .ref a29, .ref a30, .int 0, .int 0, .ref a31])), (a1, .inl (cI, 1560, .inl w0)), (a19, .inl (cI, 16, .inl z0)), (a31, .inl (cI, 16, .inl z0))] := hD
      refine lv_if_ne (tgt := 106) hx hb dX12_orders_101 (by decide) (fun c9 => absurd (by decide) c9) (fun _ => ?_)
      refine lv_iconst (v := (-1)) hx hb dX12_orders_104 (by decide) ?_
      have hP9 := hP.sub (ws' := []) [] rfl
      have hD9 := hD.sub (ws' := []) [] (by decide) rfl
      refine W.widen (k := 0) (n := 0) (Nat.le_of_ble_eq_true rfl) (Nat.le_of_ble_eq_true rfl) ?_
      exact W.iret (v := (-1)) hx hb hr (fun t ht hW => ⟨⟨(-1), [], rfl, ⟨by simp [an_orders, c_1, c_32, c_41], rfl⟩, by rw [ht]; exact hP9, va_K.moved hW.alike hK, hD9⟩, hS.F ht⟩) hS.2.2 dX12_orders_105
    · skip
      exfalso
      simp only [Int32.lt_iff_toInt_lt, Int32.le_iff_toInt_le, ← Int32.toInt_inj, ti_0, ti_1] at c_32 c_41 c_55 c_56
      omega
  refine lv_aload_n hx hb dX12_orders_0 rfl (lv_at hl 0 rfl) ?_
  refine lv_iconst (v := 0) hx hb dX12_orders_1 (by decide) ?_
  refine va_put (D := (dC, dI)) (ci := 12) (v := .int 0) (ty := .int) (C := RX12) (T := TX12) (N := 56) hx hb hU inlX12 tyX12 tyX12_ok nmX12 hown hK hP hD hS 0 rfl rfl 53 (by decide) (hU _ wd_1241) (fun _ h9 => h9) rfl (by decide +kernel) rfl rfl (Nat.le_of_ble_eq_true rfl) dX12_orders_2 (fun H locs hP hD hS => ?_)
  have hP : va_P (dC, dI) vwCl [(a0, .inr (12, [.ref a1, .ref a2, .ref a3, .int 0, .ref a4, .int 0, .int 0, .int 0, .int 0, .int 0, .int (-1), .int 0, .int 0, .int 0, .int 0, .ref a5, .ref a6, .ref a7, .ref a8, .ref a9, .ref a10, .ref a11, .ref a12, .int 0, .int 0, .int 0, .int 0, .int 0, .ref a13, .int 0, .ref a14, .ref a15, .int 0, .int 0, .ref a16, .int 0, .ref a17, .ref a18, .int 0, .int (-1), .ref a19, .ref a20, .ref a21, .int 0, .ref a22, .ref a23, .ref a24, .ref a25, .ref a26, .ref a27, .ref a28, .ref a29, .ref a30, .int 0, .int 0, .ref a31])), (a1, .inl (cI, 1560, .inl w0)), (a19, .inl (cI, 16, .inl z0)), (a31, .inl (cI, 16, .inl z0))] H := hP
  have hD : va_D A [(a0, .inr (12, [.ref a1, .ref a2, .ref a3, .int 0, .ref a4, .int 0, .int 0, .int 0, .int 0, .int 0, .int (-1), .int 0, .int 0, .int 0, .int 0, .ref a5, .ref a6, .ref a7, .ref a8, .ref a9, .ref a10, .ref a11, .ref a12, .int 0, .int 0, .int 0, .int 0, .int 0, .ref a13, .int 0, .ref a14, .ref a15, .int 0, .int 0, .ref a16, .int 0, .ref a17, .ref a18, .int 0, .int (-1), .ref a19, .ref a20, .ref a21, .int 0, .ref a22, .ref a23, .ref a24, .ref a25, .ref a26, .ref a27, .ref a28, .ref a29, .ref a30, .int 0, .int 0, .ref a31])), (a1, .inl (cI, 1560, .inl w0)), (a19, .inl (cI, 16, .inl z0)), (a31, .inl (cI, 16, .inl z0))] := hD
  refine lv_iconst (v := 0) hx hb dX12_orders_5 (by decide) ?_
  refine lv_istore_n (lv' := [(3, .int 0), (0, .ref a0), (1, .int x0), (2, .int x1)]) hx hb dX12_orders_6 rfl hl (by decide) rfl (fun ls hl => ?_)
  refine lv_iload_n hx hb dX12_orders_7 rfl (lv_at hl 0 rfl) ?_
  refine lv_aload_n hx hb dX12_orders_8 rfl (lv_at hl 1 rfl) ?_
  refine va_get (D := (dC, dI)) (ci := 12) (v := .ref a1) (C := RX12) (T := TX12) (N := 56) hx hb hU inlX12 hown hK hP 0 rfl rfl 0 (by decide) (hU _ wd_169) (fun _ h9 => h9) rfl dX12_orders_9 ?_
  refine lv_bipush (v := 17) hx hb dX12_orders_12 (by decide) ?_
  refine va_iald hx hb hK hP 1 0 rfl rfl (vp_in_nI (n := 17) (by decide) (by decide)) dX12_orders_14 ?_
  refine tk_topi (y := 0) (by decide) ?_
  refine lv_icmp_ge (tgt := 61) hx hb dX12_orders_15 (by decide) (fun _ => ?_) (fun c9 => absurd (by decide) c9) 
  refine lv_iload_n hx hb dX12_orders_61 rfl (lv_at hl 2 rfl) ?_
  refine lv_iconst (v := 1) hx hb dX12_orders_62 (by decide) ?_
  refine lv_iconst (v := 2) hx hb dX12_orders_63 (by decide) ?_
  refine tk_ri (wr := [(a0, .inr (12, [.ref a1, .ref a2, .ref a3, .int 0, .ref a4, .int 0, .int 0, .int 0, .int 0, .int 0, .int (-1), .int 0, .int 0, .int 0, .int 0, .ref a5, .ref a6, .ref a7, .ref a8, .ref a9, .ref a10, .ref a11, .ref a12, .int 0, .int 0, .int 0, .int 0, .int 0, .ref a13, .int 0, .ref a14, .ref a15, .int 0, .int 0, .ref a16, .int 0, .ref a17, .ref a18, .int 0, .int (-1), .ref a19, .ref a20, .ref a21, .int 0, .ref a22, .ref a23, .ref a24, .ref a25, .ref a26, .ref a27, .ref a28, .ref a29, .ref a30, .int 0, .int 0, .ref a31])), (a1, .inl (cI, 1560, .inl w0)), (a19, .inl (cI, 16, .inl z0)), (a31, .inl (cI, 16, .inl z0))]) (tk_S (As := [.int x0, .int 1, .int 2]) (rest := []) (n := 3) hx hb hml hown hU hN (cc_X12_isIn_11 l (dC, dI) cI cL cZ H.size x0) wd_227 wd_228 wd_5 wd_229 (by decide +kernel) ⟨Nat.le_of_ble_eq_true rfl, Nat.le_of_ble_eq_true rfl⟩ hK hP hD [] (by decide) rfl rfl hl.1 rfl (Nat.le_of_ble_eq_true rfl) dX12_orders_64 ⟨Nat.le_of_ble_eq_true rfl, Nat.le_of_ble_eq_true rfl⟩) hP hD hS hA [] [0, 1, 2, 3] rfl rfl (by decide) (by decide) (fun r_61 w_62 H locs hw hP hD hS => ?_)
  rcases hw with ⟨c_63, rfl, rfl⟩ | ⟨c_64, c_65, rfl, rfl⟩ | ⟨c_66, c_67, rfl, rfl⟩
  · skip
    have hP : va_P (dC, dI) vwCl [(a0, .inr (12, [.ref a1, .ref a2, .ref a3, .int 0, .ref a4, .int 0, .int 0, .int 0, .int 0, .int 0, .int (-1), .int 0, .int 0, .int 0, .int 0, .ref a5, .ref a6, .ref a7, .ref a8, .ref a9, .ref a10, .ref a11, .ref a12, .int 0, .int 0, .int 0, .int 0, .int 0, .ref a13, .int 0, .ref a14, .ref a15, .int 0, .int 0, .ref a16, .int 0, .ref a17, .ref a18, .int 0, .int (-1), .ref a19, .ref a20, .ref a21, .int 0, .ref a22, .ref a23, .ref a24, .ref a25, .ref a26, .ref a27, .ref a28, .ref a29, .ref a30, .int 0, .int 0, .ref a31])), (a1, .inl (cI, 1560, .inl w0)), (a19, .inl (cI, 16, .inl z0)), (a31, .inl (cI, 16, .inl z0))] H := hP
    have hD : va_D A [(a0, .inr (12, [.ref a1, .ref a2, .ref a3, .int 0, .ref a4, .int 0, .int 0, .int 0, .int 0, .int 0, .int (-1), .int 0, .int 0, .int 0, .int 0, .ref a5, .ref a6, .ref a7, .ref a8, .ref a9, .ref a10, .ref a11, .ref a12, .int 0, .int 0, .int 0, .int 0, .int 0, .ref a13, .int 0, .ref a14, .ref a15, .int 0, .int 0, .ref a16, .int 0, .ref a17, .ref a18, .int 0, .int (-1), .ref a19, .ref a20, .ref a21, .int 0, .ref a22, .ref a23, .ref a24, .ref a25, .ref a26, .ref a27, .ref a28, .ref a29, .ref a30, .int 0, .int 0, .ref a31])), (a1, .inl (cI, 1560, .inl w0)), (a19, .inl (cI, 16, .inl z0)), (a31, .inl (cI, 16, .inl z0))] := hD
    refine lv_if_eq (tgt := 104) hx hb dX12_orders_67 (by decide) (fun _ => ?_) (fun c9 => absurd (by decide) c9) 
    refine lv_iconst (v := (-1)) hx hb dX12_orders_104 (by decide) ?_
    have hP9 := hP.sub (ws' := []) [] rfl
    have hD9 := hD.sub (ws' := []) [] (by decide) rfl
    refine W.widen (k := 0) (n := 0) (Nat.le_of_ble_eq_true rfl) (Nat.le_of_ble_eq_true rfl) ?_
    exact W.iret (v := (-1)) hx hb hr (fun t ht hW => ⟨⟨(-1), [], rfl, ⟨by simp [an_orders, c_1, c_31], rfl⟩, by rw [ht]; exact hP9, va_K.moved hW.alike hK, hD9⟩, hS.F ht⟩) hS.2.2 dX12_orders_105
  · skip
    have hP : va_P (dC, dI) vwCl [(a0, .inr (12, [.ref a1, .ref a2, .ref a3, .int 0, .ref a4, .int 0, .int 0, .int 0, .int 0, .int 0, .int (-1), .int 0, .int 0, .int 0, .int 0, .ref a5, .ref a6, .ref a7, .ref a8, .ref a9, .ref a10, .ref a11, .ref a12, .int 0, .int 0, .int 0, .int 0, .int 0, .ref a13, .int 0, .ref a14, .ref a15, .int 0, .int 0, .ref a16, .int 0, .ref a17, .ref a18, .int 0, .int (-1), .ref a19, .ref a20, .ref a21, .int 0, .ref a22, .ref a23, .ref a24, .ref a25, .ref a26, .ref a27, .ref a28, .ref a29, .ref a30, .int 0, .int 0, .ref a31])), (a1, .inl (cI, 1560, .inl w0)), (a19, .inl (cI, 16, .inl z0)), (a31, .inl (cI, 16, .inl z0))] H := hP
    have hD : va_D A [(a0, .inr (12, [.ref a1, .ref a2, .ref a3, .int 0, .ref a4, .int 0, .int 0, .int 0, .int 0, .int 0, .int (-1), .int 0, .int 0, .int 0, .int 0, .ref a5, .ref a6, .ref a7, .ref a8, .ref a9, .ref a10, .ref a11, .ref a12, .int 0, .int 0, .int 0, .int 0, .int 0, .ref a13, .int 0, .ref a14, .ref a15, .int 0, .int 0, .ref a16, .int 0, .ref a17, .ref a18, .int 0, .int (-1), .ref a19, .ref a20, .ref a21, .int 0, .ref a22, .ref a23, .ref a24, .ref a25, .ref a26, .ref a27, .ref a28, .ref a29, .ref a30, .int 0, .int 0, .ref a31])), (a1, .inl (cI, 1560, .inl w0)), (a19, .inl (cI, 16, .inl z0)), (a31, .inl (cI, 16, .inl z0))] := hD
    refine lv_if_eq (tgt := 104) hx hb dX12_orders_67 (by decide) (fun _ => ?_) (fun c9 => absurd (by decide) c9) 
    refine lv_iconst (v := (-1)) hx hb dX12_orders_104 (by decide) ?_
    have hP9 := hP.sub (ws' := []) [] rfl
    have hD9 := hD.sub (ws' := []) [] (by decide) rfl
    refine W.widen (k := 0) (n := 0) (Nat.le_of_ble_eq_true rfl) (Nat.le_of_ble_eq_true rfl) ?_
    exact W.iret (v := (-1)) hx hb hr (fun t ht hW => ⟨⟨(-1), [], rfl, ⟨by simp [an_orders, c_1, c_31], rfl⟩, by rw [ht]; exact hP9, va_K.moved hW.alike hK, hD9⟩, hS.F ht⟩) hS.2.2 dX12_orders_105
  · skip
    exfalso
    simp only [Int32.lt_iff_toInt_lt, Int32.le_iff_toInt_le, ← Int32.toInt_inj, ti_0, ti_1, ti_2] at c_1 c_31 c_66 c_67
    omega
