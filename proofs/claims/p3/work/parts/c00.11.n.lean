set_option maxHeartbeats 8000000 in
set_option maxRecDepth 100000 in
theorem n_X9_init_109 (l : Launch) (D : va_G) (cI cL cZ cR cG cH : ClassId) (sz a0 : Nat) : mC l D cI cL cZ cR cG cH yX9_init cX9_init 2 1 30 2 108 [.ref a0, .int 12] sz [(a0, .inr (9, [.null, .null, .int 0]))] (bt cI cL cZ cR cG cH 109 a0) := by
  obtain ⟨dC, dI⟩ := D
  refine Met.ofW (cc := cX9_init) (maxL := 2) (ret := none) (by decide) rfl ?_
  intro p e s m args below meth c s₁ B hml hv
  obtain ⟨rfl, hsz, hP, hK, hD0, hN⟩ := hv
  have hx := B.exec
  have hb := B.bytes
  have hr := B.returns
  have hU : ∀ w ∈ wsU, w.before _ s = true := fun w h => atoms_spec (ws := wU yX9_init cX9_init 2 none) B.pre w (List.mem_cons_of_mem _ h)
  have hown : s.vm.findClass RX9 = some m.cls := findClass_of_methodNamed B.named
  have hlocks := B.notSynchronized
  have hin : meth.name = "<init>" := (name_of_methodNamed B.named B.method).1
  subst hsz
  have hD := hD0.self (sz := s.heap.size)
  generalize hAe : va_A [(a0, .inr (9, [.null, .null, .int 0]))] s.heap.size = A at hD ⊢
  have hA : ∀ q : Nat, s.heap.size ≤ q → A q := fun q h => by rw [← hAe]; exact Or.inr h
  have hS : va_S A s.heap s.heap [] := va_S.rf
  have hW : cw (dC, dI) cI cL cZ cR cG cH A [(a0, .inr (9, [.null, .null, .int 0]))] [] [] s.heap := ⟨[], fun _ => .inl (cI, 0, .inl z0), fun _ => 0, hP, hD, fun a h => absurd h List.not_mem_nil, fun q h => absurd h List.not_mem_nil, fun q h => absurd h List.not_mem_nil⟩
  have hl := lv_entry ([.ref a0, .int 12]) (n := 2) (Nat.le_of_ble_eq_true rfl)
  rw [lg_entry_eq]
  generalize (lg_sl ([.ref a0, .int 12]) ++ List.replicate (2 - (lg_sl ([.ref a0, .int 12])).length) Slot.unset).toArray = ls at hl ⊢
  have hl : lv_has ls 2 [(0, .ref a0), (1, .int 12)] := hl
  refine lv_aload_n hx hb dX9_init_0 rfl (lv_at hl 0 rfl) ?_
  refine W.objInit hx hb hown (hU _ wd_94) (hU _ wd_10) (hU _ wd_11) rfl (by rw [hml]; exact hl.1) rfl dX9_init_1 (Nat.le_of_ble_eq_true rfl) (Nat.le_of_ble_eq_true rfl) ?_
  refine W.eq (g2 := F0 m 4 ls []) rfl ?_
  refine lv_aload_n hx hb dX9_init_4 rfl (lv_at hl 0 rfl) ?_
  refine lv_iload_n hx hb dX9_init_5 rfl (lv_at hl 1 rfl) ?_
  refine lv_bipush (v := 8) hx hb dX9_init_6 (by decide) ?_
  refine lv_imul hx hb dX9_init_8 ?_
  refine tk_topi (y := 96) (by decide) ?_
  refine cs_newa (atype := .int) (ty := .int) (k := 545) (a0 := (96, .inl z0)) hx hb 0 (hU (.arrayClass .int) wd_12) rfl (fun _ => Iff.rfl) hK rfl hW hS hA (fun _ => rfl) (fun L kd => na_545 L kd) (by decide) (by decide) (Nat.le_of_ble_eq_true rfl) (Nat.le_of_ble_eq_true rfl) (Nat.le_of_ble_eq_true rfl) dX9_init_9 (fun q_1 H hW hS => ?_)
  have hW : cw (dC, dI) cI cL cZ cR cG cH A [(a0, .inr (9, [.null, .null, .int 0]))] [(q_1, 545)] [] H := hW
  refine W.widen (k := 1) (n := 96) (Nat.le_of_ble_eq_true rfl) (Nat.le_of_ble_eq_true rfl) ?_
  obtain ⟨L, f, kd, hP, hD, hB, hR, hF⟩ := hW
  refine va_putF (D := (dC, dI)) (ci := 9) (v := .ref q_1) (ty := .array .int) (C := RX9) (T := TX9) (N := 3) hx hb hU inlX9 tyX9 tyX9_ok nmX9 hown hK hP hD hS 0 rfl rfl 0 (by decide) (hU _ wd_95) (fun _ h9 => h9) rfl hin rfl (by decide +kernel) rfl rfl (Nat.le_of_ble_eq_true rfl) dX9_init_11 (fun H locs hP hD hS => ?_)
  have hW : cw (dC, dI) cI cL cZ cR cG cH A [(a0, .inr (9, [.ref q_1, .null, .int 0]))] [(q_1, 545)] [] H := ⟨L, f, kd, hP, hD, hB, hR, hF⟩
  refine lv_aload_n hx hb dX9_init_14 rfl (lv_at hl 0 rfl) ?_
  refine lv_iload_n hx hb dX9_init_15 rfl (lv_at hl 1 rfl) ?_
  refine cs_newa (atype := .int) (ty := .int) (k := 546) (a0 := (12, .inl z0)) hx hb 0 (hU (.arrayClass .int) wd_12) rfl (fun _ => Iff.rfl) hK rfl hW hS hA (fun _ => rfl) (fun L kd => na_546 L kd) (by decide) (by decide) (Nat.le_of_ble_eq_true rfl) (Nat.le_of_ble_eq_true rfl) (Nat.le_of_ble_eq_true rfl) dX9_init_16 (fun q_2 H hW hS => ?_)
  have hW : cw (dC, dI) cI cL cZ cR cG cH A [(a0, .inr (9, [.ref q_1, .null, .int 0]))] [(q_1, 545), (q_2, 546)] [] H := hW
  refine W.widen (k := 2) (n := 108) (Nat.le_of_ble_eq_true rfl) (Nat.le_of_ble_eq_true rfl) ?_
  obtain ⟨L, f, kd, hP, hD, hB, hR, hF⟩ := hW
  refine va_putF (D := (dC, dI)) (ci := 9) (v := .ref q_2) (ty := .array .int) (C := RX9) (T := TX9) (N := 3) hx hb hU inlX9 tyX9 tyX9_ok nmX9 hown hK hP hD hS 0 rfl rfl 1 (by decide) (hU _ wd_96) (fun _ h9 => h9) rfl hin rfl (by decide +kernel) rfl rfl (Nat.le_of_ble_eq_true rfl) dX9_init_18 (fun H locs hP hD hS => ?_)
  have hW : cw (dC, dI) cI cL cZ cR cG cH A [(a0, .inr (9, [.ref q_1, .ref q_2, .int 0]))] [(q_1, 545), (q_2, 546)] [] H := ⟨L, f, kd, hP, hD, hB, hR, hF⟩
  obtain ⟨w9, hP9, hD9, hbt⟩ := cw_done (k := 109) hW (fun L kd h => ⟨show ok_109 L kd _ from ⟨q_1, q_2, 0, rfl, h (q_1, 545) (List.mem_of_getElem? (i := 0) rfl), h (q_2, 546) (List.mem_of_getElem? (i := 1) rfl), (by decide)⟩, ⟨fun h => absurd h (by decide), fun h => absurd h (by decide), fun h => absurd h (by decide), fun h => absurd h (by decide), fun h => absurd h (by decide), fun h => absurd h (by decide)⟩⟩)
  refine W.widen (k := 2) (n := 108) (Nat.le_of_ble_eq_true rfl) (Nat.le_of_ble_eq_true rfl) ?_
  exact W.vret hx hb hr (fun t ht hW => ⟨⟨w9, rfl, hbt, by rw [ht]; exact hP9, va_K.moved hW.alike hK, hD9⟩, hS.F ht⟩) hS.2.2 dX9_init_21
set_option maxHeartbeats 8000000 in
set_option maxRecDepth 100000 in
theorem n_X9_init_113 (l : Launch) (D : va_G) (cI cL cZ cR cG cH : ClassId) (sz a0 : Nat) : mC l D cI cL cZ cR cG cH yX9_init cX9_init 2 1 30 2 72 [.ref a0, .int 8] sz [(a0, .inr (9, [.null, .null, .int 0]))] (bt cI cL cZ cR cG cH 113 a0) := by
  obtain ⟨dC, dI⟩ := D
  refine Met.ofW (cc := cX9_init) (maxL := 2) (ret := none) (by decide) rfl ?_
  intro p e s m args below meth c s₁ B hml hv
  obtain ⟨rfl, hsz, hP, hK, hD0, hN⟩ := hv
  have hx := B.exec
  have hb := B.bytes
  have hr := B.returns
  have hU : ∀ w ∈ wsU, w.before _ s = true := fun w h => atoms_spec (ws := wU yX9_init cX9_init 2 none) B.pre w (List.mem_cons_of_mem _ h)
  have hown : s.vm.findClass RX9 = some m.cls := findClass_of_methodNamed B.named
  have hlocks := B.notSynchronized
  have hin : meth.name = "<init>" := (name_of_methodNamed B.named B.method).1
  subst hsz
  have hD := hD0.self (sz := s.heap.size)
  generalize hAe : va_A [(a0, .inr (9, [.null, .null, .int 0]))] s.heap.size = A at hD ⊢
  have hA : ∀ q : Nat, s.heap.size ≤ q → A q := fun q h => by rw [← hAe]; exact Or.inr h
  have hS : va_S A s.heap s.heap [] := va_S.rf
  have hW : cw (dC, dI) cI cL cZ cR cG cH A [(a0, .inr (9, [.null, .null, .int 0]))] [] [] s.heap := ⟨[], fun _ => .inl (cI, 0, .inl z0), fun _ => 0, hP, hD, fun a h => absurd h List.not_mem_nil, fun q h => absurd h List.not_mem_nil, fun q h => absurd h List.not_mem_nil⟩
  have hl := lv_entry ([.ref a0, .int 8]) (n := 2) (Nat.le_of_ble_eq_true rfl)
  rw [lg_entry_eq]
  generalize (lg_sl ([.ref a0, .int 8]) ++ List.replicate (2 - (lg_sl ([.ref a0, .int 8])).length) Slot.unset).toArray = ls at hl ⊢
  have hl : lv_has ls 2 [(0, .ref a0), (1, .int 8)] := hl
  refine lv_aload_n hx hb dX9_init_0 rfl (lv_at hl 0 rfl) ?_
  refine W.objInit hx hb hown (hU _ wd_94) (hU _ wd_10) (hU _ wd_11) rfl (by rw [hml]; exact hl.1) rfl dX9_init_1 (Nat.le_of_ble_eq_true rfl) (Nat.le_of_ble_eq_true rfl) ?_
  refine W.eq (g2 := F0 m 4 ls []) rfl ?_
  refine lv_aload_n hx hb dX9_init_4 rfl (lv_at hl 0 rfl) ?_
  refine lv_iload_n hx hb dX9_init_5 rfl (lv_at hl 1 rfl) ?_
  refine lv_bipush (v := 8) hx hb dX9_init_6 (by decide) ?_
  refine lv_imul hx hb dX9_init_8 ?_
  refine tk_topi (y := 64) (by decide) ?_
  refine cs_newa (atype := .int) (ty := .int) (k := 547) (a0 := (64, .inl z0)) hx hb 0 (hU (.arrayClass .int) wd_12) rfl (fun _ => Iff.rfl) hK rfl hW hS hA (fun _ => rfl) (fun L kd => na_547 L kd) (by decide) (by decide) (Nat.le_of_ble_eq_true rfl) (Nat.le_of_ble_eq_true rfl) (Nat.le_of_ble_eq_true rfl) dX9_init_9 (fun q_1 H hW hS => ?_)
  have hW : cw (dC, dI) cI cL cZ cR cG cH A [(a0, .inr (9, [.null, .null, .int 0]))] [(q_1, 547)] [] H := hW
  refine W.widen (k := 1) (n := 64) (Nat.le_of_ble_eq_true rfl) (Nat.le_of_ble_eq_true rfl) ?_
  obtain ⟨L, f, kd, hP, hD, hB, hR, hF⟩ := hW
  refine va_putF (D := (dC, dI)) (ci := 9) (v := .ref q_1) (ty := .array .int) (C := RX9) (T := TX9) (N := 3) hx hb hU inlX9 tyX9 tyX9_ok nmX9 hown hK hP hD hS 0 rfl rfl 0 (by decide) (hU _ wd_95) (fun _ h9 => h9) rfl hin rfl (by decide +kernel) rfl rfl (Nat.le_of_ble_eq_true rfl) dX9_init_11 (fun H locs hP hD hS => ?_)
  have hW : cw (dC, dI) cI cL cZ cR cG cH A [(a0, .inr (9, [.ref q_1, .null, .int 0]))] [(q_1, 547)] [] H := ⟨L, f, kd, hP, hD, hB, hR, hF⟩
  refine lv_aload_n hx hb dX9_init_14 rfl (lv_at hl 0 rfl) ?_
  refine lv_iload_n hx hb dX9_init_15 rfl (lv_at hl 1 rfl) ?_
  refine cs_newa (atype := .int) (ty := .int) (k := 548) (a0 := (8, .inl z0)) hx hb 0 (hU (.arrayClass .int) wd_12) rfl (fun _ => Iff.rfl) hK rfl hW hS hA (fun _ => rfl) (fun L kd => na_548 L kd) (by decide) (by decide) (Nat.le_of_ble_eq_true rfl) (Nat.le_of_ble_eq_true rfl) (Nat.le_of_ble_eq_true rfl) dX9_init_16 (fun q_2 H hW hS => ?_)
  have hW : cw (dC, dI) cI cL cZ cR cG cH A [(a0, .inr (9, [.ref q_1, .null, .int 0]))] [(q_1, 547), (q_2, 548)] [] H := hW
  refine W.widen (k := 2) (n := 72) (Nat.le_of_ble_eq_true rfl) (Nat.le_of_ble_eq_true rfl) ?_
  obtain ⟨L, f, kd, hP, hD, hB, hR, hF⟩ := hW
  refine va_putF (D := (dC, dI)) (ci := 9) (v := .ref q_2) (ty := .array .int) (C := RX9) (T := TX9) (N := 3) hx hb hU inlX9 tyX9 tyX9_ok nmX9 hown hK hP hD hS 0 rfl rfl 1 (by decide) (hU _ wd_96) (fun _ h9 => h9) rfl hin rfl (by decide +kernel) rfl rfl (Nat.le_of_ble_eq_true rfl) dX9_init_18 (fun H locs hP hD hS => ?_)
  have hW : cw (dC, dI) cI cL cZ cR cG cH A [(a0, .inr (9, [.ref q_1, .ref q_2, .int 0]))] [(q_1, 547), (q_2, 548)] [] H := ⟨L, f, kd, hP, hD, hB, hR, hF⟩
  obtain ⟨w9, hP9, hD9, hbt⟩ := cw_done (k := 113) hW (fun L kd h => ⟨show ok_113 L kd _ from ⟨q_1, q_2, 0, rfl, h (q_1, 547) (List.mem_of_getElem? (i := 0) rfl), h (q_2, 548) (List.mem_of_getElem? (i := 1) rfl), (by decide)⟩, ⟨fun h => absurd h (by decide), fun h => absurd h (by decide), fun h => absurd h (by decide), fun h => absurd h (by decide), fun h => absurd h (by decide), fun h => absurd h (by decide)⟩⟩)
  refine W.widen (k := 2) (n := 72) (Nat.le_of_ble_eq_true rfl) (Nat.le_of_ble_eq_true rfl) ?_
  exact W.vret hx hb hr (fun t ht hW => ⟨⟨w9, rfl, hbt, by rw [ht]; exact hP9, va_K.moved hW.alike hK, hD9⟩, hS.F ht⟩) hS.2.2 dX9_init_21
set_option maxHeartbeats 8000000 in
set_option maxRecDepth 100000 in
theorem n_X5_init_105 (l : Launch) (D : va_G) (cI cL cZ cR cG cH : ClassId) (sz a0 : Nat) : mC l D cI cL cZ cR cG cH yX5_init cX5_init 1 1 30 3 56 [.ref a0] sz [(a0, .inr (5, [.null, .null, .null, .int 0, .int 0, .int 0]))] (bt cI cL cZ cR cG cH 105 a0) := by
  obtain ⟨dC, dI⟩ := D
  refine Met.ofW (cc := cX5_init) (maxL := 1) (ret := none) (by decide) rfl ?_
  intro p e s m args below meth c s₁ B hml hv
  obtain ⟨rfl, hsz, hP, hK, hD0, hN⟩ := hv
  have hx := B.exec
  have hb := B.bytes
  have hr := B.returns
  have hU : ∀ w ∈ wsU, w.before _ s = true := fun w h => atoms_spec (ws := wU yX5_init cX5_init 1 none) B.pre w (List.mem_cons_of_mem _ h)
  have hown : s.vm.findClass RX5 = some m.cls := findClass_of_methodNamed B.named
  have hlocks := B.notSynchronized
  have hin : meth.name = "<init>" := (name_of_methodNamed B.named B.method).1
  subst hsz
  have hD := hD0.self (sz := s.heap.size)
  generalize hAe : va_A [(a0, .inr (5, [.null, .null, .null, .int 0, .int 0, .int 0]))] s.heap.size = A at hD ⊢
  have hA : ∀ q : Nat, s.heap.size ≤ q → A q := fun q h => by rw [← hAe]; exact Or.inr h
  have hS : va_S A s.heap s.heap [] := va_S.rf
  have hW : cw (dC, dI) cI cL cZ cR cG cH A [(a0, .inr (5, [.null, .null, .null, .int 0, .int 0, .int 0]))] [] [] s.heap := ⟨[], fun _ => .inl (cI, 0, .inl z0), fun _ => 0, hP, hD, fun a h => absurd h List.not_mem_nil, fun q h => absurd h List.not_mem_nil, fun q h => absurd h List.not_mem_nil⟩
  have hl := lv_entry ([.ref a0]) (n := 1) (Nat.le_of_ble_eq_true rfl)
  rw [lg_entry_eq]
  generalize (lg_sl ([.ref a0]) ++ List.replicate (1 - (lg_sl ([.ref a0])).length) Slot.unset).toArray = ls at hl ⊢
  have hl : lv_has ls 1 [(0, .ref a0)] := hl
  refine lv_aload_n hx hb dX5_init_0 rfl (lv_at hl 0 rfl) ?_
  refine W.objInit hx hb hown (hU _ wd_109) (hU _ wd_10) (hU _ wd_11) rfl (by rw [hml]; exact hl.1) rfl dX5_init_1 (Nat.le_of_ble_eq_true rfl) (Nat.le_of_ble_eq_true rfl) ?_
  refine W.eq (g2 := F0 m 4 ls []) rfl ?_
  refine lv_aload_n hx hb dX5_init_4 rfl (lv_at hl 0 rfl) ?_
  refine lv_bipush (v := 18) hx hb dX5_init_5 (by decide) ?_
  refine cs_newa (atype := .int) (ty := .int) (k := 541) (a0 := (18, .inl z0)) hx hb 0 (hU (.arrayClass .int) wd_12) rfl (fun _ => Iff.rfl) hK rfl hW hS hA (fun _ => rfl) (fun L kd => na_541 L kd) (by decide) (by decide) (Nat.le_of_ble_eq_true rfl) (Nat.le_of_ble_eq_true rfl) (Nat.le_of_ble_eq_true rfl) dX5_init_7 (fun q_1 H hW hS => ?_)
  have hW : cw (dC, dI) cI cL cZ cR cG cH A [(a0, .inr (5, [.null, .null, .null, .int 0, .int 0, .int 0]))] [(q_1, 541)] [] H := hW
  refine W.widen (k := 1) (n := 18) (Nat.le_of_ble_eq_true rfl) (Nat.le_of_ble_eq_true rfl) ?_
  obtain ⟨L, f, kd, hP, hD, hB, hR, hF⟩ := hW
  refine va_putF (D := (dC, dI)) (ci := 5) (v := .ref q_1) (ty := .array .int) (C := RX5) (T := TX5) (N := 6) hx hb hU inlX5 tyX5 tyX5_ok nmX5 hown hK hP hD hS 0 rfl rfl 0 (by decide) (hU _ wd_110) (fun _ h9 => h9) rfl hin rfl (by decide +kernel) rfl rfl (Nat.le_of_ble_eq_true rfl) dX5_init_9 (fun H locs hP hD hS => ?_)
  have hW : cw (dC, dI) cI cL cZ cR cG cH A [(a0, .inr (5, [.ref q_1, .null, .null, .int 0, .int 0, .int 0]))] [(q_1, 541)] [] H := ⟨L, f, kd, hP, hD, hB, hR, hF⟩
  refine lv_aload_n hx hb dX5_init_12 rfl (lv_at hl 0 rfl) ?_
  refine lv_bipush (v := 18) hx hb dX5_init_13 (by decide) ?_
  refine cs_newa (atype := .int) (ty := .int) (k := 541) (a0 := (18, .inl z0)) hx hb 0 (hU (.arrayClass .int) wd_12) rfl (fun _ => Iff.rfl) hK rfl hW hS hA (fun _ => rfl) (fun L kd => na_541 L kd) (by decide) (by decide) (Nat.le_of_ble_eq_true rfl) (Nat.le_of_ble_eq_true rfl) (Nat.le_of_ble_eq_true rfl) dX5_init_15 (fun q_2 H hW hS => ?_)
  have hW : cw (dC, dI) cI cL cZ cR cG cH A [(a0, .inr (5, [.ref q_1, .null, .null, .int 0, .int 0, .int 0]))] [(q_1, 541), (q_2, 541)] [] H := hW
  refine W.widen (k := 2) (n := 36) (Nat.le_of_ble_eq_true rfl) (Nat.le_of_ble_eq_true rfl) ?_
  obtain ⟨L, f, kd, hP, hD, hB, hR, hF⟩ := hW
  refine va_putF (D := (dC, dI)) (ci := 5) (v := .ref q_2) (ty := .array .int) (C := RX5) (T := TX5) (N := 6) hx hb hU inlX5 tyX5 tyX5_ok nmX5 hown hK hP hD hS 0 rfl rfl 1 (by decide) (hU _ wd_111) (fun _ h9 => h9) rfl hin rfl (by decide +kernel) rfl rfl (Nat.le_of_ble_eq_true rfl) dX5_init_17 (fun H locs hP hD hS => ?_)
  have hW : cw (dC, dI) cI cL cZ cR cG cH A [(a0, .inr (5, [.ref q_1, .ref q_2, .null, .int 0, .int 0, .int 0]))] [(q_1, 541), (q_2, 541)] [] H := ⟨L, f, kd, hP, hD, hB, hR, hF⟩
  refine lv_aload_n hx hb dX5_init_20 rfl (lv_at hl 0 rfl) ?_
  refine lv_bipush (v := 20) hx hb dX5_init_21 (by decide) ?_
  refine cs_newa (atype := .int) (ty := .int) (k := 542) (a0 := (20, .inl z0)) hx hb 0 (hU (.arrayClass .int) wd_12) rfl (fun _ => Iff.rfl) hK rfl hW hS hA (fun _ => rfl) (fun L kd => na_542 L kd) (by decide) (by decide) (Nat.le_of_ble_eq_true rfl) (Nat.le_of_ble_eq_true rfl) (Nat.le_of_ble_eq_true rfl) dX5_init_23 (fun q_3 H hW hS => ?_)
  have hW : cw (dC, dI) cI cL cZ cR cG cH A [(a0, .inr (5, [.ref q_1, .ref q_2, .null, .int 0, .int 0, .int 0]))] [(q_1, 541), (q_2, 541), (q_3, 542)] [] H := hW
  refine W.widen (k := 3) (n := 56) (Nat.le_of_ble_eq_true rfl) (Nat.le_of_ble_eq_true rfl) ?_
  obtain ⟨L, f, kd, hP, hD, hB, hR, hF⟩ := hW
  refine va_putF (D := (dC, dI)) (ci := 5) (v := .ref q_3) (ty := .array .int) (C := RX5) (T := TX5) (N := 6) hx hb hU inlX5 tyX5 tyX5_ok nmX5 hown hK hP hD hS 0 rfl rfl 2 (by decide) (hU _ wd_112) (fun _ h9 => h9) rfl hin rfl (by decide +kernel) rfl rfl (Nat.le_of_ble_eq_true rfl) dX5_init_25 (fun H locs hP hD hS => ?_)
  have hW : cw (dC, dI) cI cL cZ cR cG cH A [(a0, .inr (5, [.ref q_1, .ref q_2, .ref q_3, .int 0, .int 0, .int 0]))] [(q_1, 541), (q_2, 541), (q_3, 542)] [] H := ⟨L, f, kd, hP, hD, hB, hR, hF⟩
  obtain ⟨w9, hP9, hD9, hbt⟩ := cw_done (k := 105) hW (fun L kd h => ⟨show ok_105 L kd _ from ⟨q_1, q_2, q_3, 0, 0, 0, rfl, h (q_1, 541) (List.mem_of_getElem? (i := 0) rfl), h (q_2, 541) (List.mem_of_getElem? (i := 1) rfl), h (q_3, 542) (List.mem_of_getElem? (i := 2) rfl)⟩, ⟨fun h => absurd h (by decide), fun h => absurd h (by decide), fun h => absurd h (by decide), fun h => absurd h (by decide), fun h => absurd h (by decide), fun h => absurd h (by decide)⟩⟩)
  refine W.widen (k := 3) (n := 56) (Nat.le_of_ble_eq_true rfl) (Nat.le_of_ble_eq_true rfl) ?_
  exact W.vret hx hb hr (fun t ht hW => ⟨⟨w9, rfl, hbt, by rw [ht]; exact hP9, va_K.moved hW.alike hK, hD9⟩, hS.F ht⟩) hS.2.2 dX5_init_28
set_option maxHeartbeats 8000000 in
set_option maxRecDepth 100000 in
theorem n_X4_init_104 (l : Launch) (D : va_G) (cI cL cZ cR cG cH : ClassId) (sz a0 : Nat) : mC l D cI cL cZ cR cG cH yX4_init cX4_init 1 2 50 10 152 [.ref a0] sz [(a0, .inr (4, [.int 0, .int 0, .int 0, .int 0, .null, .null, .null, .null, .int 0, .int 0, .int 0]))] (bt cI cL cZ cR cG cH 104 a0) := by
  obtain ⟨dC, dI⟩ := D
  refine Met.ofW (cc := cX4_init) (maxL := 1) (ret := none) (by decide) rfl ?_
  intro p e s m args below meth c s₁ B hml hv
  obtain ⟨rfl, hsz, hP, hK, hD0, hN⟩ := hv
  have hx := B.exec
  have hb := B.bytes
  have hr := B.returns
  have hU : ∀ w ∈ wsU, w.before _ s = true := fun w h => atoms_spec (ws := wU yX4_init cX4_init 1 none) B.pre w (List.mem_cons_of_mem _ h)
  have hown : s.vm.findClass RX4 = some m.cls := findClass_of_methodNamed B.named
  have hlocks := B.notSynchronized
  have hin : meth.name = "<init>" := (name_of_methodNamed B.named B.method).1
  subst hsz
  have hD := hD0.self (sz := s.heap.size)
  generalize hAe : va_A [(a0, .inr (4, [.int 0, .int 0, .int 0, .int 0, .null, .null, .null, .null, .int 0, .int 0, .int 0]))] s.heap.size = A at hD ⊢
  have hA : ∀ q : Nat, s.heap.size ≤ q → A q := fun q h => by rw [← hAe]; exact Or.inr h
  have hS : va_S A s.heap s.heap [] := va_S.rf
  have hW : cw (dC, dI) cI cL cZ cR cG cH A [(a0, .inr (4, [.int 0, .int 0, .int 0, .int 0, .null, .null, .null, .null, .int 0, .int 0, .int 0]))] [] [] s.heap := ⟨[], fun _ => .inl (cI, 0, .inl z0), fun _ => 0, hP, hD, fun a h => absurd h List.not_mem_nil, fun q h => absurd h List.not_mem_nil, fun q h => absurd h List.not_mem_nil⟩
  have hl := lv_entry ([.ref a0]) (n := 1) (Nat.le_of_ble_eq_true rfl)
  rw [lg_entry_eq]
  generalize (lg_sl ([.ref a0]) ++ List.replicate (1 - (lg_sl ([.ref a0])).length) Slot.unset).toArray = ls at hl ⊢
  have hl : lv_has ls 1 [(0, .ref a0)] := hl
  refine lv_aload_n hx hb dX4_init_0 rfl (lv_at hl 0 rfl) ?_
  refine W.objInit hx hb hown (hU _ wd_99) (hU _ wd_10) (hU _ wd_11) rfl (by rw [hml]; exact hl.1) rfl dX4_init_1 (Nat.le_of_ble_eq_true rfl) (Nat.le_of_ble_eq_true rfl) ?_
  refine W.eq (g2 := F0 m 4 ls []) rfl ?_
  refine lv_aload_n hx hb dX4_init_4 rfl (lv_at hl 0 rfl) ?_
  obtain ⟨L, f, kd, hP, hD, hB, hR, hF⟩ := hW
  refine va_new (ci := 5) (fs := [.null, .null, .null, .int 0, .int 0, .int 0]) (C := RX5) (T := TX5) (N := 6) hx hb hU inlX5 tyX5 tyX5_ok hown (hU _ wd_100) (hU _ wd_101) (hU _ wd_102) hK hP hD hS hA rfl dvX5 (Nat.le_of_ble_eq_true rfl) (Nat.le_of_ble_eq_true rfl) dX4_init_5 (fun q_1 H hP hD hS => ?_)
  have hW : cw (dC, dI) cI cL cZ cR cG cH A ([(a0, .inr (4, [.int 0, .int 0, .int 0, .int 0, .null, .null, .null, .null, .int 0, .int 0, .int 0]))] ++ [(q_1, .inr (5, [.null, .null, .null, .int 0, .int 0, .int 0]))]) [] [] H := cw_new hP hD hB hR hF
  refine W.widen (k := 1) (n := 6) (Nat.le_of_ble_eq_true rfl) (Nat.le_of_ble_eq_true rfl) ?_
  refine lv_dup hx hb dX4_init_8 rfl ?_
  refine cs_back (X := [(a0, .inr (4, [.int 0, .int 0, .int 0, .int 0, .null, .null, .null, .null, .int 0, .int 0, .int 0]))]) (cs_IN (X := [(a0, .inr (4, [.int 0, .int 0, .int 0, .int 0, .null, .null, .null, .null, .int 0, .int 0, .int 0]))]) (As := []) (rest := [.ref q_1, .ref a0]) (n := 0) hx hb hml hown hU hN (n_X5_init_105 l (dC, dI) cI cL cZ cR cG cH H.size q_1) hN.2.2.1 wd_107 wd_102 wd_108 rfl (by decide +kernel) ⟨Nat.le_of_ble_eq_true rfl, Nat.le_of_ble_eq_true rfl⟩ hK hW rfl hl.1 rfl (Nat.le_of_ble_eq_true rfl) dX4_init_9 ⟨Nat.le_of_ble_eq_true rfl, Nat.le_of_ble_eq_true rfl⟩) hW hS hA [1] [0] rfl rfl (by decide) (by decide) (fun H locs hW hS => ?_)
  have hW : cw (dC, dI) cI cL cZ cR cG cH A [(a0, .inr (4, [.int 0, .int 0, .int 0, .int 0, .null, .null, .null, .null, .int 0, .int 0, .int 0]))] [(q_1, 105)] [] H := hW
  refine W.widen (k := 4) (n := 62) (Nat.le_of_ble_eq_true rfl) (Nat.le_of_ble_eq_true rfl) ?_
  obtain ⟨L, f, kd, hP, hD, hB, hR, hF⟩ := hW
  refine va_putF (D := (dC, dI)) (ci := 4) (v := .ref q_1) (ty := .object "SaidShallow$Side") (C := RX4) (T := TX4) (N := 11) hx hb hU inlX4 tyX4 tyX4_ok nmX4 hown hK hP hD hS 0 rfl rfl 4 (by decide) (hU _ wd_103) (fun _ h9 => h9) rfl hin rfl (by decide +kernel) rfl rfl (Nat.le_of_ble_eq_true rfl) dX4_init_12 (fun H locs hP hD hS => ?_)
  have hW : cw (dC, dI) cI cL cZ cR cG cH A [(a0, .inr (4, [.int 0, .int 0, .int 0, .int 0, .ref q_1, .null, .null, .null, .int 0, .int 0, .int 0]))] [(q_1, 105)] [] H := ⟨L, f, kd, hP, hD, hB, hR, hF⟩
  refine lv_aload_n hx hb dX4_init_15 rfl (lv_at hl 0 rfl) ?_
  obtain ⟨L, f, kd, hP, hD, hB, hR, hF⟩ := hW
  refine va_new (ci := 5) (fs := [.null, .null, .null, .int 0, .int 0, .int 0]) (C := RX5) (T := TX5) (N := 6) hx hb hU inlX5 tyX5 tyX5_ok hown (hU _ wd_100) (hU _ wd_101) (hU _ wd_102) hK hP hD hS hA rfl dvX5 (Nat.le_of_ble_eq_true rfl) (Nat.le_of_ble_eq_true rfl) dX4_init_16 (fun q_2 H hP hD hS => ?_)
  have hW : cw (dC, dI) cI cL cZ cR cG cH A ([(a0, .inr (4, [.int 0, .int 0, .int 0, .int 0, .ref q_1, .null, .null, .null, .int 0, .int 0, .int 0]))] ++ [(q_2, .inr (5, [.null, .null, .null, .int 0, .int 0, .int 0]))]) [(q_1, 105)] [] H := cw_new hP hD hB hR hF
  refine W.widen (k := 5) (n := 68) (Nat.le_of_ble_eq_true rfl) (Nat.le_of_ble_eq_true rfl) ?_
  refine lv_dup hx hb dX4_init_19 rfl ?_
  refine cs_back (X := [(a0, .inr (4, [.int 0, .int 0, .int 0, .int 0, .ref q_1, .null, .null, .null, .int 0, .int 0, .int 0]))]) (cs_IN (X := [(a0, .inr (4, [.int 0, .int 0, .int 0, .int 0, .ref q_1, .null, .null, .null, .int 0, .int 0, .int 0]))]) (As := []) (rest := [.ref q_2, .ref a0]) (n := 0) hx hb hml hown hU hN (n_X5_init_105 l (dC, dI) cI cL cZ cR cG cH H.size q_2) hN.2.2.1 wd_107 wd_102 wd_108 rfl (by decide +kernel) ⟨Nat.le_of_ble_eq_true rfl, Nat.le_of_ble_eq_true rfl⟩ hK hW rfl hl.1 rfl (Nat.le_of_ble_eq_true rfl) dX4_init_20 ⟨Nat.le_of_ble_eq_true rfl, Nat.le_of_ble_eq_true rfl⟩) hW hS hA [1] [0] rfl rfl (by decide) (by decide) (fun H locs hW hS => ?_)
  have hW : cw (dC, dI) cI cL cZ cR cG cH A [(a0, .inr (4, [.int 0, .int 0, .int 0, .int 0, .ref q_1, .null, .null, .null, .int 0, .int 0, .int 0]))] [(q_1, 105), (q_2, 105)] [] H := hW
  refine W.widen (k := 8) (n := 124) (Nat.le_of_ble_eq_true rfl) (Nat.le_of_ble_eq_true rfl) ?_
  obtain ⟨L, f, kd, hP, hD, hB, hR, hF⟩ := hW
  refine va_putF (D := (dC, dI)) (ci := 4) (v := .ref q_2) (ty := .object "SaidShallow$Side") (C := RX4) (T := TX4) (N := 11) hx hb hU inlX4 tyX4 tyX4_ok nmX4 hown hK hP hD hS 0 rfl rfl 5 (by decide) (hU _ wd_104) (fun _ h9 => h9) rfl hin rfl (by decide +kernel) rfl rfl (Nat.le_of_ble_eq_true rfl) dX4_init_23 (fun H locs hP hD hS => ?_)
  have hW : cw (dC, dI) cI cL cZ cR cG cH A [(a0, .inr (4, [.int 0, .int 0, .int 0, .int 0, .ref q_1, .ref q_2, .null, .null, .int 0, .int 0, .int 0]))] [(q_1, 105), (q_2, 105)] [] H := ⟨L, f, kd, hP, hD, hB, hR, hF⟩
  refine lv_aload_n hx hb dX4_init_26 rfl (lv_at hl 0 rfl) ?_
  refine lv_bipush (v := 20) hx hb dX4_init_27 (by decide) ?_
  refine cs_newa (atype := .int) (ty := .int) (k := 543) (a0 := (20, .inl z0)) hx hb 0 (hU (.arrayClass .int) wd_12) rfl (fun _ => Iff.rfl) hK rfl hW hS hA (fun _ => rfl) (fun L kd => na_543 L kd) (by decide) (by decide) (Nat.le_of_ble_eq_true rfl) (Nat.le_of_ble_eq_true rfl) (Nat.le_of_ble_eq_true rfl) dX4_init_29 (fun q_3 H hW hS => ?_)
  have hW : cw (dC, dI) cI cL cZ cR cG cH A [(a0, .inr (4, [.int 0, .int 0, .int 0, .int 0, .ref q_1, .ref q_2, .null, .null, .int 0, .int 0, .int 0]))] [(q_1, 105), (q_2, 105), (q_3, 543)] [] H := hW
  refine W.widen (k := 9) (n := 144) (Nat.le_of_ble_eq_true rfl) (Nat.le_of_ble_eq_true rfl) ?_
  obtain ⟨L, f, kd, hP, hD, hB, hR, hF⟩ := hW
  refine va_putF (D := (dC, dI)) (ci := 4) (v := .ref q_3) (ty := .array .int) (C := RX4) (T := TX4) (N := 11) hx hb hU inlX4 tyX4 tyX4_ok nmX4 hown hK hP hD hS 0 rfl rfl 6 (by decide) (hU _ wd_105) (fun _ h9 => h9) rfl hin rfl (by decide +kernel) rfl rfl (Nat.le_of_ble_eq_true rfl) dX4_init_31 (fun H locs hP hD hS => ?_)
  have hW : cw (dC, dI) cI cL cZ cR cG cH A [(a0, .inr (4, [.int 0, .int 0, .int 0, .int 0, .ref q_1, .ref q_2, .ref q_3, .null, .int 0, .int 0, .int 0]))] [(q_1, 105), (q_2, 105), (q_3, 543)] [] H := ⟨L, f, kd, hP, hD, hB, hR, hF⟩
  refine lv_aload_n hx hb dX4_init_34 rfl (lv_at hl 0 rfl) ?_
  refine lv_bipush (v := 8) hx hb dX4_init_35 (by decide) ?_
  refine cs_newa (atype := .int) (ty := .int) (k := 544) (a0 := (8, .inl z0)) hx hb 0 (hU (.arrayClass .int) wd_12) rfl (fun _ => Iff.rfl) hK rfl hW hS hA (fun _ => rfl) (fun L kd => na_544 L kd) (by decide) (by decide) (Nat.le_of_ble_eq_true rfl) (Nat.le_of_ble_eq_true rfl) (Nat.le_of_ble_eq_true rfl) dX4_init_37 (fun q_4 H hW hS => ?_)
  have hW : cw (dC, dI) cI cL cZ cR cG cH A [(a0, .inr (4, [.int 0, .int 0, .int 0, .int 0, .ref q_1, .ref q_2, .ref q_3, .null, .int 0, .int 0, .int 0]))] [(q_1, 105), (q_2, 105), (q_3, 543), (q_4, 544)] [] H := hW
  refine W.widen (k := 10) (n := 152) (Nat.le_of_ble_eq_true rfl) (Nat.le_of_ble_eq_true rfl) ?_
  obtain ⟨L, f, kd, hP, hD, hB, hR, hF⟩ := hW
  refine va_putF (D := (dC, dI)) (ci := 4) (v := .ref q_4) (ty := .array .int) (C := RX4) (T := TX4) (N := 11) hx hb hU inlX4 tyX4 tyX4_ok nmX4 hown hK hP hD hS 0 rfl rfl 7 (by decide) (hU _ wd_106) (fun _ h9 => h9) rfl hin rfl (by decide +kernel) rfl rfl (Nat.le_of_ble_eq_true rfl) dX4_init_39 (fun H locs hP hD hS => ?_)
  have hW : cw (dC, dI) cI cL cZ cR cG cH A [(a0, .inr (4, [.int 0, .int 0, .int 0, .int 0, .ref q_1, .ref q_2, .ref q_3, .ref q_4, .int 0, .int 0, .int 0]))] [(q_1, 105), (q_2, 105), (q_3, 543), (q_4, 544)] [] H := ⟨L, f, kd, hP, hD, hB, hR, hF⟩
  obtain ⟨w9, hP9, hD9, hbt⟩ := cw_done (k := 104) hW (fun L kd h => ⟨show ok_104 L kd _ from ⟨0, 0, 0, 0, q_1, q_2, q_3, q_4, 0, 0, 0, rfl, (by decide), (by decide), (by decide), (by decide), h (q_1, 105) (List.mem_of_getElem? (i := 0) rfl), h (q_2, 105) (List.mem_of_getElem? (i := 1) rfl), h (q_3, 543) (List.mem_of_getElem? (i := 2) rfl), h (q_4, 544) (List.mem_of_getElem? (i := 3) rfl)⟩, ⟨fun h => absurd h (by decide), fun h => absurd h (by decide), fun h => absurd h (by decide), fun h => absurd h (by decide), fun h => absurd h (by decide), fun h => absurd h (by decide)⟩⟩)
  refine W.widen (k := 10) (n := 152) (Nat.le_of_ble_eq_true rfl) (Nat.le_of_ble_eq_true rfl) ?_
  exact W.vret hx hb hr (fun t ht hW => ⟨⟨w9, rfl, hbt, by rw [ht]; exact hP9, va_K.moved hW.alike hK, hD9⟩, hS.F ht⟩) hS.2.2 dX4_init_42
set_option maxHeartbeats 8000000 in
set_option maxRecDepth 100000 in
theorem n_X7_init_107 (l : Launch) (D : va_G) (cI cL cZ cR cG cH : ClassId) (sz a0 : Nat) : mC l D cI cL cZ cR cG cH yX7_init cX7_init 2 3 70 105 1749 [.ref a0] sz [(a0, .inr (7, [.null, .int 0, .null, .null, .null, .null, .int 0, .null, .null, .null, .null, .null, .int 0, .null, .null, .null]))] (bt cI cL cZ cR cG cH 107 a0) := by
  obtain ⟨dC, dI⟩ := D
  refine Met.ofW (cc := cX7_init) (maxL := 2) (ret := none) (by decide) rfl ?_
  intro p e s m args below meth c s₁ B hml hv
  obtain ⟨rfl, hsz, hP, hK, hD0, hN⟩ := hv
  have hx := B.exec
  have hb := B.bytes
  have hr := B.returns
  have hU : ∀ w ∈ wsU, w.before _ s = true := fun w h => atoms_spec (ws := wU yX7_init cX7_init 2 none) B.pre w (List.mem_cons_of_mem _ h)
  have hown : s.vm.findClass RX7 = some m.cls := findClass_of_methodNamed B.named
  have hlocks := B.notSynchronized
  have hin : meth.name = "<init>" := (name_of_methodNamed B.named B.method).1
  subst hsz
  have hD := hD0.self (sz := s.heap.size)
  generalize hAe : va_A [(a0, .inr (7, [.null, .int 0, .null, .null, .null, .null, .int 0, .null, .null, .null, .null, .null, .int 0, .null, .null, .null]))] s.heap.size = A at hD ⊢
  have hA : ∀ q : Nat, s.heap.size ≤ q → A q := fun q h => by rw [← hAe]; exact Or.inr h
  have hS : va_S A s.heap s.heap [] := va_S.rf
  have hW : cw (dC, dI) cI cL cZ cR cG cH A [(a0, .inr (7, [.null, .int 0, .null, .null, .null, .null, .int 0, .null, .null, .null, .null, .null, .int 0, .null, .null, .null]))] [] [] s.heap := ⟨[], fun _ => .inl (cI, 0, .inl z0), fun _ => 0, hP, hD, fun a h => absurd h List.not_mem_nil, fun q h => absurd h List.not_mem_nil, fun q h => absurd h List.not_mem_nil⟩
  have hl := lv_entry ([.ref a0]) (n := 2) (Nat.le_of_ble_eq_true rfl)
  rw [lg_entry_eq]
  generalize (lg_sl ([.ref a0]) ++ List.replicate (2 - (lg_sl ([.ref a0])).length) Slot.unset).toArray = ls at hl ⊢
  have hl : lv_has ls 2 [(0, .ref a0)] := hl
  refine lv_aload_n hx hb dX7_init_0 rfl (lv_at hl 0 rfl) ?_
  refine W.objInit hx hb hown (hU _ wd_71) (hU _ wd_10) (hU _ wd_11) rfl (by rw [hml]; exact hl.1) rfl dX7_init_1 (Nat.le_of_ble_eq_true rfl) (Nat.le_of_ble_eq_true rfl) ?_
  refine W.eq (g2 := F0 m 4 ls []) rfl ?_
  refine lv_aload_n hx hb dX7_init_4 rfl (lv_at hl 0 rfl) ?_
  refine lv_bipush (v := 26) hx hb dX7_init_5 (by decide) ?_
  refine cs_newa (atype := .int) (ty := .int) (k := 549) (a0 := (26, .inl z0)) hx hb 0 (hU (.arrayClass .int) wd_12) rfl (fun _ => Iff.rfl) hK rfl hW hS hA (fun _ => rfl) (fun L kd => na_549 L kd) (by decide) (by decide) (Nat.le_of_ble_eq_true rfl) (Nat.le_of_ble_eq_true rfl) (Nat.le_of_ble_eq_true rfl) dX7_init_7 (fun q_1 H hW hS => ?_)
  have hW : cw (dC, dI) cI cL cZ cR cG cH A [(a0, .inr (7, [.null, .int 0, .null, .null, .null, .null, .int 0, .null, .null, .null, .null, .null, .int 0, .null, .null, .null]))] [(q_1, 549)] [] H := hW
  refine W.widen (k := 1) (n := 26) (Nat.le_of_ble_eq_true rfl) (Nat.le_of_ble_eq_true rfl) ?_
  obtain ⟨L, f, kd, hP, hD, hB, hR, hF⟩ := hW
  refine va_putF (D := (dC, dI)) (ci := 7) (v := .ref q_1) (ty := .array .int) (C := RX7) (T := TX7) (N := 16) hx hb hU inlX7 tyX7 tyX7_ok nmX7 hown hK hP hD hS 0 rfl rfl 0 (by decide) (hU _ wd_72) (fun _ h9 => h9) rfl hin rfl (by decide +kernel) rfl rfl (Nat.le_of_ble_eq_true rfl) dX7_init_9 (fun H locs hP hD hS => ?_)
  have hW : cw (dC, dI) cI cL cZ cR cG cH A [(a0, .inr (7, [.ref q_1, .int 0, .null, .null, .null, .null, .int 0, .null, .null, .null, .null, .null, .int 0, .null, .null, .null]))] [(q_1, 549)] [] H := ⟨L, f, kd, hP, hD, hB, hR, hF⟩
  refine lv_aload_n hx hb dX7_init_12 rfl (lv_at hl 0 rfl) ?_
  refine lv_bipush (v := 6) hx hb dX7_init_13 (by decide) ?_
  refine cs_newa (atype := .int) (ty := .int) (k := 550) (a0 := (6, .inl z0)) hx hb 0 (hU (.arrayClass .int) wd_12) rfl (fun _ => Iff.rfl) hK rfl hW hS hA (fun _ => rfl) (fun L kd => na_550 L kd) (by decide) (by decide) (Nat.le_of_ble_eq_true rfl) (Nat.le_of_ble_eq_true rfl) (Nat.le_of_ble_eq_true rfl) dX7_init_15 (fun q_2 H hW hS => ?_)
  have hW : cw (dC, dI) cI cL cZ cR cG cH A [(a0, .inr (7, [.ref q_1, .int 0, .null, .null, .null, .null, .int 0, .null, .null, .null, .null, .null, .int 0, .null, .null, .null]))] [(q_1, 549), (q_2, 550)] [] H := hW
  refine W.widen (k := 2) (n := 32) (Nat.le_of_ble_eq_true rfl) (Nat.le_of_ble_eq_true rfl) ?_
  obtain ⟨L, f, kd, hP, hD, hB, hR, hF⟩ := hW
  refine va_putF (D := (dC, dI)) (ci := 7) (v := .ref q_2) (ty := .array .int) (C := RX7) (T := TX7) (N := 16) hx hb hU inlX7 tyX7 tyX7_ok nmX7 hown hK hP hD hS 0 rfl rfl 2 (by decide) (hU _ wd_73) (fun _ h9 => h9) rfl hin rfl (by decide +kernel) rfl rfl (Nat.le_of_ble_eq_true rfl) dX7_init_17 (fun H locs hP hD hS => ?_)
  have hW : cw (dC, dI) cI cL cZ cR cG cH A [(a0, .inr (7, [.ref q_1, .int 0, .ref q_2, .null, .null, .null, .int 0, .null, .null, .null, .null, .null, .int 0, .null, .null, .null]))] [(q_1, 549), (q_2, 550)] [] H := ⟨L, f, kd, hP, hD, hB, hR, hF⟩
  refine lv_aload_n hx hb dX7_init_20 rfl (lv_at hl 0 rfl) ?_
  refine lv_bipush (v := 81) hx hb dX7_init_21 (by decide) ?_
  refine cs_newa (atype := .int) (ty := .int) (k := 551) (a0 := (81, .inl z0)) hx hb 0 (hU (.arrayClass .int) wd_12) rfl (fun _ => Iff.rfl) hK rfl hW hS hA (fun _ => rfl) (fun L kd => na_551 L kd) (by decide) (by decide) (Nat.le_of_ble_eq_true rfl) (Nat.le_of_ble_eq_true rfl) (Nat.le_of_ble_eq_true rfl) dX7_init_23 (fun q_3 H hW hS => ?_)
  have hW : cw (dC, dI) cI cL cZ cR cG cH A [(a0, .inr (7, [.ref q_1, .int 0, .ref q_2, .null, .null, .null, .int 0, .null, .null, .null, .null, .null, .int 0, .null, .null, .null]))] [(q_1, 549), (q_2, 550), (q_3, 551)] [] H := hW
  refine W.widen (k := 3) (n := 113) (Nat.le_of_ble_eq_true rfl) (Nat.le_of_ble_eq_true rfl) ?_
  obtain ⟨L, f, kd, hP, hD, hB, hR, hF⟩ := hW
  refine va_putF (D := (dC, dI)) (ci := 7) (v := .ref q_3) (ty := .array .int) (C := RX7) (T := TX7) (N := 16) hx hb hU inlX7 tyX7 tyX7_ok nmX7 hown hK hP hD hS 0 rfl rfl 3 (by decide) (hU _ wd_74) (fun _ h9 => h9) rfl hin rfl (by decide +kernel) rfl rfl (Nat.le_of_ble_eq_true rfl) dX7_init_25 (fun H locs hP hD hS => ?_)
  have hW : cw (dC, dI) cI cL cZ cR cG cH A [(a0, .inr (7, [.ref q_1, .int 0, .ref q_2, .ref q_3, .null, .null, .int 0, .null, .null, .null, .null, .null, .int 0, .null, .null, .null]))] [(q_1, 549), (q_2, 550), (q_3, 551)] [] H := ⟨L, f, kd, hP, hD, hB, hR, hF⟩
  refine lv_aload_n hx hb dX7_init_28 rfl (lv_at hl 0 rfl) ?_
  refine lv_bipush (v := 20) hx hb dX7_init_29 (by decide) ?_
  refine cs_newa (atype := .int) (ty := .int) (k := 552) (a0 := (20, .inl z0)) hx hb 0 (hU (.arrayClass .int) wd_12) rfl (fun _ => Iff.rfl) hK rfl hW hS hA (fun _ => rfl) (fun L kd => na_552 L kd) (by decide) (by decide) (Nat.le_of_ble_eq_true rfl) (Nat.le_of_ble_eq_true rfl) (Nat.le_of_ble_eq_true rfl) dX7_init_31 (fun q_4 H hW hS => ?_)
  have hW : cw (dC, dI) cI cL cZ cR cG cH A [(a0, .inr (7, [.ref q_1, .int 0, .ref q_2, .ref q_3, .null, .null, .int 0, .null, .null, .null, .null, .null, .int 0, .null, .null, .null]))] [(q_1, 549), (q_2, 550), (q_3, 551), (q_4, 552)] [] H := hW
  refine W.widen (k := 4) (n := 133) (Nat.le_of_ble_eq_true rfl) (Nat.le_of_ble_eq_true rfl) ?_
  obtain ⟨L, f, kd, hP, hD, hB, hR, hF⟩ := hW
  refine va_putF (D := (dC, dI)) (ci := 7) (v := .ref q_4) (ty := .array .int) (C := RX7) (T := TX7) (N := 16) hx hb hU inlX7 tyX7 tyX7_ok nmX7 hown hK hP hD hS 0 rfl rfl 4 (by decide) (hU _ wd_75) (fun _ h9 => h9) rfl hin rfl (by decide +kernel) rfl rfl (Nat.le_of_ble_eq_true rfl) dX7_init_33 (fun H locs hP hD hS => ?_)
  have hW : cw (dC, dI) cI cL cZ cR cG cH A [(a0, .inr (7, [.ref q_1, .int 0, .ref q_2, .ref q_3, .ref q_4, .null, .int 0, .null, .null, .null, .null, .null, .int 0, .null, .null, .null]))] [(q_1, 549), (q_2, 550), (q_3, 551), (q_4, 552)] [] H := ⟨L, f, kd, hP, hD, hB, hR, hF⟩
  refine lv_aload_n hx hb dX7_init_36 rfl (lv_at hl 0 rfl) ?_
  refine lv_bipush (v := 20) hx hb dX7_init_37 (by decide) ?_
  refine cs_newa (atype := .int) (ty := .int) (k := 552) (a0 := (20, .inl z0)) hx hb 0 (hU (.arrayClass .int) wd_12) rfl (fun _ => Iff.rfl) hK rfl hW hS hA (fun _ => rfl) (fun L kd => na_552 L kd) (by decide) (by decide) (Nat.le_of_ble_eq_true rfl) (Nat.le_of_ble_eq_true rfl) (Nat.le_of_ble_eq_true rfl) dX7_init_39 (fun q_5 H hW hS => ?_)
  have hW : cw (dC, dI) cI cL cZ cR cG cH A [(a0, .inr (7, [.ref q_1, .int 0, .ref q_2, .ref q_3, .ref q_4, .null, .int 0, .null, .null, .null, .null, .null, .int 0, .null, .null, .null]))] [(q_1, 549), (q_2, 550), (q_3, 551), (q_4, 552), (q_5, 552)] [] H := hW
  refine W.widen (k := 5) (n := 153) (Nat.le_of_ble_eq_true rfl) (Nat.le_of_ble_eq_true rfl) ?_
  obtain ⟨L, f, kd, hP, hD, hB, hR, hF⟩ := hW
  refine va_putF (D := (dC, dI)) (ci := 7) (v := .ref q_5) (ty := .array .int) (C := RX7) (T := TX7) (N := 16) hx hb hU inlX7 tyX7 tyX7_ok nmX7 hown hK hP hD hS 0 rfl rfl 5 (by decide) (hU _ wd_76) (fun _ h9 => h9) rfl hin rfl (by decide +kernel) rfl rfl (Nat.le_of_ble_eq_true rfl) dX7_init_41 (fun H locs hP hD hS => ?_)
  have hW : cw (dC, dI) cI cL cZ cR cG cH A [(a0, .inr (7, [.ref q_1, .int 0, .ref q_2, .ref q_3, .ref q_4, .ref q_5, .int 0, .null, .null, .null, .null, .null, .int 0, .null, .null, .null]))] [(q_1, 549), (q_2, 550), (q_3, 551), (q_4, 552), (q_5, 552)] [] H := ⟨L, f, kd, hP, hD, hB, hR, hF⟩
  refine lv_aload_n hx hb dX7_init_44 rfl (lv_at hl 0 rfl) ?_
  refine lv_bipush (v := 9) hx hb dX7_init_45 (by decide) ?_
  refine cs_newa (atype := .int) (ty := .int) (k := 553) (a0 := (9, .inl z0)) hx hb 0 (hU (.arrayClass .int) wd_12) rfl (fun _ => Iff.rfl) hK rfl hW hS hA (fun _ => rfl) (fun L kd => na_553 L kd) (by decide) (by decide) (Nat.le_of_ble_eq_true rfl) (Nat.le_of_ble_eq_true rfl) (Nat.le_of_ble_eq_true rfl) dX7_init_47 (fun q_6 H hW hS => ?_)
  have hW : cw (dC, dI) cI cL cZ cR cG cH A [(a0, .inr (7, [.ref q_1, .int 0, .ref q_2, .ref q_3, .ref q_4, .ref q_5, .int 0, .null, .null, .null, .null, .null, .int 0, .null, .null, .null]))] [(q_1, 549), (q_2, 550), (q_3, 551), (q_4, 552), (q_5, 552), (q_6, 553)] [] H := hW
  refine W.widen (k := 6) (n := 162) (Nat.le_of_ble_eq_true rfl) (Nat.le_of_ble_eq_true rfl) ?_
  obtain ⟨L, f, kd, hP, hD, hB, hR, hF⟩ := hW
  refine va_putF (D := (dC, dI)) (ci := 7) (v := .ref q_6) (ty := .array .int) (C := RX7) (T := TX7) (N := 16) hx hb hU inlX7 tyX7 tyX7_ok nmX7 hown hK hP hD hS 0 rfl rfl 7 (by decide) (hU _ wd_77) (fun _ h9 => h9) rfl hin rfl (by decide +kernel) rfl rfl (Nat.le_of_ble_eq_true rfl) dX7_init_49 (fun H locs hP hD hS => ?_)
  have hW : cw (dC, dI) cI cL cZ cR cG cH A [(a0, .inr (7, [.ref q_1, .int 0, .ref q_2, .ref q_3, .ref q_4, .ref q_5, .int 0, .ref q_6, .null, .null, .null, .null, .int 0, .null, .null, .null]))] [(q_1, 549), (q_2, 550), (q_3, 551), (q_4, 552), (q_5, 552), (q_6, 553)] [] H := ⟨L, f, kd, hP, hD, hB, hR, hF⟩
  refine lv_aload_n hx hb dX7_init_52 rfl (lv_at hl 0 rfl) ?_
  refine lv_bipush (v := 9) hx hb dX7_init_53 (by decide) ?_
  refine cs_newa (atype := .int) (ty := .int) (k := 554) (a0 := (9, .inl z0)) hx hb 0 (hU (.arrayClass .int) wd_12) rfl (fun _ => Iff.rfl) hK rfl hW hS hA (fun _ => rfl) (fun L kd => na_554 L kd) (by decide) (by decide) (Nat.le_of_ble_eq_true rfl) (Nat.le_of_ble_eq_true rfl) (Nat.le_of_ble_eq_true rfl) dX7_init_55 (fun q_7 H hW hS => ?_)
  have hW : cw (dC, dI) cI cL cZ cR cG cH A [(a0, .inr (7, [.ref q_1, .int 0, .ref q_2, .ref q_3, .ref q_4, .ref q_5, .int 0, .ref q_6, .null, .null, .null, .null, .int 0, .null, .null, .null]))] [(q_1, 549), (q_2, 550), (q_3, 551), (q_4, 552), (q_5, 552), (q_6, 553), (q_7, 554)] [] H := hW
  refine W.widen (k := 7) (n := 171) (Nat.le_of_ble_eq_true rfl) (Nat.le_of_ble_eq_true rfl) ?_
  obtain ⟨L, f, kd, hP, hD, hB, hR, hF⟩ := hW
  refine va_putF (D := (dC, dI)) (ci := 7) (v := .ref q_7) (ty := .array .int) (C := RX7) (T := TX7) (N := 16) hx hb hU inlX7 tyX7 tyX7_ok nmX7 hown hK hP hD hS 0 rfl rfl 8 (by decide) (hU _ wd_78) (fun _ h9 => h9) rfl hin rfl (by decide +kernel) rfl rfl (Nat.le_of_ble_eq_true rfl) dX7_init_57 (fun H locs hP hD hS => ?_)
  have hW : cw (dC, dI) cI cL cZ cR cG cH A [(a0, .inr (7, [.ref q_1, .int 0, .ref q_2, .ref q_3, .ref q_4, .ref q_5, .int 0, .ref q_6, .ref q_7, .null, .null, .null, .int 0, .null, .null, .null]))] [(q_1, 549), (q_2, 550), (q_3, 551), (q_4, 552), (q_5, 552), (q_6, 553), (q_7, 554)] [] H := ⟨L, f, kd, hP, hD, hB, hR, hF⟩
  refine lv_aload_n hx hb dX7_init_60 rfl (lv_at hl 0 rfl) ?_
  refine lv_bipush (v := 36) hx hb dX7_init_61 (by decide) ?_
  refine cs_newa (atype := .int) (ty := .int) (k := 555) (a0 := (36, .inl z0)) hx hb 0 (hU (.arrayClass .int) wd_12) rfl (fun _ => Iff.rfl) hK rfl hW hS hA (fun _ => rfl) (fun L kd => na_555 L kd) (by decide) (by decide) (Nat.le_of_ble_eq_true rfl) (Nat.le_of_ble_eq_true rfl) (Nat.le_of_ble_eq_true rfl) dX7_init_63 (fun q_8 H hW hS => ?_)
  have hW : cw (dC, dI) cI cL cZ cR cG cH A [(a0, .inr (7, [.ref q_1, .int 0, .ref q_2, .ref q_3, .ref q_4, .ref q_5, .int 0, .ref q_6, .ref q_7, .null, .null, .null, .int 0, .null, .null, .null]))] [(q_1, 549), (q_2, 550), (q_3, 551), (q_4, 552), (q_5, 552), (q_6, 553), (q_7, 554), (q_8, 555)] [] H := hW
  refine W.widen (k := 8) (n := 207) (Nat.le_of_ble_eq_true rfl) (Nat.le_of_ble_eq_true rfl) ?_
  obtain ⟨L, f, kd, hP, hD, hB, hR, hF⟩ := hW
  refine va_putF (D := (dC, dI)) (ci := 7) (v := .ref q_8) (ty := .array .int) (C := RX7) (T := TX7) (N := 16) hx hb hU inlX7 tyX7 tyX7_ok nmX7 hown hK hP hD hS 0 rfl rfl 9 (by decide) (hU _ wd_79) (fun _ h9 => h9) rfl hin rfl (by decide +kernel) rfl rfl (Nat.le_of_ble_eq_true rfl) dX7_init_65 (fun H locs hP hD hS => ?_)
  have hW : cw (dC, dI) cI cL cZ cR cG cH A [(a0, .inr (7, [.ref q_1, .int 0, .ref q_2, .ref q_3, .ref q_4, .ref q_5, .int 0, .ref q_6, .ref q_7, .ref q_8, .null, .null, .int 0, .null, .null, .null]))] [(q_1, 549), (q_2, 550), (q_3, 551), (q_4, 552), (q_5, 552), (q_6, 553), (q_7, 554), (q_8, 555)] [] H := ⟨L, f, kd, hP, hD, hB, hR, hF⟩
  refine lv_aload_n hx hb dX7_init_68 rfl (lv_at hl 0 rfl) ?_
  refine lv_bipush (v := 36) hx hb dX7_init_69 (by decide) ?_
  refine cs_newa (atype := .int) (ty := .int) (k := 555) (a0 := (36, .inl z0)) hx hb 0 (hU (.arrayClass .int) wd_12) rfl (fun _ => Iff.rfl) hK rfl hW hS hA (fun _ => rfl) (fun L kd => na_555 L kd) (by decide) (by decide) (Nat.le_of_ble_eq_true rfl) (Nat.le_of_ble_eq_true rfl) (Nat.le_of_ble_eq_true rfl) dX7_init_71 (fun q_9 H hW hS => ?_)
  have hW : cw (dC, dI) cI cL cZ cR cG cH A [(a0, .inr (7, [.ref q_1, .int 0, .ref q_2, .ref q_3, .ref q_4, .ref q_5, .int 0, .ref q_6, .ref q_7, .ref q_8, .null, .null, .int 0, .null, .null, .null]))] [(q_1, 549), (q_2, 550), (q_3, 551), (q_4, 552), (q_5, 552), (q_6, 553), (q_7, 554), (q_8, 555), (q_9, 555)] [] H := hW
  refine W.widen (k := 9) (n := 243) (Nat.le_of_ble_eq_true rfl) (Nat.le_of_ble_eq_true rfl) ?_
  obtain ⟨L, f, kd, hP, hD, hB, hR, hF⟩ := hW
  refine va_putF (D := (dC, dI)) (ci := 7) (v := .ref q_9) (ty := .array .int) (C := RX7) (T := TX7) (N := 16) hx hb hU inlX7 tyX7 tyX7_ok nmX7 hown hK hP hD hS 0 rfl rfl 10 (by decide) (hU _ wd_80) (fun _ h9 => h9) rfl hin rfl (by decide +kernel) rfl rfl (Nat.le_of_ble_eq_true rfl) dX7_init_73 (fun H locs hP hD hS => ?_)
  have hW : cw (dC, dI) cI cL cZ cR cG cH A [(a0, .inr (7, [.ref q_1, .int 0, .ref q_2, .ref q_3, .ref q_4, .ref q_5, .int 0, .ref q_6, .ref q_7, .ref q_8, .ref q_9, .null, .int 0, .null, .null, .null]))] [(q_1, 549), (q_2, 550), (q_3, 551), (q_4, 552), (q_5, 552), (q_6, 553), (q_7, 554), (q_8, 555), (q_9, 555)] [] H := ⟨L, f, kd, hP, hD, hB, hR, hF⟩
  refine lv_aload_n hx hb dX7_init_76 rfl (lv_at hl 0 rfl) ?_
  refine lv_bipush (v := 8) hx hb dX7_init_77 (by decide) ?_
  refine cs_newq hx hb hown (hU _ wd_81) hN.2.2.2.2.2.2.2.2.2.2.1 hK hW hS hA (by decide) (N' := 8) (by decide) (by decide) (Nat.le_of_ble_eq_true rfl) (Nat.le_of_ble_eq_true rfl) dX7_init_79 (fun q_10 H hW hS => ?_)
  have hW : cw (dC, dI) cI cL cZ cR cG cH A [(a0, .inr (7, [.ref q_1, .int 0, .ref q_2, .ref q_3, .ref q_4, .ref q_5, .int 0, .ref q_6, .ref q_7, .ref q_8, .ref q_9, .null, .int 0, .null, .null, .null])), (q_10, .inl (cR, 8, .inr (.inr (.inr (.inr (fun _ => none))))))] [(q_1, 549), (q_2, 550), (q_3, 551), (q_4, 552), (q_5, 552), (q_6, 553), (q_7, 554), (q_8, 555), (q_9, 555)] [] H := hW
  refine W.widen (k := 10) (n := 251) (Nat.le_of_ble_eq_true rfl) (Nat.le_of_ble_eq_true rfl) ?_
  obtain ⟨L, f, kd, hP, hD, hB, hR, hF⟩ := hW
  refine va_putF (D := (dC, dI)) (ci := 7) (v := .ref q_10) (ty := .array (.object "SaidShallow$Rule")) (C := RX7) (T := TX7) (N := 16) hx hb hU inlX7 tyX7 tyX7_ok nmX7 hown hK hP hD hS 0 rfl rfl 11 (by decide) (hU _ wd_82) (fun _ h9 => h9) rfl hin rfl (by decide +kernel) rfl rfl (Nat.le_of_ble_eq_true rfl) dX7_init_82 (fun H locs hP hD hS => ?_)
  have hW : cw (dC, dI) cI cL cZ cR cG cH A [(a0, .inr (7, [.ref q_1, .int 0, .ref q_2, .ref q_3, .ref q_4, .ref q_5, .int 0, .ref q_6, .ref q_7, .ref q_8, .ref q_9, .ref q_10, .int 0, .null, .null, .null])), (q_10, .inl (cR, 8, .inr (.inr (.inr (.inr (fun _ => none))))))] [(q_1, 549), (q_2, 550), (q_3, 551), (q_4, 552), (q_5, 552), (q_6, 553), (q_7, 554), (q_8, 555), (q_9, 555)] [] H := ⟨L, f, kd, hP, hD, hB, hR, hF⟩
  refine lv_aload_n hx hb dX7_init_85 rfl (lv_at hl 0 rfl) ?_
  obtain ⟨L, f, kd, hP, hD, hB, hR, hF⟩ := hW
  refine va_new (ci := 9) (fs := [.null, .null, .int 0]) (C := RX9) (T := TX9) (N := 3) hx hb hU inlX9 tyX9 tyX9_ok hown (hU _ wd_83) (hU _ wd_84) (hU _ wd_85) hK hP hD hS hA rfl dvX9 (Nat.le_of_ble_eq_true rfl) (Nat.le_of_ble_eq_true rfl) dX7_init_86 (fun q_11 H hP hD hS => ?_)
  have hW : cw (dC, dI) cI cL cZ cR cG cH A ([(a0, .inr (7, [.ref q_1, .int 0, .ref q_2, .ref q_3, .ref q_4, .ref q_5, .int 0, .ref q_6, .ref q_7, .ref q_8, .ref q_9, .ref q_10, .int 0, .null, .null, .null])), (q_10, .inl (cR, 8, .inr (.inr (.inr (.inr (fun _ => none))))))] ++ [(q_11, .inr (9, [.null, .null, .int 0]))]) [(q_1, 549), (q_2, 550), (q_3, 551), (q_4, 552), (q_5, 552), (q_6, 553), (q_7, 554), (q_8, 555), (q_9, 555)] [] H := cw_new hP hD hB hR hF
  refine W.widen (k := 11) (n := 254) (Nat.le_of_ble_eq_true rfl) (Nat.le_of_ble_eq_true rfl) ?_
  refine lv_dup hx hb dX7_init_89 rfl ?_
  refine lv_bipush (v := 12) hx hb dX7_init_90 (by decide) ?_
  refine cs_back (X := [(a0, .inr (7, [.ref q_1, .int 0, .ref q_2, .ref q_3, .ref q_4, .ref q_5, .int 0, .ref q_6, .ref q_7, .ref q_8, .ref q_9, .ref q_10, .int 0, .null, .null, .null])), (q_10, .inl (cR, 8, .inr (.inr (.inr (.inr (fun _ => none))))))]) (cs_I (X := [(a0, .inr (7, [.ref q_1, .int 0, .ref q_2, .ref q_3, .ref q_4, .ref q_5, .int 0, .ref q_6, .ref q_7, .ref q_8, .ref q_9, .ref q_10, .int 0, .null, .null, .null])), (q_10, .inl (cR, 8, .inr (.inr (.inr (.inr (fun _ => none))))))]) (As := [.int 12]) (rest := [.ref q_11, .ref a0]) (n := 1) hx hb hml hown hU hN (n_X9_init_109 l (dC, dI) cI cL cZ cR cG cH H.size q_11) wd_91 wd_92 wd_85 wd_93 rfl (by decide +kernel) ⟨Nat.le_of_ble_eq_true rfl, Nat.le_of_ble_eq_true rfl⟩ hK hW rfl hl.1 rfl (Nat.le_of_ble_eq_true rfl) dX7_init_92 ⟨Nat.le_of_ble_eq_true rfl, Nat.le_of_ble_eq_true rfl⟩) hW hS hA [2] [0, 1] rfl rfl (by decide) (by decide) (fun H locs hW hS => ?_)
  have hW : cw (dC, dI) cI cL cZ cR cG cH A [(a0, .inr (7, [.ref q_1, .int 0, .ref q_2, .ref q_3, .ref q_4, .ref q_5, .int 0, .ref q_6, .ref q_7, .ref q_8, .ref q_9, .ref q_10, .int 0, .null, .null, .null])), (q_10, .inl (cR, 8, .inr (.inr (.inr (.inr (fun _ => none))))))] [(q_1, 549), (q_2, 550), (q_3, 551), (q_4, 552), (q_5, 552), (q_6, 553), (q_7, 554), (q_8, 555), (q_9, 555), (q_11, 109)] [] H := hW
  refine W.widen (k := 13) (n := 362) (Nat.le_of_ble_eq_true rfl) (Nat.le_of_ble_eq_true rfl) ?_
  obtain ⟨L, f, kd, hP, hD, hB, hR, hF⟩ := hW
  refine va_putF (D := (dC, dI)) (ci := 7) (v := .ref q_11) (ty := .object "SaidShallow$WordList") (C := RX7) (T := TX7) (N := 16) hx hb hU inlX7 tyX7 tyX7_ok nmX7 hown hK hP hD hS 0 rfl rfl 13 (by decide) (hU _ wd_86) (fun _ h9 => h9) rfl hin rfl (by decide +kernel) rfl rfl (Nat.le_of_ble_eq_true rfl) dX7_init_95 (fun H locs hP hD hS => ?_)
  have hW : cw (dC, dI) cI cL cZ cR cG cH A [(a0, .inr (7, [.ref q_1, .int 0, .ref q_2, .ref q_3, .ref q_4, .ref q_5, .int 0, .ref q_6, .ref q_7, .ref q_8, .ref q_9, .ref q_10, .int 0, .ref q_11, .null, .null])), (q_10, .inl (cR, 8, .inr (.inr (.inr (.inr (fun _ => none))))))] [(q_1, 549), (q_2, 550), (q_3, 551), (q_4, 552), (q_5, 552), (q_6, 553), (q_7, 554), (q_8, 555), (q_9, 555), (q_11, 109)] [] H := ⟨L, f, kd, hP, hD, hB, hR, hF⟩
  refine lv_aload_n hx hb dX7_init_98 rfl (lv_at hl 0 rfl) ?_
  obtain ⟨L, f, kd, hP, hD, hB, hR, hF⟩ := hW
  refine va_new (ci := 9) (fs := [.null, .null, .int 0]) (C := RX9) (T := TX9) (N := 3) hx hb hU inlX9 tyX9 tyX9_ok hown (hU _ wd_83) (hU _ wd_84) (hU _ wd_85) hK hP hD hS hA rfl dvX9 (Nat.le_of_ble_eq_true rfl) (Nat.le_of_ble_eq_true rfl) dX7_init_99 (fun q_12 H hP hD hS => ?_)
  have hW : cw (dC, dI) cI cL cZ cR cG cH A ([(a0, .inr (7, [.ref q_1, .int 0, .ref q_2, .ref q_3, .ref q_4, .ref q_5, .int 0, .ref q_6, .ref q_7, .ref q_8, .ref q_9, .ref q_10, .int 0, .ref q_11, .null, .null])), (q_10, .inl (cR, 8, .inr (.inr (.inr (.inr (fun _ => none))))))] ++ [(q_12, .inr (9, [.null, .null, .int 0]))]) [(q_1, 549), (q_2, 550), (q_3, 551), (q_4, 552), (q_5, 552), (q_6, 553), (q_7, 554), (q_8, 555), (q_9, 555), (q_11, 109)] [] H := cw_new hP hD hB hR hF
  refine W.widen (k := 14) (n := 365) (Nat.le_of_ble_eq_true rfl) (Nat.le_of_ble_eq_true rfl) ?_
  refine lv_dup hx hb dX7_init_102 rfl ?_
  refine lv_bipush (v := 8) hx hb dX7_init_103 (by decide) ?_
  refine cs_back (X := [(a0, .inr (7, [.ref q_1, .int 0, .ref q_2, .ref q_3, .ref q_4, .ref q_5, .int 0, .ref q_6, .ref q_7, .ref q_8, .ref q_9, .ref q_10, .int 0, .ref q_11, .null, .null])), (q_10, .inl (cR, 8, .inr (.inr (.inr (.inr (fun _ => none))))))]) (cs_I (X := [(a0, .inr (7, [.ref q_1, .int 0, .ref q_2, .ref q_3, .ref q_4, .ref q_5, .int 0, .ref q_6, .ref q_7, .ref q_8, .ref q_9, .ref q_10, .int 0, .ref q_11, .null, .null])), (q_10, .inl (cR, 8, .inr (.inr (.inr (.inr (fun _ => none))))))]) (As := [.int 8]) (rest := [.ref q_12, .ref a0]) (n := 1) hx hb hml hown hU hN (n_X9_init_113 l (dC, dI) cI cL cZ cR cG cH H.size q_12) wd_91 wd_92 wd_85 wd_93 rfl (by decide +kernel) ⟨Nat.le_of_ble_eq_true rfl, Nat.le_of_ble_eq_true rfl⟩ hK hW rfl hl.1 rfl (Nat.le_of_ble_eq_true rfl) dX7_init_105 ⟨Nat.le_of_ble_eq_true rfl, Nat.le_of_ble_eq_true rfl⟩) hW hS hA [2] [0, 1] rfl rfl (by decide) (by decide) (fun H locs hW hS => ?_)
  have hW : cw (dC, dI) cI cL cZ cR cG cH A [(a0, .inr (7, [.ref q_1, .int 0, .ref q_2, .ref q_3, .ref q_4, .ref q_5, .int 0, .ref q_6, .ref q_7, .ref q_8, .ref q_9, .ref q_10, .int 0, .ref q_11, .null, .null])), (q_10, .inl (cR, 8, .inr (.inr (.inr (.inr (fun _ => none))))))] [(q_1, 549), (q_2, 550), (q_3, 551), (q_4, 552), (q_5, 552), (q_6, 553), (q_7, 554), (q_8, 555), (q_9, 555), (q_11, 109), (q_12, 113)] [] H := hW
  refine W.widen (k := 16) (n := 437) (Nat.le_of_ble_eq_true rfl) (Nat.le_of_ble_eq_true rfl) ?_
  obtain ⟨L, f, kd, hP, hD, hB, hR, hF⟩ := hW
  refine va_putF (D := (dC, dI)) (ci := 7) (v := .ref q_12) (ty := .object "SaidShallow$WordList") (C := RX7) (T := TX7) (N := 16) hx hb hU inlX7 tyX7 tyX7_ok nmX7 hown hK hP hD hS 0 rfl rfl 14 (by decide) (hU _ wd_87) (fun _ h9 => h9) rfl hin rfl (by decide +kernel) rfl rfl (Nat.le_of_ble_eq_true rfl) dX7_init_108 (fun H locs hP hD hS => ?_)
  have hW : cw (dC, dI) cI cL cZ cR cG cH A [(a0, .inr (7, [.ref q_1, .int 0, .ref q_2, .ref q_3, .ref q_4, .ref q_5, .int 0, .ref q_6, .ref q_7, .ref q_8, .ref q_9, .ref q_10, .int 0, .ref q_11, .ref q_12, .null])), (q_10, .inl (cR, 8, .inr (.inr (.inr (.inr (fun _ => none))))))] [(q_1, 549), (q_2, 550), (q_3, 551), (q_4, 552), (q_5, 552), (q_6, 553), (q_7, 554), (q_8, 555), (q_9, 555), (q_11, 109), (q_12, 113)] [] H := ⟨L, f, kd, hP, hD, hB, hR, hF⟩
  refine lv_aload_n hx hb dX7_init_111 rfl (lv_at hl 0 rfl) ?_
  refine lv_bipush (v := 8) hx hb dX7_init_112 (by decide) ?_
  refine cs_newa (atype := .int) (ty := .int) (k := 557) (a0 := (8, .inl z0)) hx hb 0 (hU (.arrayClass .int) wd_12) rfl (fun _ => Iff.rfl) hK rfl hW hS hA (fun _ => rfl) (fun L kd => na_557 L kd) (by decide) (by decide) (Nat.le_of_ble_eq_true rfl) (Nat.le_of_ble_eq_true rfl) (Nat.le_of_ble_eq_true rfl) dX7_init_114 (fun q_13 H hW hS => ?_)
  have hW : cw (dC, dI) cI cL cZ cR cG cH A [(a0, .inr (7, [.ref q_1, .int 0, .ref q_2, .ref q_3, .ref q_4, .ref q_5, .int 0, .ref q_6, .ref q_7, .ref q_8, .ref q_9, .ref q_10, .int 0, .ref q_11, .ref q_12, .null])), (q_10, .inl (cR, 8, .inr (.inr (.inr (.inr (fun _ => none))))))] [(q_1, 549), (q_2, 550), (q_3, 551), (q_4, 552), (q_5, 552), (q_6, 553), (q_7, 554), (q_8, 555), (q_9, 555), (q_11, 109), (q_12, 113), (q_13, 557)] [] H := hW
  refine W.widen (k := 17) (n := 445) (Nat.le_of_ble_eq_true rfl) (Nat.le_of_ble_eq_true rfl) ?_
  obtain ⟨L, f, kd, hP, hD, hB, hR, hF⟩ := hW
  refine va_putF (D := (dC, dI)) (ci := 7) (v := .ref q_13) (ty := .array .int) (C := RX7) (T := TX7) (N := 16) hx hb hU inlX7 tyX7 tyX7_ok nmX7 hown hK hP hD hS 0 rfl rfl 15 (by decide) (hU _ wd_88) (fun _ h9 => h9) rfl hin rfl (by decide +kernel) rfl rfl (Nat.le_of_ble_eq_true rfl) dX7_init_116 (fun H locs hP hD hS => ?_)
  have hW : cw (dC, dI) cI cL cZ cR cG cH A [(a0, .inr (7, [.ref q_1, .int 0, .ref q_2, .ref q_3, .ref q_4, .ref q_5, .int 0, .ref q_6, .ref q_7, .ref q_8, .ref q_9, .ref q_10, .int 0, .ref q_11, .ref q_12, .ref q_13])), (q_10, .inl (cR, 8, .inr (.inr (.inr (.inr (fun _ => none))))))] [(q_1, 549), (q_2, 550), (q_3, 551), (q_4, 552), (q_5, 552), (q_6, 553), (q_7, 554), (q_8, 555), (q_9, 555), (q_11, 109), (q_12, 113), (q_13, 557)] [] H := ⟨L, f, kd, hP, hD, hB, hR, hF⟩
  refine lv_iconst (v := 0) hx hb dX7_init_119 (by decide) ?_
  refine lv_istore_n (lv' := [(1, .int 0), (0, .ref a0)]) hx hb dX7_init_120 rfl hl (by decide) rfl (fun ls hl => ?_)
  refine lv_iload_n hx hb dX7_init_121 rfl (lv_at hl 0 rfl) ?_
  refine lv_bipush (v := 8) hx hb dX7_init_122 (by decide) ?_
  refine lv_icmp_ge (tgt := 146) hx hb dX7_init_124 (by decide) (fun c9 => absurd c9 (by decide)) (fun _ => ?_)
  refine lv_aload_n hx hb dX7_init_127 rfl (lv_at hl 1 rfl) ?_
  obtain ⟨L, f, kd, hP, hD, hB, hR, hF⟩ := hW
  refine va_get (D := (dC, dI)) (ci := 7) (v := .ref q_10) (C := RX7) (T := TX7) (N := 16) hx hb hU inlX7 hown hK hP 0 rfl rfl 11 (by decide) (hU _ wd_82) (fun _ h9 => h9) rfl dX7_init_128 ?_
  have hW : cw (dC, dI) cI cL cZ cR cG cH A [(a0, .inr (7, [.ref q_1, .int 0, .ref q_2, .ref q_3, .ref q_4, .ref q_5, .int 0, .ref q_6, .ref q_7, .ref q_8, .ref q_9, .ref q_10, .int 0, .ref q_11, .ref q_12, .ref q_13])), (q_10, .inl (cR, 8, .inr (.inr (.inr (.inr (fun _ => none))))))] [(q_1, 549), (q_2, 550), (q_3, 551), (q_4, 552), (q_5, 552), (q_6, 553), (q_7, 554), (q_8, 555), (q_9, 555), (q_11, 109), (q_12, 113), (q_13, 557)] [] H := ⟨L, f, kd, hP, hD, hB, hR, hF⟩
  refine lv_iload_n hx hb dX7_init_131 rfl (lv_at hl 0 rfl) ?_
  obtain ⟨L, f, kd, hP, hD, hB, hR, hF⟩ := hW
  refine va_new (ci := 4) (fs := [.int 0, .int 0, .int 0, .int 0, .null, .null, .null, .null, .int 0, .int 0, .int 0]) (C := RX4) (T := TX4) (N := 11) hx hb hU inlX4 tyX4 tyX4_ok hown (hU _ wd_81) (hU _ wd_89) (hU _ wd_90) hK hP hD hS hA rfl dvX4 (Nat.le_of_ble_eq_true rfl) (Nat.le_of_ble_eq_true rfl) dX7_init_132 (fun q_14 H hP hD hS => ?_)
  have hW : cw (dC, dI) cI cL cZ cR cG cH A ([(a0, .inr (7, [.ref q_1, .int 0, .ref q_2, .ref q_3, .ref q_4, .ref q_5, .int 0, .ref q_6, .ref q_7, .ref q_8, .ref q_9, .ref q_10, .int 0, .ref q_11, .ref q_12, .ref q_13])), (q_10, .inl (cR, 8, .inr (.inr (.inr (.inr (fun _ => none))))))] ++ [(q_14, .inr (4, [.int 0, .int 0, .int 0, .int 0, .null, .null, .null, .null, .int 0, .int 0, .int 0]))]) [(q_1, 549), (q_2, 550), (q_3, 551), (q_4, 552), (q_5, 552), (q_6, 553), (q_7, 554), (q_8, 555), (q_9, 555), (q_11, 109), (q_12, 113), (q_13, 557)] [] H := cw_new hP hD hB hR hF
  refine W.widen (k := 18) (n := 456) (Nat.le_of_ble_eq_true rfl) (Nat.le_of_ble_eq_true rfl) ?_
  refine lv_dup hx hb dX7_init_135 rfl ?_
  refine cs_back (X := [(a0, .inr (7, [.ref q_1, .int 0, .ref q_2, .ref q_3, .ref q_4, .ref q_5, .int 0, .ref q_6, .ref q_7, .ref q_8, .ref q_9, .ref q_10, .int 0, .ref q_11, .ref q_12, .ref q_13])), (q_10, .inl (cR, 8, .inr (.inr (.inr (.inr (fun _ => none))))))]) (cs_IN (X := [(a0, .inr (7, [.ref q_1, .int 0, .ref q_2, .ref q_3, .ref q_4, .ref q_5, .int 0, .ref q_6, .ref q_7, .ref q_8, .ref q_9, .ref q_10, .int 0, .ref q_11, .ref q_12, .ref q_13])), (q_10, .inl (cR, 8, .inr (.inr (.inr (.inr (fun _ => none))))))]) (As := []) (rest := [.ref q_14, .int 0, .ref q_10]) (n := 0) hx hb hml hown hU hN (n_X4_init_104 l (dC, dI) cI cL cZ cR cG cH H.size q_14) hN.2.1 wd_97 wd_90 wd_98 rfl (by decide +kernel) ⟨Nat.le_of_ble_eq_true rfl, Nat.le_of_ble_eq_true rfl⟩ hK hW rfl hl.1 rfl (Nat.le_of_ble_eq_true rfl) dX7_init_136 ⟨Nat.le_of_ble_eq_true rfl, Nat.le_of_ble_eq_true rfl⟩) hW hS hA [2] [0, 1] rfl rfl (by decide) (by decide) (fun H locs hW hS => ?_)
  have hW : cw (dC, dI) cI cL cZ cR cG cH A [(a0, .inr (7, [.ref q_1, .int 0, .ref q_2, .ref q_3, .ref q_4, .ref q_5, .int 0, .ref q_6, .ref q_7, .ref q_8, .ref q_9, .ref q_10, .int 0, .ref q_11, .ref q_12, .ref q_13])), (q_10, .inl (cR, 8, .inr (.inr (.inr (.inr (fun _ => none))))))] [(q_1, 549), (q_2, 550), (q_3, 551), (q_4, 552), (q_5, 552), (q_6, 553), (q_7, 554), (q_8, 555), (q_9, 555), (q_11, 109), (q_12, 113), (q_13, 557), (q_14, 104)] [] H := hW
  refine W.widen (k := 28) (n := 608) (Nat.le_of_ble_eq_true rfl) (Nat.le_of_ble_eq_true rfl) ?_
  obtain ⟨L, f, kd, hP, hD, hB, hR, hF⟩ := hW
  obtain ⟨mb, kb⟩ := hR (q_14, 104) (List.mem_of_getElem? (i := 12) rfl)
  obtain ⟨kq, hkq⟩ := va_pl_get (X := [(a0, .inr (7, [.ref q_1, .int 0, .ref q_2, .ref q_3, .ref q_4, .ref q_5, .int 0, .ref q_6, .ref q_7, .ref q_8, .ref q_9, .ref q_10, .int 0, .ref q_11, .ref q_12, .ref q_13])), (q_10, .inl (cR, 8, .inr (.inr (.inr (.inr (fun _ => none))))))]) (f := f) mb
  obtain ⟨u0, u1, u2, u3, u4, u5, u6, u7, u8, u9, u10, hfb, -, -, -, -, -, -, -, -⟩ := un_104 (hB _ mb).1 kb
  rw [hfb] at hkq
  refine va_astq (r := (RX4, TX4, 11)) hx hb hK hP hD hS 1 3 kq 4 rfl rfl hkq rfl (vp_in_nI (n := 0) (by decide) (by decide)) dX7_init_139 (fun H locs hP hD hS => ?_)
  have hW : cw (dC, dI) cI cL cZ cR cG cH A [(a0, .inr (7, [.ref q_1, .int 0, .ref q_2, .ref q_3, .ref q_4, .ref q_5, .int 0, .ref q_6, .ref q_7, .ref q_8, .ref q_9, .ref q_10, .int 0, .ref q_11, .ref q_12, .ref q_13])), (q_10, .inl (cR, 8, .inr (.inr (.inr (.inr (va_up (fun _ => none) (Int32.toNatClampNeg 0) (some q_14)))))))] [(q_1, 549), (q_2, 550), (q_3, 551), (q_4, 552), (q_5, 552), (q_6, 553), (q_7, 554), (q_8, 555), (q_9, 555), (q_11, 109), (q_12, 113), (q_13, 557), (q_14, 104)] [] H := ⟨L, f, kd, hP, hD, hB, hR, hF⟩
  refine lv_iinc (v := 1) (lv' := [(1, .int 1), (0, .ref a0)]) hx hb dX7_init_140 hl (k := 0) rfl (by decide) (by decide) rfl (fun ls hl => ?_)
  refine lv_goto (tgt := 121) hx hb dX7_init_143 (by decide) ?_
  refine lv_iload_n hx hb dX7_init_121 rfl (lv_at hl 0 rfl) ?_
  refine lv_bipush (v := 8) hx hb dX7_init_122 (by decide) ?_
  refine lv_icmp_ge (tgt := 146) hx hb dX7_init_124 (by decide) (fun c9 => absurd c9 (by decide)) (fun _ => ?_)
  refine lv_aload_n hx hb dX7_init_127 rfl (lv_at hl 1 rfl) ?_
  obtain ⟨L, f, kd, hP, hD, hB, hR, hF⟩ := hW
  refine va_get (D := (dC, dI)) (ci := 7) (v := .ref q_10) (C := RX7) (T := TX7) (N := 16) hx hb hU inlX7 hown hK hP 0 rfl rfl 11 (by decide) (hU _ wd_82) (fun _ h9 => h9) rfl dX7_init_128 ?_
  have hW : cw (dC, dI) cI cL cZ cR cG cH A [(a0, .inr (7, [.ref q_1, .int 0, .ref q_2, .ref q_3, .ref q_4, .ref q_5, .int 0, .ref q_6, .ref q_7, .ref q_8, .ref q_9, .ref q_10, .int 0, .ref q_11, .ref q_12, .ref q_13])), (q_10, .inl (cR, 8, .inr (.inr (.inr (.inr (va_up (fun _ => none) (Int32.toNatClampNeg 0) (some q_14)))))))] [(q_1, 549), (q_2, 550), (q_3, 551), (q_4, 552), (q_5, 552), (q_6, 553), (q_7, 554), (q_8, 555), (q_9, 555), (q_11, 109), (q_12, 113), (q_13, 557), (q_14, 104)] [] H := ⟨L, f, kd, hP, hD, hB, hR, hF⟩
  refine lv_iload_n hx hb dX7_init_131 rfl (lv_at hl 0 rfl) ?_
  obtain ⟨L, f, kd, hP, hD, hB, hR, hF⟩ := hW
  refine va_new (ci := 4) (fs := [.int 0, .int 0, .int 0, .int 0, .null, .null, .null, .null, .int 0, .int 0, .int 0]) (C := RX4) (T := TX4) (N := 11) hx hb hU inlX4 tyX4 tyX4_ok hown (hU _ wd_81) (hU _ wd_89) (hU _ wd_90) hK hP hD hS hA rfl dvX4 (Nat.le_of_ble_eq_true rfl) (Nat.le_of_ble_eq_true rfl) dX7_init_132 (fun q_15 H hP hD hS => ?_)
  have hW : cw (dC, dI) cI cL cZ cR cG cH A ([(a0, .inr (7, [.ref q_1, .int 0, .ref q_2, .ref q_3, .ref q_4, .ref q_5, .int 0, .ref q_6, .ref q_7, .ref q_8, .ref q_9, .ref q_10, .int 0, .ref q_11, .ref q_12, .ref q_13])), (q_10, .inl (cR, 8, .inr (.inr (.inr (.inr (va_up (fun _ => none) (Int32.toNatClampNeg 0) (some q_14)))))))] ++ [(q_15, .inr (4, [.int 0, .int 0, .int 0, .int 0, .null, .null, .null, .null, .int 0, .int 0, .int 0]))]) [(q_1, 549), (q_2, 550), (q_3, 551), (q_4, 552), (q_5, 552), (q_6, 553), (q_7, 554), (q_8, 555), (q_9, 555), (q_11, 109), (q_12, 113), (q_13, 557), (q_14, 104)] [] H := cw_new hP hD hB hR hF
  refine W.widen (k := 29) (n := 619) (Nat.le_of_ble_eq_true rfl) (Nat.le_of_ble_eq_true rfl) ?_
  refine lv_dup hx hb dX7_init_135 rfl ?_
  refine cs_back (X := [(a0, .inr (7, [.ref q_1, .int 0, .ref q_2, .ref q_3, .ref q_4, .ref q_5, .int 0, .ref q_6, .ref q_7, .ref q_8, .ref q_9, .ref q_10, .int 0, .ref q_11, .ref q_12, .ref q_13])), (q_10, .inl (cR, 8, .inr (.inr (.inr (.inr (va_up (fun _ => none) (Int32.toNatClampNeg 0) (some q_14)))))))]) (cs_IN (X := [(a0, .inr (7, [.ref q_1, .int 0, .ref q_2, .ref q_3, .ref q_4, .ref q_5, .int 0, .ref q_6, .ref q_7, .ref q_8, .ref q_9, .ref q_10, .int 0, .ref q_11, .ref q_12, .ref q_13])), (q_10, .inl (cR, 8, .inr (.inr (.inr (.inr (va_up (fun _ => none) (Int32.toNatClampNeg 0) (some q_14)))))))]) (As := []) (rest := [.ref q_15, .int 1, .ref q_10]) (n := 0) hx hb hml hown hU hN (n_X4_init_104 l (dC, dI) cI cL cZ cR cG cH H.size q_15) hN.2.1 wd_97 wd_90 wd_98 rfl (by decide +kernel) ⟨Nat.le_of_ble_eq_true rfl, Nat.le_of_ble_eq_true rfl⟩ hK hW rfl hl.1 rfl (Nat.le_of_ble_eq_true rfl) dX7_init_136 ⟨Nat.le_of_ble_eq_true rfl, Nat.le_of_ble_eq_true rfl⟩) hW hS hA [2] [0, 1] rfl rfl (by decide) (by decide) (fun H locs hW hS => ?_)
  have hW : cw (dC, dI) cI cL cZ cR cG cH A [(a0, .inr (7, [.ref q_1, .int 0, .ref q_2, .ref q_3, .ref q_4, .ref q_5, .int 0, .ref q_6, .ref q_7, .ref q_8, .ref q_9, .ref q_10, .int 0, .ref q_11, .ref q_12, .ref q_13])), (q_10, .inl (cR, 8, .inr (.inr (.inr (.inr (va_up (fun _ => none) (Int32.toNatClampNeg 0) (some q_14)))))))] [(q_1, 549), (q_2, 550), (q_3, 551), (q_4, 552), (q_5, 552), (q_6, 553), (q_7, 554), (q_8, 555), (q_9, 555), (q_11, 109), (q_12, 113), (q_13, 557), (q_14, 104), (q_15, 104)] [] H := hW
  refine W.widen (k := 39) (n := 771) (Nat.le_of_ble_eq_true rfl) (Nat.le_of_ble_eq_true rfl) ?_
  obtain ⟨L, f, kd, hP, hD, hB, hR, hF⟩ := hW
  obtain ⟨mb, kb⟩ := hR (q_15, 104) (List.mem_of_getElem? (i := 13) rfl)
  obtain ⟨kq, hkq⟩ := va_pl_get (X := [(a0, .inr (7, [.ref q_1, .int 0, .ref q_2, .ref q_3, .ref q_4, .ref q_5, .int 0, .ref q_6, .ref q_7, .ref q_8, .ref q_9, .ref q_10, .int 0, .ref q_11, .ref q_12, .ref q_13])), (q_10, .inl (cR, 8, .inr (.inr (.inr (.inr (va_up (fun _ => none) (Int32.toNatClampNeg 0) (some q_14)))))))]) (f := f) mb
  obtain ⟨u0, u1, u2, u3, u4, u5, u6, u7, u8, u9, u10, hfb, -, -, -, -, -, -, -, -⟩ := un_104 (hB _ mb).1 kb
  rw [hfb] at hkq
  refine va_astq (r := (RX4, TX4, 11)) hx hb hK hP hD hS 1 3 kq 4 rfl rfl hkq rfl (vp_in_nI (n := 1) (by decide) (by decide)) dX7_init_139 (fun H locs hP hD hS => ?_)
  have hW : cw (dC, dI) cI cL cZ cR cG cH A [(a0, .inr (7, [.ref q_1, .int 0, .ref q_2, .ref q_3, .ref q_4, .ref q_5, .int 0, .ref q_6, .ref q_7, .ref q_8, .ref q_9, .ref q_10, .int 0, .ref q_11, .ref q_12, .ref q_13])), (q_10, .inl (cR, 8, .inr (.inr (.inr (.inr (va_up (va_up (fun _ => none) (Int32.toNatClampNeg 0) (some q_14)) (Int32.toNatClampNeg 1) (some q_15)))))))] [(q_1, 549), (q_2, 550), (q_3, 551), (q_4, 552), (q_5, 552), (q_6, 553), (q_7, 554), (q_8, 555), (q_9, 555), (q_11, 109), (q_12, 113), (q_13, 557), (q_14, 104), (q_15, 104)] [] H := ⟨L, f, kd, hP, hD, hB, hR, hF⟩
  refine lv_iinc (v := 2) (lv' := [(1, .int 2), (0, .ref a0)]) hx hb dX7_init_140 hl (k := 0) rfl (by decide) (by decide) rfl (fun ls hl => ?_)
  refine lv_goto (tgt := 121) hx hb dX7_init_143 (by decide) ?_
  refine lv_iload_n hx hb dX7_init_121 rfl (lv_at hl 0 rfl) ?_
  refine lv_bipush (v := 8) hx hb dX7_init_122 (by decide) ?_
  refine lv_icmp_ge (tgt := 146) hx hb dX7_init_124 (by decide) (fun c9 => absurd c9 (by decide)) (fun _ => ?_)
  refine lv_aload_n hx hb dX7_init_127 rfl (lv_at hl 1 rfl) ?_
  obtain ⟨L, f, kd, hP, hD, hB, hR, hF⟩ := hW
  refine va_get (D := (dC, dI)) (ci := 7) (v := .ref q_10) (C := RX7) (T := TX7) (N := 16) hx hb hU inlX7 hown hK hP 0 rfl rfl 11 (by decide) (hU _ wd_82) (fun _ h9 => h9) rfl dX7_init_128 ?_
  have hW : cw (dC, dI) cI cL cZ cR cG cH A [(a0, .inr (7, [.ref q_1, .int 0, .ref q_2, .ref q_3, .ref q_4, .ref q_5, .int 0, .ref q_6, .ref q_7, .ref q_8, .ref q_9, .ref q_10, .int 0, .ref q_11, .ref q_12, .ref q_13])), (q_10, .inl (cR, 8, .inr (.inr (.inr (.inr (va_up (va_up (fun _ => none) (Int32.toNatClampNeg 0) (some q_14)) (Int32.toNatClampNeg 1) (some q_15)))))))] [(q_1, 549), (q_2, 550), (q_3, 551), (q_4, 552), (q_5, 552), (q_6, 553), (q_7, 554), (q_8, 555), (q_9, 555), (q_11, 109), (q_12, 113), (q_13, 557), (q_14, 104), (q_15, 104)] [] H := ⟨L, f, kd, hP, hD, hB, hR, hF⟩
  refine lv_iload_n hx hb dX7_init_131 rfl (lv_at hl 0 rfl) ?_
  obtain ⟨L, f, kd, hP, hD, hB, hR, hF⟩ := hW
  refine va_new (ci := 4) (fs := [.int 0, .int 0, .int 0, .int 0, .null, .null, .null, .null, .int 0, .int 0, .int 0]) (C := RX4) (T := TX4) (N := 11) hx hb hU inlX4 tyX4 tyX4_ok hown (hU _ wd_81) (hU _ wd_89) (hU _ wd_90) hK hP hD hS hA rfl dvX4 (Nat.le_of_ble_eq_true rfl) (Nat.le_of_ble_eq_true rfl) dX7_init_132 (fun q_16 H hP hD hS => ?_)
  have hW : cw (dC, dI) cI cL cZ cR cG cH A ([(a0, .inr (7, [.ref q_1, .int 0, .ref q_2, .ref q_3, .ref q_4, .ref q_5, .int 0, .ref q_6, .ref q_7, .ref q_8, .ref q_9, .ref q_10, .int 0, .ref q_11, .ref q_12, .ref q_13])), (q_10, .inl (cR, 8, .inr (.inr (.inr (.inr (va_up (va_up (fun _ => none) (Int32.toNatClampNeg 0) (some q_14)) (Int32.toNatClampNeg 1) (some q_15)))))))] ++ [(q_16, .inr (4, [.int 0, .int 0, .int 0, .int 0, .null, .null, .null, .null, .int 0, .int 0, .int 0]))]) [(q_1, 549), (q_2, 550), (q_3, 551), (q_4, 552), (q_5, 552), (q_6, 553), (q_7, 554), (q_8, 555), (q_9, 555), (q_11, 109), (q_12, 113), (q_13, 557), (q_14, 104), (q_15, 104)] [] H := cw_new hP hD hB hR hF
  refine W.widen (k := 40) (n := 782) (Nat.le_of_ble_eq_true rfl) (Nat.le_of_ble_eq_true rfl) ?_
  refine lv_dup hx hb dX7_init_135 rfl ?_
  refine cs_back (X := [(a0, .inr (7, [.ref q_1, .int 0, .ref q_2, .ref q_3, .ref q_4, .ref q_5, .int 0, .ref q_6, .ref q_7, .ref q_8, .ref q_9, .ref q_10, .int 0, .ref q_11, .ref q_12, .ref q_13])), (q_10, .inl (cR, 8, .inr (.inr (.inr (.inr (va_up (va_up (fun _ => none) (Int32.toNatClampNeg 0) (some q_14)) (Int32.toNatClampNeg 1) (some q_15)))))))]) (cs_IN (X := [(a0, .inr (7, [.ref q_1, .int 0, .ref q_2, .ref q_3, .ref q_4, .ref q_5, .int 0, .ref q_6, .ref q_7, .ref q_8, .ref q_9, .ref q_10, .int 0, .ref q_11, .ref q_12, .ref q_13])), (q_10, .inl (cR, 8, .inr (.inr (.inr (.inr (va_up (va_up (fun _ => none) (Int32.toNatClampNeg 0) (some q_14)) (Int32.toNatClampNeg 1) (some q_15)))))))]) (As := []) (rest := [.ref q_16, .int 2, .ref q_10]) (n := 0) hx hb hml hown hU hN (n_X4_init_104 l (dC, dI) cI cL cZ cR cG cH H.size q_16) hN.2.1 wd_97 wd_90 wd_98 rfl (by decide +kernel) ⟨Nat.le_of_ble_eq_true rfl, Nat.le_of_ble_eq_true rfl⟩ hK hW rfl hl.1 rfl (Nat.le_of_ble_eq_true rfl) dX7_init_136 ⟨Nat.le_of_ble_eq_true rfl, Nat.le_of_ble_eq_true rfl⟩) hW hS hA [2] [0, 1] rfl rfl (by decide) (by decide) (fun H locs hW hS => ?_)
  have hW : cw (dC, dI) cI cL cZ cR cG cH A [(a0, .inr (7, [.ref q_1, .int 0, .ref q_2, .ref q_3, .ref q_4, .ref q_5, .int 0, .ref q_6, .ref q_7, .ref q_8, .ref q_9, .ref q_10, .int 0, .ref q_11, .ref q_12, .ref q_13])), (q_10, .inl (cR, 8, .inr (.inr (.inr (.inr (va_up (va_up (fun _ => none) (Int32.toNatClampNeg 0) (some q_14)) (Int32.toNatClampNeg 1) (some q_15)))))))] [(q_1, 549), (q_2, 550), (q_3, 551), (q_4, 552), (q_5, 552), (q_6, 553), (q_7, 554), (q_8, 555), (q_9, 555), (q_11, 109), (q_12, 113), (q_13, 557), (q_14, 104), (q_15, 104), (q_16, 104)] [] H := hW
  refine W.widen (k := 50) (n := 934) (Nat.le_of_ble_eq_true rfl) (Nat.le_of_ble_eq_true rfl) ?_
  obtain ⟨L, f, kd, hP, hD, hB, hR, hF⟩ := hW
  obtain ⟨mb, kb⟩ := hR (q_16, 104) (List.mem_of_getElem? (i := 14) rfl)
  obtain ⟨kq, hkq⟩ := va_pl_get (X := [(a0, .inr (7, [.ref q_1, .int 0, .ref q_2, .ref q_3, .ref q_4, .ref q_5, .int 0, .ref q_6, .ref q_7, .ref q_8, .ref q_9, .ref q_10, .int 0, .ref q_11, .ref q_12, .ref q_13])), (q_10, .inl (cR, 8, .inr (.inr (.inr (.inr (va_up (va_up (fun _ => none) (Int32.toNatClampNeg 0) (some q_14)) (Int32.toNatClampNeg 1) (some q_15)))))))]) (f := f) mb
  obtain ⟨u0, u1, u2, u3, u4, u5, u6, u7, u8, u9, u10, hfb, -, -, -, -, -, -, -, -⟩ := un_104 (hB _ mb).1 kb
  rw [hfb] at hkq
  refine va_astq (r := (RX4, TX4, 11)) hx hb hK hP hD hS 1 3 kq 4 rfl rfl hkq rfl (vp_in_nI (n := 2) (by decide) (by decide)) dX7_init_139 (fun H locs hP hD hS => ?_)
  have hW : cw (dC, dI) cI cL cZ cR cG cH A [(a0, .inr (7, [.ref q_1, .int 0, .ref q_2, .ref q_3, .ref q_4, .ref q_5, .int 0, .ref q_6, .ref q_7, .ref q_8, .ref q_9, .ref q_10, .int 0, .ref q_11, .ref q_12, .ref q_13])), (q_10, .inl (cR, 8, .inr (.inr (.inr (.inr (va_up (va_up (va_up (fun _ => none) (Int32.toNatClampNeg 0) (some q_14)) (Int32.toNatClampNeg 1) (some q_15)) (Int32.toNatClampNeg 2) (some q_16)))))))] [(q_1, 549), (q_2, 550), (q_3, 551), (q_4, 552), (q_5, 552), (q_6, 553), (q_7, 554), (q_8, 555), (q_9, 555), (q_11, 109), (q_12, 113), (q_13, 557), (q_14, 104), (q_15, 104), (q_16, 104)] [] H := ⟨L, f, kd, hP, hD, hB, hR, hF⟩
  refine lv_iinc (v := 3) (lv' := [(1, .int 3), (0, .ref a0)]) hx hb dX7_init_140 hl (k := 0) rfl (by decide) (by decide) rfl (fun ls hl => ?_)
  refine lv_goto (tgt := 121) hx hb dX7_init_143 (by decide) ?_
  refine lv_iload_n hx hb dX7_init_121 rfl (lv_at hl 0 rfl) ?_
  refine lv_bipush (v := 8) hx hb dX7_init_122 (by decide) ?_
  refine lv_icmp_ge (tgt := 146) hx hb dX7_init_124 (by decide) (fun c9 => absurd c9 (by decide)) (fun _ => ?_)
  refine lv_aload_n hx hb dX7_init_127 rfl (lv_at hl 1 rfl) ?_
  obtain ⟨L, f, kd, hP, hD, hB, hR, hF⟩ := hW
  refine va_get (D := (dC, dI)) (ci := 7) (v := .ref q_10) (C := RX7) (T := TX7) (N := 16) hx hb hU inlX7 hown hK hP 0 rfl rfl 11 (by decide) (hU _ wd_82) (fun _ h9 => h9) rfl dX7_init_128 ?_
  have hW : cw (dC, dI) cI cL cZ cR cG cH A [(a0, .inr (7, [.ref q_1, .int 0, .ref q_2, .ref q_3, .ref q_4, .ref q_5, .int 0, .ref q_6, .ref q_7, .ref q_8, .ref q_9, .ref q_10, .int 0, .ref q_11, .ref q_12, .ref q_13])), (q_10, .inl (cR, 8, .inr (.inr (.inr (.inr (va_up (va_up (va_up (fun _ => none) (Int32.toNatClampNeg 0) (some q_14)) (Int32.toNatClampNeg 1) (some q_15)) (Int32.toNatClampNeg 2) (some q_16)))))))] [(q_1, 549), (q_2, 550), (q_3, 551), (q_4, 552), (q_5, 552), (q_6, 553), (q_7, 554), (q_8, 555), (q_9, 555), (q_11, 109), (q_12, 113), (q_13, 557), (q_14, 104), (q_15, 104), (q_16, 104)] [] H := ⟨L, f, kd, hP, hD, hB, hR, hF⟩
  refine lv_iload_n hx hb dX7_init_131 rfl (lv_at hl 0 rfl) ?_
  obtain ⟨L, f, kd, hP, hD, hB, hR, hF⟩ := hW
  refine va_new (ci := 4) (fs := [.int 0, .int 0, .int 0, .int 0, .null, .null, .null, .null, .int 0, .int 0, .int 0]) (C := RX4) (T := TX4) (N := 11) hx hb hU inlX4 tyX4 tyX4_ok hown (hU _ wd_81) (hU _ wd_89) (hU _ wd_90) hK hP hD hS hA rfl dvX4 (Nat.le_of_ble_eq_true rfl) (Nat.le_of_ble_eq_true rfl) dX7_init_132 (fun q_17 H hP hD hS => ?_)
  have hW : cw (dC, dI) cI cL cZ cR cG cH A ([(a0, .inr (7, [.ref q_1, .int 0, .ref q_2, .ref q_3, .ref q_4, .ref q_5, .int 0, .ref q_6, .ref q_7, .ref q_8, .ref q_9, .ref q_10, .int 0, .ref q_11, .ref q_12, .ref q_13])), (q_10, .inl (cR, 8, .inr (.inr (.inr (.inr (va_up (va_up (va_up (fun _ => none) (Int32.toNatClampNeg 0) (some q_14)) (Int32.toNatClampNeg 1) (some q_15)) (Int32.toNatClampNeg 2) (some q_16)))))))] ++ [(q_17, .inr (4, [.int 0, .int 0, .int 0, .int 0, .null, .null, .null, .null, .int 0, .int 0, .int 0]))]) [(q_1, 549), (q_2, 550), (q_3, 551), (q_4, 552), (q_5, 552), (q_6, 553), (q_7, 554), (q_8, 555), (q_9, 555), (q_11, 109), (q_12, 113), (q_13, 557), (q_14, 104), (q_15, 104), (q_16, 104)] [] H := cw_new hP hD hB hR hF
  refine W.widen (k := 51) (n := 945) (Nat.le_of_ble_eq_true rfl) (Nat.le_of_ble_eq_true rfl) ?_
  refine lv_dup hx hb dX7_init_135 rfl ?_
  refine cs_back (X := [(a0, .inr (7, [.ref q_1, .int 0, .ref q_2, .ref q_3, .ref q_4, .ref q_5, .int 0, .ref q_6, .ref q_7, .ref q_8, .ref q_9, .ref q_10, .int 0, .ref q_11, .ref q_12, .ref q_13])), (q_10, .inl (cR, 8, .inr (.inr (.inr (.inr (va_up (va_up (va_up (fun _ => none) (Int32.toNatClampNeg 0) (some q_14)) (Int32.toNatClampNeg 1) (some q_15)) (Int32.toNatClampNeg 2) (some q_16)))))))]) (cs_IN (X := [(a0, .inr (7, [.ref q_1, .int 0, .ref q_2, .ref q_3, .ref q_4, .ref q_5, .int 0, .ref q_6, .ref q_7, .ref q_8, .ref q_9, .ref q_10, .int 0, .ref q_11, .ref q_12, .ref q_13])), (q_10, .inl (cR, 8, .inr (.inr (.inr (.inr (va_up (va_up (va_up (fun _ => none) (Int32.toNatClampNeg 0) (some q_14)) (Int32.toNatClampNeg 1) (some q_15)) (Int32.toNatClampNeg 2) (some q_16)))))))]) (As := []) (rest := [.ref q_17, .int 3, .ref q_10]) (n := 0) hx hb hml hown hU hN (n_X4_init_104 l (dC, dI) cI cL cZ cR cG cH H.size q_17) hN.2.1 wd_97 wd_90 wd_98 rfl (by decide +kernel) ⟨Nat.le_of_ble_eq_true rfl, Nat.le_of_ble_eq_true rfl⟩ hK hW rfl hl.1 rfl (Nat.le_of_ble_eq_true rfl) dX7_init_136 ⟨Nat.le_of_ble_eq_true rfl, Nat.le_of_ble_eq_true rfl⟩) hW hS hA [2] [0, 1] rfl rfl (by decide) (by decide) (fun H locs hW hS => ?_)
  have hW : cw (dC, dI) cI cL cZ cR cG cH A [(a0, .inr (7, [.ref q_1, .int 0, .ref q_2, .ref q_3, .ref q_4, .ref q_5, .int 0, .ref q_6, .ref q_7, .ref q_8, .ref q_9, .ref q_10, .int 0, .ref q_11, .ref q_12, .ref q_13])), (q_10, .inl (cR, 8, .inr (.inr (.inr (.inr (va_up (va_up (va_up (fun _ => none) (Int32.toNatClampNeg 0) (some q_14)) (Int32.toNatClampNeg 1) (some q_15)) (Int32.toNatClampNeg 2) (some q_16)))))))] [(q_1, 549), (q_2, 550), (q_3, 551), (q_4, 552), (q_5, 552), (q_6, 553), (q_7, 554), (q_8, 555), (q_9, 555), (q_11, 109), (q_12, 113), (q_13, 557), (q_14, 104), (q_15, 104), (q_16, 104), (q_17, 104)] [] H := hW
  refine W.widen (k := 61) (n := 1097) (Nat.le_of_ble_eq_true rfl) (Nat.le_of_ble_eq_true rfl) ?_
  obtain ⟨L, f, kd, hP, hD, hB, hR, hF⟩ := hW
  obtain ⟨mb, kb⟩ := hR (q_17, 104) (List.mem_of_getElem? (i := 15) rfl)
  obtain ⟨kq, hkq⟩ := va_pl_get (X := [(a0, .inr (7, [.ref q_1, .int 0, .ref q_2, .ref q_3, .ref q_4, .ref q_5, .int 0, .ref q_6, .ref q_7, .ref q_8, .ref q_9, .ref q_10, .int 0, .ref q_11, .ref q_12, .ref q_13])), (q_10, .inl (cR, 8, .inr (.inr (.inr (.inr (va_up (va_up (va_up (fun _ => none) (Int32.toNatClampNeg 0) (some q_14)) (Int32.toNatClampNeg 1) (some q_15)) (Int32.toNatClampNeg 2) (some q_16)))))))]) (f := f) mb
  obtain ⟨u0, u1, u2, u3, u4, u5, u6, u7, u8, u9, u10, hfb, -, -, -, -, -, -, -, -⟩ := un_104 (hB _ mb).1 kb
  rw [hfb] at hkq
  refine va_astq (r := (RX4, TX4, 11)) hx hb hK hP hD hS 1 3 kq 4 rfl rfl hkq rfl (vp_in_nI (n := 3) (by decide) (by decide)) dX7_init_139 (fun H locs hP hD hS => ?_)
  have hW : cw (dC, dI) cI cL cZ cR cG cH A [(a0, .inr (7, [.ref q_1, .int 0, .ref q_2, .ref q_3, .ref q_4, .ref q_5, .int 0, .ref q_6, .ref q_7, .ref q_8, .ref q_9, .ref q_10, .int 0, .ref q_11, .ref q_12, .ref q_13])), (q_10, .inl (cR, 8, .inr (.inr (.inr (.inr (va_up (va_up (va_up (va_up (fun _ => none) (Int32.toNatClampNeg 0) (some q_14)) (Int32.toNatClampNeg 1) (some q_15)) (Int32.toNatClampNeg 2) (some q_16)) (Int32.toNatClampNeg 3) (some q_17)))))))] [(q_1, 549), (q_2, 550), (q_3, 551), (q_4, 552), (q_5, 552), (q_6, 553), (q_7, 554), (q_8, 555), (q_9, 555), (q_11, 109), (q_12, 113), (q_13, 557), (q_14, 104), (q_15, 104), (q_16, 104), (q_17, 104)] [] H := ⟨L, f, kd, hP, hD, hB, hR, hF⟩
  refine lv_iinc (v := 4) (lv' := [(1, .int 4), (0, .ref a0)]) hx hb dX7_init_140 hl (k := 0) rfl (by decide) (by decide) rfl (fun ls hl => ?_)
  refine lv_goto (tgt := 121) hx hb dX7_init_143 (by decide) ?_
  refine lv_iload_n hx hb dX7_init_121 rfl (lv_at hl 0 rfl) ?_
  refine lv_bipush (v := 8) hx hb dX7_init_122 (by decide) ?_
  refine lv_icmp_ge (tgt := 146) hx hb dX7_init_124 (by decide) (fun c9 => absurd c9 (by decide)) (fun _ => ?_)
  refine lv_aload_n hx hb dX7_init_127 rfl (lv_at hl 1 rfl) ?_
  obtain ⟨L, f, kd, hP, hD, hB, hR, hF⟩ := hW
  refine va_get (D := (dC, dI)) (ci := 7) (v := .ref q_10) (C := RX7) (T := TX7) (N := 16) hx hb hU inlX7 hown hK hP 0 rfl rfl 11 (by decide) (hU _ wd_82) (fun _ h9 => h9) rfl dX7_init_128 ?_
  have hW : cw (dC, dI) cI cL cZ cR cG cH A [(a0, .inr (7, [.ref q_1, .int 0, .ref q_2, .ref q_3, .ref q_4, .ref q_5, .int 0, .ref q_6, .ref q_7, .ref q_8, .ref q_9, .ref q_10, .int 0, .ref q_11, .ref q_12, .ref q_13])), (q_10, .inl (cR, 8, .inr (.inr (.inr (.inr (va_up (va_up (va_up (va_up (fun _ => none) (Int32.toNatClampNeg 0) (some q_14)) (Int32.toNatClampNeg 1) (some q_15)) (Int32.toNatClampNeg 2) (some q_16)) (Int32.toNatClampNeg 3) (some q_17)))))))] [(q_1, 549), (q_2, 550), (q_3, 551), (q_4, 552), (q_5, 552), (q_6, 553), (q_7, 554), (q_8, 555), (q_9, 555), (q_11, 109), (q_12, 113), (q_13, 557), (q_14, 104), (q_15, 104), (q_16, 104), (q_17, 104)] [] H := ⟨L, f, kd, hP, hD, hB, hR, hF⟩
  refine lv_iload_n hx hb dX7_init_131 rfl (lv_at hl 0 rfl) ?_
  obtain ⟨L, f, kd, hP, hD, hB, hR, hF⟩ := hW
  refine va_new (ci := 4) (fs := [.int 0, .int 0, .int 0, .int 0, .null, .null, .null, .null, .int 0, .int 0, .int 0]) (C := RX4) (T := TX4) (N := 11) hx hb hU inlX4 tyX4 tyX4_ok hown (hU _ wd_81) (hU _ wd_89) (hU _ wd_90) hK hP hD hS hA rfl dvX4 (Nat.le_of_ble_eq_true rfl) (Nat.le_of_ble_eq_true rfl) dX7_init_132 (fun q_18 H hP hD hS => ?_)
  have hW : cw (dC, dI) cI cL cZ cR cG cH A ([(a0, .inr (7, [.ref q_1, .int 0, .ref q_2, .ref q_3, .ref q_4, .ref q_5, .int 0, .ref q_6, .ref q_7, .ref q_8, .ref q_9, .ref q_10, .int 0, .ref q_11, .ref q_12, .ref q_13])), (q_10, .inl (cR, 8, .inr (.inr (.inr (.inr (va_up (va_up (va_up (va_up (fun _ => none) (Int32.toNatClampNeg 0) (some q_14)) (Int32.toNatClampNeg 1) (some q_15)) (Int32.toNatClampNeg 2) (some q_16)) (Int32.toNatClampNeg 3) (some q_17)))))))] ++ [(q_18, .inr (4, [.int 0, .int 0, .int 0, .int 0, .null, .null, .null, .null, .int 0, .int 0, .int 0]))]) [(q_1, 549), (q_2, 550), (q_3, 551), (q_4, 552), (q_5, 552), (q_6, 553), (q_7, 554), (q_8, 555), (q_9, 555), (q_11, 109), (q_12, 113), (q_13, 557), (q_14, 104), (q_15, 104), (q_16, 104), (q_17, 104)] [] H := cw_new hP hD hB hR hF
  refine W.widen (k := 62) (n := 1108) (Nat.le_of_ble_eq_true rfl) (Nat.le_of_ble_eq_true rfl) ?_
  refine lv_dup hx hb dX7_init_135 rfl ?_
  refine cs_back (X := [(a0, .inr (7, [.ref q_1, .int 0, .ref q_2, .ref q_3, .ref q_4, .ref q_5, .int 0, .ref q_6, .ref q_7, .ref q_8, .ref q_9, .ref q_10, .int 0, .ref q_11, .ref q_12, .ref q_13])), (q_10, .inl (cR, 8, .inr (.inr (.inr (.inr (va_up (va_up (va_up (va_up (fun _ => none) (Int32.toNatClampNeg 0) (some q_14)) (Int32.toNatClampNeg 1) (some q_15)) (Int32.toNatClampNeg 2) (some q_16)) (Int32.toNatClampNeg 3) (some q_17)))))))]) (cs_IN (X := [(a0, .inr (7, [.ref q_1, .int 0, .ref q_2, .ref q_3, .ref q_4, .ref q_5, .int 0, .ref q_6, .ref q_7, .ref q_8, .ref q_9, .ref q_10, .int 0, .ref q_11, .ref q_12, .ref q_13])), (q_10, .inl (cR, 8, .inr (.inr (.inr (.inr (va_up (va_up (va_up (va_up (fun _ => none) (Int32.toNatClampNeg 0) (some q_14)) (Int32.toNatClampNeg 1) (some q_15)) (Int32.toNatClampNeg 2) (some q_16)) (Int32.toNatClampNeg 3) (some q_17)))))))]) (As := []) (rest := [.ref q_18, .int 4, .ref q_10]) (n := 0) hx hb hml hown hU hN (n_X4_init_104 l (dC, dI) cI cL cZ cR cG cH H.size q_18) hN.2.1 wd_97 wd_90 wd_98 rfl (by decide +kernel) ⟨Nat.le_of_ble_eq_true rfl, Nat.le_of_ble_eq_true rfl⟩ hK hW rfl hl.1 rfl (Nat.le_of_ble_eq_true rfl) dX7_init_136 ⟨Nat.le_of_ble_eq_true rfl, Nat.le_of_ble_eq_true rfl⟩) hW hS hA [2] [0, 1] rfl rfl (by decide) (by decide) (fun H locs hW hS => ?_)
  have hW : cw (dC, dI) cI cL cZ cR cG cH A [(a0, .inr (7, [.ref q_1, .int 0, .ref q_2, .ref q_3, .ref q_4, .ref q_5, .int 0, .ref q_6, .ref q_7, .ref q_8, .ref q_9, .ref q_10, .int 0, .ref q_11, .ref q_12, .ref q_13])), (q_10, .inl (cR, 8, .inr (.inr (.inr (.inr (va_up (va_up (va_up (va_up (fun _ => none) (Int32.toNatClampNeg 0) (some q_14)) (Int32.toNatClampNeg 1) (some q_15)) (Int32.toNatClampNeg 2) (some q_16)) (Int32.toNatClampNeg 3) (some q_17)))))))] [(q_1, 549), (q_2, 550), (q_3, 551), (q_4, 552), (q_5, 552), (q_6, 553), (q_7, 554), (q_8, 555), (q_9, 555), (q_11, 109), (q_12, 113), (q_13, 557), (q_14, 104), (q_15, 104), (q_16, 104), (q_17, 104), (q_18, 104)] [] H := hW
  refine W.widen (k := 72) (n := 1260) (Nat.le_of_ble_eq_true rfl) (Nat.le_of_ble_eq_true rfl) ?_
  obtain ⟨L, f, kd, hP, hD, hB, hR, hF⟩ := hW
  obtain ⟨mb, kb⟩ := hR (q_18, 104) (List.mem_of_getElem? (i := 16) rfl)
  obtain ⟨kq, hkq⟩ := va_pl_get (X := [(a0, .inr (7, [.ref q_1, .int 0, .ref q_2, .ref q_3, .ref q_4, .ref q_5, .int 0, .ref q_6, .ref q_7, .ref q_8, .ref q_9, .ref q_10, .int 0, .ref q_11, .ref q_12, .ref q_13])), (q_10, .inl (cR, 8, .inr (.inr (.inr (.inr (va_up (va_up (va_up (va_up (fun _ => none) (Int32.toNatClampNeg 0) (some q_14)) (Int32.toNatClampNeg 1) (some q_15)) (Int32.toNatClampNeg 2) (some q_16)) (Int32.toNatClampNeg 3) (some q_17)))))))]) (f := f) mb
  obtain ⟨u0, u1, u2, u3, u4, u5, u6, u7, u8, u9, u10, hfb, -, -, -, -, -, -, -, -⟩ := un_104 (hB _ mb).1 kb
  rw [hfb] at hkq
  refine va_astq (r := (RX4, TX4, 11)) hx hb hK hP hD hS 1 3 kq 4 rfl rfl hkq rfl (vp_in_nI (n := 4) (by decide) (by decide)) dX7_init_139 (fun H locs hP hD hS => ?_)
  have hW : cw (dC, dI) cI cL cZ cR cG cH A [(a0, .inr (7, [.ref q_1, .int 0, .ref q_2, .ref q_3, .ref q_4, .ref q_5, .int 0, .ref q_6, .ref q_7, .ref q_8, .ref q_9, .ref q_10, .int 0, .ref q_11, .ref q_12, .ref q_13])), (q_10, .inl (cR, 8, .inr (.inr (.inr (.inr (va_up (va_up (va_up (va_up (va_up (fun _ => none) (Int32.toNatClampNeg 0) (some q_14)) (Int32.toNatClampNeg 1) (some q_15)) (Int32.toNatClampNeg 2) (some q_16)) (Int32.toNatClampNeg 3) (some q_17)) (Int32.toNatClampNeg 4) (some q_18)))))))] [(q_1, 549), (q_2, 550), (q_3, 551), (q_4, 552), (q_5, 552), (q_6, 553), (q_7, 554), (q_8, 555), (q_9, 555), (q_11, 109), (q_12, 113), (q_13, 557), (q_14, 104), (q_15, 104), (q_16, 104), (q_17, 104), (q_18, 104)] [] H := ⟨L, f, kd, hP, hD, hB, hR, hF⟩
  refine lv_iinc (v := 5) (lv' := [(1, .int 5), (0, .ref a0)]) hx hb dX7_init_140 hl (k := 0) rfl (by decide) (by decide) rfl (fun ls hl => ?_)
  refine lv_goto (tgt := 121) hx hb dX7_init_143 (by decide) ?_
  refine lv_iload_n hx hb dX7_init_121 rfl (lv_at hl 0 rfl) ?_
  refine lv_bipush (v := 8) hx hb dX7_init_122 (by decide) ?_
  refine lv_icmp_ge (tgt := 146) hx hb dX7_init_124 (by decide) (fun c9 => absurd c9 (by decide)) (fun _ => ?_)
  refine lv_aload_n hx hb dX7_init_127 rfl (lv_at hl 1 rfl) ?_
  obtain ⟨L, f, kd, hP, hD, hB, hR, hF⟩ := hW
  refine va_get (D := (dC, dI)) (ci := 7) (v := .ref q_10) (C := RX7) (T := TX7) (N := 16) hx hb hU inlX7 hown hK hP 0 rfl rfl 11 (by decide) (hU _ wd_82) (fun _ h9 => h9) rfl dX7_init_128 ?_
  have hW : cw (dC, dI) cI cL cZ cR cG cH A [(a0, .inr (7, [.ref q_1, .int 0, .ref q_2, .ref q_3, .ref q_4, .ref q_5, .int 0, .ref q_6, .ref q_7, .ref q_8, .ref q_9, .ref q_10, .int 0, .ref q_11, .ref q_12, .ref q_13])), (q_10, .inl (cR, 8, .inr (.inr (.inr (.inr (va_up (va_up (va_up (va_up (va_up (fun _ => none) (Int32.toNatClampNeg 0) (some q_14)) (Int32.toNatClampNeg 1) (some q_15)) (Int32.toNatClampNeg 2) (some q_16)) (Int32.toNatClampNeg 3) (some q_17)) (Int32.toNatClampNeg 4) (some q_18)))))))] [(q_1, 549), (q_2, 550), (q_3, 551), (q_4, 552), (q_5, 552), (q_6, 553), (q_7, 554), (q_8, 555), (q_9, 555), (q_11, 109), (q_12, 113), (q_13, 557), (q_14, 104), (q_15, 104), (q_16, 104), (q_17, 104), (q_18, 104)] [] H := ⟨L, f, kd, hP, hD, hB, hR, hF⟩
  refine lv_iload_n hx hb dX7_init_131 rfl (lv_at hl 0 rfl) ?_
  obtain ⟨L, f, kd, hP, hD, hB, hR, hF⟩ := hW
  refine va_new (ci := 4) (fs := [.int 0, .int 0, .int 0, .int 0, .null, .null, .null, .null, .int 0, .int 0, .int 0]) (C := RX4) (T := TX4) (N := 11) hx hb hU inlX4 tyX4 tyX4_ok hown (hU _ wd_81) (hU _ wd_89) (hU _ wd_90) hK hP hD hS hA rfl dvX4 (Nat.le_of_ble_eq_true rfl) (Nat.le_of_ble_eq_true rfl) dX7_init_132 (fun q_19 H hP hD hS => ?_)
  have hW : cw (dC, dI) cI cL cZ cR cG cH A ([(a0, .inr (7, [.ref q_1, .int 0, .ref q_2, .ref q_3, .ref q_4, .ref q_5, .int 0, .ref q_6, .ref q_7, .ref q_8, .ref q_9, .ref q_10, .int 0, .ref q_11, .ref q_12, .ref q_13])), (q_10, .inl (cR, 8, .inr (.inr (.inr (.inr (va_up (va_up (va_up (va_up (va_up (fun _ => none) (Int32.toNatClampNeg 0) (some q_14)) (Int32.toNatClampNeg 1) (some q_15)) (Int32.toNatClampNeg 2) (some q_16)) (Int32.toNatClampNeg 3) (some q_17)) (Int32.toNatClampNeg 4) (some q_18)))))))] ++ [(q_19, .inr (4, [.int 0, .int 0, .int 0, .int 0, .null, .null, .null, .null, .int 0, .int 0, .int 0]))]) [(q_1, 549), (q_2, 550), (q_3, 551), (q_4, 552), (q_5, 552), (q_6, 553), (q_7, 554), (q_8, 555), (q_9, 555), (q_11, 109), (q_12, 113), (q_13, 557), (q_14, 104), (q_15, 104), (q_16, 104), (q_17, 104), (q_18, 104)] [] H := cw_new hP hD hB hR hF
  refine W.widen (k := 73) (n := 1271) (Nat.le_of_ble_eq_true rfl) (Nat.le_of_ble_eq_true rfl) ?_
  refine lv_dup hx hb dX7_init_135 rfl ?_
  refine cs_back (X := [(a0, .inr (7, [.ref q_1, .int 0, .ref q_2, .ref q_3, .ref q_4, .ref q_5, .int 0, .ref q_6, .ref q_7, .ref q_8, .ref q_9, .ref q_10, .int 0, .ref q_11, .ref q_12, .ref q_13])), (q_10, .inl (cR, 8, .inr (.inr (.inr (.inr (va_up (va_up (va_up (va_up (va_up (fun _ => none) (Int32.toNatClampNeg 0) (some q_14)) (Int32.toNatClampNeg 1) (some q_15)) (Int32.toNatClampNeg 2) (some q_16)) (Int32.toNatClampNeg 3) (some q_17)) (Int32.toNatClampNeg 4) (some q_18)))))))]) (cs_IN (X := [(a0, .inr (7, [.ref q_1, .int 0, .ref q_2, .ref q_3, .ref q_4, .ref q_5, .int 0, .ref q_6, .ref q_7, .ref q_8, .ref q_9, .ref q_10, .int 0, .ref q_11, .ref q_12, .ref q_13])), (q_10, .inl (cR, 8, .inr (.inr (.inr (.inr (va_up (va_up (va_up (va_up (va_up (fun _ => none) (Int32.toNatClampNeg 0) (some q_14)) (Int32.toNatClampNeg 1) (some q_15)) (Int32.toNatClampNeg 2) (some q_16)) (Int32.toNatClampNeg 3) (some q_17)) (Int32.toNatClampNeg 4) (some q_18)))))))]) (As := []) (rest := [.ref q_19, .int 5, .ref q_10]) (n := 0) hx hb hml hown hU hN (n_X4_init_104 l (dC, dI) cI cL cZ cR cG cH H.size q_19) hN.2.1 wd_97 wd_90 wd_98 rfl (by decide +kernel) ⟨Nat.le_of_ble_eq_true rfl, Nat.le_of_ble_eq_true rfl⟩ hK hW rfl hl.1 rfl (Nat.le_of_ble_eq_true rfl) dX7_init_136 ⟨Nat.le_of_ble_eq_true rfl, Nat.le_of_ble_eq_true rfl⟩) hW hS hA [2] [0, 1] rfl rfl (by decide) (by decide) (fun H locs hW hS => ?_)
  have hW : cw (dC, dI) cI cL cZ cR cG cH A [(a0, .inr (7, [.ref q_1, .int 0, .ref q_2, .ref q_3, .ref q_4, .ref q_5, .int 0, .ref q_6, .ref q_7, .ref q_8, .ref q_9, .ref q_10, .int 0, .ref q_11, .ref q_12, .ref q_13])), (q_10, .inl (cR, 8, .inr (.inr (.inr (.inr (va_up (va_up (va_up (va_up (va_up (fun _ => none) (Int32.toNatClampNeg 0) (some q_14)) (Int32.toNatClampNeg 1) (some q_15)) (Int32.toNatClampNeg 2) (some q_16)) (Int32.toNatClampNeg 3) (some q_17)) (Int32.toNatClampNeg 4) (some q_18)))))))] [(q_1, 549), (q_2, 550), (q_3, 551), (q_4, 552), (q_5, 552), (q_6, 553), (q_7, 554), (q_8, 555), (q_9, 555), (q_11, 109), (q_12, 113), (q_13, 557), (q_14, 104), (q_15, 104), (q_16, 104), (q_17, 104), (q_18, 104), (q_19, 104)] [] H := hW
  refine W.widen (k := 83) (n := 1423) (Nat.le_of_ble_eq_true rfl) (Nat.le_of_ble_eq_true rfl) ?_
  obtain ⟨L, f, kd, hP, hD, hB, hR, hF⟩ := hW
  obtain ⟨mb, kb⟩ := hR (q_19, 104) (List.mem_of_getElem? (i := 17) rfl)
  obtain ⟨kq, hkq⟩ := va_pl_get (X := [(a0, .inr (7, [.ref q_1, .int 0, .ref q_2, .ref q_3, .ref q_4, .ref q_5, .int 0, .ref q_6, .ref q_7, .ref q_8, .ref q_9, .ref q_10, .int 0, .ref q_11, .ref q_12, .ref q_13])), (q_10, .inl (cR, 8, .inr (.inr (.inr (.inr (va_up (va_up (va_up (va_up (va_up (fun _ => none) (Int32.toNatClampNeg 0) (some q_14)) (Int32.toNatClampNeg 1) (some q_15)) (Int32.toNatClampNeg 2) (some q_16)) (Int32.toNatClampNeg 3) (some q_17)) (Int32.toNatClampNeg 4) (some q_18)))))))]) (f := f) mb
  obtain ⟨u0, u1, u2, u3, u4, u5, u6, u7, u8, u9, u10, hfb, -, -, -, -, -, -, -, -⟩ := un_104 (hB _ mb).1 kb
  rw [hfb] at hkq
  refine va_astq (r := (RX4, TX4, 11)) hx hb hK hP hD hS 1 3 kq 4 rfl rfl hkq rfl (vp_in_nI (n := 5) (by decide) (by decide)) dX7_init_139 (fun H locs hP hD hS => ?_)
  have hW : cw (dC, dI) cI cL cZ cR cG cH A [(a0, .inr (7, [.ref q_1, .int 0, .ref q_2, .ref q_3, .ref q_4, .ref q_5, .int 0, .ref q_6, .ref q_7, .ref q_8, .ref q_9, .ref q_10, .int 0, .ref q_11, .ref q_12, .ref q_13])), (q_10, .inl (cR, 8, .inr (.inr (.inr (.inr (va_up (va_up (va_up (va_up (va_up (va_up (fun _ => none) (Int32.toNatClampNeg 0) (some q_14)) (Int32.toNatClampNeg 1) (some q_15)) (Int32.toNatClampNeg 2) (some q_16)) (Int32.toNatClampNeg 3) (some q_17)) (Int32.toNatClampNeg 4) (some q_18)) (Int32.toNatClampNeg 5) (some q_19)))))))] [(q_1, 549), (q_2, 550), (q_3, 551), (q_4, 552), (q_5, 552), (q_6, 553), (q_7, 554), (q_8, 555), (q_9, 555), (q_11, 109), (q_12, 113), (q_13, 557), (q_14, 104), (q_15, 104), (q_16, 104), (q_17, 104), (q_18, 104), (q_19, 104)] [] H := ⟨L, f, kd, hP, hD, hB, hR, hF⟩
  refine lv_iinc (v := 6) (lv' := [(1, .int 6), (0, .ref a0)]) hx hb dX7_init_140 hl (k := 0) rfl (by decide) (by decide) rfl (fun ls hl => ?_)
  refine lv_goto (tgt := 121) hx hb dX7_init_143 (by decide) ?_
  refine lv_iload_n hx hb dX7_init_121 rfl (lv_at hl 0 rfl) ?_
  refine lv_bipush (v := 8) hx hb dX7_init_122 (by decide) ?_
  refine lv_icmp_ge (tgt := 146) hx hb dX7_init_124 (by decide) (fun c9 => absurd c9 (by decide)) (fun _ => ?_)
  refine lv_aload_n hx hb dX7_init_127 rfl (lv_at hl 1 rfl) ?_
  obtain ⟨L, f, kd, hP, hD, hB, hR, hF⟩ := hW
  refine va_get (D := (dC, dI)) (ci := 7) (v := .ref q_10) (C := RX7) (T := TX7) (N := 16) hx hb hU inlX7 hown hK hP 0 rfl rfl 11 (by decide) (hU _ wd_82) (fun _ h9 => h9) rfl dX7_init_128 ?_
  have hW : cw (dC, dI) cI cL cZ cR cG cH A [(a0, .inr (7, [.ref q_1, .int 0, .ref q_2, .ref q_3, .ref q_4, .ref q_5, .int 0, .ref q_6, .ref q_7, .ref q_8, .ref q_9, .ref q_10, .int 0, .ref q_11, .ref q_12, .ref q_13])), (q_10, .inl (cR, 8, .inr (.inr (.inr (.inr (va_up (va_up (va_up (va_up (va_up (va_up (fun _ => none) (Int32.toNatClampNeg 0) (some q_14)) (Int32.toNatClampNeg 1) (some q_15)) (Int32.toNatClampNeg 2) (some q_16)) (Int32.toNatClampNeg 3) (some q_17)) (Int32.toNatClampNeg 4) (some q_18)) (Int32.toNatClampNeg 5) (some q_19)))))))] [(q_1, 549), (q_2, 550), (q_3, 551), (q_4, 552), (q_5, 552), (q_6, 553), (q_7, 554), (q_8, 555), (q_9, 555), (q_11, 109), (q_12, 113), (q_13, 557), (q_14, 104), (q_15, 104), (q_16, 104), (q_17, 104), (q_18, 104), (q_19, 104)] [] H := ⟨L, f, kd, hP, hD, hB, hR, hF⟩
  refine lv_iload_n hx hb dX7_init_131 rfl (lv_at hl 0 rfl) ?_
  obtain ⟨L, f, kd, hP, hD, hB, hR, hF⟩ := hW
  refine va_new (ci := 4) (fs := [.int 0, .int 0, .int 0, .int 0, .null, .null, .null, .null, .int 0, .int 0, .int 0]) (C := RX4) (T := TX4) (N := 11) hx hb hU inlX4 tyX4 tyX4_ok hown (hU _ wd_81) (hU _ wd_89) (hU _ wd_90) hK hP hD hS hA rfl dvX4 (Nat.le_of_ble_eq_true rfl) (Nat.le_of_ble_eq_true rfl) dX7_init_132 (fun q_20 H hP hD hS => ?_)
  have hW : cw (dC, dI) cI cL cZ cR cG cH A ([(a0, .inr (7, [.ref q_1, .int 0, .ref q_2, .ref q_3, .ref q_4, .ref q_5, .int 0, .ref q_6, .ref q_7, .ref q_8, .ref q_9, .ref q_10, .int 0, .ref q_11, .ref q_12, .ref q_13])), (q_10, .inl (cR, 8, .inr (.inr (.inr (.inr (va_up (va_up (va_up (va_up (va_up (va_up (fun _ => none) (Int32.toNatClampNeg 0) (some q_14)) (Int32.toNatClampNeg 1) (some q_15)) (Int32.toNatClampNeg 2) (some q_16)) (Int32.toNatClampNeg 3) (some q_17)) (Int32.toNatClampNeg 4) (some q_18)) (Int32.toNatClampNeg 5) (some q_19)))))))] ++ [(q_20, .inr (4, [.int 0, .int 0, .int 0, .int 0, .null, .null, .null, .null, .int 0, .int 0, .int 0]))]) [(q_1, 549), (q_2, 550), (q_3, 551), (q_4, 552), (q_5, 552), (q_6, 553), (q_7, 554), (q_8, 555), (q_9, 555), (q_11, 109), (q_12, 113), (q_13, 557), (q_14, 104), (q_15, 104), (q_16, 104), (q_17, 104), (q_18, 104), (q_19, 104)] [] H := cw_new hP hD hB hR hF
  refine W.widen (k := 84) (n := 1434) (Nat.le_of_ble_eq_true rfl) (Nat.le_of_ble_eq_true rfl) ?_
  refine lv_dup hx hb dX7_init_135 rfl ?_
  refine cs_back (X := [(a0, .inr (7, [.ref q_1, .int 0, .ref q_2, .ref q_3, .ref q_4, .ref q_5, .int 0, .ref q_6, .ref q_7, .ref q_8, .ref q_9, .ref q_10, .int 0, .ref q_11, .ref q_12, .ref q_13])), (q_10, .inl (cR, 8, .inr (.inr (.inr (.inr (va_up (va_up (va_up (va_up (va_up (va_up (fun _ => none) (Int32.toNatClampNeg 0) (some q_14)) (Int32.toNatClampNeg 1) (some q_15)) (Int32.toNatClampNeg 2) (some q_16)) (Int32.toNatClampNeg 3) (some q_17)) (Int32.toNatClampNeg 4) (some q_18)) (Int32.toNatClampNeg 5) (some q_19)))))))]) (cs_IN (X := [(a0, .inr (7, [.ref q_1, .int 0, .ref q_2, .ref q_3, .ref q_4, .ref q_5, .int 0, .ref q_6, .ref q_7, .ref q_8, .ref q_9, .ref q_10, .int 0, .ref q_11, .ref q_12, .ref q_13])), (q_10, .inl (cR, 8, .inr (.inr (.inr (.inr (va_up (va_up (va_up (va_up (va_up (va_up (fun _ => none) (Int32.toNatClampNeg 0) (some q_14)) (Int32.toNatClampNeg 1) (some q_15)) (Int32.toNatClampNeg 2) (some q_16)) (Int32.toNatClampNeg 3) (some q_17)) (Int32.toNatClampNeg 4) (some q_18)) (Int32.toNatClampNeg 5) (some q_19)))))))]) (As := []) (rest := [.ref q_20, .int 6, .ref q_10]) (n := 0) hx hb hml hown hU hN (n_X4_init_104 l (dC, dI) cI cL cZ cR cG cH H.size q_20) hN.2.1 wd_97 wd_90 wd_98 rfl (by decide +kernel) ⟨Nat.le_of_ble_eq_true rfl, Nat.le_of_ble_eq_true rfl⟩ hK hW rfl hl.1 rfl (Nat.le_of_ble_eq_true rfl) dX7_init_136 ⟨Nat.le_of_ble_eq_true rfl, Nat.le_of_ble_eq_true rfl⟩) hW hS hA [2] [0, 1] rfl rfl (by decide) (by decide) (fun H locs hW hS => ?_)
  have hW : cw (dC, dI) cI cL cZ cR cG cH A [(a0, .inr (7, [.ref q_1, .int 0, .ref q_2, .ref q_3, .ref q_4, .ref q_5, .int 0, .ref q_6, .ref q_7, .ref q_8, .ref q_9, .ref q_10, .int 0, .ref q_11, .ref q_12, .ref q_13])), (q_10, .inl (cR, 8, .inr (.inr (.inr (.inr (va_up (va_up (va_up (va_up (va_up (va_up (fun _ => none) (Int32.toNatClampNeg 0) (some q_14)) (Int32.toNatClampNeg 1) (some q_15)) (Int32.toNatClampNeg 2) (some q_16)) (Int32.toNatClampNeg 3) (some q_17)) (Int32.toNatClampNeg 4) (some q_18)) (Int32.toNatClampNeg 5) (some q_19)))))))] [(q_1, 549), (q_2, 550), (q_3, 551), (q_4, 552), (q_5, 552), (q_6, 553), (q_7, 554), (q_8, 555), (q_9, 555), (q_11, 109), (q_12, 113), (q_13, 557), (q_14, 104), (q_15, 104), (q_16, 104), (q_17, 104), (q_18, 104), (q_19, 104), (q_20, 104)] [] H := hW
  refine W.widen (k := 94) (n := 1586) (Nat.le_of_ble_eq_true rfl) (Nat.le_of_ble_eq_true rfl) ?_
  obtain ⟨L, f, kd, hP, hD, hB, hR, hF⟩ := hW
  obtain ⟨mb, kb⟩ := hR (q_20, 104) (List.mem_of_getElem? (i := 18) rfl)
  obtain ⟨kq, hkq⟩ := va_pl_get (X := [(a0, .inr (7, [.ref q_1, .int 0, .ref q_2, .ref q_3, .ref q_4, .ref q_5, .int 0, .ref q_6, .ref q_7, .ref q_8, .ref q_9, .ref q_10, .int 0, .ref q_11, .ref q_12, .ref q_13])), (q_10, .inl (cR, 8, .inr (.inr (.inr (.inr (va_up (va_up (va_up (va_up (va_up (va_up (fun _ => none) (Int32.toNatClampNeg 0) (some q_14)) (Int32.toNatClampNeg 1) (some q_15)) (Int32.toNatClampNeg 2) (some q_16)) (Int32.toNatClampNeg 3) (some q_17)) (Int32.toNatClampNeg 4) (some q_18)) (Int32.toNatClampNeg 5) (some q_19)))))))]) (f := f) mb
  obtain ⟨u0, u1, u2, u3, u4, u5, u6, u7, u8, u9, u10, hfb, -, -, -, -, -, -, -, -⟩ := un_104 (hB _ mb).1 kb
  rw [hfb] at hkq
  refine va_astq (r := (RX4, TX4, 11)) hx hb hK hP hD hS 1 3 kq 4 rfl rfl hkq rfl (vp_in_nI (n := 6) (by decide) (by decide)) dX7_init_139 (fun H locs hP hD hS => ?_)
  have hW : cw (dC, dI) cI cL cZ cR cG cH A [(a0, .inr (7, [.ref q_1, .int 0, .ref q_2, .ref q_3, .ref q_4, .ref q_5, .int 0, .ref q_6, .ref q_7, .ref q_8, .ref q_9, .ref q_10, .int 0, .ref q_11, .ref q_12, .ref q_13])), (q_10, .inl (cR, 8, .inr (.inr (.inr (.inr (va_up (va_up (va_up (va_up (va_up (va_up (va_up (fun _ => none) (Int32.toNatClampNeg 0) (some q_14)) (Int32.toNatClampNeg 1) (some q_15)) (Int32.toNatClampNeg 2) (some q_16)) (Int32.toNatClampNeg 3) (some q_17)) (Int32.toNatClampNeg 4) (some q_18)) (Int32.toNatClampNeg 5) (some q_19)) (Int32.toNatClampNeg 6) (some q_20)))))))] [(q_1, 549), (q_2, 550), (q_3, 551), (q_4, 552), (q_5, 552), (q_6, 553), (q_7, 554), (q_8, 555), (q_9, 555), (q_11, 109), (q_12, 113), (q_13, 557), (q_14, 104), (q_15, 104), (q_16, 104), (q_17, 104), (q_18, 104), (q_19, 104), (q_20, 104)] [] H := ⟨L, f, kd, hP, hD, hB, hR, hF⟩
  refine lv_iinc (v := 7) (lv' := [(1, .int 7), (0, .ref a0)]) hx hb dX7_init_140 hl (k := 0) rfl (by decide) (by decide) rfl (fun ls hl => ?_)
  refine lv_goto (tgt := 121) hx hb dX7_init_143 (by decide) ?_
  refine lv_iload_n hx hb dX7_init_121 rfl (lv_at hl 0 rfl) ?_
  refine lv_bipush (v := 8) hx hb dX7_init_122 (by decide) ?_
  refine lv_icmp_ge (tgt := 146) hx hb dX7_init_124 (by decide) (fun c9 => absurd c9 (by decide)) (fun _ => ?_)
  refine lv_aload_n hx hb dX7_init_127 rfl (lv_at hl 1 rfl) ?_
  obtain ⟨L, f, kd, hP, hD, hB, hR, hF⟩ := hW
  refine va_get (D := (dC, dI)) (ci := 7) (v := .ref q_10) (C := RX7) (T := TX7) (N := 16) hx hb hU inlX7 hown hK hP 0 rfl rfl 11 (by decide) (hU _ wd_82) (fun _ h9 => h9) rfl dX7_init_128 ?_
  have hW : cw (dC, dI) cI cL cZ cR cG cH A [(a0, .inr (7, [.ref q_1, .int 0, .ref q_2, .ref q_3, .ref q_4, .ref q_5, .int 0, .ref q_6, .ref q_7, .ref q_8, .ref q_9, .ref q_10, .int 0, .ref q_11, .ref q_12, .ref q_13])), (q_10, .inl (cR, 8, .inr (.inr (.inr (.inr (va_up (va_up (va_up (va_up (va_up (va_up (va_up (fun _ => none) (Int32.toNatClampNeg 0) (some q_14)) (Int32.toNatClampNeg 1) (some q_15)) (Int32.toNatClampNeg 2) (some q_16)) (Int32.toNatClampNeg 3) (some q_17)) (Int32.toNatClampNeg 4) (some q_18)) (Int32.toNatClampNeg 5) (some q_19)) (Int32.toNatClampNeg 6) (some q_20)))))))] [(q_1, 549), (q_2, 550), (q_3, 551), (q_4, 552), (q_5, 552), (q_6, 553), (q_7, 554), (q_8, 555), (q_9, 555), (q_11, 109), (q_12, 113), (q_13, 557), (q_14, 104), (q_15, 104), (q_16, 104), (q_17, 104), (q_18, 104), (q_19, 104), (q_20, 104)] [] H := ⟨L, f, kd, hP, hD, hB, hR, hF⟩
  refine lv_iload_n hx hb dX7_init_131 rfl (lv_at hl 0 rfl) ?_
  obtain ⟨L, f, kd, hP, hD, hB, hR, hF⟩ := hW
  refine va_new (ci := 4) (fs := [.int 0, .int 0, .int 0, .int 0, .null, .null, .null, .null, .int 0, .int 0, .int 0]) (C := RX4) (T := TX4) (N := 11) hx hb hU inlX4 tyX4 tyX4_ok hown (hU _ wd_81) (hU _ wd_89) (hU _ wd_90) hK hP hD hS hA rfl dvX4 (Nat.le_of_ble_eq_true rfl) (Nat.le_of_ble_eq_true rfl) dX7_init_132 (fun q_21 H hP hD hS => ?_)
  have hW : cw (dC, dI) cI cL cZ cR cG cH A ([(a0, .inr (7, [.ref q_1, .int 0, .ref q_2, .ref q_3, .ref q_4, .ref q_5, .int 0, .ref q_6, .ref q_7, .ref q_8, .ref q_9, .ref q_10, .int 0, .ref q_11, .ref q_12, .ref q_13])), (q_10, .inl (cR, 8, .inr (.inr (.inr (.inr (va_up (va_up (va_up (va_up (va_up (va_up (va_up (fun _ => none) (Int32.toNatClampNeg 0) (some q_14)) (Int32.toNatClampNeg 1) (some q_15)) (Int32.toNatClampNeg 2) (some q_16)) (Int32.toNatClampNeg 3) (some q_17)) (Int32.toNatClampNeg 4) (some q_18)) (Int32.toNatClampNeg 5) (some q_19)) (Int32.toNatClampNeg 6) (some q_20)))))))] ++ [(q_21, .inr (4, [.int 0, .int 0, .int 0, .int 0, .null, .null, .null, .null, .int 0, .int 0, .int 0]))]) [(q_1, 549), (q_2, 550), (q_3, 551), (q_4, 552), (q_5, 552), (q_6, 553), (q_7, 554), (q_8, 555), (q_9, 555), (q_11, 109), (q_12, 113), (q_13, 557), (q_14, 104), (q_15, 104), (q_16, 104), (q_17, 104), (q_18, 104), (q_19, 104), (q_20, 104)] [] H := cw_new hP hD hB hR hF
  refine W.widen (k := 95) (n := 1597) (Nat.le_of_ble_eq_true rfl) (Nat.le_of_ble_eq_true rfl) ?_
  refine lv_dup hx hb dX7_init_135 rfl ?_
  refine cs_back (X := [(a0, .inr (7, [.ref q_1, .int 0, .ref q_2, .ref q_3, .ref q_4, .ref q_5, .int 0, .ref q_6, .ref q_7, .ref q_8, .ref q_9, .ref q_10, .int 0, .ref q_11, .ref q_12, .ref q_13])), (q_10, .inl (cR, 8, .inr (.inr (.inr (.inr (va_up (va_up (va_up (va_up (va_up (va_up (va_up (fun _ => none) (Int32.toNatClampNeg 0) (some q_14)) (Int32.toNatClampNeg 1) (some q_15)) (Int32.toNatClampNeg 2) (some q_16)) (Int32.toNatClampNeg 3) (some q_17)) (Int32.toNatClampNeg 4) (some q_18)) (Int32.toNatClampNeg 5) (some q_19)) (Int32.toNatClampNeg 6) (some q_20)))))))]) (cs_IN (X := [(a0, .inr (7, [.ref q_1, .int 0, .ref q_2, .ref q_3, .ref q_4, .ref q_5, .int 0, .ref q_6, .ref q_7, .ref q_8, .ref q_9, .ref q_10, .int 0, .ref q_11, .ref q_12, .ref q_13])), (q_10, .inl (cR, 8, .inr (.inr (.inr (.inr (va_up (va_up (va_up (va_up (va_up (va_up (va_up (fun _ => none) (Int32.toNatClampNeg 0) (some q_14)) (Int32.toNatClampNeg 1) (some q_15)) (Int32.toNatClampNeg 2) (some q_16)) (Int32.toNatClampNeg 3) (some q_17)) (Int32.toNatClampNeg 4) (some q_18)) (Int32.toNatClampNeg 5) (some q_19)) (Int32.toNatClampNeg 6) (some q_20)))))))]) (As := []) (rest := [.ref q_21, .int 7, .ref q_10]) (n := 0) hx hb hml hown hU hN (n_X4_init_104 l (dC, dI) cI cL cZ cR cG cH H.size q_21) hN.2.1 wd_97 wd_90 wd_98 rfl (by decide +kernel) ⟨Nat.le_of_ble_eq_true rfl, Nat.le_of_ble_eq_true rfl⟩ hK hW rfl hl.1 rfl (Nat.le_of_ble_eq_true rfl) dX7_init_136 ⟨Nat.le_of_ble_eq_true rfl, Nat.le_of_ble_eq_true rfl⟩) hW hS hA [2] [0, 1] rfl rfl (by decide) (by decide) (fun H locs hW hS => ?_)
  have hW : cw (dC, dI) cI cL cZ cR cG cH A [(a0, .inr (7, [.ref q_1, .int 0, .ref q_2, .ref q_3, .ref q_4, .ref q_5, .int 0, .ref q_6, .ref q_7, .ref q_8, .ref q_9, .ref q_10, .int 0, .ref q_11, .ref q_12, .ref q_13])), (q_10, .inl (cR, 8, .inr (.inr (.inr (.inr (va_up (va_up (va_up (va_up (va_up (va_up (va_up (fun _ => none) (Int32.toNatClampNeg 0) (some q_14)) (Int32.toNatClampNeg 1) (some q_15)) (Int32.toNatClampNeg 2) (some q_16)) (Int32.toNatClampNeg 3) (some q_17)) (Int32.toNatClampNeg 4) (some q_18)) (Int32.toNatClampNeg 5) (some q_19)) (Int32.toNatClampNeg 6) (some q_20)))))))] [(q_1, 549), (q_2, 550), (q_3, 551), (q_4, 552), (q_5, 552), (q_6, 553), (q_7, 554), (q_8, 555), (q_9, 555), (q_11, 109), (q_12, 113), (q_13, 557), (q_14, 104), (q_15, 104), (q_16, 104), (q_17, 104), (q_18, 104), (q_19, 104), (q_20, 104), (q_21, 104)] [] H := hW
  refine W.widen (k := 105) (n := 1749) (Nat.le_of_ble_eq_true rfl) (Nat.le_of_ble_eq_true rfl) ?_
  obtain ⟨L, f, kd, hP, hD, hB, hR, hF⟩ := hW
  obtain ⟨mb, kb⟩ := hR (q_21, 104) (List.mem_of_getElem? (i := 19) rfl)
  obtain ⟨kq, hkq⟩ := va_pl_get (X := [(a0, .inr (7, [.ref q_1, .int 0, .ref q_2, .ref q_3, .ref q_4, .ref q_5, .int 0, .ref q_6, .ref q_7, .ref q_8, .ref q_9, .ref q_10, .int 0, .ref q_11, .ref q_12, .ref q_13])), (q_10, .inl (cR, 8, .inr (.inr (.inr (.inr (va_up (va_up (va_up (va_up (va_up (va_up (va_up (fun _ => none) (Int32.toNatClampNeg 0) (some q_14)) (Int32.toNatClampNeg 1) (some q_15)) (Int32.toNatClampNeg 2) (some q_16)) (Int32.toNatClampNeg 3) (some q_17)) (Int32.toNatClampNeg 4) (some q_18)) (Int32.toNatClampNeg 5) (some q_19)) (Int32.toNatClampNeg 6) (some q_20)))))))]) (f := f) mb
  obtain ⟨u0, u1, u2, u3, u4, u5, u6, u7, u8, u9, u10, hfb, -, -, -, -, -, -, -, -⟩ := un_104 (hB _ mb).1 kb
  rw [hfb] at hkq
  refine va_astq (r := (RX4, TX4, 11)) hx hb hK hP hD hS 1 3 kq 4 rfl rfl hkq rfl (vp_in_nI (n := 7) (by decide) (by decide)) dX7_init_139 (fun H locs hP hD hS => ?_)
  have hW : cw (dC, dI) cI cL cZ cR cG cH A [(a0, .inr (7, [.ref q_1, .int 0, .ref q_2, .ref q_3, .ref q_4, .ref q_5, .int 0, .ref q_6, .ref q_7, .ref q_8, .ref q_9, .ref q_10, .int 0, .ref q_11, .ref q_12, .ref q_13])), (q_10, .inl (cR, 8, .inr (.inr (.inr (.inr (va_up (va_up (va_up (va_up (va_up (va_up (va_up (va_up (fun _ => none) (Int32.toNatClampNeg 0) (some q_14)) (Int32.toNatClampNeg 1) (some q_15)) (Int32.toNatClampNeg 2) (some q_16)) (Int32.toNatClampNeg 3) (some q_17)) (Int32.toNatClampNeg 4) (some q_18)) (Int32.toNatClampNeg 5) (some q_19)) (Int32.toNatClampNeg 6) (some q_20)) (Int32.toNatClampNeg 7) (some q_21)))))))] [(q_1, 549), (q_2, 550), (q_3, 551), (q_4, 552), (q_5, 552), (q_6, 553), (q_7, 554), (q_8, 555), (q_9, 555), (q_11, 109), (q_12, 113), (q_13, 557), (q_14, 104), (q_15, 104), (q_16, 104), (q_17, 104), (q_18, 104), (q_19, 104), (q_20, 104), (q_21, 104)] [] H := ⟨L, f, kd, hP, hD, hB, hR, hF⟩
  have hW : cw (dC, dI) cI cL cZ cR cG cH A [(a0, .inr (7, [.ref q_1, .int 0, .ref q_2, .ref q_3, .ref q_4, .ref q_5, .int 0, .ref q_6, .ref q_7, .ref q_8, .ref q_9, .ref q_10, .int 0, .ref q_11, .ref q_12, .ref q_13]))] [(q_1, 549), (q_2, 550), (q_3, 551), (q_4, 552), (q_5, 552), (q_6, 553), (q_7, 554), (q_8, 555), (q_9, 555), (q_11, 109), (q_12, 113), (q_13, 557), (q_14, 104), (q_15, 104), (q_16, 104), (q_17, 104), (q_18, 104), (q_19, 104), (q_20, 104), (q_21, 104), (q_10, 556)] [] H := cw_xpush (X := [(a0, .inr (7, [.ref q_1, .int 0, .ref q_2, .ref q_3, .ref q_4, .ref q_5, .int 0, .ref q_6, .ref q_7, .ref q_8, .ref q_9, .ref q_10, .int 0, .ref q_11, .ref q_12, .ref q_13]))]) hW (fun L kd h => ⟨show ok_556 cR L kd _ from ⟨_, rfl, fun j hj => (by rcases (show j = 0 ∨ j = 1 ∨ j = 2 ∨ j = 3 ∨ j = 4 ∨ j = 5 ∨ j = 6 ∨ j = 7 by omega) with rfl | rfl | rfl | rfl | rfl | rfl | rfl | rfl; exact ⟨q_14, rfl, h (q_14, 104) (List.mem_of_getElem? (i := 12) rfl)⟩; exact ⟨q_15, rfl, h (q_15, 104) (List.mem_of_getElem? (i := 13) rfl)⟩; exact ⟨q_16, rfl, h (q_16, 104) (List.mem_of_getElem? (i := 14) rfl)⟩; exact ⟨q_17, rfl, h (q_17, 104) (List.mem_of_getElem? (i := 15) rfl)⟩; exact ⟨q_18, rfl, h (q_18, 104) (List.mem_of_getElem? (i := 16) rfl)⟩; exact ⟨q_19, rfl, h (q_19, 104) (List.mem_of_getElem? (i := 17) rfl)⟩; exact ⟨q_20, rfl, h (q_20, 104) (List.mem_of_getElem? (i := 18) rfl)⟩; exact ⟨q_21, rfl, h (q_21, 104) (List.mem_of_getElem? (i := 19) rfl)⟩)⟩, ⟨fun h => absurd h (by decide), fun h => absurd h (by decide), fun h => absurd h (by decide), fun h => absurd h (by decide), fun h => absurd h (by decide), fun h => absurd h (by decide)⟩⟩)
  refine lv_iinc (v := 8) (lv' := [(1, .int 8), (0, .ref a0)]) hx hb dX7_init_140 hl (k := 0) rfl (by decide) (by decide) rfl (fun ls hl => ?_)
  refine lv_goto (tgt := 121) hx hb dX7_init_143 (by decide) ?_
  refine lv_iload_n hx hb dX7_init_121 rfl (lv_at hl 0 rfl) ?_
  refine lv_bipush (v := 8) hx hb dX7_init_122 (by decide) ?_
  refine lv_icmp_ge (tgt := 146) hx hb dX7_init_124 (by decide) (fun _ => ?_) (fun c9 => absurd (by decide) c9)
  obtain ⟨w9, hP9, hD9, hbt⟩ := cw_done (k := 107) hW (fun L kd h => ⟨show ok_107 L kd _ from ⟨q_1, 0, q_2, q_3, q_4, q_5, 0, q_6, q_7, q_8, q_9, q_10, 0, q_11, q_12, q_13, rfl, h (q_1, 549) (List.mem_of_getElem? (i := 0) rfl), (by decide), h (q_2, 550) (List.mem_of_getElem? (i := 1) rfl), h (q_3, 551) (List.mem_of_getElem? (i := 2) rfl), h (q_4, 552) (List.mem_of_getElem? (i := 3) rfl), h (q_5, 552) (List.mem_of_getElem? (i := 4) rfl), (by decide), h (q_6, 553) (List.mem_of_getElem? (i := 5) rfl), h (q_7, 554) (List.mem_of_getElem? (i := 6) rfl), h (q_8, 555) (List.mem_of_getElem? (i := 7) rfl), h (q_9, 555) (List.mem_of_getElem? (i := 8) rfl), h (q_10, 556) (List.mem_of_getElem? (i := 20) rfl), (by decide), h (q_11, 109) (List.mem_of_getElem? (i := 9) rfl), h (q_12, 113) (List.mem_of_getElem? (i := 10) rfl), h (q_13, 557) (List.mem_of_getElem? (i := 11) rfl)⟩, ⟨fun _ => ⟨rfl, rfl, rfl⟩, fun h => absurd h (by decide), fun h => absurd h (by decide), fun h => absurd h (by decide), fun h => absurd h (by decide), fun h => absurd h (by decide)⟩⟩)
  refine W.widen (k := 105) (n := 1749) (Nat.le_of_ble_eq_true rfl) (Nat.le_of_ble_eq_true rfl) ?_
  exact W.vret hx hb hr (fun t ht hW => ⟨⟨w9, rfl, hbt, by rw [ht]; exact hP9, va_K.moved hW.alike hK, hD9⟩, hS.F ht⟩) hS.2.2 dX7_init_146
