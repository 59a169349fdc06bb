set_option maxHeartbeats 8000000 in
set_option maxRecDepth 100000 in
theorem n_X10_init_10 (l : Launch) (D : va_G) (cI cL cZ cR cG cH : ClassId) (sz a0 : Nat) : mC l D cI cL cZ cR cG cH yX10_init cX10_init 1 1 30 1 200 [.ref a0] sz [(a0, .inr (10, [.null, .int 0, .int 0]))] (bt cI cL cZ cR cG cH 10 a0) := by
  obtain ⟨dC, dI⟩ := D
  refine Met.ofW (cc := cX10_init) (maxL := 1) (ret := none) (by decide) rfl ?_
  intro p e s m args below meth c s₁ B hml hv
  obtain ⟨rfl, hsz, hP, hK, hD0, hN⟩ := hv
  have hx := B.exec
  have hb := B.bytes
  have hr := B.returns
  have hU : ∀ w ∈ wsU, w.before _ s = true := fun w h => atoms_spec (ws := wU yX10_init cX10_init 1 none) B.pre w (List.mem_cons_of_mem _ h)
  have hown : s.vm.findClass RX10 = some m.cls := findClass_of_methodNamed B.named
  have hlocks := B.notSynchronized
  have hin : meth.name = "<init>" := (name_of_methodNamed B.named B.method).1
  subst hsz
  have hD := hD0.self (sz := s.heap.size)
  generalize hAe : va_A [(a0, .inr (10, [.null, .int 0, .int 0]))] s.heap.size = A at hD ⊢
  have hA : ∀ q : Nat, s.heap.size ≤ q → A q := fun q h => by rw [← hAe]; exact Or.inr h
  have hS : va_S A s.heap s.heap [] := va_S.rf
  have hW : cw (dC, dI) cI cL cZ cR cG cH A [(a0, .inr (10, [.null, .int 0, .int 0]))] [] [] s.heap := ⟨[], fun _ => .inl (cI, 0, .inl z0), fun _ => 0, hP, hD, fun a h => absurd h List.not_mem_nil, fun q h => absurd h List.not_mem_nil, fun q h => absurd h List.not_mem_nil⟩
  have hl := lv_entry ([.ref a0]) (n := 1) (Nat.le_of_ble_eq_true rfl)
  rw [lg_entry_eq]
  generalize (lg_sl ([.ref a0]) ++ List.replicate (1 - (lg_sl ([.ref a0])).length) Slot.unset).toArray = ls at hl ⊢
  have hl : lv_has ls 1 [(0, .ref a0)] := hl
  refine lv_aload_n hx hb dX10_init_0 rfl (lv_at hl 0 rfl) ?_
  refine W.objInit hx hb hown (hU _ wd_115) (hU _ wd_10) (hU _ wd_11) rfl (by rw [hml]; exact hl.1) rfl dX10_init_1 (Nat.le_of_ble_eq_true rfl) (Nat.le_of_ble_eq_true rfl) ?_
  refine W.eq (g2 := F0 m 4 ls []) rfl ?_
  refine lv_aload_n hx hb dX10_init_4 rfl (lv_at hl 0 rfl) ?_
  refine lv_sipush (v := 200) hx hb dX10_init_5 (by decide) ?_
  refine cs_newa (atype := .int) (ty := .int) (k := 524) (a0 := (200, .inl z0)) hx hb 0 (hU (.arrayClass .int) wd_12) rfl (fun _ => Iff.rfl) hK rfl hW hS hA (fun _ => rfl) (fun L kd => na_524 L kd) (by decide) (by decide) (Nat.le_of_ble_eq_true rfl) (Nat.le_of_ble_eq_true rfl) (Nat.le_of_ble_eq_true rfl) dX10_init_8 (fun q_1 H hW hS => ?_)
  have hW : cw (dC, dI) cI cL cZ cR cG cH A [(a0, .inr (10, [.null, .int 0, .int 0]))] [(q_1, 524)] [] H := hW
  refine W.widen (k := 1) (n := 200) (Nat.le_of_ble_eq_true rfl) (Nat.le_of_ble_eq_true rfl) ?_
  obtain ⟨L, f, kd, hP, hD, hB, hR, hF⟩ := hW
  refine va_putF (D := (dC, dI)) (ci := 10) (v := .ref q_1) (ty := .array .int) (C := RX10) (T := TX10) (N := 3) hx hb hU inlX10 tyX10 tyX10_ok nmX10 hown hK hP hD hS 0 rfl rfl 0 (by decide) (hU _ wd_116) (fun _ h9 => h9) rfl hin rfl (by decide +kernel) rfl rfl (Nat.le_of_ble_eq_true rfl) dX10_init_10 (fun H locs hP hD hS => ?_)
  have hW : cw (dC, dI) cI cL cZ cR cG cH A [(a0, .inr (10, [.ref q_1, .int 0, .int 0]))] [(q_1, 524)] [] H := ⟨L, f, kd, hP, hD, hB, hR, hF⟩
  obtain ⟨w9, hP9, hD9, hbt⟩ := cw_done (k := 10) hW (fun L kd h => ⟨show ok_10 L kd _ from ⟨q_1, 0, 0, rfl, h (q_1, 524) (List.mem_of_getElem? (i := 0) rfl), (by decide), (by decide)⟩, ⟨fun h => absurd h (by decide), fun h => absurd h (by decide), fun h => absurd h (by decide), fun h => absurd h (by decide), fun h => absurd h (by decide), fun h => absurd h (by decide)⟩⟩)
  refine W.widen (k := 1) (n := 200) (Nat.le_of_ble_eq_true rfl) (Nat.le_of_ble_eq_true rfl) ?_
  exact W.vret hx hb hr (fun t ht hW => ⟨⟨w9, rfl, hbt, by rw [ht]; exact hP9, va_K.moved hW.alike hK, hD9⟩, hS.F ht⟩) hS.2.2 dX10_init_13
set_option maxHeartbeats 8000000 in
set_option maxRecDepth 100000 in
theorem n_X8_init_8 (l : Launch) (D : va_G) (cI cL cZ cR cG cH : ClassId) (sz a0 : Nat) : mC l D cI cL cZ cR cG cH yX8_init cX8_init 1 1 30 5 1050 [.ref a0] sz [(a0, .inr (8, [.null, .null, .null, .null, .null]))] (bt cI cL cZ cR cG cH 8 a0) := by
  obtain ⟨dC, dI⟩ := D
  refine Met.ofW (cc := cX8_init) (maxL := 1) (ret := none) (by decide) rfl ?_
  intro p e s m args below meth c s₁ B hml hv
  obtain ⟨rfl, hsz, hP, hK, hD0, hN⟩ := hv
  have hx := B.exec
  have hb := B.bytes
  have hr := B.returns
  have hU : ∀ w ∈ wsU, w.before _ s = true := fun w h => atoms_spec (ws := wU yX8_init cX8_init 1 none) B.pre w (List.mem_cons_of_mem _ h)
  have hown : s.vm.findClass RX8 = some m.cls := findClass_of_methodNamed B.named
  have hlocks := B.notSynchronized
  have hin : meth.name = "<init>" := (name_of_methodNamed B.named B.method).1
  subst hsz
  have hD := hD0.self (sz := s.heap.size)
  generalize hAe : va_A [(a0, .inr (8, [.null, .null, .null, .null, .null]))] s.heap.size = A at hD ⊢
  have hA : ∀ q : Nat, s.heap.size ≤ q → A q := fun q h => by rw [← hAe]; exact Or.inr h
  have hS : va_S A s.heap s.heap [] := va_S.rf
  have hW : cw (dC, dI) cI cL cZ cR cG cH A [(a0, .inr (8, [.null, .null, .null, .null, .null]))] [] [] s.heap := ⟨[], fun _ => .inl (cI, 0, .inl z0), fun _ => 0, hP, hD, fun a h => absurd h List.not_mem_nil, fun q h => absurd h List.not_mem_nil, fun q h => absurd h List.not_mem_nil⟩
  have hl := lv_entry ([.ref a0]) (n := 1) (Nat.le_of_ble_eq_true rfl)
  rw [lg_entry_eq]
  generalize (lg_sl ([.ref a0]) ++ List.replicate (1 - (lg_sl ([.ref a0])).length) Slot.unset).toArray = ls at hl ⊢
  have hl : lv_has ls 1 [(0, .ref a0)] := hl
  refine lv_aload_n hx hb dX8_init_0 rfl (lv_at hl 0 rfl) ?_
  refine W.objInit hx hb hown (hU _ wd_119) (hU _ wd_10) (hU _ wd_11) rfl (by rw [hml]; exact hl.1) rfl dX8_init_1 (Nat.le_of_ble_eq_true rfl) (Nat.le_of_ble_eq_true rfl) ?_
  refine W.eq (g2 := F0 m 4 ls []) rfl ?_
  refine lv_aload_n hx hb dX8_init_4 rfl (lv_at hl 0 rfl) ?_
  refine lv_bipush (v := 80) hx hb dX8_init_5 (by decide) ?_
  refine cs_newa (atype := .int) (ty := .int) (k := 517) (a0 := (80, .inl z0)) hx hb 0 (hU (.arrayClass .int) wd_12) rfl (fun _ => Iff.rfl) hK rfl hW hS hA (fun _ => rfl) (fun L kd => na_517 L kd) (by decide) (by decide) (Nat.le_of_ble_eq_true rfl) (Nat.le_of_ble_eq_true rfl) (Nat.le_of_ble_eq_true rfl) dX8_init_7 (fun q_1 H hW hS => ?_)
  have hW : cw (dC, dI) cI cL cZ cR cG cH A [(a0, .inr (8, [.null, .null, .null, .null, .null]))] [(q_1, 517)] [] H := hW
  refine W.widen (k := 1) (n := 80) (Nat.le_of_ble_eq_true rfl) (Nat.le_of_ble_eq_true rfl) ?_
  obtain ⟨L, f, kd, hP, hD, hB, hR, hF⟩ := hW
  refine va_putF (D := (dC, dI)) (ci := 8) (v := .ref q_1) (ty := .array .int) (C := RX8) (T := TX8) (N := 5) hx hb hU inlX8 tyX8 tyX8_ok nmX8 hown hK hP hD hS 0 rfl rfl 0 (by decide) (hU _ wd_120) (fun _ h9 => h9) rfl hin rfl (by decide +kernel) rfl rfl (Nat.le_of_ble_eq_true rfl) dX8_init_9 (fun H locs hP hD hS => ?_)
  have hW : cw (dC, dI) cI cL cZ cR cG cH A [(a0, .inr (8, [.ref q_1, .null, .null, .null, .null]))] [(q_1, 517)] [] H := ⟨L, f, kd, hP, hD, hB, hR, hF⟩
  refine lv_aload_n hx hb dX8_init_12 rfl (lv_at hl 0 rfl) ?_
  refine lv_bipush (v := 80) hx hb dX8_init_13 (by decide) ?_
  refine cs_newa (atype := .int) (ty := .int) (k := 517) (a0 := (80, .inl z0)) hx hb 0 (hU (.arrayClass .int) wd_12) rfl (fun _ => Iff.rfl) hK rfl hW hS hA (fun _ => rfl) (fun L kd => na_517 L kd) (by decide) (by decide) (Nat.le_of_ble_eq_true rfl) (Nat.le_of_ble_eq_true rfl) (Nat.le_of_ble_eq_true rfl) dX8_init_15 (fun q_2 H hW hS => ?_)
  have hW : cw (dC, dI) cI cL cZ cR cG cH A [(a0, .inr (8, [.ref q_1, .null, .null, .null, .null]))] [(q_1, 517), (q_2, 517)] [] H := hW
  refine W.widen (k := 2) (n := 160) (Nat.le_of_ble_eq_true rfl) (Nat.le_of_ble_eq_true rfl) ?_
  obtain ⟨L, f, kd, hP, hD, hB, hR, hF⟩ := hW
  refine va_putF (D := (dC, dI)) (ci := 8) (v := .ref q_2) (ty := .array .int) (C := RX8) (T := TX8) (N := 5) hx hb hU inlX8 tyX8 tyX8_ok nmX8 hown hK hP hD hS 0 rfl rfl 1 (by decide) (hU _ wd_121) (fun _ h9 => h9) rfl hin rfl (by decide +kernel) rfl rfl (Nat.le_of_ble_eq_true rfl) dX8_init_17 (fun H locs hP hD hS => ?_)
  have hW : cw (dC, dI) cI cL cZ cR cG cH A [(a0, .inr (8, [.ref q_1, .ref q_2, .null, .null, .null]))] [(q_1, 517), (q_2, 517)] [] H := ⟨L, f, kd, hP, hD, hB, hR, hF⟩
  refine lv_aload_n hx hb dX8_init_20 rfl (lv_at hl 0 rfl) ?_
  refine lv_bipush (v := 80) hx hb dX8_init_21 (by decide) ?_
  refine cs_newa (atype := .int) (ty := .int) (k := 518) (a0 := (80, .inl z0)) hx hb 0 (hU (.arrayClass .int) wd_12) rfl (fun _ => Iff.rfl) hK rfl hW hS hA (fun _ => rfl) (fun L kd => na_518 L kd) (by decide) (by decide) (Nat.le_of_ble_eq_true rfl) (Nat.le_of_ble_eq_true rfl) (Nat.le_of_ble_eq_true rfl) dX8_init_23 (fun q_3 H hW hS => ?_)
  have hW : cw (dC, dI) cI cL cZ cR cG cH A [(a0, .inr (8, [.ref q_1, .ref q_2, .null, .null, .null]))] [(q_1, 517), (q_2, 517), (q_3, 518)] [] H := hW
  refine W.widen (k := 3) (n := 240) (Nat.le_of_ble_eq_true rfl) (Nat.le_of_ble_eq_true rfl) ?_
  obtain ⟨L, f, kd, hP, hD, hB, hR, hF⟩ := hW
  refine va_putF (D := (dC, dI)) (ci := 8) (v := .ref q_3) (ty := .array .int) (C := RX8) (T := TX8) (N := 5) hx hb hU inlX8 tyX8 tyX8_ok nmX8 hown hK hP hD hS 0 rfl rfl 2 (by decide) (hU _ wd_122) (fun _ h9 => h9) rfl hin rfl (by decide +kernel) rfl rfl (Nat.le_of_ble_eq_true rfl) dX8_init_25 (fun H locs hP hD hS => ?_)
  have hW : cw (dC, dI) cI cL cZ cR cG cH A [(a0, .inr (8, [.ref q_1, .ref q_2, .ref q_3, .null, .null]))] [(q_1, 517), (q_2, 517), (q_3, 518)] [] H := ⟨L, f, kd, hP, hD, hB, hR, hF⟩
  refine lv_aload_n hx hb dX8_init_28 rfl (lv_at hl 0 rfl) ?_
  refine lv_sipush (v := 800) hx hb dX8_init_29 (by decide) ?_
  refine cs_newa (atype := .int) (ty := .int) (k := 519) (a0 := (800, .inl z0)) hx hb 0 (hU (.arrayClass .int) wd_12) rfl (fun _ => Iff.rfl) hK rfl hW hS hA (fun _ => rfl) (fun L kd => na_519 L kd) (by decide) (by decide) (Nat.le_of_ble_eq_true rfl) (Nat.le_of_ble_eq_true rfl) (Nat.le_of_ble_eq_true rfl) dX8_init_32 (fun q_4 H hW hS => ?_)
  have hW : cw (dC, dI) cI cL cZ cR cG cH A [(a0, .inr (8, [.ref q_1, .ref q_2, .ref q_3, .null, .null]))] [(q_1, 517), (q_2, 517), (q_3, 518), (q_4, 519)] [] H := hW
  refine W.widen (k := 4) (n := 1040) (Nat.le_of_ble_eq_true rfl) (Nat.le_of_ble_eq_true rfl) ?_
  obtain ⟨L, f, kd, hP, hD, hB, hR, hF⟩ := hW
  refine va_putF (D := (dC, dI)) (ci := 8) (v := .ref q_4) (ty := .array .int) (C := RX8) (T := TX8) (N := 5) hx hb hU inlX8 tyX8 tyX8_ok nmX8 hown hK hP hD hS 0 rfl rfl 3 (by decide) (hU _ wd_123) (fun _ h9 => h9) rfl hin rfl (by decide +kernel) rfl rfl (Nat.le_of_ble_eq_true rfl) dX8_init_34 (fun H locs hP hD hS => ?_)
  have hW : cw (dC, dI) cI cL cZ cR cG cH A [(a0, .inr (8, [.ref q_1, .ref q_2, .ref q_3, .ref q_4, .null]))] [(q_1, 517), (q_2, 517), (q_3, 518), (q_4, 519)] [] H := ⟨L, f, kd, hP, hD, hB, hR, hF⟩
  refine lv_aload_n hx hb dX8_init_37 rfl (lv_at hl 0 rfl) ?_
  refine lv_bipush (v := 10) hx hb dX8_init_38 (by decide) ?_
  refine cs_newa (atype := .int) (ty := .int) (k := 520) (a0 := (10, .inl z0)) hx hb 0 (hU (.arrayClass .int) wd_12) rfl (fun _ => Iff.rfl) hK rfl hW hS hA (fun _ => rfl) (fun L kd => na_520 L kd) (by decide) (by decide) (Nat.le_of_ble_eq_true rfl) (Nat.le_of_ble_eq_true rfl) (Nat.le_of_ble_eq_true rfl) dX8_init_40 (fun q_5 H hW hS => ?_)
  have hW : cw (dC, dI) cI cL cZ cR cG cH A [(a0, .inr (8, [.ref q_1, .ref q_2, .ref q_3, .ref q_4, .null]))] [(q_1, 517), (q_2, 517), (q_3, 518), (q_4, 519), (q_5, 520)] [] H := hW
  refine W.widen (k := 5) (n := 1050) (Nat.le_of_ble_eq_true rfl) (Nat.le_of_ble_eq_true rfl) ?_
  obtain ⟨L, f, kd, hP, hD, hB, hR, hF⟩ := hW
  refine va_putF (D := (dC, dI)) (ci := 8) (v := .ref q_5) (ty := .array .int) (C := RX8) (T := TX8) (N := 5) hx hb hU inlX8 tyX8 tyX8_ok nmX8 hown hK hP hD hS 0 rfl rfl 4 (by decide) (hU _ wd_124) (fun _ h9 => h9) rfl hin rfl (by decide +kernel) rfl rfl (Nat.le_of_ble_eq_true rfl) dX8_init_42 (fun H locs hP hD hS => ?_)
  have hW : cw (dC, dI) cI cL cZ cR cG cH A [(a0, .inr (8, [.ref q_1, .ref q_2, .ref q_3, .ref q_4, .ref q_5]))] [(q_1, 517), (q_2, 517), (q_3, 518), (q_4, 519), (q_5, 520)] [] H := ⟨L, f, kd, hP, hD, hB, hR, hF⟩
  obtain ⟨w9, hP9, hD9, hbt⟩ := cw_done (k := 8) hW (fun L kd h => ⟨show ok_8 L kd _ from ⟨q_1, q_2, q_3, q_4, q_5, rfl, h (q_1, 517) (List.mem_of_getElem? (i := 0) rfl), h (q_2, 517) (List.mem_of_getElem? (i := 1) rfl), h (q_3, 518) (List.mem_of_getElem? (i := 2) rfl), h (q_4, 519) (List.mem_of_getElem? (i := 3) rfl), h (q_5, 520) (List.mem_of_getElem? (i := 4) rfl)⟩, ⟨fun h => absurd h (by decide), fun h => absurd h (by decide), fun h => absurd h (by decide), fun h => absurd h (by decide), fun h => absurd h (by decide), fun h => absurd h (by decide)⟩⟩)
  refine W.widen (k := 5) (n := 1050) (Nat.le_of_ble_eq_true rfl) (Nat.le_of_ble_eq_true rfl) ?_
  exact W.vret hx hb hr (fun t ht hW => ⟨⟨w9, rfl, hbt, by rw [ht]; exact hP9, va_K.moved hW.alike hK, hD9⟩, hS.F ht⟩) hS.2.2 dX8_init_45
set_option maxHeartbeats 8000000 in
set_option maxRecDepth 100000 in
theorem n_X1_init_1 (l : Launch) (D : va_G) (cI cL cZ cR cG cH : ClassId) (sz a0 : Nat) : mC l D cI cL cZ cR cG cH yX1_init cX1_init 1 1 30 3 36953 [.ref a0] sz [(a0, .inr (1, [.null, .null, .null, .int 0, .int 0, .int 0]))] (bt cI cL cZ cR cG cH 1 a0) := by
  obtain ⟨dC, dI⟩ := D
  refine Met.ofW (cc := cX1_init) (maxL := 1) (ret := none) (by decide) rfl ?_
  intro p e s m args below meth c s₁ B hml hv
  obtain ⟨rfl, hsz, hP, hK, hD0, hN⟩ := hv
  have hx := B.exec
  have hb := B.bytes
  have hr := B.returns
  have hU : ∀ w ∈ wsU, w.before _ s = true := fun w h => atoms_spec (ws := wU yX1_init cX1_init 1 none) B.pre w (List.mem_cons_of_mem _ h)
  have hown : s.vm.findClass RX1 = some m.cls := findClass_of_methodNamed B.named
  have hlocks := B.notSynchronized
  have hin : meth.name = "<init>" := (name_of_methodNamed B.named B.method).1
  subst hsz
  have hD := hD0.self (sz := s.heap.size)
  generalize hAe : va_A [(a0, .inr (1, [.null, .null, .null, .int 0, .int 0, .int 0]))] s.heap.size = A at hD ⊢
  have hA : ∀ q : Nat, s.heap.size ≤ q → A q := fun q h => by rw [← hAe]; exact Or.inr h
  have hS : va_S A s.heap s.heap [] := va_S.rf
  have hW : cw (dC, dI) cI cL cZ cR cG cH A [(a0, .inr (1, [.null, .null, .null, .int 0, .int 0, .int 0]))] [] [] s.heap := ⟨[], fun _ => .inl (cI, 0, .inl z0), fun _ => 0, hP, hD, fun a h => absurd h List.not_mem_nil, fun q h => absurd h List.not_mem_nil, fun q h => absurd h List.not_mem_nil⟩
  have hl := lv_entry ([.ref a0]) (n := 1) (Nat.le_of_ble_eq_true rfl)
  rw [lg_entry_eq]
  generalize (lg_sl ([.ref a0]) ++ List.replicate (1 - (lg_sl ([.ref a0])).length) Slot.unset).toArray = ls at hl ⊢
  have hl : lv_has ls 1 [(0, .ref a0)] := hl
  refine lv_aload_n hx hb dX1_init_0 rfl (lv_at hl 0 rfl) ?_
  refine W.objInit hx hb hown (hU _ wd_127) (hU _ wd_10) (hU _ wd_11) rfl (by rw [hml]; exact hl.1) rfl dX1_init_1 (Nat.le_of_ble_eq_true rfl) (Nat.le_of_ble_eq_true rfl) ?_
  refine W.eq (g2 := F0 m 4 ls []) rfl ?_
  refine lv_aload_n hx hb dX1_init_4 rfl (lv_at hl 0 rfl) ?_
  refine lv_sipush (v := 4096) hx hb dX1_init_5 (by decide) ?_
  refine cs_newa (atype := .int) (ty := .int) (k := 521) (a0 := (4096, .inl z0)) hx hb 0 (hU (.arrayClass .int) wd_12) rfl (fun _ => Iff.rfl) hK rfl hW hS hA (fun _ => rfl) (fun L kd => na_521 L kd) (by decide) (by decide) (Nat.le_of_ble_eq_true rfl) (Nat.le_of_ble_eq_true rfl) (Nat.le_of_ble_eq_true rfl) dX1_init_8 (fun q_1 H hW hS => ?_)
  have hW : cw (dC, dI) cI cL cZ cR cG cH A [(a0, .inr (1, [.null, .null, .null, .int 0, .int 0, .int 0]))] [(q_1, 521)] [] H := hW
  refine W.widen (k := 1) (n := 4096) (Nat.le_of_ble_eq_true rfl) (Nat.le_of_ble_eq_true rfl) ?_
  obtain ⟨L, f, kd, hP, hD, hB, hR, hF⟩ := hW
  refine va_putF (D := (dC, dI)) (ci := 1) (v := .ref q_1) (ty := .array .int) (C := RX1) (T := TX1) (N := 6) hx hb hU inlX1 tyX1 tyX1_ok nmX1 hown hK hP hD hS 0 rfl rfl 0 (by decide) (hU _ wd_128) (fun _ h9 => h9) rfl hin rfl (by decide +kernel) rfl rfl (Nat.le_of_ble_eq_true rfl) dX1_init_10 (fun H locs hP hD hS => ?_)
  have hW : cw (dC, dI) cI cL cZ cR cG cH A [(a0, .inr (1, [.ref q_1, .null, .null, .int 0, .int 0, .int 0]))] [(q_1, 521)] [] H := ⟨L, f, kd, hP, hD, hB, hR, hF⟩
  refine lv_aload_n hx hb dX1_init_13 rfl (lv_at hl 0 rfl) ?_
  refine lv_ldc (v := 32768) hx hb hown (hU _ wd_129) dX1_init_14 ?_
  refine cs_newa (atype := .long) (ty := .long) (k := 522) (a0 := (32768, .inr (.inl (fun _ => 0)))) hx hb 1 (hU (.arrayClass .long) wd_130) rfl (fun _ => Iff.rfl) hK rfl hW hS hA (fun _ => rfl) (fun L kd => na_522 L kd) (by decide) (by decide) (Nat.le_of_ble_eq_true rfl) (Nat.le_of_ble_eq_true rfl) (Nat.le_of_ble_eq_true rfl) dX1_init_16 (fun q_2 H hW hS => ?_)
  have hW : cw (dC, dI) cI cL cZ cR cG cH A [(a0, .inr (1, [.ref q_1, .null, .null, .int 0, .int 0, .int 0]))] [(q_1, 521), (q_2, 522)] [] H := hW
  refine W.widen (k := 2) (n := 36864) (Nat.le_of_ble_eq_true rfl) (Nat.le_of_ble_eq_true rfl) ?_
  obtain ⟨L, f, kd, hP, hD, hB, hR, hF⟩ := hW
  refine va_putF (D := (dC, dI)) (ci := 1) (v := .ref q_2) (ty := .array .long) (C := RX1) (T := TX1) (N := 6) hx hb hU inlX1 tyX1 tyX1_ok nmX1 hown hK hP hD hS 0 rfl rfl 1 (by decide) (hU _ wd_131) (fun _ h9 => h9) rfl hin rfl (by decide +kernel) rfl rfl (Nat.le_of_ble_eq_true rfl) dX1_init_18 (fun H locs hP hD hS => ?_)
  have hW : cw (dC, dI) cI cL cZ cR cG cH A [(a0, .inr (1, [.ref q_1, .ref q_2, .null, .int 0, .int 0, .int 0]))] [(q_1, 521), (q_2, 522)] [] H := ⟨L, f, kd, hP, hD, hB, hR, hF⟩
  refine lv_aload_n hx hb dX1_init_21 rfl (lv_at hl 0 rfl) ?_
  refine lv_bipush (v := 89) hx hb dX1_init_22 (by decide) ?_
  refine cs_newa (atype := .long) (ty := .long) (k := 523) (a0 := (89, .inr (.inl (fun _ => 0)))) hx hb 1 (hU (.arrayClass .long) wd_130) rfl (fun _ => Iff.rfl) hK rfl hW hS hA (fun _ => rfl) (fun L kd => na_523 L kd) (by decide) (by decide) (Nat.le_of_ble_eq_true rfl) (Nat.le_of_ble_eq_true rfl) (Nat.le_of_ble_eq_true rfl) dX1_init_24 (fun q_3 H hW hS => ?_)
  have hW : cw (dC, dI) cI cL cZ cR cG cH A [(a0, .inr (1, [.ref q_1, .ref q_2, .null, .int 0, .int 0, .int 0]))] [(q_1, 521), (q_2, 522), (q_3, 523)] [] H := hW
  refine W.widen (k := 3) (n := 36953) (Nat.le_of_ble_eq_true rfl) (Nat.le_of_ble_eq_true rfl) ?_
  obtain ⟨L, f, kd, hP, hD, hB, hR, hF⟩ := hW
  refine va_putF (D := (dC, dI)) (ci := 1) (v := .ref q_3) (ty := .array .long) (C := RX1) (T := TX1) (N := 6) hx hb hU inlX1 tyX1 tyX1_ok nmX1 hown hK hP hD hS 0 rfl rfl 2 (by decide) (hU _ wd_132) (fun _ h9 => h9) rfl hin rfl (by decide +kernel) rfl rfl (Nat.le_of_ble_eq_true rfl) dX1_init_26 (fun H locs hP hD hS => ?_)
  have hW : cw (dC, dI) cI cL cZ cR cG cH A [(a0, .inr (1, [.ref q_1, .ref q_2, .ref q_3, .int 0, .int 0, .int 0]))] [(q_1, 521), (q_2, 522), (q_3, 523)] [] H := ⟨L, f, kd, hP, hD, hB, hR, hF⟩
  obtain ⟨w9, hP9, hD9, hbt⟩ := cw_done (k := 1) hW (fun L kd h => ⟨show ok_1 L kd _ from ⟨q_1, q_2, q_3, 0, 0, 0, rfl, h (q_1, 521) (List.mem_of_getElem? (i := 0) rfl), h (q_2, 522) (List.mem_of_getElem? (i := 1) rfl), h (q_3, 523) (List.mem_of_getElem? (i := 2) rfl), (by decide), (by decide), (by decide)⟩, ⟨fun h => absurd h (by decide), fun h => absurd h (by decide), fun _ => rfl, fun h => absurd h (by decide), fun h => absurd h (by decide), fun h => absurd h (by decide)⟩⟩)
  refine W.widen (k := 3) (n := 36953) (Nat.le_of_ble_eq_true rfl) (Nat.le_of_ble_eq_true rfl) ?_
  exact W.vret hx hb hr (fun t ht hW => ⟨⟨w9, rfl, hbt, by rw [ht]; exact hP9, va_K.moved hW.alike hK, hD9⟩, hS.F ht⟩) hS.2.2 dX1_init_29
set_option maxHeartbeats 8000000 in
set_option maxRecDepth 100000 in
theorem n_X3_init_3 (l : Launch) (D : va_G) (cI cL cZ cR cG cH : ClassId) (sz a0 : Nat) : mC l D cI cL cZ cR cG cH yX3_init cX3_init 1 4 91 124 48864 [.ref a0] sz [(a0, .inr (3, [.null, .null, .null, .null, .null, .int 0, .int 0, .int 0, .int 0, .int 0, .int 0, .int 0, .null, .null, .null, .int 0, .null, .null]))] (bt cI cL cZ cR cG cH 3 a0) := by
  obtain ⟨dC, dI⟩ := D
  refine Met.ofW (cc := cX3_init) (maxL := 1) (ret := none) (by decide) rfl ?_
  intro p e s m args below meth c s₁ B hml hv
  obtain ⟨rfl, hsz, hP, hK, hD0, hN⟩ := hv
  have hx := B.exec
  have hb := B.bytes
  have hr := B.returns
  have hU : ∀ w ∈ wsU, w.before _ s = true := fun w h => atoms_spec (ws := wU yX3_init cX3_init 1 none) B.pre w (List.mem_cons_of_mem _ h)
  have hown : s.vm.findClass RX3 = some m.cls := findClass_of_methodNamed B.named
  have hlocks := B.notSynchronized
  have hin : meth.name = "<init>" := (name_of_methodNamed B.named B.method).1
  subst hsz
  have hD := hD0.self (sz := s.heap.size)
  generalize hAe : va_A [(a0, .inr (3, [.null, .null, .null, .null, .null, .int 0, .int 0, .int 0, .int 0, .int 0, .int 0, .int 0, .null, .null, .null, .int 0, .null, .null]))] s.heap.size = A at hD ⊢
  have hA : ∀ q : Nat, s.heap.size ≤ q → A q := fun q h => by rw [← hAe]; exact Or.inr h
  have hS : va_S A s.heap s.heap [] := va_S.rf
  have hW : cw (dC, dI) cI cL cZ cR cG cH A [(a0, .inr (3, [.null, .null, .null, .null, .null, .int 0, .int 0, .int 0, .int 0, .int 0, .int 0, .int 0, .null, .null, .null, .int 0, .null, .null]))] [] [] s.heap := ⟨[], fun _ => .inl (cI, 0, .inl z0), fun _ => 0, hP, hD, fun a h => absurd h List.not_mem_nil, fun q h => absurd h List.not_mem_nil, fun q h => absurd h List.not_mem_nil⟩
  have hl := lv_entry ([.ref a0]) (n := 1) (Nat.le_of_ble_eq_true rfl)
  rw [lg_entry_eq]
  generalize (lg_sl ([.ref a0]) ++ List.replicate (1 - (lg_sl ([.ref a0])).length) Slot.unset).toArray = ls at hl ⊢
  have hl : lv_has ls 1 [(0, .ref a0)] := hl
  refine lv_aload_n hx hb dX3_init_0 rfl (lv_at hl 0 rfl) ?_
  refine W.objInit hx hb hown (hU _ wd_46) (hU _ wd_10) (hU _ wd_11) rfl (by rw [hml]; exact hl.1) rfl dX3_init_1 (Nat.le_of_ble_eq_true rfl) (Nat.le_of_ble_eq_true rfl) ?_
  refine W.eq (g2 := F0 m 4 ls []) rfl ?_
  refine lv_aload_n hx hb dX3_init_4 rfl (lv_at hl 0 rfl) ?_
  obtain ⟨L, f, kd, hP, hD, hB, hR, hF⟩ := hW
  refine va_new (ci := 7) (fs := [.null, .int 0, .null, .null, .null, .null, .int 0, .null, .null, .null, .null, .null, .int 0, .null, .null, .null]) (C := RX7) (T := TX7) (N := 16) hx hb hU inlX7 tyX7 tyX7_ok hown (hU _ wd_47) (hU _ wd_27) (hU _ wd_28) hK hP hD hS hA rfl dvX7 (Nat.le_of_ble_eq_true rfl) (Nat.le_of_ble_eq_true rfl) dX3_init_5 (fun q_1 H hP hD hS => ?_)
  have hW : cw (dC, dI) cI cL cZ cR cG cH A ([(a0, .inr (3, [.null, .null, .null, .null, .null, .int 0, .int 0, .int 0, .int 0, .int 0, .int 0, .int 0, .null, .null, .null, .int 0, .null, .null]))] ++ [(q_1, .inr (7, [.null, .int 0, .null, .null, .null, .null, .int 0, .null, .null, .null, .null, .null, .int 0, .null, .null, .null]))]) [] [] H := cw_new hP hD hB hR hF
  refine W.widen (k := 1) (n := 16) (Nat.le_of_ble_eq_true rfl) (Nat.le_of_ble_eq_true rfl) ?_
  refine lv_dup hx hb dX3_init_8 rfl ?_
  refine cs_back (X := [(a0, .inr (3, [.null, .null, .null, .null, .null, .int 0, .int 0, .int 0, .int 0, .int 0, .int 0, .int 0, .null, .null, .null, .int 0, .null, .null]))]) (cs_I (X := [(a0, .inr (3, [.null, .null, .null, .null, .null, .int 0, .int 0, .int 0, .int 0, .int 0, .int 0, .int 0, .null, .null, .null, .int 0, .null, .null]))]) (As := []) (rest := [.ref q_1, .ref a0]) (n := 0) hx hb hml hown hU hN (n_X7_init_7 l (dC, dI) cI cL cZ cR cG cH H.size q_1) wd_68 wd_69 wd_28 wd_70 rfl (by decide +kernel) ⟨Nat.le_of_ble_eq_true rfl, Nat.le_of_ble_eq_true rfl⟩ hK hW rfl hl.1 rfl (Nat.le_of_ble_eq_true rfl) dX3_init_9 ⟨Nat.le_of_ble_eq_true rfl, Nat.le_of_ble_eq_true rfl⟩) hW hS hA [1] [0] rfl rfl (by decide) (by decide) (fun H locs hW hS => ?_)
  have hW : cw (dC, dI) cI cL cZ cR cG cH A [(a0, .inr (3, [.null, .null, .null, .null, .null, .int 0, .int 0, .int 0, .int 0, .int 0, .int 0, .int 0, .null, .null, .null, .int 0, .null, .null]))] [(q_1, 7)] [] H := hW
  refine W.widen (k := 106) (n := 1765) (Nat.le_of_ble_eq_true rfl) (Nat.le_of_ble_eq_true rfl) ?_
  obtain ⟨L, f, kd, hP, hD, hB, hR, hF⟩ := hW
  refine va_putF (D := (dC, dI)) (ci := 3) (v := .ref q_1) (ty := .object "SaidShallow$Tongue") (C := RX3) (T := TX3) (N := 18) hx hb hU inlX3 tyX3 tyX3_ok nmX3 hown hK hP hD hS 0 rfl rfl 0 (by decide) (hU _ wd_48) (fun _ h9 => h9) rfl hin rfl (by decide +kernel) rfl rfl (Nat.le_of_ble_eq_true rfl) dX3_init_12 (fun H locs hP hD hS => ?_)
  have hW : cw (dC, dI) cI cL cZ cR cG cH A [(a0, .inr (3, [.ref q_1, .null, .null, .null, .null, .int 0, .int 0, .int 0, .int 0, .int 0, .int 0, .int 0, .null, .null, .null, .int 0, .null, .null]))] [(q_1, 7)] [] H := ⟨L, f, kd, hP, hD, hB, hR, hF⟩
  refine lv_aload_n hx hb dX3_init_15 rfl (lv_at hl 0 rfl) ?_
  obtain ⟨L, f, kd, hP, hD, hB, hR, hF⟩ := hW
  refine va_new (ci := 10) (fs := [.null, .int 0, .int 0]) (C := RX10) (T := TX10) (N := 3) hx hb hU inlX10 tyX10 tyX10_ok hown (hU _ wd_49) (hU _ wd_50) (hU _ wd_51) hK hP hD hS hA rfl dvX10 (Nat.le_of_ble_eq_true rfl) (Nat.le_of_ble_eq_true rfl) dX3_init_16 (fun q_2 H hP hD hS => ?_)
  have hW : cw (dC, dI) cI cL cZ cR cG cH A ([(a0, .inr (3, [.ref q_1, .null, .null, .null, .null, .int 0, .int 0, .int 0, .int 0, .int 0, .int 0, .int 0, .null, .null, .null, .int 0, .null, .null]))] ++ [(q_2, .inr (10, [.null, .int 0, .int 0]))]) [(q_1, 7)] [] H := cw_new hP hD hB hR hF
  refine W.widen (k := 107) (n := 1768) (Nat.le_of_ble_eq_true rfl) (Nat.le_of_ble_eq_true rfl) ?_
  refine lv_dup hx hb dX3_init_19 rfl ?_
  refine cs_back (X := [(a0, .inr (3, [.ref q_1, .null, .null, .null, .null, .int 0, .int 0, .int 0, .int 0, .int 0, .int 0, .int 0, .null, .null, .null, .int 0, .null, .null]))]) (cs_IN (X := [(a0, .inr (3, [.ref q_1, .null, .null, .null, .null, .int 0, .int 0, .int 0, .int 0, .int 0, .int 0, .int 0, .null, .null, .null, .int 0, .null, .null]))]) (As := []) (rest := [.ref q_2, .ref a0]) (n := 0) hx hb hml hown hU hN (n_X10_init_10 l (dC, dI) cI cL cZ cR cG cH H.size q_2) hN.2.2.2.1 wd_113 wd_51 wd_114 rfl (by decide +kernel) ⟨Nat.le_of_ble_eq_true rfl, Nat.le_of_ble_eq_true rfl⟩ hK hW rfl hl.1 rfl (Nat.le_of_ble_eq_true rfl) dX3_init_20 ⟨Nat.le_of_ble_eq_true rfl, Nat.le_of_ble_eq_true rfl⟩) hW hS hA [1] [0] rfl rfl (by decide) (by decide) (fun H locs hW hS => ?_)
  have hW : cw (dC, dI) cI cL cZ cR cG cH A [(a0, .inr (3, [.ref q_1, .null, .null, .null, .null, .int 0, .int 0, .int 0, .int 0, .int 0, .int 0, .int 0, .null, .null, .null, .int 0, .null, .null]))] [(q_1, 7), (q_2, 10)] [] H := hW
  refine W.widen (k := 108) (n := 1968) (Nat.le_of_ble_eq_true rfl) (Nat.le_of_ble_eq_true rfl) ?_
  obtain ⟨L, f, kd, hP, hD, hB, hR, hF⟩ := hW
  refine va_putF (D := (dC, dI)) (ci := 3) (v := .ref q_2) (ty := .object "SaidShallow$Words") (C := RX3) (T := TX3) (N := 18) hx hb hU inlX3 tyX3 tyX3_ok nmX3 hown hK hP hD hS 0 rfl rfl 1 (by decide) (hU _ wd_52) (fun _ h9 => h9) rfl hin rfl (by decide +kernel) rfl rfl (Nat.le_of_ble_eq_true rfl) dX3_init_23 (fun H locs hP hD hS => ?_)
  have hW : cw (dC, dI) cI cL cZ cR cG cH A [(a0, .inr (3, [.ref q_1, .ref q_2, .null, .null, .null, .int 0, .int 0, .int 0, .int 0, .int 0, .int 0, .int 0, .null, .null, .null, .int 0, .null, .null]))] [(q_1, 7), (q_2, 10)] [] H := ⟨L, f, kd, hP, hD, hB, hR, hF⟩
  refine lv_aload_n hx hb dX3_init_26 rfl (lv_at hl 0 rfl) ?_
  obtain ⟨L, f, kd, hP, hD, hB, hR, hF⟩ := hW
  refine va_new (ci := 8) (fs := [.null, .null, .null, .null, .null]) (C := RX8) (T := TX8) (N := 5) hx hb hU inlX8 tyX8 tyX8_ok hown (hU _ wd_53) (hU _ wd_54) (hU _ wd_55) hK hP hD hS hA rfl dvX8 (Nat.le_of_ble_eq_true rfl) (Nat.le_of_ble_eq_true rfl) dX3_init_27 (fun q_3 H hP hD hS => ?_)
  have hW : cw (dC, dI) cI cL cZ cR cG cH A ([(a0, .inr (3, [.ref q_1, .ref q_2, .null, .null, .null, .int 0, .int 0, .int 0, .int 0, .int 0, .int 0, .int 0, .null, .null, .null, .int 0, .null, .null]))] ++ [(q_3, .inr (8, [.null, .null, .null, .null, .null]))]) [(q_1, 7), (q_2, 10)] [] H := cw_new hP hD hB hR hF
  refine W.widen (k := 109) (n := 1973) (Nat.le_of_ble_eq_true rfl) (Nat.le_of_ble_eq_true rfl) ?_
  refine lv_dup hx hb dX3_init_30 rfl ?_
  refine cs_back (X := [(a0, .inr (3, [.ref q_1, .ref q_2, .null, .null, .null, .int 0, .int 0, .int 0, .int 0, .int 0, .int 0, .int 0, .null, .null, .null, .int 0, .null, .null]))]) (cs_IN (X := [(a0, .inr (3, [.ref q_1, .ref q_2, .null, .null, .null, .int 0, .int 0, .int 0, .int 0, .int 0, .int 0, .int 0, .null, .null, .null, .int 0, .null, .null]))]) (As := []) (rest := [.ref q_3, .ref a0]) (n := 0) hx hb hml hown hU hN (n_X8_init_8 l (dC, dI) cI cL cZ cR cG cH H.size q_3) hN.2.2.2.2.1 wd_117 wd_55 wd_118 rfl (by decide +kernel) ⟨Nat.le_of_ble_eq_true rfl, Nat.le_of_ble_eq_true rfl⟩ hK hW rfl hl.1 rfl (Nat.le_of_ble_eq_true rfl) dX3_init_31 ⟨Nat.le_of_ble_eq_true rfl, Nat.le_of_ble_eq_true rfl⟩) hW hS hA [1] [0] rfl rfl (by decide) (by decide) (fun H locs hW hS => ?_)
  have hW : cw (dC, dI) cI cL cZ cR cG cH A [(a0, .inr (3, [.ref q_1, .ref q_2, .null, .null, .null, .int 0, .int 0, .int 0, .int 0, .int 0, .int 0, .int 0, .null, .null, .null, .int 0, .null, .null]))] [(q_1, 7), (q_2, 10), (q_3, 8)] [] H := hW
  refine W.widen (k := 114) (n := 3023) (Nat.le_of_ble_eq_true rfl) (Nat.le_of_ble_eq_true rfl) ?_
  obtain ⟨L, f, kd, hP, hD, hB, hR, hF⟩ := hW
  refine va_putF (D := (dC, dI)) (ci := 3) (v := .ref q_3) (ty := .object "SaidShallow$Track") (C := RX3) (T := TX3) (N := 18) hx hb hU inlX3 tyX3 tyX3_ok nmX3 hown hK hP hD hS 0 rfl rfl 2 (by decide) (hU _ wd_56) (fun _ h9 => h9) rfl hin rfl (by decide +kernel) rfl rfl (Nat.le_of_ble_eq_true rfl) dX3_init_34 (fun H locs hP hD hS => ?_)
  have hW : cw (dC, dI) cI cL cZ cR cG cH A [(a0, .inr (3, [.ref q_1, .ref q_2, .ref q_3, .null, .null, .int 0, .int 0, .int 0, .int 0, .int 0, .int 0, .int 0, .null, .null, .null, .int 0, .null, .null]))] [(q_1, 7), (q_2, 10), (q_3, 8)] [] H := ⟨L, f, kd, hP, hD, hB, hR, hF⟩
  refine lv_aload_n hx hb dX3_init_37 rfl (lv_at hl 0 rfl) ?_
  obtain ⟨L, f, kd, hP, hD, hB, hR, hF⟩ := hW
  refine va_new (ci := 1) (fs := [.null, .null, .null, .int 0, .int 0, .int 0]) (C := RX1) (T := TX1) (N := 6) hx hb hU inlX1 tyX1 tyX1_ok hown (hU _ wd_57) (hU _ wd_58) (hU _ wd_59) hK hP hD hS hA rfl dvX1 (Nat.le_of_ble_eq_true rfl) (Nat.le_of_ble_eq_true rfl) dX3_init_38 (fun q_4 H hP hD hS => ?_)
  have hW : cw (dC, dI) cI cL cZ cR cG cH A ([(a0, .inr (3, [.ref q_1, .ref q_2, .ref q_3, .null, .null, .int 0, .int 0, .int 0, .int 0, .int 0, .int 0, .int 0, .null, .null, .null, .int 0, .null, .null]))] ++ [(q_4, .inr (1, [.null, .null, .null, .int 0, .int 0, .int 0]))]) [(q_1, 7), (q_2, 10), (q_3, 8)] [] H := cw_new hP hD hB hR hF
  refine W.widen (k := 115) (n := 3029) (Nat.le_of_ble_eq_true rfl) (Nat.le_of_ble_eq_true rfl) ?_
  refine lv_dup hx hb dX3_init_41 rfl ?_
  refine cs_back (X := [(a0, .inr (3, [.ref q_1, .ref q_2, .ref q_3, .null, .null, .int 0, .int 0, .int 0, .int 0, .int 0, .int 0, .int 0, .null, .null, .null, .int 0, .null, .null]))]) (cs_IN (X := [(a0, .inr (3, [.ref q_1, .ref q_2, .ref q_3, .null, .null, .int 0, .int 0, .int 0, .int 0, .int 0, .int 0, .int 0, .null, .null, .null, .int 0, .null, .null]))]) (As := []) (rest := [.ref q_4, .ref a0]) (n := 0) hx hb hml hown hU hN (n_X1_init_1 l (dC, dI) cI cL cZ cR cG cH H.size q_4) hN.2.2.2.2.2.1 wd_125 wd_59 wd_126 rfl (by decide +kernel) ⟨Nat.le_of_ble_eq_true rfl, Nat.le_of_ble_eq_true rfl⟩ hK hW rfl hl.1 rfl (Nat.le_of_ble_eq_true rfl) dX3_init_42 ⟨Nat.le_of_ble_eq_true rfl, Nat.le_of_ble_eq_true rfl⟩) hW hS hA [1] [0] rfl rfl (by decide) (by decide) (fun H locs hW hS => ?_)
  have hW : cw (dC, dI) cI cL cZ cR cG cH A [(a0, .inr (3, [.ref q_1, .ref q_2, .ref q_3, .null, .null, .int 0, .int 0, .int 0, .int 0, .int 0, .int 0, .int 0, .null, .null, .null, .int 0, .null, .null]))] [(q_1, 7), (q_2, 10), (q_3, 8), (q_4, 1)] [] H := hW
  refine W.widen (k := 118) (n := 39982) (Nat.le_of_ble_eq_true rfl) (Nat.le_of_ble_eq_true rfl) ?_
  obtain ⟨L, f, kd, hP, hD, hB, hR, hF⟩ := hW
  refine va_putF (D := (dC, dI)) (ci := 3) (v := .ref q_4) (ty := .object "SaidShallow$DeadEnds") (C := RX3) (T := TX3) (N := 18) hx hb hU inlX3 tyX3 tyX3_ok nmX3 hown hK hP hD hS 0 rfl rfl 3 (by decide) (hU _ wd_60) (fun _ h9 => h9) rfl hin rfl (by decide +kernel) rfl rfl (Nat.le_of_ble_eq_true rfl) dX3_init_45 (fun H locs hP hD hS => ?_)
  have hW : cw (dC, dI) cI cL cZ cR cG cH A [(a0, .inr (3, [.ref q_1, .ref q_2, .ref q_3, .ref q_4, .null, .int 0, .int 0, .int 0, .int 0, .int 0, .int 0, .int 0, .null, .null, .null, .int 0, .null, .null]))] [(q_1, 7), (q_2, 10), (q_3, 8), (q_4, 1)] [] H := ⟨L, f, kd, hP, hD, hB, hR, hF⟩
  refine lv_aload_n hx hb dX3_init_48 rfl (lv_at hl 0 rfl) ?_
  refine lv_bipush (v := 8) hx hb dX3_init_49 (by decide) ?_
  refine cs_newa (atype := .int) (ty := .int) (k := 507) (a0 := (8, .inl z0)) hx hb 0 (hU (.arrayClass .int) wd_12) rfl (fun _ => Iff.rfl) hK rfl hW hS hA (fun _ => rfl) (fun L kd => na_507 L kd) (by decide) (by decide) (Nat.le_of_ble_eq_true rfl) (Nat.le_of_ble_eq_true rfl) (Nat.le_of_ble_eq_true rfl) dX3_init_51 (fun q_5 H hW hS => ?_)
  have hW : cw (dC, dI) cI cL cZ cR cG cH A [(a0, .inr (3, [.ref q_1, .ref q_2, .ref q_3, .ref q_4, .null, .int 0, .int 0, .int 0, .int 0, .int 0, .int 0, .int 0, .null, .null, .null, .int 0, .null, .null]))] [(q_1, 7), (q_2, 10), (q_3, 8), (q_4, 1), (q_5, 507)] [] H := hW
  refine W.widen (k := 119) (n := 39990) (Nat.le_of_ble_eq_true rfl) (Nat.le_of_ble_eq_true rfl) ?_
  obtain ⟨L, f, kd, hP, hD, hB, hR, hF⟩ := hW
  refine va_putF (D := (dC, dI)) (ci := 3) (v := .ref q_5) (ty := .array .int) (C := RX3) (T := TX3) (N := 18) hx hb hU inlX3 tyX3 tyX3_ok nmX3 hown hK hP hD hS 0 rfl rfl 4 (by decide) (hU _ wd_61) (fun _ h9 => h9) rfl hin rfl (by decide +kernel) rfl rfl (Nat.le_of_ble_eq_true rfl) dX3_init_53 (fun H locs hP hD hS => ?_)
  have hW : cw (dC, dI) cI cL cZ cR cG cH A [(a0, .inr (3, [.ref q_1, .ref q_2, .ref q_3, .ref q_4, .ref q_5, .int 0, .int 0, .int 0, .int 0, .int 0, .int 0, .int 0, .null, .null, .null, .int 0, .null, .null]))] [(q_1, 7), (q_2, 10), (q_3, 8), (q_4, 1), (q_5, 507)] [] H := ⟨L, f, kd, hP, hD, hB, hR, hF⟩
  refine lv_aload_n hx hb dX3_init_56 rfl (lv_at hl 0 rfl) ?_
  refine lv_iconst (v := (-1)) hx hb dX3_init_57 (by decide) ?_
  obtain ⟨L, f, kd, hP, hD, hB, hR, hF⟩ := hW
  refine va_put (D := (dC, dI)) (ci := 3) (v := .int (-1)) (ty := .int) (C := RX3) (T := TX3) (N := 18) hx hb hU inlX3 tyX3 tyX3_ok nmX3 hown hK hP hD hS 0 rfl rfl 11 (by decide) (hU _ wd_62) (fun _ h9 => h9) rfl (by decide +kernel) rfl rfl (Nat.le_of_ble_eq_true rfl) dX3_init_58 (fun H locs hP hD hS => ?_)
  have hW : cw (dC, dI) cI cL cZ cR cG cH A [(a0, .inr (3, [.ref q_1, .ref q_2, .ref q_3, .ref q_4, .ref q_5, .int 0, .int 0, .int 0, .int 0, .int 0, .int 0, .int (-1), .null, .null, .null, .int 0, .null, .null]))] [(q_1, 7), (q_2, 10), (q_3, 8), (q_4, 1), (q_5, 507)] [] H := ⟨L, f, kd, hP, hD, hB, hR, hF⟩
  refine lv_aload_n hx hb dX3_init_61 rfl (lv_at hl 0 rfl) ?_
  refine lv_bipush (v := 9) hx hb dX3_init_62 (by decide) ?_
  refine cs_newa (atype := .int) (ty := .int) (k := 525) (a0 := (9, .inl z0)) hx hb 0 (hU (.arrayClass .int) wd_12) rfl (fun _ => Iff.rfl) hK rfl hW hS hA (fun _ => rfl) (fun L kd => na_525 L kd) (by decide) (by decide) (Nat.le_of_ble_eq_true rfl) (Nat.le_of_ble_eq_true rfl) (Nat.le_of_ble_eq_true rfl) dX3_init_64 (fun q_6 H hW hS => ?_)
  have hW : cw (dC, dI) cI cL cZ cR cG cH A [(a0, .inr (3, [.ref q_1, .ref q_2, .ref q_3, .ref q_4, .ref q_5, .int 0, .int 0, .int 0, .int 0, .int 0, .int 0, .int (-1), .null, .null, .null, .int 0, .null, .null]))] [(q_1, 7), (q_2, 10), (q_3, 8), (q_4, 1), (q_5, 507), (q_6, 525)] [] H := hW
  refine W.widen (k := 120) (n := 39999) (Nat.le_of_ble_eq_true rfl) (Nat.le_of_ble_eq_true rfl) ?_
  obtain ⟨L, f, kd, hP, hD, hB, hR, hF⟩ := hW
  refine va_putF (D := (dC, dI)) (ci := 3) (v := .ref q_6) (ty := .array .int) (C := RX3) (T := TX3) (N := 18) hx hb hU inlX3 tyX3 tyX3_ok nmX3 hown hK hP hD hS 0 rfl rfl 12 (by decide) (hU _ wd_63) (fun _ h9 => h9) rfl hin rfl (by decide +kernel) rfl rfl (Nat.le_of_ble_eq_true rfl) dX3_init_66 (fun H locs hP hD hS => ?_)
  have hW : cw (dC, dI) cI cL cZ cR cG cH A [(a0, .inr (3, [.ref q_1, .ref q_2, .ref q_3, .ref q_4, .ref q_5, .int 0, .int 0, .int 0, .int 0, .int 0, .int 0, .int (-1), .ref q_6, .null, .null, .int 0, .null, .null]))] [(q_1, 7), (q_2, 10), (q_3, 8), (q_4, 1), (q_5, 507), (q_6, 525)] [] H := ⟨L, f, kd, hP, hD, hB, hR, hF⟩
  refine lv_aload_n hx hb dX3_init_69 rfl (lv_at hl 0 rfl) ?_
  refine lv_sipush (v := 1024) hx hb dX3_init_70 (by decide) ?_
  refine cs_newa (atype := .int) (ty := .int) (k := 526) (a0 := (1024, .inl z0)) hx hb 0 (hU (.arrayClass .int) wd_12) rfl (fun _ => Iff.rfl) hK rfl hW hS hA (fun _ => rfl) (fun L kd => na_526 L kd) (by decide) (by decide) (Nat.le_of_ble_eq_true rfl) (Nat.le_of_ble_eq_true rfl) (Nat.le_of_ble_eq_true rfl) dX3_init_73 (fun q_7 H hW hS => ?_)
  have hW : cw (dC, dI) cI cL cZ cR cG cH A [(a0, .inr (3, [.ref q_1, .ref q_2, .ref q_3, .ref q_4, .ref q_5, .int 0, .int 0, .int 0, .int 0, .int 0, .int 0, .int (-1), .ref q_6, .null, .null, .int 0, .null, .null]))] [(q_1, 7), (q_2, 10), (q_3, 8), (q_4, 1), (q_5, 507), (q_6, 525), (q_7, 526)] [] H := hW
  refine W.widen (k := 121) (n := 41023) (Nat.le_of_ble_eq_true rfl) (Nat.le_of_ble_eq_true rfl) ?_
  obtain ⟨L, f, kd, hP, hD, hB, hR, hF⟩ := hW
  refine va_putF (D := (dC, dI)) (ci := 3) (v := .ref q_7) (ty := .array .int) (C := RX3) (T := TX3) (N := 18) hx hb hU inlX3 tyX3 tyX3_ok nmX3 hown hK hP hD hS 0 rfl rfl 13 (by decide) (hU _ wd_64) (fun _ h9 => h9) rfl hin rfl (by decide +kernel) rfl rfl (Nat.le_of_ble_eq_true rfl) dX3_init_75 (fun H locs hP hD hS => ?_)
  have hW : cw (dC, dI) cI cL cZ cR cG cH A [(a0, .inr (3, [.ref q_1, .ref q_2, .ref q_3, .ref q_4, .ref q_5, .int 0, .int 0, .int 0, .int 0, .int 0, .int 0, .int (-1), .ref q_6, .ref q_7, .null, .int 0, .null, .null]))] [(q_1, 7), (q_2, 10), (q_3, 8), (q_4, 1), (q_5, 507), (q_6, 525), (q_7, 526)] [] H := ⟨L, f, kd, hP, hD, hB, hR, hF⟩
  refine lv_aload_n hx hb dX3_init_78 rfl (lv_at hl 0 rfl) ?_
  refine lv_sipush (v := 1024) hx hb dX3_init_79 (by decide) ?_
  refine cs_newa (atype := .int) (ty := .int) (k := 527) (a0 := (1024, .inl z0)) hx hb 0 (hU (.arrayClass .int) wd_12) rfl (fun _ => Iff.rfl) hK rfl hW hS hA (fun _ => rfl) (fun L kd => na_527 L kd) (by decide) (by decide) (Nat.le_of_ble_eq_true rfl) (Nat.le_of_ble_eq_true rfl) (Nat.le_of_ble_eq_true rfl) dX3_init_82 (fun q_8 H hW hS => ?_)
  have hW : cw (dC, dI) cI cL cZ cR cG cH A [(a0, .inr (3, [.ref q_1, .ref q_2, .ref q_3, .ref q_4, .ref q_5, .int 0, .int 0, .int 0, .int 0, .int 0, .int 0, .int (-1), .ref q_6, .ref q_7, .null, .int 0, .null, .null]))] [(q_1, 7), (q_2, 10), (q_3, 8), (q_4, 1), (q_5, 507), (q_6, 525), (q_7, 526), (q_8, 527)] [] H := hW
  refine W.widen (k := 122) (n := 42047) (Nat.le_of_ble_eq_true rfl) (Nat.le_of_ble_eq_true rfl) ?_
  obtain ⟨L, f, kd, hP, hD, hB, hR, hF⟩ := hW
  refine va_putF (D := (dC, dI)) (ci := 3) (v := .ref q_8) (ty := .array .int) (C := RX3) (T := TX3) (N := 18) hx hb hU inlX3 tyX3 tyX3_ok nmX3 hown hK hP hD hS 0 rfl rfl 14 (by decide) (hU _ wd_65) (fun _ h9 => h9) rfl hin rfl (by decide +kernel) rfl rfl (Nat.le_of_ble_eq_true rfl) dX3_init_84 (fun H locs hP hD hS => ?_)
  have hW : cw (dC, dI) cI cL cZ cR cG cH A [(a0, .inr (3, [.ref q_1, .ref q_2, .ref q_3, .ref q_4, .ref q_5, .int 0, .int 0, .int 0, .int 0, .int 0, .int 0, .int (-1), .ref q_6, .ref q_7, .ref q_8, .int 0, .null, .null]))] [(q_1, 7), (q_2, 10), (q_3, 8), (q_4, 1), (q_5, 507), (q_6, 525), (q_7, 526), (q_8, 527)] [] H := ⟨L, f, kd, hP, hD, hB, hR, hF⟩
  refine lv_aload_n hx hb dX3_init_87 rfl (lv_at hl 0 rfl) ?_
  refine lv_sipush (v := 6561) hx hb dX3_init_88 (by decide) ?_
  refine cs_newa (atype := .int) (ty := .int) (k := 528) (a0 := (6561, .inl z0)) hx hb 0 (hU (.arrayClass .int) wd_12) rfl (fun _ => Iff.rfl) hK rfl hW hS hA (fun _ => rfl) (fun L kd => na_528 L kd) (by decide) (by decide) (Nat.le_of_ble_eq_true rfl) (Nat.le_of_ble_eq_true rfl) (Nat.le_of_ble_eq_true rfl) dX3_init_91 (fun q_9 H hW hS => ?_)
  have hW : cw (dC, dI) cI cL cZ cR cG cH A [(a0, .inr (3, [.ref q_1, .ref q_2, .ref q_3, .ref q_4, .ref q_5, .int 0, .int 0, .int 0, .int 0, .int 0, .int 0, .int (-1), .ref q_6, .ref q_7, .ref q_8, .int 0, .null, .null]))] [(q_1, 7), (q_2, 10), (q_3, 8), (q_4, 1), (q_5, 507), (q_6, 525), (q_7, 526), (q_8, 527), (q_9, 528)] [] H := hW
  refine W.widen (k := 123) (n := 48608) (Nat.le_of_ble_eq_true rfl) (Nat.le_of_ble_eq_true rfl) ?_
  obtain ⟨L, f, kd, hP, hD, hB, hR, hF⟩ := hW
  refine va_putF (D := (dC, dI)) (ci := 3) (v := .ref q_9) (ty := .array .int) (C := RX3) (T := TX3) (N := 18) hx hb hU inlX3 tyX3 tyX3_ok nmX3 hown hK hP hD hS 0 rfl rfl 16 (by decide) (hU _ wd_66) (fun _ h9 => h9) rfl hin rfl (by decide +kernel) rfl rfl (Nat.le_of_ble_eq_true rfl) dX3_init_93 (fun H locs hP hD hS => ?_)
  have hW : cw (dC, dI) cI cL cZ cR cG cH A [(a0, .inr (3, [.ref q_1, .ref q_2, .ref q_3, .ref q_4, .ref q_5, .int 0, .int 0, .int 0, .int 0, .int 0, .int 0, .int (-1), .ref q_6, .ref q_7, .ref q_8, .int 0, .ref q_9, .null]))] [(q_1, 7), (q_2, 10), (q_3, 8), (q_4, 1), (q_5, 507), (q_6, 525), (q_7, 526), (q_8, 527), (q_9, 528)] [] H := ⟨L, f, kd, hP, hD, hB, hR, hF⟩
  refine lv_aload_n hx hb dX3_init_96 rfl (lv_at hl 0 rfl) ?_
  refine lv_sipush (v := 256) hx hb dX3_init_97 (by decide) ?_
  refine cs_newa (atype := .int) (ty := .int) (k := 529) (a0 := (256, .inl z0)) hx hb 0 (hU (.arrayClass .int) wd_12) rfl (fun _ => Iff.rfl) hK rfl hW hS hA (fun _ => rfl) (fun L kd => na_529 L kd) (by decide) (by decide) (Nat.le_of_ble_eq_true rfl) (Nat.le_of_ble_eq_true rfl) (Nat.le_of_ble_eq_true rfl) dX3_init_100 (fun q_10 H hW hS => ?_)
  have hW : cw (dC, dI) cI cL cZ cR cG cH A [(a0, .inr (3, [.ref q_1, .ref q_2, .ref q_3, .ref q_4, .ref q_5, .int 0, .int 0, .int 0, .int 0, .int 0, .int 0, .int (-1), .ref q_6, .ref q_7, .ref q_8, .int 0, .ref q_9, .null]))] [(q_1, 7), (q_2, 10), (q_3, 8), (q_4, 1), (q_5, 507), (q_6, 525), (q_7, 526), (q_8, 527), (q_9, 528), (q_10, 529)] [] H := hW
  refine W.widen (k := 124) (n := 48864) (Nat.le_of_ble_eq_true rfl) (Nat.le_of_ble_eq_true rfl) ?_
  obtain ⟨L, f, kd, hP, hD, hB, hR, hF⟩ := hW
  refine va_putF (D := (dC, dI)) (ci := 3) (v := .ref q_10) (ty := .array .int) (C := RX3) (T := TX3) (N := 18) hx hb hU inlX3 tyX3 tyX3_ok nmX3 hown hK hP hD hS 0 rfl rfl 17 (by decide) (hU _ wd_67) (fun _ h9 => h9) rfl hin rfl (by decide +kernel) rfl rfl (Nat.le_of_ble_eq_true rfl) dX3_init_102 (fun H locs hP hD hS => ?_)
  have hW : cw (dC, dI) cI cL cZ cR cG cH A [(a0, .inr (3, [.ref q_1, .ref q_2, .ref q_3, .ref q_4, .ref q_5, .int 0, .int 0, .int 0, .int 0, .int 0, .int 0, .int (-1), .ref q_6, .ref q_7, .ref q_8, .int 0, .ref q_9, .ref q_10]))] [(q_1, 7), (q_2, 10), (q_3, 8), (q_4, 1), (q_5, 507), (q_6, 525), (q_7, 526), (q_8, 527), (q_9, 528), (q_10, 529)] [] H := ⟨L, f, kd, hP, hD, hB, hR, hF⟩
  obtain ⟨w9, hP9, hD9, hbt⟩ := cw_done (k := 3) hW (fun L kd h => ⟨show ok_3 L kd _ from ⟨q_1, q_2, q_3, q_4, q_5, 0, 0, 0, 0, 0, 0, (-1), q_6, q_7, q_8, 0, q_9, q_10, rfl, h (q_1, 7) (List.mem_of_getElem? (i := 0) rfl), h (q_2, 10) (List.mem_of_getElem? (i := 1) rfl), h (q_3, 8) (List.mem_of_getElem? (i := 2) rfl), h (q_4, 1) (List.mem_of_getElem? (i := 3) rfl), h (q_5, 507) (List.mem_of_getElem? (i := 4) rfl), (by decide), (by decide), (by decide), h (q_6, 525) (List.mem_of_getElem? (i := 5) rfl), h (q_7, 526) (List.mem_of_getElem? (i := 6) rfl), h (q_8, 527) (List.mem_of_getElem? (i := 7) rfl), (by decide), h (q_9, 528) (List.mem_of_getElem? (i := 8) rfl), h (q_10, 529) (List.mem_of_getElem? (i := 9) rfl)⟩, ⟨fun h => absurd h (by decide), fun h => absurd h (by decide), fun h => absurd h (by decide), fun h => absurd h (by decide), fun h => absurd h (by decide), fun h => absurd h (by decide)⟩⟩)
  refine W.widen (k := 124) (n := 48864) (Nat.le_of_ble_eq_true rfl) (Nat.le_of_ble_eq_true rfl) ?_
  exact W.vret hx hb hr (fun t ht hW => ⟨⟨w9, rfl, hbt, by rw [ht]; exact hP9, va_K.moved hW.alike hK, hD9⟩, hS.F ht⟩) hS.2.2 dX3_init_105
set_option maxHeartbeats 8000000 in
set_option maxRecDepth 100000 in
theorem n_X6_init_6 (l : Launch) (D : va_G) (cI cL cZ cR cG cH : ClassId) (sz a0 : Nat) : mC l D cI cL cZ cR cG cH yX6_init cX6_init 1 2 51 10 358 [.ref a0] sz [(a0, .inr (6, [.int 0, .int 0, .null, .null, .null, .int 0, .null, .null, .null]))] (bt cI cL cZ cR cG cH 6 a0) := by
  obtain ⟨dC, dI⟩ := D
  refine Met.ofW (cc := cX6_init) (maxL := 1) (ret := none) (by decide) rfl ?_
  intro p e s m args below meth c s₁ B hml hv
  obtain ⟨rfl, hsz, hP, hK, hD0, hN⟩ := hv
  have hx := B.exec
  have hb := B.bytes
  have hr := B.returns
  have hU : ∀ w ∈ wsU, w.before _ s = true := fun w h => atoms_spec (ws := wU yX6_init cX6_init 1 none) B.pre w (List.mem_cons_of_mem _ h)
  have hown : s.vm.findClass RX6 = some m.cls := findClass_of_methodNamed B.named
  have hlocks := B.notSynchronized
  have hin : meth.name = "<init>" := (name_of_methodNamed B.named B.method).1
  subst hsz
  have hD := hD0.self (sz := s.heap.size)
  generalize hAe : va_A [(a0, .inr (6, [.int 0, .int 0, .null, .null, .null, .int 0, .null, .null, .null]))] s.heap.size = A at hD ⊢
  have hA : ∀ q : Nat, s.heap.size ≤ q → A q := fun q h => by rw [← hAe]; exact Or.inr h
  have hS : va_S A s.heap s.heap [] := va_S.rf
  have hW : cw (dC, dI) cI cL cZ cR cG cH A [(a0, .inr (6, [.int 0, .int 0, .null, .null, .null, .int 0, .null, .null, .null]))] [] [] s.heap := ⟨[], fun _ => .inl (cI, 0, .inl z0), fun _ => 0, hP, hD, fun a h => absurd h List.not_mem_nil, fun q h => absurd h List.not_mem_nil, fun q h => absurd h List.not_mem_nil⟩
  have hl := lv_entry ([.ref a0]) (n := 1) (Nat.le_of_ble_eq_true rfl)
  rw [lg_entry_eq]
  generalize (lg_sl ([.ref a0]) ++ List.replicate (1 - (lg_sl ([.ref a0])).length) Slot.unset).toArray = ls at hl ⊢
  have hl : lv_has ls 1 [(0, .ref a0)] := hl
  refine lv_aload_n hx hb dX6_init_0 rfl (lv_at hl 0 rfl) ?_
  refine W.objInit hx hb hown (hU _ wd_135) (hU _ wd_10) (hU _ wd_11) rfl (by rw [hml]; exact hl.1) rfl dX6_init_1 (Nat.le_of_ble_eq_true rfl) (Nat.le_of_ble_eq_true rfl) ?_
  refine W.eq (g2 := F0 m 4 ls []) rfl ?_
  refine lv_aload_n hx hb dX6_init_4 rfl (lv_at hl 0 rfl) ?_
  refine lv_iconst (v := 1) hx hb dX6_init_5 (by decide) ?_
  obtain ⟨L, f, kd, hP, hD, hB, hR, hF⟩ := hW
  refine va_put (D := (dC, dI)) (ci := 6) (v := .int 1) (ty := .int) (C := RX6) (T := TX6) (N := 9) hx hb hU inlX6 tyX6 tyX6_ok nmX6 hown hK hP hD hS 0 rfl rfl 1 (by decide) (hU _ wd_136) (fun _ h9 => h9) rfl (by decide +kernel) rfl rfl (Nat.le_of_ble_eq_true rfl) dX6_init_6 (fun H locs hP hD hS => ?_)
  have hW : cw (dC, dI) cI cL cZ cR cG cH A [(a0, .inr (6, [.int 0, .int 1, .null, .null, .null, .int 0, .null, .null, .null]))] [] [] H := ⟨L, f, kd, hP, hD, hB, hR, hF⟩
  refine lv_aload_n hx hb dX6_init_9 rfl (lv_at hl 0 rfl) ?_
  refine lv_bipush (v := 8) hx hb dX6_init_10 (by decide) ?_
  refine cs_newa (atype := .int) (ty := .int) (k := 530) (a0 := (8, .inl z0)) hx hb 0 (hU (.arrayClass .int) wd_12) rfl (fun _ => Iff.rfl) hK rfl hW hS hA (fun _ => rfl) (fun L kd => na_530 L kd) (by decide) (by decide) (Nat.le_of_ble_eq_true rfl) (Nat.le_of_ble_eq_true rfl) (Nat.le_of_ble_eq_true rfl) dX6_init_12 (fun q_1 H hW hS => ?_)
  have hW : cw (dC, dI) cI cL cZ cR cG cH A [(a0, .inr (6, [.int 0, .int 1, .null, .null, .null, .int 0, .null, .null, .null]))] [(q_1, 530)] [] H := hW
  refine W.widen (k := 1) (n := 8) (Nat.le_of_ble_eq_true rfl) (Nat.le_of_ble_eq_true rfl) ?_
  obtain ⟨L, f, kd, hP, hD, hB, hR, hF⟩ := hW
  refine va_putF (D := (dC, dI)) (ci := 6) (v := .ref q_1) (ty := .array .int) (C := RX6) (T := TX6) (N := 9) hx hb hU inlX6 tyX6 tyX6_ok nmX6 hown hK hP hD hS 0 rfl rfl 2 (by decide) (hU _ wd_137) (fun _ h9 => h9) rfl hin rfl (by decide +kernel) rfl rfl (Nat.le_of_ble_eq_true rfl) dX6_init_14 (fun H locs hP hD hS => ?_)
  have hW : cw (dC, dI) cI cL cZ cR cG cH A [(a0, .inr (6, [.int 0, .int 1, .ref q_1, .null, .null, .int 0, .null, .null, .null]))] [(q_1, 530)] [] H := ⟨L, f, kd, hP, hD, hB, hR, hF⟩
  refine lv_aload_n hx hb dX6_init_17 rfl (lv_at hl 0 rfl) ?_
  obtain ⟨L, f, kd, hP, hD, hB, hR, hF⟩ := hW
  refine va_new (ci := 9) (fs := [.null, .null, .int 0]) (C := RX9) (T := TX9) (N := 3) hx hb hU inlX9 tyX9 tyX9_ok hown (hU _ wd_138) (hU _ wd_84) (hU _ wd_85) hK hP hD hS hA rfl dvX9 (Nat.le_of_ble_eq_true rfl) (Nat.le_of_ble_eq_true rfl) dX6_init_18 (fun q_2 H hP hD hS => ?_)
  have hW : cw (dC, dI) cI cL cZ cR cG cH A ([(a0, .inr (6, [.int 0, .int 1, .ref q_1, .null, .null, .int 0, .null, .null, .null]))] ++ [(q_2, .inr (9, [.null, .null, .int 0]))]) [(q_1, 530)] [] H := cw_new hP hD hB hR hF
  refine W.widen (k := 2) (n := 11) (Nat.le_of_ble_eq_true rfl) (Nat.le_of_ble_eq_true rfl) ?_
  refine lv_dup hx hb dX6_init_21 rfl ?_
  refine lv_bipush (v := 12) hx hb dX6_init_22 (by decide) ?_
  refine cs_back (X := [(a0, .inr (6, [.int 0, .int 1, .ref q_1, .null, .null, .int 0, .null, .null, .null]))]) (cs_I (X := [(a0, .inr (6, [.int 0, .int 1, .ref q_1, .null, .null, .int 0, .null, .null, .null]))]) (As := [.int 12]) (rest := [.ref q_2, .ref a0]) (n := 1) hx hb hml hown hU hN (n_X9_init_9 l (dC, dI) cI cL cZ cR cG cH H.size q_2) wd_144 wd_92 wd_85 wd_93 rfl (by decide +kernel) ⟨Nat.le_of_ble_eq_true rfl, Nat.le_of_ble_eq_true rfl⟩ hK hW rfl hl.1 rfl (Nat.le_of_ble_eq_true rfl) dX6_init_24 ⟨Nat.le_of_ble_eq_true rfl, Nat.le_of_ble_eq_true rfl⟩) hW hS hA [1] [0] rfl rfl (by decide) (by decide) (fun H locs hW hS => ?_)
  have hW : cw (dC, dI) cI cL cZ cR cG cH A [(a0, .inr (6, [.int 0, .int 1, .ref q_1, .null, .null, .int 0, .null, .null, .null]))] [(q_1, 530), (q_2, 9)] [] H := hW
  refine W.widen (k := 4) (n := 119) (Nat.le_of_ble_eq_true rfl) (Nat.le_of_ble_eq_true rfl) ?_
  obtain ⟨L, f, kd, hP, hD, hB, hR, hF⟩ := hW
  refine va_putF (D := (dC, dI)) (ci := 6) (v := .ref q_2) (ty := .object "SaidShallow$WordList") (C := RX6) (T := TX6) (N := 9) hx hb hU inlX6 tyX6 tyX6_ok nmX6 hown hK hP hD hS 0 rfl rfl 3 (by decide) (hU _ wd_139) (fun _ h9 => h9) rfl hin rfl (by decide +kernel) rfl rfl (Nat.le_of_ble_eq_true rfl) dX6_init_27 (fun H locs hP hD hS => ?_)
  have hW : cw (dC, dI) cI cL cZ cR cG cH A [(a0, .inr (6, [.int 0, .int 1, .ref q_1, .ref q_2, .null, .int 0, .null, .null, .null]))] [(q_1, 530), (q_2, 9)] [] H := ⟨L, f, kd, hP, hD, hB, hR, hF⟩
  refine lv_aload_n hx hb dX6_init_30 rfl (lv_at hl 0 rfl) ?_
  obtain ⟨L, f, kd, hP, hD, hB, hR, hF⟩ := hW
  refine va_new (ci := 9) (fs := [.null, .null, .int 0]) (C := RX9) (T := TX9) (N := 3) hx hb hU inlX9 tyX9 tyX9_ok hown (hU _ wd_138) (hU _ wd_84) (hU _ wd_85) hK hP hD hS hA rfl dvX9 (Nat.le_of_ble_eq_true rfl) (Nat.le_of_ble_eq_true rfl) dX6_init_31 (fun q_3 H hP hD hS => ?_)
  have hW : cw (dC, dI) cI cL cZ cR cG cH A ([(a0, .inr (6, [.int 0, .int 1, .ref q_1, .ref q_2, .null, .int 0, .null, .null, .null]))] ++ [(q_3, .inr (9, [.null, .null, .int 0]))]) [(q_1, 530), (q_2, 9)] [] H := cw_new hP hD hB hR hF
  refine W.widen (k := 5) (n := 122) (Nat.le_of_ble_eq_true rfl) (Nat.le_of_ble_eq_true rfl) ?_
  refine lv_dup hx hb dX6_init_34 rfl ?_
  refine lv_bipush (v := 12) hx hb dX6_init_35 (by decide) ?_
  refine cs_back (X := [(a0, .inr (6, [.int 0, .int 1, .ref q_1, .ref q_2, .null, .int 0, .null, .null, .null]))]) (cs_I (X := [(a0, .inr (6, [.int 0, .int 1, .ref q_1, .ref q_2, .null, .int 0, .null, .null, .null]))]) (As := [.int 12]) (rest := [.ref q_3, .ref a0]) (n := 1) hx hb hml hown hU hN (n_X9_init_9 l (dC, dI) cI cL cZ cR cG cH H.size q_3) wd_144 wd_92 wd_85 wd_93 rfl (by decide +kernel) ⟨Nat.le_of_ble_eq_true rfl, Nat.le_of_ble_eq_true rfl⟩ hK hW rfl hl.1 rfl (Nat.le_of_ble_eq_true rfl) dX6_init_37 ⟨Nat.le_of_ble_eq_true rfl, Nat.le_of_ble_eq_true rfl⟩) hW hS hA [1] [0] rfl rfl (by decide) (by decide) (fun H locs hW hS => ?_)
  have hW : cw (dC, dI) cI cL cZ cR cG cH A [(a0, .inr (6, [.int 0, .int 1, .ref q_1, .ref q_2, .null, .int 0, .null, .null, .null]))] [(q_1, 530), (q_2, 9), (q_3, 9)] [] H := hW
  refine W.widen (k := 7) (n := 230) (Nat.le_of_ble_eq_true rfl) (Nat.le_of_ble_eq_true rfl) ?_
  obtain ⟨L, f, kd, hP, hD, hB, hR, hF⟩ := hW
  refine va_putF (D := (dC, dI)) (ci := 6) (v := .ref q_3) (ty := .object "SaidShallow$WordList") (C := RX6) (T := TX6) (N := 9) hx hb hU inlX6 tyX6 tyX6_ok nmX6 hown hK hP hD hS 0 rfl rfl 4 (by decide) (hU _ wd_140) (fun _ h9 => h9) rfl hin rfl (by decide +kernel) rfl rfl (Nat.le_of_ble_eq_true rfl) dX6_init_40 (fun H locs hP hD hS => ?_)
  have hW : cw (dC, dI) cI cL cZ cR cG cH A [(a0, .inr (6, [.int 0, .int 1, .ref q_1, .ref q_2, .ref q_3, .int 0, .null, .null, .null]))] [(q_1, 530), (q_2, 9), (q_3, 9)] [] H := ⟨L, f, kd, hP, hD, hB, hR, hF⟩
  refine lv_aload_n hx hb dX6_init_43 rfl (lv_at hl 0 rfl) ?_
  refine lv_bipush (v := 108) hx hb dX6_init_44 (by decide) ?_
  refine cs_newa (atype := .int) (ty := .int) (k := 531) (a0 := (108, .inl z0)) hx hb 0 (hU (.arrayClass .int) wd_12) rfl (fun _ => Iff.rfl) hK rfl hW hS hA (fun _ => rfl) (fun L kd => na_531 L kd) (by decide) (by decide) (Nat.le_of_ble_eq_true rfl) (Nat.le_of_ble_eq_true rfl) (Nat.le_of_ble_eq_true rfl) dX6_init_46 (fun q_4 H hW hS => ?_)
  have hW : cw (dC, dI) cI cL cZ cR cG cH A [(a0, .inr (6, [.int 0, .int 1, .ref q_1, .ref q_2, .ref q_3, .int 0, .null, .null, .null]))] [(q_1, 530), (q_2, 9), (q_3, 9), (q_4, 531)] [] H := hW
  refine W.widen (k := 8) (n := 338) (Nat.le_of_ble_eq_true rfl) (Nat.le_of_ble_eq_true rfl) ?_
  obtain ⟨L, f, kd, hP, hD, hB, hR, hF⟩ := hW
  refine va_putF (D := (dC, dI)) (ci := 6) (v := .ref q_4) (ty := .array .int) (C := RX6) (T := TX6) (N := 9) hx hb hU inlX6 tyX6 tyX6_ok nmX6 hown hK hP hD hS 0 rfl rfl 6 (by decide) (hU _ wd_141) (fun _ h9 => h9) rfl hin rfl (by decide +kernel) rfl rfl (Nat.le_of_ble_eq_true rfl) dX6_init_48 (fun H locs hP hD hS => ?_)
  have hW : cw (dC, dI) cI cL cZ cR cG cH A [(a0, .inr (6, [.int 0, .int 1, .ref q_1, .ref q_2, .ref q_3, .int 0, .ref q_4, .null, .null]))] [(q_1, 530), (q_2, 9), (q_3, 9), (q_4, 531)] [] H := ⟨L, f, kd, hP, hD, hB, hR, hF⟩
  refine lv_aload_n hx hb dX6_init_51 rfl (lv_at hl 0 rfl) ?_
  refine lv_bipush (v := 12) hx hb dX6_init_52 (by decide) ?_
  refine cs_newa (atype := .int) (ty := .int) (k := 532) (a0 := (12, .inl z0)) hx hb 0 (hU (.arrayClass .int) wd_12) rfl (fun _ => Iff.rfl) hK rfl hW hS hA (fun _ => rfl) (fun L kd => na_532 L kd) (by decide) (by decide) (Nat.le_of_ble_eq_true rfl) (Nat.le_of_ble_eq_true rfl) (Nat.le_of_ble_eq_true rfl) dX6_init_54 (fun q_5 H hW hS => ?_)
  have hW : cw (dC, dI) cI cL cZ cR cG cH A [(a0, .inr (6, [.int 0, .int 1, .ref q_1, .ref q_2, .ref q_3, .int 0, .ref q_4, .null, .null]))] [(q_1, 530), (q_2, 9), (q_3, 9), (q_4, 531), (q_5, 532)] [] H := hW
  refine W.widen (k := 9) (n := 350) (Nat.le_of_ble_eq_true rfl) (Nat.le_of_ble_eq_true rfl) ?_
  obtain ⟨L, f, kd, hP, hD, hB, hR, hF⟩ := hW
  refine va_putF (D := (dC, dI)) (ci := 6) (v := .ref q_5) (ty := .array .int) (C := RX6) (T := TX6) (N := 9) hx hb hU inlX6 tyX6 tyX6_ok nmX6 hown hK hP hD hS 0 rfl rfl 7 (by decide) (hU _ wd_142) (fun _ h9 => h9) rfl hin rfl (by decide +kernel) rfl rfl (Nat.le_of_ble_eq_true rfl) dX6_init_56 (fun H locs hP hD hS => ?_)
  have hW : cw (dC, dI) cI cL cZ cR cG cH A [(a0, .inr (6, [.int 0, .int 1, .ref q_1, .ref q_2, .ref q_3, .int 0, .ref q_4, .ref q_5, .null]))] [(q_1, 530), (q_2, 9), (q_3, 9), (q_4, 531), (q_5, 532)] [] H := ⟨L, f, kd, hP, hD, hB, hR, hF⟩
  refine lv_aload_n hx hb dX6_init_59 rfl (lv_at hl 0 rfl) ?_
  refine lv_bipush (v := 8) hx hb dX6_init_60 (by decide) ?_
  refine cs_newa (atype := .int) (ty := .int) (k := 507) (a0 := (8, .inl z0)) hx hb 0 (hU (.arrayClass .int) wd_12) rfl (fun _ => Iff.rfl) hK rfl hW hS hA (fun _ => rfl) (fun L kd => na_507 L kd) (by decide) (by decide) (Nat.le_of_ble_eq_true rfl) (Nat.le_of_ble_eq_true rfl) (Nat.le_of_ble_eq_true rfl) dX6_init_62 (fun q_6 H hW hS => ?_)
  have hW : cw (dC, dI) cI cL cZ cR cG cH A [(a0, .inr (6, [.int 0, .int 1, .ref q_1, .ref q_2, .ref q_3, .int 0, .ref q_4, .ref q_5, .null]))] [(q_1, 530), (q_2, 9), (q_3, 9), (q_4, 531), (q_5, 532), (q_6, 507)] [] H := hW
  refine W.widen (k := 10) (n := 358) (Nat.le_of_ble_eq_true rfl) (Nat.le_of_ble_eq_true rfl) ?_
  obtain ⟨L, f, kd, hP, hD, hB, hR, hF⟩ := hW
  refine va_putF (D := (dC, dI)) (ci := 6) (v := .ref q_6) (ty := .array .int) (C := RX6) (T := TX6) (N := 9) hx hb hU inlX6 tyX6 tyX6_ok nmX6 hown hK hP hD hS 0 rfl rfl 8 (by decide) (hU _ wd_143) (fun _ h9 => h9) rfl hin rfl (by decide +kernel) rfl rfl (Nat.le_of_ble_eq_true rfl) dX6_init_64 (fun H locs hP hD hS => ?_)
  have hW : cw (dC, dI) cI cL cZ cR cG cH A [(a0, .inr (6, [.int 0, .int 1, .ref q_1, .ref q_2, .ref q_3, .int 0, .ref q_4, .ref q_5, .ref q_6]))] [(q_1, 530), (q_2, 9), (q_3, 9), (q_4, 531), (q_5, 532), (q_6, 507)] [] H := ⟨L, f, kd, hP, hD, hB, hR, hF⟩
  obtain ⟨w9, hP9, hD9, hbt⟩ := cw_done (k := 6) hW (fun L kd h => ⟨show ok_6 L kd _ from ⟨0, 1, q_1, q_2, q_3, 0, q_4, q_5, q_6, rfl, (by decide), h (q_1, 530) (List.mem_of_getElem? (i := 0) rfl), h (q_2, 9) (List.mem_of_getElem? (i := 1) rfl), h (q_3, 9) (List.mem_of_getElem? (i := 2) rfl), h (q_4, 531) (List.mem_of_getElem? (i := 3) rfl), h (q_5, 532) (List.mem_of_getElem? (i := 4) rfl), h (q_6, 507) (List.mem_of_getElem? (i := 5) rfl)⟩, ⟨fun h => absurd h (by decide), fun _ => rfl, fun h => absurd h (by decide), fun h => absurd h (by decide), fun h => absurd h (by decide), fun h => absurd h (by decide)⟩⟩)
  refine W.widen (k := 10) (n := 358) (Nat.le_of_ble_eq_true rfl) (Nat.le_of_ble_eq_true rfl) ?_
  exact W.vret hx hb hr (fun t ht hW => ⟨⟨w9, rfl, hbt, by rw [ht]; exact hP9, va_K.moved hW.alike hK, hD9⟩, hS.F ht⟩) hS.2.2 dX6_init_67
set_option maxHeartbeats 8000000 in
set_option maxRecDepth 100000 in
theorem n_X6_init_106 (l : Launch) (D : va_G) (cI cL cZ cR cG cH : ClassId) (sz a0 : Nat) : mC l D cI cL cZ cR cG cH yX6_init cX6_init 1 2 51 10 358 [.ref a0] sz [(a0, .inr (6, [.int 0, .int 0, .null, .null, .null, .int 0, .null, .null, .null]))] (bt cI cL cZ cR cG cH 106 a0) := by
  obtain ⟨dC, dI⟩ := D
  refine Met.ofW (cc := cX6_init) (maxL := 1) (ret := none) (by decide) rfl ?_
  intro p e s m args below meth c s₁ B hml hv
  obtain ⟨rfl, hsz, hP, hK, hD0, hN⟩ := hv
  have hx := B.exec
  have hb := B.bytes
  have hr := B.returns
  have hU : ∀ w ∈ wsU, w.before _ s = true := fun w h => atoms_spec (ws := wU yX6_init cX6_init 1 none) B.pre w (List.mem_cons_of_mem _ h)
  have hown : s.vm.findClass RX6 = some m.cls := findClass_of_methodNamed B.named
  have hlocks := B.notSynchronized
  have hin : meth.name = "<init>" := (name_of_methodNamed B.named B.method).1
  subst hsz
  have hD := hD0.self (sz := s.heap.size)
  generalize hAe : va_A [(a0, .inr (6, [.int 0, .int 0, .null, .null, .null, .int 0, .null, .null, .null]))] s.heap.size = A at hD ⊢
  have hA : ∀ q : Nat, s.heap.size ≤ q → A q := fun q h => by rw [← hAe]; exact Or.inr h
  have hS : va_S A s.heap s.heap [] := va_S.rf
  have hW : cw (dC, dI) cI cL cZ cR cG cH A [(a0, .inr (6, [.int 0, .int 0, .null, .null, .null, .int 0, .null, .null, .null]))] [] [] s.heap := ⟨[], fun _ => .inl (cI, 0, .inl z0), fun _ => 0, hP, hD, fun a h => absurd h List.not_mem_nil, fun q h => absurd h List.not_mem_nil, fun q h => absurd h List.not_mem_nil⟩
  have hl := lv_entry ([.ref a0]) (n := 1) (Nat.le_of_ble_eq_true rfl)
  rw [lg_entry_eq]
  generalize (lg_sl ([.ref a0]) ++ List.replicate (1 - (lg_sl ([.ref a0])).length) Slot.unset).toArray = ls at hl ⊢
  have hl : lv_has ls 1 [(0, .ref a0)] := hl
  refine lv_aload_n hx hb dX6_init_0 rfl (lv_at hl 0 rfl) ?_
  refine W.objInit hx hb hown (hU _ wd_135) (hU _ wd_10) (hU _ wd_11) rfl (by rw [hml]; exact hl.1) rfl dX6_init_1 (Nat.le_of_ble_eq_true rfl) (Nat.le_of_ble_eq_true rfl) ?_
  refine W.eq (g2 := F0 m 4 ls []) rfl ?_
  refine lv_aload_n hx hb dX6_init_4 rfl (lv_at hl 0 rfl) ?_
  refine lv_iconst (v := 1) hx hb dX6_init_5 (by decide) ?_
  obtain ⟨L, f, kd, hP, hD, hB, hR, hF⟩ := hW
  refine va_put (D := (dC, dI)) (ci := 6) (v := .int 1) (ty := .int) (C := RX6) (T := TX6) (N := 9) hx hb hU inlX6 tyX6 tyX6_ok nmX6 hown hK hP hD hS 0 rfl rfl 1 (by decide) (hU _ wd_136) (fun _ h9 => h9) rfl (by decide +kernel) rfl rfl (Nat.le_of_ble_eq_true rfl) dX6_init_6 (fun H locs hP hD hS => ?_)
  have hW : cw (dC, dI) cI cL cZ cR cG cH A [(a0, .inr (6, [.int 0, .int 1, .null, .null, .null, .int 0, .null, .null, .null]))] [] [] H := ⟨L, f, kd, hP, hD, hB, hR, hF⟩
  refine lv_aload_n hx hb dX6_init_9 rfl (lv_at hl 0 rfl) ?_
  refine lv_bipush (v := 8) hx hb dX6_init_10 (by decide) ?_
  refine cs_newa (atype := .int) (ty := .int) (k := 530) (a0 := (8, .inl z0)) hx hb 0 (hU (.arrayClass .int) wd_12) rfl (fun _ => Iff.rfl) hK rfl hW hS hA (fun _ => rfl) (fun L kd => na_530 L kd) (by decide) (by decide) (Nat.le_of_ble_eq_true rfl) (Nat.le_of_ble_eq_true rfl) (Nat.le_of_ble_eq_true rfl) dX6_init_12 (fun q_1 H hW hS => ?_)
  have hW : cw (dC, dI) cI cL cZ cR cG cH A [(a0, .inr (6, [.int 0, .int 1, .null, .null, .null, .int 0, .null, .null, .null]))] [(q_1, 530)] [] H := hW
  refine W.widen (k := 1) (n := 8) (Nat.le_of_ble_eq_true rfl) (Nat.le_of_ble_eq_true rfl) ?_
  obtain ⟨L, f, kd, hP, hD, hB, hR, hF⟩ := hW
  refine va_putF (D := (dC, dI)) (ci := 6) (v := .ref q_1) (ty := .array .int) (C := RX6) (T := TX6) (N := 9) hx hb hU inlX6 tyX6 tyX6_ok nmX6 hown hK hP hD hS 0 rfl rfl 2 (by decide) (hU _ wd_137) (fun _ h9 => h9) rfl hin rfl (by decide +kernel) rfl rfl (Nat.le_of_ble_eq_true rfl) dX6_init_14 (fun H locs hP hD hS => ?_)
  have hW : cw (dC, dI) cI cL cZ cR cG cH A [(a0, .inr (6, [.int 0, .int 1, .ref q_1, .null, .null, .int 0, .null, .null, .null]))] [(q_1, 530)] [] H := ⟨L, f, kd, hP, hD, hB, hR, hF⟩
  refine lv_aload_n hx hb dX6_init_17 rfl (lv_at hl 0 rfl) ?_
  obtain ⟨L, f, kd, hP, hD, hB, hR, hF⟩ := hW
  refine va_new (ci := 9) (fs := [.null, .null, .int 0]) (C := RX9) (T := TX9) (N := 3) hx hb hU inlX9 tyX9 tyX9_ok hown (hU _ wd_138) (hU _ wd_84) (hU _ wd_85) hK hP hD hS hA rfl dvX9 (Nat.le_of_ble_eq_true rfl) (Nat.le_of_ble_eq_true rfl) dX6_init_18 (fun q_2 H hP hD hS => ?_)
  have hW : cw (dC, dI) cI cL cZ cR cG cH A ([(a0, .inr (6, [.int 0, .int 1, .ref q_1, .null, .null, .int 0, .null, .null, .null]))] ++ [(q_2, .inr (9, [.null, .null, .int 0]))]) [(q_1, 530)] [] H := cw_new hP hD hB hR hF
  refine W.widen (k := 2) (n := 11) (Nat.le_of_ble_eq_true rfl) (Nat.le_of_ble_eq_true rfl) ?_
  refine lv_dup hx hb dX6_init_21 rfl ?_
  refine lv_bipush (v := 12) hx hb dX6_init_22 (by decide) ?_
  refine cs_back (X := [(a0, .inr (6, [.int 0, .int 1, .ref q_1, .null, .null, .int 0, .null, .null, .null]))]) (cs_I (X := [(a0, .inr (6, [.int 0, .int 1, .ref q_1, .null, .null, .int 0, .null, .null, .null]))]) (As := [.int 12]) (rest := [.ref q_2, .ref a0]) (n := 1) hx hb hml hown hU hN (n_X9_init_9 l (dC, dI) cI cL cZ cR cG cH H.size q_2) wd_144 wd_92 wd_85 wd_93 rfl (by decide +kernel) ⟨Nat.le_of_ble_eq_true rfl, Nat.le_of_ble_eq_true rfl⟩ hK hW rfl hl.1 rfl (Nat.le_of_ble_eq_true rfl) dX6_init_24 ⟨Nat.le_of_ble_eq_true rfl, Nat.le_of_ble_eq_true rfl⟩) hW hS hA [1] [0] rfl rfl (by decide) (by decide) (fun H locs hW hS => ?_)
  have hW : cw (dC, dI) cI cL cZ cR cG cH A [(a0, .inr (6, [.int 0, .int 1, .ref q_1, .null, .null, .int 0, .null, .null, .null]))] [(q_1, 530), (q_2, 9)] [] H := hW
  refine W.widen (k := 4) (n := 119) (Nat.le_of_ble_eq_true rfl) (Nat.le_of_ble_eq_true rfl) ?_
  obtain ⟨L, f, kd, hP, hD, hB, hR, hF⟩ := hW
  refine va_putF (D := (dC, dI)) (ci := 6) (v := .ref q_2) (ty := .object "SaidShallow$WordList") (C := RX6) (T := TX6) (N := 9) hx hb hU inlX6 tyX6 tyX6_ok nmX6 hown hK hP hD hS 0 rfl rfl 3 (by decide) (hU _ wd_139) (fun _ h9 => h9) rfl hin rfl (by decide +kernel) rfl rfl (Nat.le_of_ble_eq_true rfl) dX6_init_27 (fun H locs hP hD hS => ?_)
  have hW : cw (dC, dI) cI cL cZ cR cG cH A [(a0, .inr (6, [.int 0, .int 1, .ref q_1, .ref q_2, .null, .int 0, .null, .null, .null]))] [(q_1, 530), (q_2, 9)] [] H := ⟨L, f, kd, hP, hD, hB, hR, hF⟩
  refine lv_aload_n hx hb dX6_init_30 rfl (lv_at hl 0 rfl) ?_
  obtain ⟨L, f, kd, hP, hD, hB, hR, hF⟩ := hW
  refine va_new (ci := 9) (fs := [.null, .null, .int 0]) (C := RX9) (T := TX9) (N := 3) hx hb hU inlX9 tyX9 tyX9_ok hown (hU _ wd_138) (hU _ wd_84) (hU _ wd_85) hK hP hD hS hA rfl dvX9 (Nat.le_of_ble_eq_true rfl) (Nat.le_of_ble_eq_true rfl) dX6_init_31 (fun q_3 H hP hD hS => ?_)
  have hW : cw (dC, dI) cI cL cZ cR cG cH A ([(a0, .inr (6, [.int 0, .int 1, .ref q_1, .ref q_2, .null, .int 0, .null, .null, .null]))] ++ [(q_3, .inr (9, [.null, .null, .int 0]))]) [(q_1, 530), (q_2, 9)] [] H := cw_new hP hD hB hR hF
  refine W.widen (k := 5) (n := 122) (Nat.le_of_ble_eq_true rfl) (Nat.le_of_ble_eq_true rfl) ?_
  refine lv_dup hx hb dX6_init_34 rfl ?_
  refine lv_bipush (v := 12) hx hb dX6_init_35 (by decide) ?_
  refine cs_back (X := [(a0, .inr (6, [.int 0, .int 1, .ref q_1, .ref q_2, .null, .int 0, .null, .null, .null]))]) (cs_I (X := [(a0, .inr (6, [.int 0, .int 1, .ref q_1, .ref q_2, .null, .int 0, .null, .null, .null]))]) (As := [.int 12]) (rest := [.ref q_3, .ref a0]) (n := 1) hx hb hml hown hU hN (n_X9_init_9 l (dC, dI) cI cL cZ cR cG cH H.size q_3) wd_144 wd_92 wd_85 wd_93 rfl (by decide +kernel) ⟨Nat.le_of_ble_eq_true rfl, Nat.le_of_ble_eq_true rfl⟩ hK hW rfl hl.1 rfl (Nat.le_of_ble_eq_true rfl) dX6_init_37 ⟨Nat.le_of_ble_eq_true rfl, Nat.le_of_ble_eq_true rfl⟩) hW hS hA [1] [0] rfl rfl (by decide) (by decide) (fun H locs hW hS => ?_)
  have hW : cw (dC, dI) cI cL cZ cR cG cH A [(a0, .inr (6, [.int 0, .int 1, .ref q_1, .ref q_2, .null, .int 0, .null, .null, .null]))] [(q_1, 530), (q_2, 9), (q_3, 9)] [] H := hW
  refine W.widen (k := 7) (n := 230) (Nat.le_of_ble_eq_true rfl) (Nat.le_of_ble_eq_true rfl) ?_
  obtain ⟨L, f, kd, hP, hD, hB, hR, hF⟩ := hW
  refine va_putF (D := (dC, dI)) (ci := 6) (v := .ref q_3) (ty := .object "SaidShallow$WordList") (C := RX6) (T := TX6) (N := 9) hx hb hU inlX6 tyX6 tyX6_ok nmX6 hown hK hP hD hS 0 rfl rfl 4 (by decide) (hU _ wd_140) (fun _ h9 => h9) rfl hin rfl (by decide +kernel) rfl rfl (Nat.le_of_ble_eq_true rfl) dX6_init_40 (fun H locs hP hD hS => ?_)
  have hW : cw (dC, dI) cI cL cZ cR cG cH A [(a0, .inr (6, [.int 0, .int 1, .ref q_1, .ref q_2, .ref q_3, .int 0, .null, .null, .null]))] [(q_1, 530), (q_2, 9), (q_3, 9)] [] H := ⟨L, f, kd, hP, hD, hB, hR, hF⟩
  refine lv_aload_n hx hb dX6_init_43 rfl (lv_at hl 0 rfl) ?_
  refine lv_bipush (v := 108) hx hb dX6_init_44 (by decide) ?_
  refine cs_newa (atype := .int) (ty := .int) (k := 531) (a0 := (108, .inl z0)) hx hb 0 (hU (.arrayClass .int) wd_12) rfl (fun _ => Iff.rfl) hK rfl hW hS hA (fun _ => rfl) (fun L kd => na_531 L kd) (by decide) (by decide) (Nat.le_of_ble_eq_true rfl) (Nat.le_of_ble_eq_true rfl) (Nat.le_of_ble_eq_true rfl) dX6_init_46 (fun q_4 H hW hS => ?_)
  have hW : cw (dC, dI) cI cL cZ cR cG cH A [(a0, .inr (6, [.int 0, .int 1, .ref q_1, .ref q_2, .ref q_3, .int 0, .null, .null, .null]))] [(q_1, 530), (q_2, 9), (q_3, 9), (q_4, 531)] [] H := hW
  refine W.widen (k := 8) (n := 338) (Nat.le_of_ble_eq_true rfl) (Nat.le_of_ble_eq_true rfl) ?_
  obtain ⟨L, f, kd, hP, hD, hB, hR, hF⟩ := hW
  refine va_putF (D := (dC, dI)) (ci := 6) (v := .ref q_4) (ty := .array .int) (C := RX6) (T := TX6) (N := 9) hx hb hU inlX6 tyX6 tyX6_ok nmX6 hown hK hP hD hS 0 rfl rfl 6 (by decide) (hU _ wd_141) (fun _ h9 => h9) rfl hin rfl (by decide +kernel) rfl rfl (Nat.le_of_ble_eq_true rfl) dX6_init_48 (fun H locs hP hD hS => ?_)
  have hW : cw (dC, dI) cI cL cZ cR cG cH A [(a0, .inr (6, [.int 0, .int 1, .ref q_1, .ref q_2, .ref q_3, .int 0, .ref q_4, .null, .null]))] [(q_1, 530), (q_2, 9), (q_3, 9), (q_4, 531)] [] H := ⟨L, f, kd, hP, hD, hB, hR, hF⟩
  refine lv_aload_n hx hb dX6_init_51 rfl (lv_at hl 0 rfl) ?_
  refine lv_bipush (v := 12) hx hb dX6_init_52 (by decide) ?_
  refine cs_newa (atype := .int) (ty := .int) (k := 532) (a0 := (12, .inl z0)) hx hb 0 (hU (.arrayClass .int) wd_12) rfl (fun _ => Iff.rfl) hK rfl hW hS hA (fun _ => rfl) (fun L kd => na_532 L kd) (by decide) (by decide) (Nat.le_of_ble_eq_true rfl) (Nat.le_of_ble_eq_true rfl) (Nat.le_of_ble_eq_true rfl) dX6_init_54 (fun q_5 H hW hS => ?_)
  have hW : cw (dC, dI) cI cL cZ cR cG cH A [(a0, .inr (6, [.int 0, .int 1, .ref q_1, .ref q_2, .ref q_3, .int 0, .ref q_4, .null, .null]))] [(q_1, 530), (q_2, 9), (q_3, 9), (q_4, 531), (q_5, 532)] [] H := hW
  refine W.widen (k := 9) (n := 350) (Nat.le_of_ble_eq_true rfl) (Nat.le_of_ble_eq_true rfl) ?_
  obtain ⟨L, f, kd, hP, hD, hB, hR, hF⟩ := hW
  refine va_putF (D := (dC, dI)) (ci := 6) (v := .ref q_5) (ty := .array .int) (C := RX6) (T := TX6) (N := 9) hx hb hU inlX6 tyX6 tyX6_ok nmX6 hown hK hP hD hS 0 rfl rfl 7 (by decide) (hU _ wd_142) (fun _ h9 => h9) rfl hin rfl (by decide +kernel) rfl rfl (Nat.le_of_ble_eq_true rfl) dX6_init_56 (fun H locs hP hD hS => ?_)
  have hW : cw (dC, dI) cI cL cZ cR cG cH A [(a0, .inr (6, [.int 0, .int 1, .ref q_1, .ref q_2, .ref q_3, .int 0, .ref q_4, .ref q_5, .null]))] [(q_1, 530), (q_2, 9), (q_3, 9), (q_4, 531), (q_5, 532)] [] H := ⟨L, f, kd, hP, hD, hB, hR, hF⟩
  refine lv_aload_n hx hb dX6_init_59 rfl (lv_at hl 0 rfl) ?_
  refine lv_bipush (v := 8) hx hb dX6_init_60 (by decide) ?_
  refine cs_newa (atype := .int) (ty := .int) (k := 507) (a0 := (8, .inl z0)) hx hb 0 (hU (.arrayClass .int) wd_12) rfl (fun _ => Iff.rfl) hK rfl hW hS hA (fun _ => rfl) (fun L kd => na_507 L kd) (by decide) (by decide) (Nat.le_of_ble_eq_true rfl) (Nat.le_of_ble_eq_true rfl) (Nat.le_of_ble_eq_true rfl) dX6_init_62 (fun q_6 H hW hS => ?_)
  have hW : cw (dC, dI) cI cL cZ cR cG cH A [(a0, .inr (6, [.int 0, .int 1, .ref q_1, .ref q_2, .ref q_3, .int 0, .ref q_4, .ref q_5, .null]))] [(q_1, 530), (q_2, 9), (q_3, 9), (q_4, 531), (q_5, 532), (q_6, 507)] [] H := hW
  refine W.widen (k := 10) (n := 358) (Nat.le_of_ble_eq_true rfl) (Nat.le_of_ble_eq_true rfl) ?_
  obtain ⟨L, f, kd, hP, hD, hB, hR, hF⟩ := hW
  refine va_putF (D := (dC, dI)) (ci := 6) (v := .ref q_6) (ty := .array .int) (C := RX6) (T := TX6) (N := 9) hx hb hU inlX6 tyX6 tyX6_ok nmX6 hown hK hP hD hS 0 rfl rfl 8 (by decide) (hU _ wd_143) (fun _ h9 => h9) rfl hin rfl (by decide +kernel) rfl rfl (Nat.le_of_ble_eq_true rfl) dX6_init_64 (fun H locs hP hD hS => ?_)
  have hW : cw (dC, dI) cI cL cZ cR cG cH A [(a0, .inr (6, [.int 0, .int 1, .ref q_1, .ref q_2, .ref q_3, .int 0, .ref q_4, .ref q_5, .ref q_6]))] [(q_1, 530), (q_2, 9), (q_3, 9), (q_4, 531), (q_5, 532), (q_6, 507)] [] H := ⟨L, f, kd, hP, hD, hB, hR, hF⟩
  obtain ⟨w9, hP9, hD9, hbt⟩ := cw_done (k := 106) hW (fun L kd h => ⟨show ok_106 L kd _ from ⟨0, 1, q_1, q_2, q_3, 0, q_4, q_5, q_6, rfl, (by decide), h (q_1, 530) (List.mem_of_getElem? (i := 0) rfl), h (q_2, 9) (List.mem_of_getElem? (i := 1) rfl), h (q_3, 9) (List.mem_of_getElem? (i := 2) rfl), h (q_4, 531) (List.mem_of_getElem? (i := 3) rfl), h (q_5, 532) (List.mem_of_getElem? (i := 4) rfl), h (q_6, 507) (List.mem_of_getElem? (i := 5) rfl)⟩, ⟨fun h => absurd h (by decide), fun _ => rfl, fun h => absurd h (by decide), fun h => absurd h (by decide), fun h => absurd h (by decide), fun h => absurd h (by decide)⟩⟩)
  refine W.widen (k := 10) (n := 358) (Nat.le_of_ble_eq_true rfl) (Nat.le_of_ble_eq_true rfl) ?_
  exact W.vret hx hb hr (fun t ht hW => ⟨⟨w9, rfl, hbt, by rw [ht]; exact hP9, va_K.moved hW.alike hK, hD9⟩, hS.F ht⟩) hS.2.2 dX6_init_67
