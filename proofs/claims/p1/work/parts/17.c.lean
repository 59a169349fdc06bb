set_option maxHeartbeats 8000000 in
set_option maxRecDepth 100000 in
theorem cc_X11_findWords_1 (l : Launch) (D : va_G) (cI cL cZ : ClassId) (sz : Nat) (a0 : Nat) (a1 : Nat) (a2 : Nat) (a3 : Nat) (a4 : Nat) (a5 : Nat) (a6 : Nat) (a7 : Nat) (a8 : Nat) (a9 : Nat) (a10 : Nat) (a11 : Nat) (a12 : Nat) (a13 : Nat) (a14 : Nat) : mI l D cI cL cZ yX11_findWords cX11_findWords 3 (some .int) 2 43 0 0 [.ref a0, .int 0] sz [(a0, .inr (11, [.ref a1, .int 0, .ref a2, .ref a3, .ref a4, .ref a5, .ref a6, .ref a7, .int 0, .ref a8, .ref a9, .ref a10, .int 0, .int (-1), .ref a11, .int 0, .ref a12, .ref a13, .int 0])), (a4, .inr (10, [.ref a14, .int 0, .int 0]))] (fun (r : Int32) (w1 : va_W) => r = (-1) ∧ w1 = ([(a4, .inr (10, [.ref a14, .int 0, .int 0])), (a0, .inr (11, [.ref a1, .int 0, .ref a2, .ref a3, .ref a4, .ref a5, .ref a6, .ref a7, .int 0, .ref a8, .ref a9, .ref a10, .int 0, .int (-1), .ref a11, .int 0, .ref a12, .ref a13, .int 0]))] : va_W)) := by
  obtain ⟨dC, dI⟩ := D
  refine Met.ofW (cc := cX11_findWords) (maxL := 3) (ret := (some .int)) (by decide) rfl ?_
  intro p e s m args below meth c s₁ B hml hv
  obtain ⟨rfl, hsz, hP, hK, hD0, hN⟩ := hv
  have hx := B.exec
  have hb := B.bytes
  have hr := B.returns
  have hU : ∀ w ∈ wsU, w.before _ s = true := fun w h => atoms_spec (ws := wU yX11_findWords cX11_findWords 3 (some .int)) B.pre w (List.mem_cons_of_mem _ h)
  have hown : s.vm.findClass RX11 = some m.cls := findClass_of_methodNamed B.named
  have hlocks := B.notSynchronized
  subst hsz
  have hD := hD0.self (sz := s.heap.size)
  generalize hAe : va_A [(a0, .inr (11, [.ref a1, .int 0, .ref a2, .ref a3, .ref a4, .ref a5, .ref a6, .ref a7, .int 0, .ref a8, .ref a9, .ref a10, .int 0, .int (-1), .ref a11, .int 0, .ref a12, .ref a13, .int 0])), (a4, .inr (10, [.ref a14, .int 0, .int 0]))] s.heap.size = A at hD ⊢
  have hA : ∀ q : Nat, s.heap.size ≤ q → A q := fun q h => by rw [← hAe]; exact Or.inr h
  have hS : va_S A s.heap s.heap [] := va_S.rf
  have hP : va_P (dC, dI) vwCl [(a0, .inr (11, [.ref a1, .int 0, .ref a2, .ref a3, .ref a4, .ref a5, .ref a6, .ref a7, .int 0, .ref a8, .ref a9, .ref a10, .int 0, .int (-1), .ref a11, .int 0, .ref a12, .ref a13, .int 0])), (a4, .inr (10, [.ref a14, .int 0, .int 0]))] s.heap := hP
  have hl := lv_entry ([.ref a0, .int 0]) (n := 3) (Nat.le_of_ble_eq_true rfl)
  rw [lg_entry_eq]
  generalize (lg_sl ([.ref a0, .int 0]) ++ List.replicate (3 - (lg_sl ([.ref a0, .int 0])).length) Slot.unset).toArray = ls at hl ⊢
  have hl : lv_has ls 3 [(0, .ref a0), (1, .int 0)] := hl
  refine lv_aload_n hx hb dX11_findWords_0 rfl (lv_at hl 0 rfl) ?_
  refine va_get (D := (dC, dI)) (ci := 11) (v := .ref a4) (C := RX11) (T := TX11) (N := 19) hx hb hU inlX11 hown hK hP 0 rfl rfl 4 (by decide) (hU _ wd_21) (fun _ h9 => h9) rfl dX11_findWords_1 ?_
  refine tk_rv (wr := [(a0, .inr (11, [.ref a1, .int 0, .ref a2, .ref a3, .ref a4, .ref a5, .ref a6, .ref a7, .int 0, .ref a8, .ref a9, .ref a10, .int 0, .int (-1), .ref a11, .int 0, .ref a12, .ref a13, .int 0]))]) (tk_V (As := []) (rest := []) (n := 0) hx hb hml hown hU hN (cc_X10_clear_0 l (dC, dI) cI cL cZ s.heap.size a4 a14) wd_556 wd_557 wd_558 wd_51 wd_559 (by decide +kernel) ⟨Nat.le_of_ble_eq_true rfl, Nat.le_of_ble_eq_true rfl⟩ hK hP hD [1] (by decide) rfl 0 10 rfl rfl rfl rfl hl.1 rfl (Nat.le_of_ble_eq_true rfl) dX11_findWords_4 ⟨Nat.le_of_ble_eq_true rfl, Nat.le_of_ble_eq_true rfl⟩) hP hD hS hA [1] [0] rfl rfl (by decide) (by decide) (fun w_2 H locs hw hP hD hS => ?_)
  subst hw
  have hP : va_P (dC, dI) vwCl [(a0, .inr (11, [.ref a1, .int 0, .ref a2, .ref a3, .ref a4, .ref a5, .ref a6, .ref a7, .int 0, .ref a8, .ref a9, .ref a10, .int 0, .int (-1), .ref a11, .int 0, .ref a12, .ref a13, .int 0])), (a4, .inr (10, [.ref a14, .int 0, .int 0]))] H := hP
  have hD : va_D A [(a0, .inr (11, [.ref a1, .int 0, .ref a2, .ref a3, .ref a4, .ref a5, .ref a6, .ref a7, .int 0, .ref a8, .ref a9, .ref a10, .int 0, .int (-1), .ref a11, .int 0, .ref a12, .ref a13, .int 0])), (a4, .inr (10, [.ref a14, .int 0, .int 0]))] := hD
  refine lv_aload_n hx hb dX11_findWords_7 rfl (lv_at hl 0 rfl) ?_
  refine tk_ri (wr := [(a4, .inr (10, [.ref a14, .int 0, .int 0]))]) (tk_V (As := []) (rest := []) (n := 0) hx hb hml hown hU hN (cc_X11_takeWord_0 l (dC, dI) cI cL cZ H.size a0 a1 a2 a3 a4 a5 a6 a7 a8 a9 a10 a11 a12 a13) wd_709 wd_710 wd_711 wd_2 wd_712 (by decide +kernel) ⟨Nat.le_of_ble_eq_true rfl, Nat.le_of_ble_eq_true rfl⟩ hK hP hD [0] (by decide) rfl 0 11 rfl rfl rfl rfl hl.1 rfl (Nat.le_of_ble_eq_true rfl) dX11_findWords_8 ⟨Nat.le_of_ble_eq_true rfl, Nat.le_of_ble_eq_true rfl⟩) hP hD hS hA [0] [1] rfl rfl (by decide) (by decide) (fun r_3 w_4 H locs hw hP hD hS => ?_)
  obtain ⟨rfl, rfl⟩ := hw
  have hP : va_P (dC, dI) vwCl [(a4, .inr (10, [.ref a14, .int 0, .int 0])), (a0, .inr (11, [.ref a1, .int 0, .ref a2, .ref a3, .ref a4, .ref a5, .ref a6, .ref a7, .int 0, .ref a8, .ref a9, .ref a10, .int 0, .int (-1), .ref a11, .int 0, .ref a12, .ref a13, .int 0]))] H := hP
  have hD : va_D A [(a4, .inr (10, [.ref a14, .int 0, .int 0])), (a0, .inr (11, [.ref a1, .int 0, .ref a2, .ref a3, .ref a4, .ref a5, .ref a6, .ref a7, .int 0, .ref a8, .ref a9, .ref a10, .int 0, .int (-1), .ref a11, .int 0, .ref a12, .ref a13, .int 0]))] := hD
  refine lv_istore_n (lv' := [(2, .int (-1)), (0, .ref a0), (1, .int 0)]) hx hb dX11_findWords_11 rfl hl (by decide) rfl (fun ls hl => ?_)
  refine lv_iload_n hx hb dX11_findWords_12 rfl (lv_at hl 0 rfl) ?_
  refine lv_iconst (v := (-1)) hx hb dX11_findWords_13 (by decide) ?_
  refine lv_icmp_ne (tgt := 19) hx hb dX11_findWords_14 (by decide) (fun c9 => absurd (by decide) c9) (fun _ => ?_)
  refine lv_iconst (v := (-1)) hx hb dX11_findWords_17 (by decide) ?_
  have hP9 := hP.sub (ws' := [(a4, .inr (10, [.ref a14, .int 0, .int 0])), (a0, .inr (11, [.ref a1, .int 0, .ref a2, .ref a3, .ref a4, .ref a5, .ref a6, .ref a7, .int 0, .ref a8, .ref a9, .ref a10, .int 0, .int (-1), .ref a11, .int 0, .ref a12, .ref a13, .int 0]))]) [0, 1] rfl
  have hD9 := hD.sub (ws' := [(a4, .inr (10, [.ref a14, .int 0, .int 0])), (a0, .inr (11, [.ref a1, .int 0, .ref a2, .ref a3, .ref a4, .ref a5, .ref a6, .ref a7, .int 0, .ref a8, .ref a9, .ref a10, .int 0, .int (-1), .ref a11, .int 0, .ref a12, .ref a13, .int 0]))]) [0, 1] (by decide) rfl
  refine W.widen (k := 0) (n := 0) (Nat.le_of_ble_eq_true rfl) (Nat.le_of_ble_eq_true rfl) ?_
  exact W.iret (v := (-1)) hx hb hr (fun t ht hW => ⟨⟨(-1), [(a4, .inr (10, [.ref a14, .int 0, .int 0])), (a0, .inr (11, [.ref a1, .int 0, .ref a2, .ref a3, .ref a4, .ref a5, .ref a6, .ref a7, .int 0, .ref a8, .ref a9, .ref a10, .int 0, .int (-1), .ref a11, .int 0, .ref a12, .ref a13, .int 0]))], rfl, ⟨rfl, rfl⟩, by rw [ht]; exact hP9, va_K.moved hW.alike hK, hD9⟩, hS.F ht⟩) hS.2.2 dX11_findWords_18
set_option maxHeartbeats 8000000 in
set_option maxRecDepth 100000 in
theorem op_X11_hear (l : Launch) (D : va_G) (cI cL cZ : ClassId) (sz : Nat) (a0 : Nat) (a1 : Nat) (a2 : Nat) (a3 : Nat) (a4 : Nat) (a5 : Nat) (a6 : Nat) (a7 : Nat) (a8 : Nat) (a9 : Nat) (a10 : Nat) (a11 : Nat) (a12 : Nat) (a13 : Nat) (a14 : Nat) : mI l D cI cL cZ yX11_hear cX11_hear 1 (some .int) 3 65 0 0 [.ref a0] sz [(a0, .inr (11, [.ref a1, .int 0, .ref a2, .ref a3, .ref a4, .ref a5, .ref a6, .ref a7, .int 0, .ref a8, .ref a9, .ref a10, .int 0, .int (-1), .ref a11, .int 0, .ref a12, .ref a13, .int 0])), (a4, .inr (10, [.ref a14, .int 0, .int 0]))] (fun (r : Int32) (w1 : va_W) => r = (-1) ∧ w1 = ([] : va_W)) := by
  obtain ⟨dC, dI⟩ := D
  refine Met.ofW (cc := cX11_hear) (maxL := 1) (ret := (some .int)) (by decide) rfl ?_
  intro p e s m args below meth c s₁ B hml hv
  obtain ⟨rfl, hsz, hP, hK, hD0, hN⟩ := hv
  have hx := B.exec
  have hb := B.bytes
  have hr := B.returns
  have hU : ∀ w ∈ wsU, w.before _ s = true := fun w h => atoms_spec (ws := wU yX11_hear cX11_hear 1 (some .int)) B.pre w (List.mem_cons_of_mem _ h)
  have hown : s.vm.findClass RX11 = some m.cls := findClass_of_methodNamed B.named
  have hlocks := B.notSynchronized
  subst hsz
  have hD := hD0.self (sz := s.heap.size)
  generalize hAe : va_A [(a0, .inr (11, [.ref a1, .int 0, .ref a2, .ref a3, .ref a4, .ref a5, .ref a6, .ref a7, .int 0, .ref a8, .ref a9, .ref a10, .int 0, .int (-1), .ref a11, .int 0, .ref a12, .ref a13, .int 0])), (a4, .inr (10, [.ref a14, .int 0, .int 0]))] s.heap.size = A at hD ⊢
  have hA : ∀ q : Nat, s.heap.size ≤ q → A q := fun q h => by rw [← hAe]; exact Or.inr h
  have hS : va_S A s.heap s.heap [] := va_S.rf
  have hP : va_P (dC, dI) vwCl [(a0, .inr (11, [.ref a1, .int 0, .ref a2, .ref a3, .ref a4, .ref a5, .ref a6, .ref a7, .int 0, .ref a8, .ref a9, .ref a10, .int 0, .int (-1), .ref a11, .int 0, .ref a12, .ref a13, .int 0])), (a4, .inr (10, [.ref a14, .int 0, .int 0]))] s.heap := hP
  have hl := lv_entry ([.ref a0]) (n := 1) (Nat.le_of_ble_eq_true rfl)
  rw [lg_entry_eq]
  generalize (lg_sl ([.ref a0]) ++ List.replicate (1 - (lg_sl ([.ref a0])).length) Slot.unset).toArray = ls at hl ⊢
  have hl : lv_has ls 1 [(0, .ref a0)] := hl
  refine lv_aload_n hx hb dX11_hear_0 rfl (lv_at hl 0 rfl) ?_
  refine lv_iconst (v := 0) hx hb dX11_hear_1 (by decide) ?_
  refine tk_ri (wr := []) (tk_V (As := [.int 0]) (rest := []) (n := 1) hx hb hml hown hU hN (cc_X11_findWords_1 l (dC, dI) cI cL cZ s.heap.size a0 a1 a2 a3 a4 a5 a6 a7 a8 a9 a10 a11 a12 a13 a14) wd_703 wd_704 wd_705 wd_2 wd_706 (by decide +kernel) ⟨Nat.le_of_ble_eq_true rfl, Nat.le_of_ble_eq_true rfl⟩ hK hP hD [0, 1] (by decide) rfl 0 11 rfl rfl rfl rfl hl.1 rfl (Nat.le_of_ble_eq_true rfl) dX11_hear_2 ⟨Nat.le_of_ble_eq_true rfl, Nat.le_of_ble_eq_true rfl⟩) hP hD hS hA [0, 1] [] rfl rfl (by decide) (by decide) (fun r_1 w_2 H locs hw hP hD hS => ?_)
  obtain ⟨rfl, rfl⟩ := hw
  have hP : va_P (dC, dI) vwCl [(a4, .inr (10, [.ref a14, .int 0, .int 0])), (a0, .inr (11, [.ref a1, .int 0, .ref a2, .ref a3, .ref a4, .ref a5, .ref a6, .ref a7, .int 0, .ref a8, .ref a9, .ref a10, .int 0, .int (-1), .ref a11, .int 0, .ref a12, .ref a13, .int 0]))] H := hP
  have hD : va_D A [(a4, .inr (10, [.ref a14, .int 0, .int 0])), (a0, .inr (11, [.ref a1, .int 0, .ref a2, .ref a3, .ref a4, .ref a5, .ref a6, .ref a7, .int 0, .ref a8, .ref a9, .ref a10, .int 0, .int (-1), .ref a11, .int 0, .ref a12, .ref a13, .int 0]))] := hD
  have hP9 := hP.sub (ws' := []) [] rfl
  have hD9 := hD.sub (ws' := []) [] (by decide) rfl
  refine W.widen (k := 0) (n := 0) (Nat.le_of_ble_eq_true rfl) (Nat.le_of_ble_eq_true rfl) ?_
  exact W.iret (v := (-1)) hx hb hr (fun t ht hW => ⟨⟨(-1), [], rfl, ⟨rfl, rfl⟩, by rw [ht]; exact hP9, va_K.moved hW.alike hK, hD9⟩, hS.F ht⟩) hS.2.2 dX11_hear_5
set_option maxHeartbeats 8000000 in
set_option maxRecDepth 100000 in
theorem op_X11_found (l : Launch) (D : va_G) (cI cL cZ : ClassId) (sz : Nat) (a0 : Nat) (x0 : Int32) (x1 : Int32) (a1 : Nat) (a2 : Nat) (a3 : Nat) (a4 : Nat) (a5 : Nat) (a6 : Nat) (a7 : Nat) (a8 : Nat) (a9 : Nat) (a10 : Nat) (a11 : Nat) (a12 : Nat) (a13 : Nat) (a14 : Nat) : mI l D cI cL cZ yX11_found cX11_found 3 (some .int) 0 0 0 0 [.ref a0, .int x0, .int x1] sz [(a0, .inr (11, [.ref a1, .int 0, .ref a2, .ref a3, .ref a4, .ref a5, .ref a6, .ref a7, .int 0, .ref a8, .ref a9, .ref a10, .int 0, .int (-1), .ref a11, .int 0, .ref a12, .ref a13, .int 0])), (a4, .inr (10, [.ref a14, .int 0, .int 0]))] (fun (r : Int32) (w1 : va_W) => r = (-1) ∧ w1 = ([] : va_W)) := by
  obtain ⟨dC, dI⟩ := D
  refine Met.ofW (cc := cX11_found) (maxL := 3) (ret := (some .int)) (by decide) rfl ?_
  intro p e s m args below meth c s₁ B hml hv
  obtain ⟨rfl, hsz, hP, hK, hD0, hN⟩ := hv
  have hx := B.exec
  have hb := B.bytes
  have hr := B.returns
  have hU : ∀ w ∈ wsU, w.before _ s = true := fun w h => atoms_spec (ws := wU yX11_found cX11_found 3 (some .int)) B.pre w (List.mem_cons_of_mem _ h)
  have hown : s.vm.findClass RX11 = some m.cls := findClass_of_methodNamed B.named
  have hlocks := B.notSynchronized
  subst hsz
  have hD := hD0.self (sz := s.heap.size)
  generalize hAe : va_A [(a0, .inr (11, [.ref a1, .int 0, .ref a2, .ref a3, .ref a4, .ref a5, .ref a6, .ref a7, .int 0, .ref a8, .ref a9, .ref a10, .int 0, .int (-1), .ref a11, .int 0, .ref a12, .ref a13, .int 0])), (a4, .inr (10, [.ref a14, .int 0, .int 0]))] s.heap.size = A at hD ⊢
  have hA : ∀ q : Nat, s.heap.size ≤ q → A q := fun q h => by rw [← hAe]; exact Or.inr h
  have hS : va_S A s.heap s.heap [] := va_S.rf
  have hP : va_P (dC, dI) vwCl [(a0, .inr (11, [.ref a1, .int 0, .ref a2, .ref a3, .ref a4, .ref a5, .ref a6, .ref a7, .int 0, .ref a8, .ref a9, .ref a10, .int 0, .int (-1), .ref a11, .int 0, .ref a12, .ref a13, .int 0])), (a4, .inr (10, [.ref a14, .int 0, .int 0]))] s.heap := hP
  have hl := lv_entry ([.ref a0, .int x0, .int x1]) (n := 3) (Nat.le_of_ble_eq_true rfl)
  rw [lg_entry_eq]
  generalize (lg_sl ([.ref a0, .int x0, .int x1]) ++ List.replicate (3 - (lg_sl ([.ref a0, .int x0, .int x1])).length) Slot.unset).toArray = ls at hl ⊢
  have hl : lv_has ls 3 [(0, .ref a0), (1, .int x0), (2, .int x1)] := hl
  refine lv_iload_n hx hb dX11_found_0 rfl (lv_at hl 1 rfl) ?_
  refine lv_if_lt (tgt := 15) hx hb dX11_found_1 (by decide) (fun c_1 => ?_) (fun c_1 => ?_)
  · skip
    refine lv_iconst (v := (-1)) hx hb dX11_found_15 (by decide) ?_
    have hP9 := hP.sub (ws' := []) [] rfl
    have hD9 := hD.sub (ws' := []) [] (by decide) rfl
    refine W.widen (k := 0) (n := 0) (Nat.le_of_ble_eq_true rfl) (Nat.le_of_ble_eq_true rfl) ?_
    exact W.iret (v := (-1)) hx hb hr (fun t ht hW => ⟨⟨(-1), [], rfl, ⟨rfl, rfl⟩, by rw [ht]; exact hP9, va_K.moved hW.alike hK, hD9⟩, hS.F ht⟩) hS.2.2 dX11_found_16
  · skip
    refine lv_iload_n hx hb dX11_found_4 rfl (lv_at hl 1 rfl) ?_
    refine lv_aload_n hx hb dX11_found_5 rfl (lv_at hl 0 rfl) ?_
    refine va_get (D := (dC, dI)) (ci := 11) (v := .ref a4) (C := RX11) (T := TX11) (N := 19) hx hb hU inlX11 hown hK hP 0 rfl rfl 4 (by decide) (hU _ wd_21) (fun _ h9 => h9) rfl dX11_found_6 ?_
    refine va_get (D := (dC, dI)) (ci := 10) (v := .int 0) (C := RX10) (T := TX10) (N := 3) hx hb hU inlX10 hown hK hP 1 rfl rfl 1 (by decide) (hU _ wd_708) (fun _ h9 => h9) rfl dX11_found_9 ?_
    refine lv_icmp_lt (tgt := 17) hx hb dX11_found_12 (by decide) (fun c_2 => ?_) (fun c_2 => ?_)
    · skip
      exfalso
      simp only [Int32.lt_iff_toInt_lt, Int32.le_iff_toInt_le, ← Int32.toInt_inj, ti_0] at c_1 c_2
      omega
    · skip
      refine lv_iconst (v := (-1)) hx hb dX11_found_15 (by decide) ?_
      have hP9 := hP.sub (ws' := []) [] rfl
      have hD9 := hD.sub (ws' := []) [] (by decide) rfl
      refine W.widen (k := 0) (n := 0) (Nat.le_of_ble_eq_true rfl) (Nat.le_of_ble_eq_true rfl) ?_
      exact W.iret (v := (-1)) hx hb hr (fun t ht hW => ⟨⟨(-1), [], rfl, ⟨rfl, rfl⟩, by rw [ht]; exact hP9, va_K.moved hW.alike hK, hD9⟩, hS.F ht⟩) hS.2.2 dX11_found_16
set_option maxHeartbeats 8000000 in
set_option maxRecDepth 100000 in
theorem op_X11_understand (l : Launch) (D : va_G) (cI cL cZ : ClassId) (sz : Nat) (a0 : Nat) (a1 : Nat) (a2 : Nat) (a3 : Nat) (a4 : Nat) (a5 : Nat) (a6 : Nat) (a7 : Nat) (a8 : Nat) (a9 : Nat) (a10 : Nat) (a11 : Nat) (a12 : Nat) (a13 : Nat) : mI l D cI cL cZ yX11_understand cX11_understand 4 (some .int) 2 43 0 0 [.ref a0] sz [(a0, .inr (11, [.ref a1, .int 0, .ref a2, .ref a3, .ref a4, .ref a5, .ref a6, .ref a7, .int 0, .ref a8, .ref a9, .ref a10, .int 0, .int (-1), .ref a11, .int 0, .ref a12, .ref a13, .int 0]))] (fun (r : Int32) (w1 : va_W) => r = (-1) ∧ w1 = ([] : va_W)) := by
  obtain ⟨dC, dI⟩ := D
  refine Met.ofW (cc := cX11_understand) (maxL := 4) (ret := (some .int)) (by decide) rfl ?_
  intro p e s m args below meth c s₁ B hml hv
  obtain ⟨rfl, hsz, hP, hK, hD0, hN⟩ := hv
  have hx := B.exec
  have hb := B.bytes
  have hr := B.returns
  have hU : ∀ w ∈ wsU, w.before _ s = true := fun w h => atoms_spec (ws := wU yX11_understand cX11_understand 4 (some .int)) B.pre w (List.mem_cons_of_mem _ h)
  have hown : s.vm.findClass RX11 = some m.cls := findClass_of_methodNamed B.named
  have hlocks := B.notSynchronized
  subst hsz
  have hD := hD0.self (sz := s.heap.size)
  generalize hAe : va_A [(a0, .inr (11, [.ref a1, .int 0, .ref a2, .ref a3, .ref a4, .ref a5, .ref a6, .ref a7, .int 0, .ref a8, .ref a9, .ref a10, .int 0, .int (-1), .ref a11, .int 0, .ref a12, .ref a13, .int 0]))] s.heap.size = A at hD ⊢
  have hA : ∀ q : Nat, s.heap.size ≤ q → A q := fun q h => by rw [← hAe]; exact Or.inr h
  have hS : va_S A s.heap s.heap [] := va_S.rf
  have hP : va_P (dC, dI) vwCl [(a0, .inr (11, [.ref a1, .int 0, .ref a2, .ref a3, .ref a4, .ref a5, .ref a6, .ref a7, .int 0, .ref a8, .ref a9, .ref a10, .int 0, .int (-1), .ref a11, .int 0, .ref a12, .ref a13, .int 0]))] s.heap := hP
  have hl := lv_entry ([.ref a0]) (n := 4) (Nat.le_of_ble_eq_true rfl)
  rw [lg_entry_eq]
  generalize (lg_sl ([.ref a0]) ++ List.replicate (4 - (lg_sl ([.ref a0])).length) Slot.unset).toArray = ls at hl ⊢
  have hl : lv_has ls 4 [(0, .ref a0)] := hl
  refine lv_aload_n hx hb dX11_understand_0 rfl (lv_at hl 0 rfl) ?_
  refine lv_iconst (v := 0) hx hb dX11_understand_1 (by decide) ?_
  refine va_put (D := (dC, dI)) (ci := 11) (v := .int 0) (ty := .int) (C := RX11) (T := TX11) (N := 19) hx hb hU inlX11 tyX11 tyX11_ok nmX11 hown hK hP hD hS 0 rfl rfl 12 (by decide) (hU _ wd_237) (fun _ h9 => h9) rfl (by decide +kernel) rfl rfl (Nat.le_of_ble_eq_true rfl) dX11_understand_2 (fun H locs hP hD hS => ?_)
  have hP : va_P (dC, dI) vwCl [(a0, .inr (11, [.ref a1, .int 0, .ref a2, .ref a3, .ref a4, .ref a5, .ref a6, .ref a7, .int 0, .ref a8, .ref a9, .ref a10, .int 0, .int (-1), .ref a11, .int 0, .ref a12, .ref a13, .int 0]))] H := hP
  have hD : va_D A [(a0, .inr (11, [.ref a1, .int 0, .ref a2, .ref a3, .ref a4, .ref a5, .ref a6, .ref a7, .int 0, .ref a8, .ref a9, .ref a10, .int 0, .int (-1), .ref a11, .int 0, .ref a12, .ref a13, .int 0]))] := hD
  refine lv_aload_n hx hb dX11_understand_5 rfl (lv_at hl 0 rfl) ?_
  refine tk_ri (wr := []) (tk_V (As := []) (rest := []) (n := 0) hx hb hml hown hU hN (cc_X11_takeWord_0 l (dC, dI) cI cL cZ H.size a0 a1 a2 a3 a4 a5 a6 a7 a8 a9 a10 a11 a12 a13) wd_709 wd_710 wd_711 wd_2 wd_712 (by decide +kernel) ⟨Nat.le_of_ble_eq_true rfl, Nat.le_of_ble_eq_true rfl⟩ hK hP hD [0] (by decide) rfl 0 11 rfl rfl rfl rfl hl.1 rfl (Nat.le_of_ble_eq_true rfl) dX11_understand_6 ⟨Nat.le_of_ble_eq_true rfl, Nat.le_of_ble_eq_true rfl⟩) hP hD hS hA [0] [] rfl rfl (by decide) (by decide) (fun r_1 w_2 H locs hw hP hD hS => ?_)
  obtain ⟨rfl, rfl⟩ := hw
  have hP : va_P (dC, dI) vwCl [(a0, .inr (11, [.ref a1, .int 0, .ref a2, .ref a3, .ref a4, .ref a5, .ref a6, .ref a7, .int 0, .ref a8, .ref a9, .ref a10, .int 0, .int (-1), .ref a11, .int 0, .ref a12, .ref a13, .int 0]))] H := hP
  have hD : va_D A [(a0, .inr (11, [.ref a1, .int 0, .ref a2, .ref a3, .ref a4, .ref a5, .ref a6, .ref a7, .int 0, .ref a8, .ref a9, .ref a10, .int 0, .int (-1), .ref a11, .int 0, .ref a12, .ref a13, .int 0]))] := hD
  refine lv_istore_n (lv' := [(1, .int (-1)), (0, .ref a0)]) hx hb dX11_understand_9 rfl hl (by decide) rfl (fun ls hl => ?_)
  refine lv_iload_n hx hb dX11_understand_10 rfl (lv_at hl 0 rfl) ?_
  refine lv_iconst (v := (-1)) hx hb dX11_understand_11 (by decide) ?_
  refine lv_icmp_ne (tgt := 17) hx hb dX11_understand_12 (by decide) (fun c9 => absurd (by decide) c9) (fun _ => ?_)
  refine lv_iconst (v := (-1)) hx hb dX11_understand_15 (by decide) ?_
  have hP9 := hP.sub (ws' := []) [] rfl
  have hD9 := hD.sub (ws' := []) [] (by decide) rfl
  refine W.widen (k := 0) (n := 0) (Nat.le_of_ble_eq_true rfl) (Nat.le_of_ble_eq_true rfl) ?_
  exact W.iret (v := (-1)) hx hb hr (fun t ht hW => ⟨⟨(-1), [], rfl, ⟨rfl, rfl⟩, by rw [ht]; exact hP9, va_K.moved hW.alike hK, hD9⟩, hS.F ht⟩) hS.2.2 dX11_understand_16
set_option maxHeartbeats 8000000 in
set_option maxRecDepth 100000 in
theorem op_X11_meant (l : Launch) (D : va_G) (cI cL cZ : ClassId) (sz : Nat) (a0 : Nat) (x0 : Int32) (x1 : Int32) (a1 : Nat) (a2 : Nat) (a3 : Nat) (a4 : Nat) (a5 : Nat) (a6 : Nat) (a7 : Nat) (a8 : Nat) (a9 : Nat) (a10 : Nat) (a11 : Nat) (a12 : Nat) (a13 : Nat) : mI l D cI cL cZ yX11_meant cX11_meant 3 (some .int) 0 0 0 0 [.ref a0, .int x0, .int x1] sz [(a0, .inr (11, [.ref a1, .int 0, .ref a2, .ref a3, .ref a4, .ref a5, .ref a6, .ref a7, .int 0, .ref a8, .ref a9, .ref a10, .int 0, .int (-1), .ref a11, .int 0, .ref a12, .ref a13, .int 0]))] (fun (r : Int32) (w1 : va_W) => r = (-1) ∧ w1 = ([] : va_W)) := by
  obtain ⟨dC, dI⟩ := D
  refine Met.ofW (cc := cX11_meant) (maxL := 3) (ret := (some .int)) (by decide) rfl ?_
  intro p e s m args below meth c s₁ B hml hv
  obtain ⟨rfl, hsz, hP, hK, hD0, hN⟩ := hv
  have hx := B.exec
  have hb := B.bytes
  have hr := B.returns
  have hU : ∀ w ∈ wsU, w.before _ s = true := fun w h => atoms_spec (ws := wU yX11_meant cX11_meant 3 (some .int)) B.pre w (List.mem_cons_of_mem _ h)
  have hown : s.vm.findClass RX11 = some m.cls := findClass_of_methodNamed B.named
  have hlocks := B.notSynchronized
  subst hsz
  have hD := hD0.self (sz := s.heap.size)
  generalize hAe : va_A [(a0, .inr (11, [.ref a1, .int 0, .ref a2, .ref a3, .ref a4, .ref a5, .ref a6, .ref a7, .int 0, .ref a8, .ref a9, .ref a10, .int 0, .int (-1), .ref a11, .int 0, .ref a12, .ref a13, .int 0]))] s.heap.size = A at hD ⊢
  have hA : ∀ q : Nat, s.heap.size ≤ q → A q := fun q h => by rw [← hAe]; exact Or.inr h
  have hS : va_S A s.heap s.heap [] := va_S.rf
  have hP : va_P (dC, dI) vwCl [(a0, .inr (11, [.ref a1, .int 0, .ref a2, .ref a3, .ref a4, .ref a5, .ref a6, .ref a7, .int 0, .ref a8, .ref a9, .ref a10, .int 0, .int (-1), .ref a11, .int 0, .ref a12, .ref a13, .int 0]))] s.heap := hP
  have hl := lv_entry ([.ref a0, .int x0, .int x1]) (n := 3) (Nat.le_of_ble_eq_true rfl)
  rw [lg_entry_eq]
  generalize (lg_sl ([.ref a0, .int x0, .int x1]) ++ List.replicate (3 - (lg_sl ([.ref a0, .int x0, .int x1])).length) Slot.unset).toArray = ls at hl ⊢
  have hl : lv_has ls 3 [(0, .ref a0), (1, .int x0), (2, .int x1)] := hl
  refine lv_iload_n hx hb dX11_meant_0 rfl (lv_at hl 1 rfl) ?_
  refine lv_if_lt (tgt := 21) hx hb dX11_meant_1 (by decide) (fun c_1 => ?_) (fun c_1 => ?_)
  · skip
    refine lv_iconst (v := (-1)) hx hb dX11_meant_21 (by decide) ?_
    have hP9 := hP.sub (ws' := []) [] rfl
    have hD9 := hD.sub (ws' := []) [] (by decide) rfl
    refine W.widen (k := 0) (n := 0) (Nat.le_of_ble_eq_true rfl) (Nat.le_of_ble_eq_true rfl) ?_
    exact W.iret (v := (-1)) hx hb hr (fun t ht hW => ⟨⟨(-1), [], rfl, ⟨rfl, rfl⟩, by rw [ht]; exact hP9, va_K.moved hW.alike hK, hD9⟩, hS.F ht⟩) hS.2.2 dX11_meant_22
  · skip
    refine lv_iload_n hx hb dX11_meant_4 rfl (lv_at hl 1 rfl) ?_
    refine lv_aload_n hx hb dX11_meant_5 rfl (lv_at hl 0 rfl) ?_
    refine va_get (D := (dC, dI)) (ci := 11) (v := .int 0) (C := RX11) (T := TX11) (N := 19) hx hb hU inlX11 hown hK hP 0 rfl rfl 12 (by decide) (hU _ wd_237) (fun _ h9 => h9) rfl dX11_meant_6 ?_
    refine lv_icmp_ge (tgt := 21) hx hb dX11_meant_9 (by decide) (fun c_2 => ?_) (fun c_2 => ?_)
    · skip
      refine lv_iconst (v := (-1)) hx hb dX11_meant_21 (by decide) ?_
      have hP9 := hP.sub (ws' := []) [] rfl
      have hD9 := hD.sub (ws' := []) [] (by decide) rfl
      refine W.widen (k := 0) (n := 0) (Nat.le_of_ble_eq_true rfl) (Nat.le_of_ble_eq_true rfl) ?_
      exact W.iret (v := (-1)) hx hb hr (fun t ht hW => ⟨⟨(-1), [], rfl, ⟨rfl, rfl⟩, by rw [ht]; exact hP9, va_K.moved hW.alike hK, hD9⟩, hS.F ht⟩) hS.2.2 dX11_meant_22
    · skip
      exfalso
      simp only [Int32.lt_iff_toInt_lt, Int32.le_iff_toInt_le, ← Int32.toInt_inj, ti_0] at c_1 c_2
      omega
set_option maxHeartbeats 8000000 in
set_option maxRecDepth 100000 in
theorem cc_X11_takeRow_0 (l : Launch) (D : va_G) (cI cL cZ : ClassId) (sz : Nat) (a0 : Nat) (a1 : Nat) (a2 : Nat) (a3 : Nat) (a4 : Nat) (a5 : Nat) (a6 : Nat) (a7 : Nat) (a8 : Nat) (a9 : Nat) (a10 : Nat) (a11 : Nat) (a12 : Nat) (a13 : Nat) : mI l D cI cL cZ yX11_takeRow cX11_takeRow 4 (some .int) 1 21 0 0 [.ref a0] sz [(a0, .inr (11, [.ref a1, .int 0, .ref a2, .ref a3, .ref a4, .ref a5, .ref a6, .ref a7, .int 0, .ref a8, .ref a9, .ref a10, .int 0, .int (-1), .ref a11, .int 0, .ref a12, .ref a13, .int 0]))] (fun (r : Int32) (w1 : va_W) => r = (-1) ∧ w1 = ([(a0, .inr (11, [.ref a1, .int 0, .ref a2, .ref a3, .ref a4, .ref a5, .ref a6, .ref a7, .int 0, .ref a8, .ref a9, .ref a10, .int 0, .int (-1), .ref a11, .int 0, .ref a12, .ref a13, .int 0]))] : va_W)) := by
  obtain ⟨dC, dI⟩ := D
  refine Met.ofW (cc := cX11_takeRow) (maxL := 4) (ret := (some .int)) (by decide) rfl ?_
  intro p e s m args below meth c s₁ B hml hv
  obtain ⟨rfl, hsz, hP, hK, hD0, hN⟩ := hv
  have hx := B.exec
  have hb := B.bytes
  have hr := B.returns
  have hU : ∀ w ∈ wsU, w.before _ s = true := fun w h => atoms_spec (ws := wU yX11_takeRow cX11_takeRow 4 (some .int)) B.pre w (List.mem_cons_of_mem _ h)
  have hown : s.vm.findClass RX11 = some m.cls := findClass_of_methodNamed B.named
  have hlocks := B.notSynchronized
  subst hsz
  have hD := hD0.self (sz := s.heap.size)
  generalize hAe : va_A [(a0, .inr (11, [.ref a1, .int 0, .ref a2, .ref a3, .ref a4, .ref a5, .ref a6, .ref a7, .int 0, .ref a8, .ref a9, .ref a10, .int 0, .int (-1), .ref a11, .int 0, .ref a12, .ref a13, .int 0]))] s.heap.size = A at hD ⊢
  have hA : ∀ q : Nat, s.heap.size ≤ q → A q := fun q h => by rw [← hAe]; exact Or.inr h
  have hS : va_S A s.heap s.heap [] := va_S.rf
  have hP : va_P (dC, dI) vwCl [(a0, .inr (11, [.ref a1, .int 0, .ref a2, .ref a3, .ref a4, .ref a5, .ref a6, .ref a7, .int 0, .ref a8, .ref a9, .ref a10, .int 0, .int (-1), .ref a11, .int 0, .ref a12, .ref a13, .int 0]))] s.heap := hP
  have hl := lv_entry ([.ref a0]) (n := 4) (Nat.le_of_ble_eq_true rfl)
  rw [lg_entry_eq]
  generalize (lg_sl ([.ref a0]) ++ List.replicate (4 - (lg_sl ([.ref a0])).length) Slot.unset).toArray = ls at hl ⊢
  have hl : lv_has ls 4 [(0, .ref a0)] := hl
  refine lv_aload_n hx hb dX11_takeRow_0 rfl (lv_at hl 0 rfl) ?_
  refine tk_ri (wr := []) (tk_V (As := []) (rest := []) (n := 0) hx hb hml hown hU hN (cc_X11_emptyTape_0 l (dC, dI) cI cL cZ s.heap.size a0 a1 a2 a3 a4 a5 a6 a7 a8 a9 a10 a11 a12 a13) wd_239 wd_240 wd_241 wd_2 wd_242 (by decide +kernel) ⟨Nat.le_of_ble_eq_true rfl, Nat.le_of_ble_eq_true rfl⟩ hK hP hD [0] (by decide) rfl 0 11 rfl rfl rfl rfl hl.1 rfl (Nat.le_of_ble_eq_true rfl) dX11_takeRow_1 ⟨Nat.le_of_ble_eq_true rfl, Nat.le_of_ble_eq_true rfl⟩) hP hD hS hA [0] [] rfl rfl (by decide) (by decide) (fun r_1 w_2 H locs hw hP hD hS => ?_)
  obtain ⟨rfl, rfl⟩ := hw
  have hP : va_P (dC, dI) vwCl [(a0, .inr (11, [.ref a1, .int 0, .ref a2, .ref a3, .ref a4, .ref a5, .ref a6, .ref a7, .int 0, .ref a8, .ref a9, .ref a10, .int 0, .int (-1), .ref a11, .int 0, .ref a12, .ref a13, .int 0]))] H := hP
  have hD : va_D A [(a0, .inr (11, [.ref a1, .int 0, .ref a2, .ref a3, .ref a4, .ref a5, .ref a6, .ref a7, .int 0, .ref a8, .ref a9, .ref a10, .int 0, .int (-1), .ref a11, .int 0, .ref a12, .ref a13, .int 0]))] := hD
  refine lv_istore_n (lv' := [(1, .int 0), (0, .ref a0)]) hx hb dX11_takeRow_4 rfl hl (by decide) rfl (fun ls hl => ?_)
  refine lv_iload_n hx hb dX11_takeRow_5 rfl (lv_at hl 0 rfl) ?_
  refine lv_iconst (v := 2) hx hb dX11_takeRow_6 (by decide) ?_
  refine lv_icmp_lt (tgt := 22) hx hb dX11_takeRow_7 (by decide) (fun _ => ?_) (fun c9 => absurd (by decide) c9) 
  refine lv_iconst (v := (-1)) hx hb dX11_takeRow_22 (by decide) ?_
  have hP9 := hP.sub (ws' := [(a0, .inr (11, [.ref a1, .int 0, .ref a2, .ref a3, .ref a4, .ref a5, .ref a6, .ref a7, .int 0, .ref a8, .ref a9, .ref a10, .int 0, .int (-1), .ref a11, .int 0, .ref a12, .ref a13, .int 0]))]) [0] rfl
  have hD9 := hD.sub (ws' := [(a0, .inr (11, [.ref a1, .int 0, .ref a2, .ref a3, .ref a4, .ref a5, .ref a6, .ref a7, .int 0, .ref a8, .ref a9, .ref a10, .int 0, .int (-1), .ref a11, .int 0, .ref a12, .ref a13, .int 0]))]) [0] (by decide) rfl
  refine W.widen (k := 0) (n := 0) (Nat.le_of_ble_eq_true rfl) (Nat.le_of_ble_eq_true rfl) ?_
  exact W.iret (v := (-1)) hx hb hr (fun t ht hW => ⟨⟨(-1), [(a0, .inr (11, [.ref a1, .int 0, .ref a2, .ref a3, .ref a4, .ref a5, .ref a6, .ref a7, .int 0, .ref a8, .ref a9, .ref a10, .int 0, .int (-1), .ref a11, .int 0, .ref a12, .ref a13, .int 0]))], rfl, ⟨rfl, rfl⟩, by rw [ht]; exact hP9, va_K.moved hW.alike hK, hD9⟩, hS.F ht⟩) hS.2.2 dX11_takeRow_23
set_option maxHeartbeats 8000000 in
set_option maxRecDepth 100000 in
theorem op_X11_walk (l : Launch) (D : va_G) (cI cL cZ : ClassId) (sz : Nat) (a0 : Nat) (a1 : Nat) (a2 : Nat) (a3 : Nat) (a4 : Nat) (a5 : Nat) (a6 : Nat) (a7 : Nat) (a8 : Nat) (a9 : Nat) (a10 : Nat) (a11 : Nat) (a12 : Nat) (a13 : Nat) : mI l D cI cL cZ yX11_walk cX11_walk 3 (some .int) 2 44 0 0 [.ref a0] sz [(a0, .inr (11, [.ref a1, .int 0, .ref a2, .ref a3, .ref a4, .ref a5, .ref a6, .ref a7, .int 0, .ref a8, .ref a9, .ref a10, .int 0, .int (-1), .ref a11, .int 0, .ref a12, .ref a13, .int 0]))] (fun (r : Int32) (w1 : va_W) => r = (-2) ∧ w1 = ([] : va_W)) := by
  obtain ⟨dC, dI⟩ := D
  refine Met.ofW (cc := cX11_walk) (maxL := 3) (ret := (some .int)) (by decide) rfl ?_
  intro p e s m args below meth c s₁ B hml hv
  obtain ⟨rfl, hsz, hP, hK, hD0, hN⟩ := hv
  have hx := B.exec
  have hb := B.bytes
  have hr := B.returns
  have hU : ∀ w ∈ wsU, w.before _ s = true := fun w h => atoms_spec (ws := wU yX11_walk cX11_walk 3 (some .int)) B.pre w (List.mem_cons_of_mem _ h)
  have hown : s.vm.findClass RX11 = some m.cls := findClass_of_methodNamed B.named
  have hlocks := B.notSynchronized
  subst hsz
  have hD := hD0.self (sz := s.heap.size)
  generalize hAe : va_A [(a0, .inr (11, [.ref a1, .int 0, .ref a2, .ref a3, .ref a4, .ref a5, .ref a6, .ref a7, .int 0, .ref a8, .ref a9, .ref a10, .int 0, .int (-1), .ref a11, .int 0, .ref a12, .ref a13, .int 0]))] s.heap.size = A at hD ⊢
  have hA : ∀ q : Nat, s.heap.size ≤ q → A q := fun q h => by rw [← hAe]; exact Or.inr h
  have hS : va_S A s.heap s.heap [] := va_S.rf
  have hP : va_P (dC, dI) vwCl [(a0, .inr (11, [.ref a1, .int 0, .ref a2, .ref a3, .ref a4, .ref a5, .ref a6, .ref a7, .int 0, .ref a8, .ref a9, .ref a10, .int 0, .int (-1), .ref a11, .int 0, .ref a12, .ref a13, .int 0]))] s.heap := hP
  have hl := lv_entry ([.ref a0]) (n := 3) (Nat.le_of_ble_eq_true rfl)
  rw [lg_entry_eq]
  generalize (lg_sl ([.ref a0]) ++ List.replicate (3 - (lg_sl ([.ref a0])).length) Slot.unset).toArray = ls at hl ⊢
  have hl : lv_has ls 3 [(0, .ref a0)] := hl
  refine lv_aload_n hx hb dX11_walk_0 rfl (lv_at hl 0 rfl) ?_
  refine lv_iconst (v := (-1)) hx hb dX11_walk_1 (by decide) ?_
  refine va_put (D := (dC, dI)) (ci := 11) (v := .int (-1)) (ty := .int) (C := RX11) (T := TX11) (N := 19) hx hb hU inlX11 tyX11 tyX11_ok nmX11 hown hK hP hD hS 0 rfl rfl 13 (by decide) (hU _ wd_40) (fun _ h9 => h9) rfl (by decide +kernel) rfl rfl (Nat.le_of_ble_eq_true rfl) dX11_walk_2 (fun H locs hP hD hS => ?_)
  have hP : va_P (dC, dI) vwCl [(a0, .inr (11, [.ref a1, .int 0, .ref a2, .ref a3, .ref a4, .ref a5, .ref a6, .ref a7, .int 0, .ref a8, .ref a9, .ref a10, .int 0, .int (-1), .ref a11, .int 0, .ref a12, .ref a13, .int 0]))] H := hP
  have hD : va_D A [(a0, .inr (11, [.ref a1, .int 0, .ref a2, .ref a3, .ref a4, .ref a5, .ref a6, .ref a7, .int 0, .ref a8, .ref a9, .ref a10, .int 0, .int (-1), .ref a11, .int 0, .ref a12, .ref a13, .int 0]))] := hD
  refine lv_aload_n hx hb dX11_walk_5 rfl (lv_at hl 0 rfl) ?_
  refine tk_ri (wr := []) (tk_V (As := []) (rest := []) (n := 0) hx hb hml hown hU hN (cc_X11_takeRow_0 l (dC, dI) cI cL cZ H.size a0 a1 a2 a3 a4 a5 a6 a7 a8 a9 a10 a11 a12 a13) wd_1071 wd_1072 wd_1073 wd_2 wd_1074 (by decide +kernel) ⟨Nat.le_of_ble_eq_true rfl, Nat.le_of_ble_eq_true rfl⟩ hK hP hD [0] (by decide) rfl 0 11 rfl rfl rfl rfl hl.1 rfl (Nat.le_of_ble_eq_true rfl) dX11_walk_6 ⟨Nat.le_of_ble_eq_true rfl, Nat.le_of_ble_eq_true rfl⟩) hP hD hS hA [0] [] rfl rfl (by decide) (by decide) (fun r_1 w_2 H locs hw hP hD hS => ?_)
  obtain ⟨rfl, rfl⟩ := hw
  have hP : va_P (dC, dI) vwCl [(a0, .inr (11, [.ref a1, .int 0, .ref a2, .ref a3, .ref a4, .ref a5, .ref a6, .ref a7, .int 0, .ref a8, .ref a9, .ref a10, .int 0, .int (-1), .ref a11, .int 0, .ref a12, .ref a13, .int 0]))] H := hP
  have hD : va_D A [(a0, .inr (11, [.ref a1, .int 0, .ref a2, .ref a3, .ref a4, .ref a5, .ref a6, .ref a7, .int 0, .ref a8, .ref a9, .ref a10, .int 0, .int (-1), .ref a11, .int 0, .ref a12, .ref a13, .int 0]))] := hD
  refine lv_istore_n (lv' := [(1, .int (-1)), (0, .ref a0)]) hx hb dX11_walk_9 rfl hl (by decide) rfl (fun ls hl => ?_)
  refine lv_iload_n hx hb dX11_walk_10 rfl (lv_at hl 0 rfl) ?_
  refine lv_iconst (v := (-1)) hx hb dX11_walk_11 (by decide) ?_
  refine lv_icmp_ne (tgt := 18) hx hb dX11_walk_12 (by decide) (fun c9 => absurd (by decide) c9) (fun _ => ?_)
  refine lv_bipush (v := (-2)) hx hb dX11_walk_15 (by decide) ?_
  have hP9 := hP.sub (ws' := []) [] rfl
  have hD9 := hD.sub (ws' := []) [] (by decide) rfl
  refine W.widen (k := 0) (n := 0) (Nat.le_of_ble_eq_true rfl) (Nat.le_of_ble_eq_true rfl) ?_
  exact W.iret (v := (-2)) hx hb hr (fun t ht hW => ⟨⟨(-2), [], rfl, ⟨rfl, rfl⟩, by rw [ht]; exact hP9, va_K.moved hW.alike hK, hD9⟩, hS.F ht⟩) hS.2.2 dX11_walk_17
set_option maxHeartbeats 8000000 in
set_option maxRecDepth 100000 in
theorem op_X11_where (l : Launch) (D : va_G) (cI cL cZ : ClassId) (sz : Nat) (a0 : Nat) (a1 : Nat) (a2 : Nat) (a3 : Nat) (a4 : Nat) (a5 : Nat) (a6 : Nat) (a7 : Nat) (a8 : Nat) (a9 : Nat) (a10 : Nat) (a11 : Nat) (a12 : Nat) (a13 : Nat) : mI l D cI cL cZ yX11_where cX11_where 1 (some .int) 0 0 0 0 [.ref a0] sz [(a0, .inr (11, [.ref a1, .int 0, .ref a2, .ref a3, .ref a4, .ref a5, .ref a6, .ref a7, .int 0, .ref a8, .ref a9, .ref a10, .int 0, .int (-1), .ref a11, .int 0, .ref a12, .ref a13, .int 0]))] (fun (r : Int32) (w1 : va_W) => r = (-1) ∧ w1 = ([] : va_W)) := by
  obtain ⟨dC, dI⟩ := D
  refine Met.ofW (cc := cX11_where) (maxL := 1) (ret := (some .int)) (by decide) rfl ?_
  intro p e s m args below meth c s₁ B hml hv
  obtain ⟨rfl, hsz, hP, hK, hD0, hN⟩ := hv
  have hx := B.exec
  have hb := B.bytes
  have hr := B.returns
  have hU : ∀ w ∈ wsU, w.before _ s = true := fun w h => atoms_spec (ws := wU yX11_where cX11_where 1 (some .int)) B.pre w (List.mem_cons_of_mem _ h)
  have hown : s.vm.findClass RX11 = some m.cls := findClass_of_methodNamed B.named
  have hlocks := B.notSynchronized
  subst hsz
  have hD := hD0.self (sz := s.heap.size)
  generalize hAe : va_A [(a0, .inr (11, [.ref a1, .int 0, .ref a2, .ref a3, .ref a4, .ref a5, .ref a6, .ref a7, .int 0, .ref a8, .ref a9, .ref a10, .int 0, .int (-1), .ref a11, .int 0, .ref a12, .ref a13, .int 0]))] s.heap.size = A at hD ⊢
  have hA : ∀ q : Nat, s.heap.size ≤ q → A q := fun q h => by rw [← hAe]; exact Or.inr h
  have hS : va_S A s.heap s.heap [] := va_S.rf
  have hP : va_P (dC, dI) vwCl [(a0, .inr (11, [.ref a1, .int 0, .ref a2, .ref a3, .ref a4, .ref a5, .ref a6, .ref a7, .int 0, .ref a8, .ref a9, .ref a10, .int 0, .int (-1), .ref a11, .int 0, .ref a12, .ref a13, .int 0]))] s.heap := hP
  have hl := lv_entry ([.ref a0]) (n := 1) (Nat.le_of_ble_eq_true rfl)
  rw [lg_entry_eq]
  generalize (lg_sl ([.ref a0]) ++ List.replicate (1 - (lg_sl ([.ref a0])).length) Slot.unset).toArray = ls at hl ⊢
  have hl : lv_has ls 1 [(0, .ref a0)] := hl
  refine lv_aload_n hx hb dX11_where_0 rfl (lv_at hl 0 rfl) ?_
  refine va_get (D := (dC, dI)) (ci := 11) (v := .int (-1)) (C := RX11) (T := TX11) (N := 19) hx hb hU inlX11 hown hK hP 0 rfl rfl 13 (by decide) (hU _ wd_40) (fun _ h9 => h9) rfl dX11_where_1 ?_
  have hP9 := hP.sub (ws' := []) [] rfl
  have hD9 := hD.sub (ws' := []) [] (by decide) rfl
  refine W.widen (k := 0) (n := 0) (Nat.le_of_ble_eq_true rfl) (Nat.le_of_ble_eq_true rfl) ?_
  exact W.iret (v := (-1)) hx hb hr (fun t ht hW => ⟨⟨(-1), [], rfl, ⟨rfl, rfl⟩, by rw [ht]; exact hP9, va_K.moved hW.alike hK, hD9⟩, hS.F ht⟩) hS.2.2 dX11_where_4
set_option maxHeartbeats 8000000 in
set_option maxRecDepth 100000 in
theorem op_X11_ages (l : Launch) (D : va_G) (cI cL cZ : ClassId) (sz : Nat) (a0 : Nat) (a1 : Nat) (a2 : Nat) (a3 : Nat) (a4 : Nat) (a5 : Nat) (a6 : Nat) (a7 : Nat) (a8 : Nat) (a9 : Nat) (a10 : Nat) (a11 : Nat) (a12 : Nat) (a13 : Nat) : mI l D cI cL cZ yX11_ages cX11_ages 4 (some .int) 2 43 0 0 [.ref a0] sz [(a0, .inr (11, [.ref a1, .int 0, .ref a2, .ref a3, .ref a4, .ref a5, .ref a6, .ref a7, .int 0, .ref a8, .ref a9, .ref a10, .int 0, .int (-1), .ref a11, .int 0, .ref a12, .ref a13, .int 0]))] (fun (r : Int32) (w1 : va_W) => r = (-1) ∧ w1 = ([] : va_W)) := by
  obtain ⟨dC, dI⟩ := D
  refine Met.ofW (cc := cX11_ages) (maxL := 4) (ret := (some .int)) (by decide) rfl ?_
  intro p e s m args below meth c s₁ B hml hv
  obtain ⟨rfl, hsz, hP, hK, hD0, hN⟩ := hv
  have hx := B.exec
  have hb := B.bytes
  have hr := B.returns
  have hU : ∀ w ∈ wsU, w.before _ s = true := fun w h => atoms_spec (ws := wU yX11_ages cX11_ages 4 (some .int)) B.pre w (List.mem_cons_of_mem _ h)
  have hown : s.vm.findClass RX11 = some m.cls := findClass_of_methodNamed B.named
  have hlocks := B.notSynchronized
  subst hsz
  have hD := hD0.self (sz := s.heap.size)
  generalize hAe : va_A [(a0, .inr (11, [.ref a1, .int 0, .ref a2, .ref a3, .ref a4, .ref a5, .ref a6, .ref a7, .int 0, .ref a8, .ref a9, .ref a10, .int 0, .int (-1), .ref a11, .int 0, .ref a12, .ref a13, .int 0]))] s.heap.size = A at hD ⊢
  have hA : ∀ q : Nat, s.heap.size ≤ q → A q := fun q h => by rw [← hAe]; exact Or.inr h
  have hS : va_S A s.heap s.heap [] := va_S.rf
  have hP : va_P (dC, dI) vwCl [(a0, .inr (11, [.ref a1, .int 0, .ref a2, .ref a3, .ref a4, .ref a5, .ref a6, .ref a7, .int 0, .ref a8, .ref a9, .ref a10, .int 0, .int (-1), .ref a11, .int 0, .ref a12, .ref a13, .int 0]))] s.heap := hP
  have hl := lv_entry ([.ref a0]) (n := 4) (Nat.le_of_ble_eq_true rfl)
  rw [lg_entry_eq]
  generalize (lg_sl ([.ref a0]) ++ List.replicate (4 - (lg_sl ([.ref a0])).length) Slot.unset).toArray = ls at hl ⊢
  have hl : lv_has ls 4 [(0, .ref a0)] := hl
  refine lv_aload_n hx hb dX11_ages_0 rfl (lv_at hl 0 rfl) ?_
  refine lv_iconst (v := 0) hx hb dX11_ages_1 (by decide) ?_
  refine va_put (D := (dC, dI)) (ci := 11) (v := .int 0) (ty := .int) (C := RX11) (T := TX11) (N := 19) hx hb hU inlX11 tyX11 tyX11_ok nmX11 hown hK hP hD hS 0 rfl rfl 15 (by decide) (hU _ wd_238) (fun _ h9 => h9) rfl (by decide +kernel) rfl rfl (Nat.le_of_ble_eq_true rfl) dX11_ages_2 (fun H locs hP hD hS => ?_)
  have hP : va_P (dC, dI) vwCl [(a0, .inr (11, [.ref a1, .int 0, .ref a2, .ref a3, .ref a4, .ref a5, .ref a6, .ref a7, .int 0, .ref a8, .ref a9, .ref a10, .int 0, .int (-1), .ref a11, .int 0, .ref a12, .ref a13, .int 0]))] H := hP
  have hD : va_D A [(a0, .inr (11, [.ref a1, .int 0, .ref a2, .ref a3, .ref a4, .ref a5, .ref a6, .ref a7, .int 0, .ref a8, .ref a9, .ref a10, .int 0, .int (-1), .ref a11, .int 0, .ref a12, .ref a13, .int 0]))] := hD
  refine lv_aload_n hx hb dX11_ages_5 rfl (lv_at hl 0 rfl) ?_
  refine tk_ri (wr := []) (tk_V (As := []) (rest := []) (n := 0) hx hb hml hown hU hN (cc_X11_takeWord_0 l (dC, dI) cI cL cZ H.size a0 a1 a2 a3 a4 a5 a6 a7 a8 a9 a10 a11 a12 a13) wd_709 wd_710 wd_711 wd_2 wd_712 (by decide +kernel) ⟨Nat.le_of_ble_eq_true rfl, Nat.le_of_ble_eq_true rfl⟩ hK hP hD [0] (by decide) rfl 0 11 rfl rfl rfl rfl hl.1 rfl (Nat.le_of_ble_eq_true rfl) dX11_ages_6 ⟨Nat.le_of_ble_eq_true rfl, Nat.le_of_ble_eq_true rfl⟩) hP hD hS hA [0] [] rfl rfl (by decide) (by decide) (fun r_1 w_2 H locs hw hP hD hS => ?_)
  obtain ⟨rfl, rfl⟩ := hw
  have hP : va_P (dC, dI) vwCl [(a0, .inr (11, [.ref a1, .int 0, .ref a2, .ref a3, .ref a4, .ref a5, .ref a6, .ref a7, .int 0, .ref a8, .ref a9, .ref a10, .int 0, .int (-1), .ref a11, .int 0, .ref a12, .ref a13, .int 0]))] H := hP
  have hD : va_D A [(a0, .inr (11, [.ref a1, .int 0, .ref a2, .ref a3, .ref a4, .ref a5, .ref a6, .ref a7, .int 0, .ref a8, .ref a9, .ref a10, .int 0, .int (-1), .ref a11, .int 0, .ref a12, .ref a13, .int 0]))] := hD
  refine lv_istore_n (lv' := [(1, .int (-1)), (0, .ref a0)]) hx hb dX11_ages_9 rfl hl (by decide) rfl (fun ls hl => ?_)
  refine lv_iload_n hx hb dX11_ages_10 rfl (lv_at hl 0 rfl) ?_
  refine lv_iconst (v := (-1)) hx hb dX11_ages_11 (by decide) ?_
  refine lv_icmp_ne (tgt := 17) hx hb dX11_ages_12 (by decide) (fun c9 => absurd (by decide) c9) (fun _ => ?_)
  refine lv_iconst (v := (-1)) hx hb dX11_ages_15 (by decide) ?_
  have hP9 := hP.sub (ws' := []) [] rfl
  have hD9 := hD.sub (ws' := []) [] (by decide) rfl
  refine W.widen (k := 0) (n := 0) (Nat.le_of_ble_eq_true rfl) (Nat.le_of_ble_eq_true rfl) ?_
  exact W.iret (v := (-1)) hx hb hr (fun t ht hW => ⟨⟨(-1), [], rfl, ⟨rfl, rfl⟩, by rw [ht]; exact hP9, va_K.moved hW.alike hK, hD9⟩, hS.F ht⟩) hS.2.2 dX11_ages_16
set_option maxHeartbeats 8000000 in
set_option maxRecDepth 100000 in
theorem op_X11_aged (l : Launch) (D : va_G) (cI cL cZ : ClassId) (sz : Nat) (a0 : Nat) (x0 : Int32) (a1 : Nat) (a2 : Nat) (a3 : Nat) (a4 : Nat) (a5 : Nat) (a6 : Nat) (a7 : Nat) (a8 : Nat) (a9 : Nat) (a10 : Nat) (a11 : Nat) (a12 : Nat) (a13 : Nat) : mI l D cI cL cZ yX11_aged cX11_aged 2 (some .int) 0 0 0 0 [.ref a0, .int x0] sz [(a0, .inr (11, [.ref a1, .int 0, .ref a2, .ref a3, .ref a4, .ref a5, .ref a6, .ref a7, .int 0, .ref a8, .ref a9, .ref a10, .int 0, .int (-1), .ref a11, .int 0, .ref a12, .ref a13, .int 0]))] (fun (r : Int32) (w1 : va_W) => r = (-1) ∧ w1 = ([] : va_W)) := by
  obtain ⟨dC, dI⟩ := D
  refine Met.ofW (cc := cX11_aged) (maxL := 2) (ret := (some .int)) (by decide) rfl ?_
  intro p e s m args below meth c s₁ B hml hv
  obtain ⟨rfl, hsz, hP, hK, hD0, hN⟩ := hv
  have hx := B.exec
  have hb := B.bytes
  have hr := B.returns
  have hU : ∀ w ∈ wsU, w.before _ s = true := fun w h => atoms_spec (ws := wU yX11_aged cX11_aged 2 (some .int)) B.pre w (List.mem_cons_of_mem _ h)
  have hown : s.vm.findClass RX11 = some m.cls := findClass_of_methodNamed B.named
  have hlocks := B.notSynchronized
  subst hsz
  have hD := hD0.self (sz := s.heap.size)
  generalize hAe : va_A [(a0, .inr (11, [.ref a1, .int 0, .ref a2, .ref a3, .ref a4, .ref a5, .ref a6, .ref a7, .int 0, .ref a8, .ref a9, .ref a10, .int 0, .int (-1), .ref a11, .int 0, .ref a12, .ref a13, .int 0]))] s.heap.size = A at hD ⊢
  have hA : ∀ q : Nat, s.heap.size ≤ q → A q := fun q h => by rw [← hAe]; exact Or.inr h
  have hS : va_S A s.heap s.heap [] := va_S.rf
  have hP : va_P (dC, dI) vwCl [(a0, .inr (11, [.ref a1, .int 0, .ref a2, .ref a3, .ref a4, .ref a5, .ref a6, .ref a7, .int 0, .ref a8, .ref a9, .ref a10, .int 0, .int (-1), .ref a11, .int 0, .ref a12, .ref a13, .int 0]))] s.heap := hP
  have hl := lv_entry ([.ref a0, .int x0]) (n := 2) (Nat.le_of_ble_eq_true rfl)
  rw [lg_entry_eq]
  generalize (lg_sl ([.ref a0, .int x0]) ++ List.replicate (2 - (lg_sl ([.ref a0, .int x0])).length) Slot.unset).toArray = ls at hl ⊢
  have hl : lv_has ls 2 [(0, .ref a0), (1, .int x0)] := hl
  refine lv_iload_n hx hb dX11_aged_0 rfl (lv_at hl 1 rfl) ?_
  refine lv_if_lt (tgt := 12) hx hb dX11_aged_1 (by decide) (fun c_1 => ?_) (fun c_1 => ?_)
  · skip
    refine lv_iconst (v := (-1)) hx hb dX11_aged_12 (by decide) ?_
    refine lv_goto (tgt := 24) hx hb dX11_aged_13 (by decide) ?_
    have hP9 := hP.sub (ws' := []) [] rfl
    have hD9 := hD.sub (ws' := []) [] (by decide) rfl
    refine W.widen (k := 0) (n := 0) (Nat.le_of_ble_eq_true rfl) (Nat.le_of_ble_eq_true rfl) ?_
    exact W.iret (v := (-1)) hx hb hr (fun t ht hW => ⟨⟨(-1), [], rfl, ⟨rfl, rfl⟩, by rw [ht]; exact hP9, va_K.moved hW.alike hK, hD9⟩, hS.F ht⟩) hS.2.2 dX11_aged_24
  · skip
    refine lv_iload_n hx hb dX11_aged_4 rfl (lv_at hl 1 rfl) ?_
    refine lv_aload_n hx hb dX11_aged_5 rfl (lv_at hl 0 rfl) ?_
    refine va_get (D := (dC, dI)) (ci := 11) (v := .int 0) (C := RX11) (T := TX11) (N := 19) hx hb hU inlX11 hown hK hP 0 rfl rfl 15 (by decide) (hU _ wd_238) (fun _ h9 => h9) rfl dX11_aged_6 ?_
    refine lv_icmp_lt (tgt := 16) hx hb dX11_aged_9 (by decide) (fun c_2 => ?_) (fun c_2 => ?_)
    · skip
      exfalso
      simp only [Int32.lt_iff_toInt_lt, Int32.le_iff_toInt_le, ← Int32.toInt_inj, ti_0] at c_1 c_2
      omega
    · skip
      refine lv_iconst (v := (-1)) hx hb dX11_aged_12 (by decide) ?_
      refine lv_goto (tgt := 24) hx hb dX11_aged_13 (by decide) ?_
      have hP9 := hP.sub (ws' := []) [] rfl
      have hD9 := hD.sub (ws' := []) [] (by decide) rfl
      refine W.widen (k := 0) (n := 0) (Nat.le_of_ble_eq_true rfl) (Nat.le_of_ble_eq_true rfl) ?_
      exact W.iret (v := (-1)) hx hb hr (fun t ht hW => ⟨⟨(-1), [], rfl, ⟨rfl, rfl⟩, by rw [ht]; exact hP9, va_K.moved hW.alike hK, hD9⟩, hS.F ht⟩) hS.2.2 dX11_aged_24
set_option maxHeartbeats 8000000 in
set_option maxRecDepth 100000 in
theorem cc_X11_isRule_0 (l : Launch) (D : va_G) (cI cL cZ : ClassId) (sz : Nat) (a0 : Nat) (x0 : Int32) (a1 : Nat) (a2 : Nat) (a3 : Nat) (a4 : Nat) (a5 : Nat) (a6 : Nat) (a7 : Nat) (a8 : Nat) (a9 : Nat) (a10 : Nat) (a11 : Nat) (a12 : Nat) (a13 : Nat) (a14 : Nat) (a15 : Nat) (a16 : Nat) (a17 : Nat) (a18 : Nat) (a19 : Nat) (a20 : Nat) (a21 : Nat) (a22 : Nat) (a23 : Nat) (a24 : Nat) (a25 : Nat) (a26 : Nat) : mI l D cI cL cZ yX11_isRule cX11_isRule 2 (some .boolean) 0 0 0 0 [.ref a0, .int x0] sz [(a0, .inr (11, [.ref a1, .int 0, .ref a2, .ref a3, .ref a4, .ref a5, .ref a6, .ref a7, .int 0, .ref a8, .ref a9, .ref a10, .int 0, .int (-1), .ref a11, .int 0, .ref a12, .ref a13, .int 0])), (a3, .inr (7, [.ref a14, .int 0, .ref a15, .ref a16, .ref a17, .ref a18, .int 0, .ref a19, .ref a20, .ref a21, .ref a22, .ref a23, .int 0, .ref a24, .ref a25, .ref a26]))] (fun (r : Int32) (w1 : va_W) => r = 0 ∧ w1 = ([(a0, .inr (11, [.ref a1, .int 0, .ref a2, .ref a3, .ref a4, .ref a5, .ref a6, .ref a7, .int 0, .ref a8, .ref a9, .ref a10, .int 0, .int (-1), .ref a11, .int 0, .ref a12, .ref a13, .int 0])), (a3, .inr (7, [.ref a14, .int 0, .ref a15, .ref a16, .ref a17, .ref a18, .int 0, .ref a19, .ref a20, .ref a21, .ref a22, .ref a23, .int 0, .ref a24, .ref a25, .ref a26]))] : va_W)) := by
  obtain ⟨dC, dI⟩ := D
  refine Met.ofW (cc := cX11_isRule) (maxL := 2) (ret := (some .boolean)) (by decide) rfl ?_
  intro p e s m args below meth c s₁ B hml hv
  obtain ⟨rfl, hsz, hP, hK, hD0, hN⟩ := hv
  have hx := B.exec
  have hb := B.bytes
  have hr := B.returns
  have hU : ∀ w ∈ wsU, w.before _ s = true := fun w h => atoms_spec (ws := wU yX11_isRule cX11_isRule 2 (some .boolean)) B.pre w (List.mem_cons_of_mem _ h)
  have hown : s.vm.findClass RX11 = some m.cls := findClass_of_methodNamed B.named
  have hlocks := B.notSynchronized
  subst hsz
  have hD := hD0.self (sz := s.heap.size)
  generalize hAe : va_A [(a0, .inr (11, [.ref a1, .int 0, .ref a2, .ref a3, .ref a4, .ref a5, .ref a6, .ref a7, .int 0, .ref a8, .ref a9, .ref a10, .int 0, .int (-1), .ref a11, .int 0, .ref a12, .ref a13, .int 0])), (a3, .inr (7, [.ref a14, .int 0, .ref a15, .ref a16, .ref a17, .ref a18, .int 0, .ref a19, .ref a20, .ref a21, .ref a22, .ref a23, .int 0, .ref a24, .ref a25, .ref a26]))] s.heap.size = A at hD ⊢
  have hA : ∀ q : Nat, s.heap.size ≤ q → A q := fun q h => by rw [← hAe]; exact Or.inr h
  have hS : va_S A s.heap s.heap [] := va_S.rf
  have hP : va_P (dC, dI) vwCl [(a0, .inr (11, [.ref a1, .int 0, .ref a2, .ref a3, .ref a4, .ref a5, .ref a6, .ref a7, .int 0, .ref a8, .ref a9, .ref a10, .int 0, .int (-1), .ref a11, .int 0, .ref a12, .ref a13, .int 0])), (a3, .inr (7, [.ref a14, .int 0, .ref a15, .ref a16, .ref a17, .ref a18, .int 0, .ref a19, .ref a20, .ref a21, .ref a22, .ref a23, .int 0, .ref a24, .ref a25, .ref a26]))] s.heap := hP
  have hl := lv_entry ([.ref a0, .int x0]) (n := 2) (Nat.le_of_ble_eq_true rfl)
  rw [lg_entry_eq]
  generalize (lg_sl ([.ref a0, .int x0]) ++ List.replicate (2 - (lg_sl ([.ref a0, .int x0])).length) Slot.unset).toArray = ls at hl ⊢
  have hl : lv_has ls 2 [(0, .ref a0), (1, .int x0)] := hl
  refine lv_iload_n hx hb dX11_isRule_0 rfl (lv_at hl 1 rfl) ?_
  refine lv_if_lt (tgt := 19) hx hb dX11_isRule_1 (by decide) (fun c_1 => ?_) (fun c_1 => ?_)
  · skip
    refine lv_iconst (v := 0) hx hb dX11_isRule_19 (by decide) ?_
    have hP9 := hP.sub (ws' := [(a0, .inr (11, [.ref a1, .int 0, .ref a2, .ref a3, .ref a4, .ref a5, .ref a6, .ref a7, .int 0, .ref a8, .ref a9, .ref a10, .int 0, .int (-1), .ref a11, .int 0, .ref a12, .ref a13, .int 0])), (a3, .inr (7, [.ref a14, .int 0, .ref a15, .ref a16, .ref a17, .ref a18, .int 0, .ref a19, .ref a20, .ref a21, .ref a22, .ref a23, .int 0, .ref a24, .ref a25, .ref a26]))]) [0, 1] rfl
    have hD9 := hD.sub (ws' := [(a0, .inr (11, [.ref a1, .int 0, .ref a2, .ref a3, .ref a4, .ref a5, .ref a6, .ref a7, .int 0, .ref a8, .ref a9, .ref a10, .int 0, .int (-1), .ref a11, .int 0, .ref a12, .ref a13, .int 0])), (a3, .inr (7, [.ref a14, .int 0, .ref a15, .ref a16, .ref a17, .ref a18, .int 0, .ref a19, .ref a20, .ref a21, .ref a22, .ref a23, .int 0, .ref a24, .ref a25, .ref a26]))]) [0, 1] (by decide) rfl
    refine W.widen (k := 0) (n := 0) (Nat.le_of_ble_eq_true rfl) (Nat.le_of_ble_eq_true rfl) ?_
    exact W.zret (v := 0) (ty := .boolean) hx hb hr rfl (fun t ht hW => ⟨⟨0, [(a0, .inr (11, [.ref a1, .int 0, .ref a2, .ref a3, .ref a4, .ref a5, .ref a6, .ref a7, .int 0, .ref a8, .ref a9, .ref a10, .int 0, .int (-1), .ref a11, .int 0, .ref a12, .ref a13, .int 0])), (a3, .inr (7, [.ref a14, .int 0, .ref a15, .ref a16, .ref a17, .ref a18, .int 0, .ref a19, .ref a20, .ref a21, .ref a22, .ref a23, .int 0, .ref a24, .ref a25, .ref a26]))], rfl, ⟨rfl, rfl⟩, by rw [ht]; exact hP9, va_K.moved hW.alike hK, hD9⟩, hS.F ht⟩) hS.2.2 dX11_isRule_20
  · skip
    refine lv_iload_n hx hb dX11_isRule_4 rfl (lv_at hl 1 rfl) ?_
    refine lv_aload_n hx hb dX11_isRule_5 rfl (lv_at hl 0 rfl) ?_
    refine va_get (D := (dC, dI)) (ci := 11) (v := .ref a3) (C := RX11) (T := TX11) (N := 19) hx hb hU inlX11 hown hK hP 0 rfl rfl 3 (by decide) (hU _ wd_19) (fun _ h9 => h9) rfl dX11_isRule_6 ?_
    refine va_get (D := (dC, dI)) (ci := 7) (v := .int 0) (C := RX7) (T := TX7) (N := 16) hx hb hU inlX7 hown hK hP 1 rfl rfl 12 (by decide) (hU _ wd_235) (fun _ h9 => h9) rfl dX11_isRule_9 ?_
    refine lv_icmp_ge (tgt := 19) hx hb dX11_isRule_12 (by decide) (fun c_2 => ?_) (fun c_2 => ?_)
    · skip
      refine lv_iconst (v := 0) hx hb dX11_isRule_19 (by decide) ?_
      have hP9 := hP.sub (ws' := [(a0, .inr (11, [.ref a1, .int 0, .ref a2, .ref a3, .ref a4, .ref a5, .ref a6, .ref a7, .int 0, .ref a8, .ref a9, .ref a10, .int 0, .int (-1), .ref a11, .int 0, .ref a12, .ref a13, .int 0])), (a3, .inr (7, [.ref a14, .int 0, .ref a15, .ref a16, .ref a17, .ref a18, .int 0, .ref a19, .ref a20, .ref a21, .ref a22, .ref a23, .int 0, .ref a24, .ref a25, .ref a26]))]) [0, 1] rfl
      have hD9 := hD.sub (ws' := [(a0, .inr (11, [.ref a1, .int 0, .ref a2, .ref a3, .ref a4, .ref a5, .ref a6, .ref a7, .int 0, .ref a8, .ref a9, .ref a10, .int 0, .int (-1), .ref a11, .int 0, .ref a12, .ref a13, .int 0])), (a3, .inr (7, [.ref a14, .int 0, .ref a15, .ref a16, .ref a17, .ref a18, .int 0, .ref a19, .ref a20, .ref a21, .ref a22, .ref a23, .int 0, .ref a24, .ref a25, .ref a26]))]) [0, 1] (by decide) rfl
      refine W.widen (k := 0) (n := 0) (Nat.le_of_ble_eq_true rfl) (Nat.le_of_ble_eq_true rfl) ?_
      exact W.zret (v := 0) (ty := .boolean) hx hb hr rfl (fun t ht hW => ⟨⟨0, [(a0, .inr (11, [.ref a1, .int 0, .ref a2, .ref a3, .ref a4, .ref a5, .ref a6, .ref a7, .int 0, .ref a8, .ref a9, .ref a10, .int 0, .int (-1), .ref a11, .int 0, .ref a12, .ref a13, .int 0])), (a3, .inr (7, [.ref a14, .int 0, .ref a15, .ref a16, .ref a17, .ref a18, .int 0, .ref a19, .ref a20, .ref a21, .ref a22, .ref a23, .int 0, .ref a24, .ref a25, .ref a26]))], rfl, ⟨rfl, rfl⟩, by rw [ht]; exact hP9, va_K.moved hW.alike hK, hD9⟩, hS.F ht⟩) hS.2.2 dX11_isRule_20
    · skip
      exfalso
      simp only [Int32.lt_iff_toInt_lt, Int32.le_iff_toInt_le, ← Int32.toInt_inj, ti_0] at c_1 c_2
      omega
set_option maxHeartbeats 8000000 in
set_option maxRecDepth 100000 in
theorem op_X11_order (l : Launch) (D : va_G) (cI cL cZ : ClassId) (sz : Nat) (a0 : Nat) (x0 : Int32) (x1 : Int32) (a1 : Nat) (a2 : Nat) (a3 : Nat) (a4 : Nat) (a5 : Nat) (a6 : Nat) (a7 : Nat) (a8 : Nat) (a9 : Nat) (a10 : Nat) (a11 : Nat) (a12 : Nat) (a13 : Nat) (a14 : Nat) (a15 : Nat) (a16 : Nat) (a17 : Nat) (a18 : Nat) (a19 : Nat) (a20 : Nat) (a21 : Nat) (a22 : Nat) (a23 : Nat) (a24 : Nat) (a25 : Nat) (a26 : Nat) : mI l D cI cL cZ yX11_order cX11_order 3 (some .boolean) 1 21 0 0 [.ref a0, .int x0, .int x1] sz [(a0, .inr (11, [.ref a1, .int 0, .ref a2, .ref a3, .ref a4, .ref a5, .ref a6, .ref a7, .int 0, .ref a8, .ref a9, .ref a10, .int 0, .int (-1), .ref a11, .int 0, .ref a12, .ref a13, .int 0])), (a3, .inr (7, [.ref a14, .int 0, .ref a15, .ref a16, .ref a17, .ref a18, .int 0, .ref a19, .ref a20, .ref a21, .ref a22, .ref a23, .int 0, .ref a24, .ref a25, .ref a26]))] (fun (r : Int32) (w1 : va_W) => r = 0 ∧ w1 = ([] : va_W)) := by
  obtain ⟨dC, dI⟩ := D
  refine Met.ofW (cc := cX11_order) (maxL := 3) (ret := (some .boolean)) (by decide) rfl ?_
  intro p e s m args below meth c s₁ B hml hv
  obtain ⟨rfl, hsz, hP, hK, hD0, hN⟩ := hv
  have hx := B.exec
  have hb := B.bytes
  have hr := B.returns
  have hU : ∀ w ∈ wsU, w.before _ s = true := fun w h => atoms_spec (ws := wU yX11_order cX11_order 3 (some .boolean)) B.pre w (List.mem_cons_of_mem _ h)
  have hown : s.vm.findClass RX11 = some m.cls := findClass_of_methodNamed B.named
  have hlocks := B.notSynchronized
  subst hsz
  have hD := hD0.self (sz := s.heap.size)
  generalize hAe : va_A [(a0, .inr (11, [.ref a1, .int 0, .ref a2, .ref a3, .ref a4, .ref a5, .ref a6, .ref a7, .int 0, .ref a8, .ref a9, .ref a10, .int 0, .int (-1), .ref a11, .int 0, .ref a12, .ref a13, .int 0])), (a3, .inr (7, [.ref a14, .int 0, .ref a15, .ref a16, .ref a17, .ref a18, .int 0, .ref a19, .ref a20, .ref a21, .ref a22, .ref a23, .int 0, .ref a24, .ref a25, .ref a26]))] s.heap.size = A at hD ⊢
  have hA : ∀ q : Nat, s.heap.size ≤ q → A q := fun q h => by rw [← hAe]; exact Or.inr h
  have hS : va_S A s.heap s.heap [] := va_S.rf
  have hP : va_P (dC, dI) vwCl [(a0, .inr (11, [.ref a1, .int 0, .ref a2, .ref a3, .ref a4, .ref a5, .ref a6, .ref a7, .int 0, .ref a8, .ref a9, .ref a10, .int 0, .int (-1), .ref a11, .int 0, .ref a12, .ref a13, .int 0])), (a3, .inr (7, [.ref a14, .int 0, .ref a15, .ref a16, .ref a17, .ref a18, .int 0, .ref a19, .ref a20, .ref a21, .ref a22, .ref a23, .int 0, .ref a24, .ref a25, .ref a26]))] s.heap := hP
  have hl := lv_entry ([.ref a0, .int x0, .int x1]) (n := 3) (Nat.le_of_ble_eq_true rfl)
  rw [lg_entry_eq]
  generalize (lg_sl ([.ref a0, .int x0, .int x1]) ++ List.replicate (3 - (lg_sl ([.ref a0, .int x0, .int x1])).length) Slot.unset).toArray = ls at hl ⊢
  have hl : lv_has ls 3 [(0, .ref a0), (1, .int x0), (2, .int x1)] := hl
  refine lv_aload_n hx hb dX11_order_0 rfl (lv_at hl 0 rfl) ?_
  refine lv_iload_n hx hb dX11_order_1 rfl (lv_at hl 1 rfl) ?_
  refine tk_ri (wr := []) (tk_V (As := [.int x0]) (rest := []) (n := 1) hx hb hml hown hU hN (cc_X11_isRule_0 l (dC, dI) cI cL cZ s.heap.size a0 x0 a1 a2 a3 a4 a5 a6 a7 a8 a9 a10 a11 a12 a13 a14 a15 a16 a17 a18 a19 a20 a21 a22 a23 a24 a25 a26) wd_1135 wd_1136 wd_1137 wd_2 wd_1138 (by decide +kernel) ⟨Nat.le_of_ble_eq_true rfl, Nat.le_of_ble_eq_true rfl⟩ hK hP hD [0, 1] (by decide) rfl 0 11 rfl rfl rfl rfl hl.1 rfl (Nat.le_of_ble_eq_true rfl) dX11_order_2 ⟨Nat.le_of_ble_eq_true rfl, Nat.le_of_ble_eq_true rfl⟩) hP hD hS hA [0, 1] [] rfl rfl (by decide) (by decide) (fun r_1 w_2 H locs hw hP hD hS => ?_)
  obtain ⟨rfl, rfl⟩ := hw
  have hP : va_P (dC, dI) vwCl [(a0, .inr (11, [.ref a1, .int 0, .ref a2, .ref a3, .ref a4, .ref a5, .ref a6, .ref a7, .int 0, .ref a8, .ref a9, .ref a10, .int 0, .int (-1), .ref a11, .int 0, .ref a12, .ref a13, .int 0])), (a3, .inr (7, [.ref a14, .int 0, .ref a15, .ref a16, .ref a17, .ref a18, .int 0, .ref a19, .ref a20, .ref a21, .ref a22, .ref a23, .int 0, .ref a24, .ref a25, .ref a26]))] H := hP
  have hD : va_D A [(a0, .inr (11, [.ref a1, .int 0, .ref a2, .ref a3, .ref a4, .ref a5, .ref a6, .ref a7, .int 0, .ref a8, .ref a9, .ref a10, .int 0, .int (-1), .ref a11, .int 0, .ref a12, .ref a13, .int 0])), (a3, .inr (7, [.ref a14, .int 0, .ref a15, .ref a16, .ref a17, .ref a18, .int 0, .ref a19, .ref a20, .ref a21, .ref a22, .ref a23, .int 0, .ref a24, .ref a25, .ref a26]))] := hD
  refine lv_if_eq (tgt := 16) hx hb dX11_order_5 (by decide) (fun _ => ?_) (fun c9 => absurd (by decide) c9) 
  refine lv_iconst (v := 0) hx hb dX11_order_16 (by decide) ?_
  have hP9 := hP.sub (ws' := []) [] rfl
  have hD9 := hD.sub (ws' := []) [] (by decide) rfl
  refine W.widen (k := 0) (n := 0) (Nat.le_of_ble_eq_true rfl) (Nat.le_of_ble_eq_true rfl) ?_
  exact W.zret (v := 0) (ty := .boolean) hx hb hr rfl (fun t ht hW => ⟨⟨0, [], rfl, ⟨rfl, rfl⟩, by rw [ht]; exact hP9, va_K.moved hW.alike hK, hD9⟩, hS.F ht⟩) hS.2.2 dX11_order_17
set_option maxHeartbeats 8000000 in
set_option maxRecDepth 100000 in
theorem cc_X7_pairOf_0 (l : Launch) (D : va_G) (cI cL cZ : ClassId) (sz : Nat) (a0 : Nat) (x0 : Int32) (x1 : Int32) (a1 : Nat) (a2 : Nat) (a3 : Nat) (a4 : Nat) (a5 : Nat) (a6 : Nat) (a7 : Nat) (a8 : Nat) (a9 : Nat) (a10 : Nat) (a11 : Nat) (a12 : Nat) (a13 : Nat) : mI l D cI cL cZ yX7_pairOf cX7_pairOf 3 (some .int) 0 0 0 0 [.ref a0, .int x0, .int x1] sz [(a0, .inr (7, [.ref a1, .int 0, .ref a2, .ref a3, .ref a4, .ref a5, .int 0, .ref a6, .ref a7, .ref a8, .ref a9, .ref a10, .int 0, .ref a11, .ref a12, .ref a13])), (a3, .inl (cI, 81, .inl z0))] (fun (r : Int32) (w1 : va_W) => r = (-1) ∧ w1 = ([(a0, .inr (7, [.ref a1, .int 0, .ref a2, .ref a3, .ref a4, .ref a5, .int 0, .ref a6, .ref a7, .ref a8, .ref a9, .ref a10, .int 0, .ref a11, .ref a12, .ref a13])), (a3, .inl (cI, 81, .inl z0))] : va_W)) := by
  obtain ⟨dC, dI⟩ := D
  refine Met.ofW (cc := cX7_pairOf) (maxL := 3) (ret := (some .int)) (by decide) rfl ?_
  intro p e s m args below meth c s₁ B hml hv
  obtain ⟨rfl, hsz, hP, hK, hD0, hN⟩ := hv
  have hx := B.exec
  have hb := B.bytes
  have hr := B.returns
  have hU : ∀ w ∈ wsU, w.before _ s = true := fun w h => atoms_spec (ws := wU yX7_pairOf cX7_pairOf 3 (some .int)) B.pre w (List.mem_cons_of_mem _ h)
  have hown : s.vm.findClass RX7 = some m.cls := findClass_of_methodNamed B.named
  have hlocks := B.notSynchronized
  subst hsz
  have hD := hD0.self (sz := s.heap.size)
  generalize hAe : va_A [(a0, .inr (7, [.ref a1, .int 0, .ref a2, .ref a3, .ref a4, .ref a5, .int 0, .ref a6, .ref a7, .ref a8, .ref a9, .ref a10, .int 0, .ref a11, .ref a12, .ref a13])), (a3, .inl (cI, 81, .inl z0))] s.heap.size = A at hD ⊢
  have hA : ∀ q : Nat, s.heap.size ≤ q → A q := fun q h => by rw [← hAe]; exact Or.inr h
  have hS : va_S A s.heap s.heap [] := va_S.rf
  have hP : va_P (dC, dI) vwCl [(a0, .inr (7, [.ref a1, .int 0, .ref a2, .ref a3, .ref a4, .ref a5, .int 0, .ref a6, .ref a7, .ref a8, .ref a9, .ref a10, .int 0, .ref a11, .ref a12, .ref a13])), (a3, .inl (cI, 81, .inl z0))] s.heap := hP
  have hl := lv_entry ([.ref a0, .int x0, .int x1]) (n := 3) (Nat.le_of_ble_eq_true rfl)
  rw [lg_entry_eq]
  generalize (lg_sl ([.ref a0, .int x0, .int x1]) ++ List.replicate (3 - (lg_sl ([.ref a0, .int x0, .int x1])).length) Slot.unset).toArray = ls at hl ⊢
  have hl : lv_has ls 3 [(0, .ref a0), (1, .int x0), (2, .int x1)] := hl
  by_cases c_1 : x0 = 0
  · subst c_1
    by_cases c_2 : x1 = 0
    · subst c_2
      refine lv_iload_n hx hb dX7_pairOf_0 rfl (lv_at hl 1 rfl) ?_
      refine lv_if_lt (tgt := 24) hx hb dX7_pairOf_1 (by decide) (fun c9 => absurd c9 (by decide)) (fun _ => ?_)
      refine lv_iload_n hx hb dX7_pairOf_4 rfl (lv_at hl 1 rfl) ?_
      refine lv_aload_n hx hb dX7_pairOf_5 rfl (lv_at hl 0 rfl) ?_
      refine va_get (D := (dC, dI)) (ci := 7) (v := .int 0) (C := RX7) (T := TX7) (N := 16) hx hb hU inlX7 hown hK hP 0 rfl rfl 1 (by decide) (hU _ wd_262) (fun _ h9 => h9) rfl dX7_pairOf_6 ?_
      refine lv_icmp_gt (tgt := 24) hx hb dX7_pairOf_9 (by decide) (fun c9 => absurd c9 (by decide)) (fun _ => ?_)
      refine lv_iload_n hx hb dX7_pairOf_12 rfl (lv_at hl 2 rfl) ?_
      refine lv_if_lt (tgt := 24) hx hb dX7_pairOf_13 (by decide) (fun c9 => absurd c9 (by decide)) (fun _ => ?_)
      refine lv_iload_n hx hb dX7_pairOf_16 rfl (lv_at hl 2 rfl) ?_
      refine lv_aload_n hx hb dX7_pairOf_17 rfl (lv_at hl 0 rfl) ?_
      refine va_get (D := (dC, dI)) (ci := 7) (v := .int 0) (C := RX7) (T := TX7) (N := 16) hx hb hU inlX7 hown hK hP 0 rfl rfl 1 (by decide) (hU _ wd_262) (fun _ h9 => h9) rfl dX7_pairOf_18 ?_
      refine lv_icmp_le (tgt := 26) hx hb dX7_pairOf_21 (by decide) (fun _ => ?_) (fun c9 => absurd (by decide) c9) 
      refine lv_aload_n hx hb dX7_pairOf_26 rfl (lv_at hl 0 rfl) ?_
      refine va_get (D := (dC, dI)) (ci := 7) (v := .ref a3) (C := RX7) (T := TX7) (N := 16) hx hb hU inlX7 hown hK hP 0 rfl rfl 3 (by decide) (hU _ wd_74) (fun _ h9 => h9) rfl dX7_pairOf_27 ?_
      refine lv_iload_n hx hb dX7_pairOf_30 rfl (lv_at hl 1 rfl) ?_
      refine lv_bipush (v := 9) hx hb dX7_pairOf_31 (by decide) ?_
      refine lv_imul hx hb dX7_pairOf_33 ?_
      refine tk_topi (y := 0) (by decide) ?_
      refine lv_iload_n hx hb dX7_pairOf_34 rfl (lv_at hl 2 rfl) ?_
      refine lv_iadd hx hb dX7_pairOf_35 ?_
      refine tk_topi (y := 0) (by decide) ?_
      refine va_iald hx hb hK hP 1 0 rfl rfl (vp_in_nI (n := 0) (by decide) (by decide)) dX7_pairOf_36 ?_
      refine tk_topi (y := 0) rfl ?_
      refine lv_iconst (v := 1) hx hb dX7_pairOf_37 (by decide) ?_
      refine lv_isub hx hb dX7_pairOf_38 ?_
      refine tk_topi (y := (-1)) (by decide) ?_
      have hP9 := hP.sub (ws' := [(a0, .inr (7, [.ref a1, .int 0, .ref a2, .ref a3, .ref a4, .ref a5, .int 0, .ref a6, .ref a7, .ref a8, .ref a9, .ref a10, .int 0, .ref a11, .ref a12, .ref a13])), (a3, .inl (cI, 81, .inl z0))]) [0, 1] rfl
      have hD9 := hD.sub (ws' := [(a0, .inr (7, [.ref a1, .int 0, .ref a2, .ref a3, .ref a4, .ref a5, .int 0, .ref a6, .ref a7, .ref a8, .ref a9, .ref a10, .int 0, .ref a11, .ref a12, .ref a13])), (a3, .inl (cI, 81, .inl z0))]) [0, 1] (by decide) rfl
      refine W.widen (k := 0) (n := 0) (Nat.le_of_ble_eq_true rfl) (Nat.le_of_ble_eq_true rfl) ?_
      exact W.iret (v := (-1)) hx hb hr (fun t ht hW => ⟨⟨(-1), [(a0, .inr (7, [.ref a1, .int 0, .ref a2, .ref a3, .ref a4, .ref a5, .int 0, .ref a6, .ref a7, .ref a8, .ref a9, .ref a10, .int 0, .ref a11, .ref a12, .ref a13])), (a3, .inl (cI, 81, .inl z0))], rfl, ⟨rfl, rfl⟩, by rw [ht]; exact hP9, va_K.moved hW.alike hK, hD9⟩, hS.F ht⟩) hS.2.2 dX7_pairOf_39
    refine lv_iload_n hx hb dX7_pairOf_0 rfl (lv_at hl 1 rfl) ?_
    refine lv_if_lt (tgt := 24) hx hb dX7_pairOf_1 (by decide) (fun c9 => absurd c9 (by decide)) (fun _ => ?_)
    refine lv_iload_n hx hb dX7_pairOf_4 rfl (lv_at hl 1 rfl) ?_
    refine lv_aload_n hx hb dX7_pairOf_5 rfl (lv_at hl 0 rfl) ?_
    refine va_get (D := (dC, dI)) (ci := 7) (v := .int 0) (C := RX7) (T := TX7) (N := 16) hx hb hU inlX7 hown hK hP 0 rfl rfl 1 (by decide) (hU _ wd_262) (fun _ h9 => h9) rfl dX7_pairOf_6 ?_
    refine lv_icmp_gt (tgt := 24) hx hb dX7_pairOf_9 (by decide) (fun c9 => absurd c9 (by decide)) (fun _ => ?_)
    refine lv_iload_n hx hb dX7_pairOf_12 rfl (lv_at hl 2 rfl) ?_
    refine lv_if_lt (tgt := 24) hx hb dX7_pairOf_13 (by decide) (fun c_3 => ?_) (fun c_3 => ?_)
    · skip
      refine lv_iconst (v := (-1)) hx hb dX7_pairOf_24 (by decide) ?_
      have hP9 := hP.sub (ws' := [(a0, .inr (7, [.ref a1, .int 0, .ref a2, .ref a3, .ref a4, .ref a5, .int 0, .ref a6, .ref a7, .ref a8, .ref a9, .ref a10, .int 0, .ref a11, .ref a12, .ref a13])), (a3, .inl (cI, 81, .inl z0))]) [0, 1] rfl
      have hD9 := hD.sub (ws' := [(a0, .inr (7, [.ref a1, .int 0, .ref a2, .ref a3, .ref a4, .ref a5, .int 0, .ref a6, .ref a7, .ref a8, .ref a9, .ref a10, .int 0, .ref a11, .ref a12, .ref a13])), (a3, .inl (cI, 81, .inl z0))]) [0, 1] (by decide) rfl
      refine W.widen (k := 0) (n := 0) (Nat.le_of_ble_eq_true rfl) (Nat.le_of_ble_eq_true rfl) ?_
      exact W.iret (v := (-1)) hx hb hr (fun t ht hW => ⟨⟨(-1), [(a0, .inr (7, [.ref a1, .int 0, .ref a2, .ref a3, .ref a4, .ref a5, .int 0, .ref a6, .ref a7, .ref a8, .ref a9, .ref a10, .int 0, .ref a11, .ref a12, .ref a13])), (a3, .inl (cI, 81, .inl z0))], rfl, ⟨rfl, rfl⟩, by rw [ht]; exact hP9, va_K.moved hW.alike hK, hD9⟩, hS.F ht⟩) hS.2.2 dX7_pairOf_25
    · skip
      refine lv_iload_n hx hb dX7_pairOf_16 rfl (lv_at hl 2 rfl) ?_
      refine lv_aload_n hx hb dX7_pairOf_17 rfl (lv_at hl 0 rfl) ?_
      refine va_get (D := (dC, dI)) (ci := 7) (v := .int 0) (C := RX7) (T := TX7) (N := 16) hx hb hU inlX7 hown hK hP 0 rfl rfl 1 (by decide) (hU _ wd_262) (fun _ h9 => h9) rfl dX7_pairOf_18 ?_
      refine lv_icmp_le (tgt := 26) hx hb dX7_pairOf_21 (by decide) (fun c_4 => ?_) (fun c_4 => ?_)
      · skip
        exfalso
        simp only [Int32.lt_iff_toInt_lt, Int32.le_iff_toInt_le, ← Int32.toInt_inj, ti_0] at c_2 c_3 c_4
        omega
      · skip
        refine lv_iconst (v := (-1)) hx hb dX7_pairOf_24 (by decide) ?_
        have hP9 := hP.sub (ws' := [(a0, .inr (7, [.ref a1, .int 0, .ref a2, .ref a3, .ref a4, .ref a5, .int 0, .ref a6, .ref a7, .ref a8, .ref a9, .ref a10, .int 0, .ref a11, .ref a12, .ref a13])), (a3, .inl (cI, 81, .inl z0))]) [0, 1] rfl
        have hD9 := hD.sub (ws' := [(a0, .inr (7, [.ref a1, .int 0, .ref a2, .ref a3, .ref a4, .ref a5, .int 0, .ref a6, .ref a7, .ref a8, .ref a9, .ref a10, .int 0, .ref a11, .ref a12, .ref a13])), (a3, .inl (cI, 81, .inl z0))]) [0, 1] (by decide) rfl
        refine W.widen (k := 0) (n := 0) (Nat.le_of_ble_eq_true rfl) (Nat.le_of_ble_eq_true rfl) ?_
        exact W.iret (v := (-1)) hx hb hr (fun t ht hW => ⟨⟨(-1), [(a0, .inr (7, [.ref a1, .int 0, .ref a2, .ref a3, .ref a4, .ref a5, .int 0, .ref a6, .ref a7, .ref a8, .ref a9, .ref a10, .int 0, .ref a11, .ref a12, .ref a13])), (a3, .inl (cI, 81, .inl z0))], rfl, ⟨rfl, rfl⟩, by rw [ht]; exact hP9, va_K.moved hW.alike hK, hD9⟩, hS.F ht⟩) hS.2.2 dX7_pairOf_25
  refine lv_iload_n hx hb dX7_pairOf_0 rfl (lv_at hl 1 rfl) ?_
  refine lv_if_lt (tgt := 24) hx hb dX7_pairOf_1 (by decide) (fun c_5 => ?_) (fun c_5 => ?_)
  · skip
    refine lv_iconst (v := (-1)) hx hb dX7_pairOf_24 (by decide) ?_
    have hP9 := hP.sub (ws' := [(a0, .inr (7, [.ref a1, .int 0, .ref a2, .ref a3, .ref a4, .ref a5, .int 0, .ref a6, .ref a7, .ref a8, .ref a9, .ref a10, .int 0, .ref a11, .ref a12, .ref a13])), (a3, .inl (cI, 81, .inl z0))]) [0, 1] rfl
    have hD9 := hD.sub (ws' := [(a0, .inr (7, [.ref a1, .int 0, .ref a2, .ref a3, .ref a4, .ref a5, .int 0, .ref a6, .ref a7, .ref a8, .ref a9, .ref a10, .int 0, .ref a11, .ref a12, .ref a13])), (a3, .inl (cI, 81, .inl z0))]) [0, 1] (by decide) rfl
    refine W.widen (k := 0) (n := 0) (Nat.le_of_ble_eq_true rfl) (Nat.le_of_ble_eq_true rfl) ?_
    exact W.iret (v := (-1)) hx hb hr (fun t ht hW => ⟨⟨(-1), [(a0, .inr (7, [.ref a1, .int 0, .ref a2, .ref a3, .ref a4, .ref a5, .int 0, .ref a6, .ref a7, .ref a8, .ref a9, .ref a10, .int 0, .ref a11, .ref a12, .ref a13])), (a3, .inl (cI, 81, .inl z0))], rfl, ⟨rfl, rfl⟩, by rw [ht]; exact hP9, va_K.moved hW.alike hK, hD9⟩, hS.F ht⟩) hS.2.2 dX7_pairOf_25
  · skip
    refine lv_iload_n hx hb dX7_pairOf_4 rfl (lv_at hl 1 rfl) ?_
    refine lv_aload_n hx hb dX7_pairOf_5 rfl (lv_at hl 0 rfl) ?_
    refine va_get (D := (dC, dI)) (ci := 7) (v := .int 0) (C := RX7) (T := TX7) (N := 16) hx hb hU inlX7 hown hK hP 0 rfl rfl 1 (by decide) (hU _ wd_262) (fun _ h9 => h9) rfl dX7_pairOf_6 ?_
    refine lv_icmp_gt (tgt := 24) hx hb dX7_pairOf_9 (by decide) (fun c_6 => ?_) (fun c_6 => ?_)
    · skip
      refine lv_iconst (v := (-1)) hx hb dX7_pairOf_24 (by decide) ?_
      have hP9 := hP.sub (ws' := [(a0, .inr (7, [.ref a1, .int 0, .ref a2, .ref a3, .ref a4, .ref a5, .int 0, .ref a6, .ref a7, .ref a8, .ref a9, .ref a10, .int 0, .ref a11, .ref a12, .ref a13])), (a3, .inl (cI, 81, .inl z0))]) [0, 1] rfl
      have hD9 := hD.sub (ws' := [(a0, .inr (7, [.ref a1, .int 0, .ref a2, .ref a3, .ref a4, .ref a5, .int 0, .ref a6, .ref a7, .ref a8, .ref a9, .ref a10, .int 0, .ref a11, .ref a12, .ref a13])), (a3, .inl (cI, 81, .inl z0))]) [0, 1] (by decide) rfl
      refine W.widen (k := 0) (n := 0) (Nat.le_of_ble_eq_true rfl) (Nat.le_of_ble_eq_true rfl) ?_
      exact W.iret (v := (-1)) hx hb hr (fun t ht hW => ⟨⟨(-1), [(a0, .inr (7, [.ref a1, .int 0, .ref a2, .ref a3, .ref a4, .ref a5, .int 0, .ref a6, .ref a7, .ref a8, .ref a9, .ref a10, .int 0, .ref a11, .ref a12, .ref a13])), (a3, .inl (cI, 81, .inl z0))], rfl, ⟨rfl, rfl⟩, by rw [ht]; exact hP9, va_K.moved hW.alike hK, hD9⟩, hS.F ht⟩) hS.2.2 dX7_pairOf_25
    · skip
      exfalso
      simp only [Int32.lt_iff_toInt_lt, Int32.le_iff_toInt_le, ← Int32.toInt_inj, ti_0] at c_1 c_5 c_6
      omega
set_option maxHeartbeats 8000000 in
set_option maxRecDepth 100000 in
theorem op_X11_lives (l : Launch) (D : va_G) (cI cL cZ : ClassId) (sz : Nat) (a0 : Nat) (x0 : Int32) (x1 : Int32) (x2 : Int32) (a1 : Nat) (a2 : Nat) (a3 : Nat) (a4 : Nat) (a5 : Nat) (a6 : Nat) (a7 : Nat) (a8 : Nat) (a9 : Nat) (a10 : Nat) (a11 : Nat) (a12 : Nat) (a13 : Nat) (a14 : Nat) (a15 : Nat) (a16 : Nat) (a17 : Nat) (a18 : Nat) (a19 : Nat) (a20 : Nat) (a21 : Nat) (a22 : Nat) (a23 : Nat) (a24 : Nat) (a25 : Nat) (a26 : Nat) : mI l D cI cL cZ yX11_lives cX11_lives 8 (some .int) 1 22 0 0 [.ref a0, .int x0, .int x1, .int x2] sz [(a0, .inr (11, [.ref a1, .int 0, .ref a2, .ref a3, .ref a4, .ref a5, .ref a6, .ref a7, .int 0, .ref a8, .ref a9, .ref a10, .int 0, .int (-1), .ref a11, .int 0, .ref a12, .ref a13, .int 0])), (a3, .inr (7, [.ref a14, .int 0, .ref a15, .ref a16, .ref a17, .ref a18, .int 0, .ref a19, .ref a20, .ref a21, .ref a22, .ref a23, .int 0, .ref a24, .ref a25, .ref a26])), (a16, .inl (cI, 81, .inl z0))] (fun (r : Int32) (w1 : va_W) => r = (-1) ∧ w1 = ([] : va_W)) := by
  obtain ⟨dC, dI⟩ := D
  refine Met.ofW (cc := cX11_lives) (maxL := 8) (ret := (some .int)) (by decide) rfl ?_
  intro p e s m args below meth c s₁ B hml hv
  obtain ⟨rfl, hsz, hP, hK, hD0, hN⟩ := hv
  have hx := B.exec
  have hb := B.bytes
  have hr := B.returns
  have hU : ∀ w ∈ wsU, w.before _ s = true := fun w h => atoms_spec (ws := wU yX11_lives cX11_lives 8 (some .int)) B.pre w (List.mem_cons_of_mem _ h)
  have hown : s.vm.findClass RX11 = some m.cls := findClass_of_methodNamed B.named
  have hlocks := B.notSynchronized
  subst hsz
  have hD := hD0.self (sz := s.heap.size)
  generalize hAe : va_A [(a0, .inr (11, [.ref a1, .int 0, .ref a2, .ref a3, .ref a4, .ref a5, .ref a6, .ref a7, .int 0, .ref a8, .ref a9, .ref a10, .int 0, .int (-1), .ref a11, .int 0, .ref a12, .ref a13, .int 0])), (a3, .inr (7, [.ref a14, .int 0, .ref a15, .ref a16, .ref a17, .ref a18, .int 0, .ref a19, .ref a20, .ref a21, .ref a22, .ref a23, .int 0, .ref a24, .ref a25, .ref a26])), (a16, .inl (cI, 81, .inl z0))] s.heap.size = A at hD ⊢
  have hA : ∀ q : Nat, s.heap.size ≤ q → A q := fun q h => by rw [← hAe]; exact Or.inr h
  have hS : va_S A s.heap s.heap [] := va_S.rf
  have hP : va_P (dC, dI) vwCl [(a0, .inr (11, [.ref a1, .int 0, .ref a2, .ref a3, .ref a4, .ref a5, .ref a6, .ref a7, .int 0, .ref a8, .ref a9, .ref a10, .int 0, .int (-1), .ref a11, .int 0, .ref a12, .ref a13, .int 0])), (a3, .inr (7, [.ref a14, .int 0, .ref a15, .ref a16, .ref a17, .ref a18, .int 0, .ref a19, .ref a20, .ref a21, .ref a22, .ref a23, .int 0, .ref a24, .ref a25, .ref a26])), (a16, .inl (cI, 81, .inl z0))] s.heap := hP
  have hl := lv_entry ([.ref a0, .int x0, .int x1, .int x2]) (n := 8) (Nat.le_of_ble_eq_true rfl)
  rw [lg_entry_eq]
  generalize (lg_sl ([.ref a0, .int x0, .int x1, .int x2]) ++ List.replicate (8 - (lg_sl ([.ref a0, .int x0, .int x1, .int x2])).length) Slot.unset).toArray = ls at hl ⊢
  have hl : lv_has ls 8 [(0, .ref a0), (1, .int x0), (2, .int x1), (3, .int x2)] := hl
  refine lv_aload_n hx hb dX11_lives_0 rfl (lv_at hl 0 rfl) ?_
  refine va_get (D := (dC, dI)) (ci := 11) (v := .ref a3) (C := RX11) (T := TX11) (N := 19) hx hb hU inlX11 hown hK hP 0 rfl rfl 3 (by decide) (hU _ wd_19) (fun _ h9 => h9) rfl dX11_lives_1 ?_
  refine lv_iload_n hx hb dX11_lives_4 rfl (lv_at hl 1 rfl) ?_
  refine lv_iload_n hx hb dX11_lives_5 rfl (lv_at hl 2 rfl) ?_
  refine tk_ri (wr := [(a0, .inr (11, [.ref a1, .int 0, .ref a2, .ref a3, .ref a4, .ref a5, .ref a6, .ref a7, .int 0, .ref a8, .ref a9, .ref a10, .int 0, .int (-1), .ref a11, .int 0, .ref a12, .ref a13, .int 0]))]) (tk_V (As := [.int x0, .int x1]) (rest := []) (n := 2) hx hb hml hown hU hN (cc_X7_pairOf_0 l (dC, dI) cI cL cZ s.heap.size a3 x0 x1 a14 a15 a16 a17 a18 a19 a20 a21 a22 a23 a24 a25 a26) wd_1079 wd_393 wd_394 wd_28 wd_395 (by decide +kernel) ⟨Nat.le_of_ble_eq_true rfl, Nat.le_of_ble_eq_true rfl⟩ hK hP hD [1, 2] (by decide) rfl 0 7 rfl rfl rfl rfl hl.1 rfl (Nat.le_of_ble_eq_true rfl) dX11_lives_6 ⟨Nat.le_of_ble_eq_true rfl, Nat.le_of_ble_eq_true rfl⟩) hP hD hS hA [1, 2] [0] rfl rfl (by decide) (by decide) (fun r_1 w_2 H locs hw hP hD hS => ?_)
  obtain ⟨rfl, rfl⟩ := hw
  have hP : va_P (dC, dI) vwCl [(a0, .inr (11, [.ref a1, .int 0, .ref a2, .ref a3, .ref a4, .ref a5, .ref a6, .ref a7, .int 0, .ref a8, .ref a9, .ref a10, .int 0, .int (-1), .ref a11, .int 0, .ref a12, .ref a13, .int 0])), (a3, .inr (7, [.ref a14, .int 0, .ref a15, .ref a16, .ref a17, .ref a18, .int 0, .ref a19, .ref a20, .ref a21, .ref a22, .ref a23, .int 0, .ref a24, .ref a25, .ref a26])), (a16, .inl (cI, 81, .inl z0))] H := hP
  have hD : va_D A [(a0, .inr (11, [.ref a1, .int 0, .ref a2, .ref a3, .ref a4, .ref a5, .ref a6, .ref a7, .int 0, .ref a8, .ref a9, .ref a10, .int 0, .int (-1), .ref a11, .int 0, .ref a12, .ref a13, .int 0])), (a3, .inr (7, [.ref a14, .int 0, .ref a15, .ref a16, .ref a17, .ref a18, .int 0, .ref a19, .ref a20, .ref a21, .ref a22, .ref a23, .int 0, .ref a24, .ref a25, .ref a26])), (a16, .inl (cI, 81, .inl z0))] := hD
  refine lv_istore (lv' := [(4, .int (-1)), (0, .ref a0), (1, .int x0), (2, .int x1), (3, .int x2)]) hx hb dX11_lives_9 hl (by decide) rfl (fun ls hl => ?_)
  refine lv_iload hx hb dX11_lives_11 (lv_at hl 0 rfl) ?_
  refine lv_iconst (v := (-1)) hx hb dX11_lives_13 (by decide) ?_
  refine lv_icmp_eq (tgt := 27) hx hb dX11_lives_14 (by decide) (fun _ => ?_) (fun c9 => absurd (by decide) c9) 
  refine lv_iconst (v := (-1)) hx hb dX11_lives_27 (by decide) ?_
  have hP9 := hP.sub (ws' := []) [] rfl
  have hD9 := hD.sub (ws' := []) [] (by decide) rfl
  refine W.widen (k := 0) (n := 0) (Nat.le_of_ble_eq_true rfl) (Nat.le_of_ble_eq_true rfl) ?_
  exact W.iret (v := (-1)) hx hb hr (fun t ht hW => ⟨⟨(-1), [], rfl, ⟨rfl, rfl⟩, by rw [ht]; exact hP9, va_K.moved hW.alike hK, hD9⟩, hS.F ht⟩) hS.2.2 dX11_lives_28
set_option maxHeartbeats 8000000 in
set_option maxRecDepth 100000 in
theorem cc_J6_bitCount_0f7a4_0 (l : Launch) (D : va_G) (cI cL cZ : ClassId) (sz : Nat)  : mI l D cI cL cZ yJ6_bitCount_0f7a4 cJ6_bitCount_0f7a4 1 (some .int) 0 0 0 0 [.int 0] sz [] (fun (r : Int32) (w1 : va_W) => r = 0 ∧ w1 = ([] : va_W)) := by
  obtain ⟨dC, dI⟩ := D
  refine Met.ofW (cc := cJ6_bitCount_0f7a4) (maxL := 1) (ret := (some .int)) (by decide) rfl ?_
  intro p e s m args below meth c s₁ B hml hv
  obtain ⟨rfl, hsz, hP, hK, hD0, hN⟩ := hv
  have hx := B.exec
  have hb := B.bytes
  have hr := B.returns
  have hU : ∀ w ∈ wsU, w.before _ s = true := fun w h => atoms_spec (ws := wU yJ6_bitCount_0f7a4 cJ6_bitCount_0f7a4 1 (some .int)) B.pre w (List.mem_cons_of_mem _ h)
  have hown : s.vm.findClass RJ6 = some m.cls := findClass_of_methodNamed B.named
  have hlocks := B.notSynchronized
  subst hsz
  have hD := hD0.self (sz := s.heap.size)
  generalize hAe : va_A [] s.heap.size = A at hD ⊢
  have hA : ∀ q : Nat, s.heap.size ≤ q → A q := fun q h => by rw [← hAe]; exact Or.inr h
  have hS : va_S A s.heap s.heap [] := va_S.rf
  have hP : va_P (dC, dI) vwCl [] s.heap := hP
  have hl := lv_entry ([.int 0]) (n := 1) (Nat.le_of_ble_eq_true rfl)
  rw [lg_entry_eq]
  generalize (lg_sl ([.int 0]) ++ List.replicate (1 - (lg_sl ([.int 0])).length) Slot.unset).toArray = ls at hl ⊢
  have hl : lv_has ls 1 [(0, .int 0)] := hl
  refine lv_iload_n hx hb dJ6_bitCount_0f7a4_0 rfl (lv_at hl 0 rfl) ?_
  refine lv_iload_n hx hb dJ6_bitCount_0f7a4_1 rfl (lv_at hl 0 rfl) ?_
  refine lv_iconst (v := 1) hx hb dJ6_bitCount_0f7a4_2 (by decide) ?_
  refine lv_iushr (v := 0) hx hb dJ6_bitCount_0f7a4_3 (by decide) ?_
  refine lv_ldcw (v := 1431655765) hx hb hown (hU _ wd_1187) dJ6_bitCount_0f7a4_4 ?_
  refine lv_iand hx hb dJ6_bitCount_0f7a4_7 ?_
  refine tk_topi (y := 0) (by decide) ?_
  refine lv_isub hx hb dJ6_bitCount_0f7a4_8 ?_
  refine tk_topi (y := 0) (by decide) ?_
  refine lv_istore_n (lv' := [(0, .int 0)]) hx hb dJ6_bitCount_0f7a4_9 rfl hl (by decide) rfl (fun ls hl => ?_)
  refine lv_iload_n hx hb dJ6_bitCount_0f7a4_10 rfl (lv_at hl 0 rfl) ?_
  refine lv_ldcw (v := 858993459) hx hb hown (hU _ wd_1188) dJ6_bitCount_0f7a4_11 ?_
  refine lv_iand hx hb dJ6_bitCount_0f7a4_14 ?_
  refine tk_topi (y := 0) (by decide) ?_
  refine lv_iload_n hx hb dJ6_bitCount_0f7a4_15 rfl (lv_at hl 0 rfl) ?_
  refine lv_iconst (v := 2) hx hb dJ6_bitCount_0f7a4_16 (by decide) ?_
  refine lv_iushr (v := 0) hx hb dJ6_bitCount_0f7a4_17 (by decide) ?_
  refine lv_ldcw (v := 858993459) hx hb hown (hU _ wd_1188) dJ6_bitCount_0f7a4_18 ?_
  refine lv_iand hx hb dJ6_bitCount_0f7a4_21 ?_
  refine tk_topi (y := 0) (by decide) ?_
  refine lv_iadd hx hb dJ6_bitCount_0f7a4_22 ?_
  refine tk_topi (y := 0) (by decide) ?_
  refine lv_istore_n (lv' := [(0, .int 0)]) hx hb dJ6_bitCount_0f7a4_23 rfl hl (by decide) rfl (fun ls hl => ?_)
  refine lv_iload_n hx hb dJ6_bitCount_0f7a4_24 rfl (lv_at hl 0 rfl) ?_
  refine lv_iload_n hx hb dJ6_bitCount_0f7a4_25 rfl (lv_at hl 0 rfl) ?_
  refine lv_iconst (v := 4) hx hb dJ6_bitCount_0f7a4_26 (by decide) ?_
  refine lv_iushr (v := 0) hx hb dJ6_bitCount_0f7a4_27 (by decide) ?_
  refine lv_iadd hx hb dJ6_bitCount_0f7a4_28 ?_
  refine tk_topi (y := 0) (by decide) ?_
  refine lv_ldcw (v := 252645135) hx hb hown (hU _ wd_1189) dJ6_bitCount_0f7a4_29 ?_
  refine lv_iand hx hb dJ6_bitCount_0f7a4_32 ?_
  refine tk_topi (y := 0) (by decide) ?_
  refine lv_istore_n (lv' := [(0, .int 0)]) hx hb dJ6_bitCount_0f7a4_33 rfl hl (by decide) rfl (fun ls hl => ?_)
  refine lv_iload_n hx hb dJ6_bitCount_0f7a4_34 rfl (lv_at hl 0 rfl) ?_
  refine lv_iload_n hx hb dJ6_bitCount_0f7a4_35 rfl (lv_at hl 0 rfl) ?_
  refine lv_bipush (v := 8) hx hb dJ6_bitCount_0f7a4_36 (by decide) ?_
  refine lv_iushr (v := 0) hx hb dJ6_bitCount_0f7a4_38 (by decide) ?_
  refine lv_iadd hx hb dJ6_bitCount_0f7a4_39 ?_
  refine tk_topi (y := 0) (by decide) ?_
  refine lv_istore_n (lv' := [(0, .int 0)]) hx hb dJ6_bitCount_0f7a4_40 rfl hl (by decide) rfl (fun ls hl => ?_)
  refine lv_iload_n hx hb dJ6_bitCount_0f7a4_41 rfl (lv_at hl 0 rfl) ?_
  refine lv_iload_n hx hb dJ6_bitCount_0f7a4_42 rfl (lv_at hl 0 rfl) ?_
  refine lv_bipush (v := 16) hx hb dJ6_bitCount_0f7a4_43 (by decide) ?_
  refine lv_iushr (v := 0) hx hb dJ6_bitCount_0f7a4_45 (by decide) ?_
  refine lv_iadd hx hb dJ6_bitCount_0f7a4_46 ?_
  refine tk_topi (y := 0) (by decide) ?_
  refine lv_istore_n (lv' := [(0, .int 0)]) hx hb dJ6_bitCount_0f7a4_47 rfl hl (by decide) rfl (fun ls hl => ?_)
  refine lv_iload_n hx hb dJ6_bitCount_0f7a4_48 rfl (lv_at hl 0 rfl) ?_
  refine lv_bipush (v := 63) hx hb dJ6_bitCount_0f7a4_49 (by decide) ?_
  refine lv_iand hx hb dJ6_bitCount_0f7a4_51 ?_
  refine tk_topi (y := 0) (by decide) ?_
  have hP9 := hP.sub (ws' := []) [] rfl
  have hD9 := hD.sub (ws' := []) [] (by decide) rfl
  refine W.widen (k := 0) (n := 0) (Nat.le_of_ble_eq_true rfl) (Nat.le_of_ble_eq_true rfl) ?_
  exact W.iret (v := 0) hx hb hr (fun t ht hW => ⟨⟨0, [], rfl, ⟨rfl, rfl⟩, by rw [ht]; exact hP9, va_K.moved hW.alike hK, hD9⟩, hS.F ht⟩) hS.2.2 dJ6_bitCount_0f7a4_52
set_option maxHeartbeats 8000000 in
set_option maxRecDepth 100000 in
theorem cc_X0_fillAgrees_0 (l : Launch) (D : va_G) (cI cL cZ : ClassId) (sz : Nat) (a0 : Nat) (a1 : Nat) (a2 : Nat) (a3 : Nat) (a4 : Nat) (a5 : Nat) (a6 : Nat) (a7 : Nat) (a8 : Nat) (a9 : Nat) (a10 : Nat) (a11 : Nat) (a12 : Nat) (a13 : Nat) (a14 : Nat) (a15 : Nat) (a16 : Nat) (a17 : Nat) (a18 : Nat) (a19 : Nat) (a20 : Nat) (a21 : Nat) (a22 : Nat) (a23 : Nat) (a24 : Nat) (a25 : Nat) (a26 : Nat) (a27 : Nat) (a28 : Nat) (a29 : Nat) (a30 : Nat) (a31 : Nat) (a32 : Nat) : mV l D cI cL cZ yX0_fillAgrees cX0_fillAgrees 7 none 1 23 0 0 [.ref a0, .ref a1, .ref a2] sz [(a1, .inr (3, [.ref a3, .ref a4, .ref a5, .ref a6, .ref a7, .int 0, .int 0, .int 0, .int 0, .int 0, .int 0, .int (-1), .ref a8, .ref a9, .ref a10, .int 0, .ref a11, .ref a12])), (a3, .inr (7, [.ref a13, .int 0, .ref a14, .ref a15, .ref a16, .ref a17, .int 0, .ref a18, .ref a19, .ref a20, .ref a21, .ref a22, .int 0, .ref a23, .ref a24, .ref a25])), (a0, .inr (0, [.ref a26, .ref a27, .ref a28, .int 0, .ref a29, .ref a30, .ref a31, .int 0, .ref a32, .int 1, .int 0])), (a27, .inl (cI, 5329, .inl z0))] (fun (w1 : va_W) => w1 = ([(a1, .inr (3, [.ref a3, .ref a4, .ref a5, .ref a6, .ref a7, .int 0, .int 0, .int 0, .int 0, .int 0, .int 0, .int (-1), .ref a8, .ref a9, .ref a10, .int 0, .ref a11, .ref a12])), (a3, .inr (7, [.ref a13, .int 0, .ref a14, .ref a15, .ref a16, .ref a17, .int 0, .ref a18, .ref a19, .ref a20, .ref a21, .ref a22, .int 0, .ref a23, .ref a24, .ref a25])), (a0, .inr (0, [.ref a26, .ref a27, .ref a28, .int 0, .ref a29, .ref a30, .ref a31, .int 0, .ref a32, .int 1, .int 0])), (a27, .inl (cI, 5329, .inl z0))] : va_W)) := by
  obtain ⟨dC, dI⟩ := D
  refine Met.ofW (cc := cX0_fillAgrees) (maxL := 7) (ret := none) (by decide) rfl ?_
  intro p e s m args below meth c s₁ B hml hv
  obtain ⟨rfl, hsz, hP, hK, hD0, hN⟩ := hv
  have hx := B.exec
  have hb := B.bytes
  have hr := B.returns
  have hU : ∀ w ∈ wsU, w.before _ s = true := fun w h => atoms_spec (ws := wU yX0_fillAgrees cX0_fillAgrees 7 none) B.pre w (List.mem_cons_of_mem _ h)
  have hown : s.vm.findClass RX0 = some m.cls := findClass_of_methodNamed B.named
  have hlocks := B.notSynchronized
  subst hsz
  have hD := hD0.self (sz := s.heap.size)
  generalize hAe : va_A [(a1, .inr (3, [.ref a3, .ref a4, .ref a5, .ref a6, .ref a7, .int 0, .int 0, .int 0, .int 0, .int 0, .int 0, .int (-1), .ref a8, .ref a9, .ref a10, .int 0, .ref a11, .ref a12])), (a3, .inr (7, [.ref a13, .int 0, .ref a14, .ref a15, .ref a16, .ref a17, .int 0, .ref a18, .ref a19, .ref a20, .ref a21, .ref a22, .int 0, .ref a23, .ref a24, .ref a25])), (a0, .inr (0, [.ref a26, .ref a27, .ref a28, .int 0, .ref a29, .ref a30, .ref a31, .int 0, .ref a32, .int 1, .int 0])), (a27, .inl (cI, 5329, .inl z0))] s.heap.size = A at hD ⊢
  have hA : ∀ q : Nat, s.heap.size ≤ q → A q := fun q h => by rw [← hAe]; exact Or.inr h
  have hS : va_S A s.heap s.heap [] := va_S.rf
  have hP : va_P (dC, dI) vwCl [(a1, .inr (3, [.ref a3, .ref a4, .ref a5, .ref a6, .ref a7, .int 0, .int 0, .int 0, .int 0, .int 0, .int 0, .int (-1), .ref a8, .ref a9, .ref a10, .int 0, .ref a11, .ref a12])), (a3, .inr (7, [.ref a13, .int 0, .ref a14, .ref a15, .ref a16, .ref a17, .int 0, .ref a18, .ref a19, .ref a20, .ref a21, .ref a22, .int 0, .ref a23, .ref a24, .ref a25])), (a0, .inr (0, [.ref a26, .ref a27, .ref a28, .int 0, .ref a29, .ref a30, .ref a31, .int 0, .ref a32, .int 1, .int 0])), (a27, .inl (cI, 5329, .inl z0))] s.heap := hP
  have hl := lv_entry ([.ref a0, .ref a1, .ref a2]) (n := 7) (Nat.le_of_ble_eq_true rfl)
  rw [lg_entry_eq]
  generalize (lg_sl ([.ref a0, .ref a1, .ref a2]) ++ List.replicate (7 - (lg_sl ([.ref a0, .ref a1, .ref a2])).length) Slot.unset).toArray = ls at hl ⊢
  have hl : lv_has ls 7 [(0, .ref a0), (1, .ref a1), (2, .ref a2)] := hl
  refine lv_aload_n hx hb dX0_fillAgrees_0 rfl (lv_at hl 0 rfl) ?_
  refine va_get (D := (dC, dI)) (ci := 0) (v := .ref a27) (C := RX0) (T := TX0) (N := 11) hx hb hU inlX0 hown hK hP 2 rfl rfl 1 (by decide) (hU _ wd_158) (fun _ h9 => h9) rfl dX0_fillAgrees_1 ?_
  refine lv_iconst (v := 0) hx hb dX0_fillAgrees_4 (by decide) ?_
  refine tk_rv (wr := [(a1, .inr (3, [.ref a3, .ref a4, .ref a5, .ref a6, .ref a7, .int 0, .int 0, .int 0, .int 0, .int 0, .int 0, .int (-1), .ref a8, .ref a9, .ref a10, .int 0, .ref a11, .ref a12])), (a3, .inr (7, [.ref a13, .int 0, .ref a14, .ref a15, .ref a16, .ref a17, .int 0, .ref a18, .ref a19, .ref a20, .ref a21, .ref a22, .int 0, .ref a23, .ref a24, .ref a25])), (a0, .inr (0, [.ref a26, .ref a27, .ref a28, .int 0, .ref a29, .ref a30, .ref a31, .int 0, .ref a32, .int 1, .int 0]))]) (tk_S (As := [.ref a27, .int 0]) (rest := []) (n := 2) hx hb hml hown hU hN (cc_fill0 l (dC, dI) cI cL cZ s.heap.size a27 5329 (by decide)) wd_1214 wd_266 wd_267 wd_268 (by decide +kernel) ⟨Nat.le_of_ble_eq_true rfl, Nat.le_of_ble_eq_true rfl⟩ hK hP hD [3] (by decide) rfl rfl hl.1 rfl (Nat.le_of_ble_eq_true rfl) dX0_fillAgrees_5 ⟨Nat.le_of_ble_eq_true rfl, Nat.le_of_ble_eq_true rfl⟩) hP hD hS hA [3] [0, 1, 2] rfl rfl (by decide) (by decide) (fun w_2 H locs hw hP hD hS => ?_)
  subst hw
  have hP : va_P (dC, dI) vwCl [(a1, .inr (3, [.ref a3, .ref a4, .ref a5, .ref a6, .ref a7, .int 0, .int 0, .int 0, .int 0, .int 0, .int 0, .int (-1), .ref a8, .ref a9, .ref a10, .int 0, .ref a11, .ref a12])), (a3, .inr (7, [.ref a13, .int 0, .ref a14, .ref a15, .ref a16, .ref a17, .int 0, .ref a18, .ref a19, .ref a20, .ref a21, .ref a22, .int 0, .ref a23, .ref a24, .ref a25])), (a0, .inr (0, [.ref a26, .ref a27, .ref a28, .int 0, .ref a29, .ref a30, .ref a31, .int 0, .ref a32, .int 1, .int 0])), (a27, .inl (cI, 5329, .inl z0))] H := hP
  have hD : va_D A [(a1, .inr (3, [.ref a3, .ref a4, .ref a5, .ref a6, .ref a7, .int 0, .int 0, .int 0, .int 0, .int 0, .int 0, .int (-1), .ref a8, .ref a9, .ref a10, .int 0, .ref a11, .ref a12])), (a3, .inr (7, [.ref a13, .int 0, .ref a14, .ref a15, .ref a16, .ref a17, .int 0, .ref a18, .ref a19, .ref a20, .ref a21, .ref a22, .int 0, .ref a23, .ref a24, .ref a25])), (a0, .inr (0, [.ref a26, .ref a27, .ref a28, .int 0, .ref a29, .ref a30, .ref a31, .int 0, .ref a32, .int 1, .int 0])), (a27, .inl (cI, 5329, .inl z0))] := hD
  refine lv_aload_n hx hb dX0_fillAgrees_8 rfl (lv_at hl 1 rfl) ?_
  refine va_get (D := (dC, dI)) (ci := 3) (v := .ref a3) (C := RX3) (T := TX3) (N := 18) hx hb hU inlX3 hown hK hP 0 rfl rfl 0 (by decide) (hU _ wd_1196) (fun _ h9 => h9) rfl dX0_fillAgrees_9 ?_
  refine va_get (D := (dC, dI)) (ci := 7) (v := .int 0) (C := RX7) (T := TX7) (N := 16) hx hb hU inlX7 hown hK hP 1 rfl rfl 1 (by decide) (hU _ wd_1204) (fun _ h9 => h9) rfl dX0_fillAgrees_12 ?_
  refine lv_istore_n (lv' := [(3, .int 0), (0, .ref a0), (1, .ref a1), (2, .ref a2)]) hx hb dX0_fillAgrees_15 rfl hl (by decide) rfl (fun ls hl => ?_)
  refine lv_iconst (v := 1) hx hb dX0_fillAgrees_16 (by decide) ?_
  refine lv_istore (lv' := [(4, .int 1), (3, .int 0), (0, .ref a0), (1, .ref a1), (2, .ref a2)]) hx hb dX0_fillAgrees_17 hl (by decide) rfl (fun ls hl => ?_)
  refine lv_iload hx hb dX0_fillAgrees_19 (lv_at hl 0 rfl) ?_
  refine lv_iload_n hx hb dX0_fillAgrees_21 rfl (lv_at hl 1 rfl) ?_
  refine lv_icmp_gt (tgt := 128) hx hb dX0_fillAgrees_22 (by decide) (fun _ => ?_) (fun c9 => absurd (by decide) c9) 
  have hP9 := hP.sub (ws' := [(a1, .inr (3, [.ref a3, .ref a4, .ref a5, .ref a6, .ref a7, .int 0, .int 0, .int 0, .int 0, .int 0, .int 0, .int (-1), .ref a8, .ref a9, .ref a10, .int 0, .ref a11, .ref a12])), (a3, .inr (7, [.ref a13, .int 0, .ref a14, .ref a15, .ref a16, .ref a17, .int 0, .ref a18, .ref a19, .ref a20, .ref a21, .ref a22, .int 0, .ref a23, .ref a24, .ref a25])), (a0, .inr (0, [.ref a26, .ref a27, .ref a28, .int 0, .ref a29, .ref a30, .ref a31, .int 0, .ref a32, .int 1, .int 0])), (a27, .inl (cI, 5329, .inl z0))]) [0, 1, 2, 3] rfl
  have hD9 := hD.sub (ws' := [(a1, .inr (3, [.ref a3, .ref a4, .ref a5, .ref a6, .ref a7, .int 0, .int 0, .int 0, .int 0, .int 0, .int 0, .int (-1), .ref a8, .ref a9, .ref a10, .int 0, .ref a11, .ref a12])), (a3, .inr (7, [.ref a13, .int 0, .ref a14, .ref a15, .ref a16, .ref a17, .int 0, .ref a18, .ref a19, .ref a20, .ref a21, .ref a22, .int 0, .ref a23, .ref a24, .ref a25])), (a0, .inr (0, [.ref a26, .ref a27, .ref a28, .int 0, .ref a29, .ref a30, .ref a31, .int 0, .ref a32, .int 1, .int 0])), (a27, .inl (cI, 5329, .inl z0))]) [0, 1, 2, 3] (by decide) rfl
  refine W.widen (k := 0) (n := 0) (Nat.le_of_ble_eq_true rfl) (Nat.le_of_ble_eq_true rfl) ?_
  exact W.vret hx hb hr (fun t ht hW => ⟨⟨[(a1, .inr (3, [.ref a3, .ref a4, .ref a5, .ref a6, .ref a7, .int 0, .int 0, .int 0, .int 0, .int 0, .int 0, .int (-1), .ref a8, .ref a9, .ref a10, .int 0, .ref a11, .ref a12])), (a3, .inr (7, [.ref a13, .int 0, .ref a14, .ref a15, .ref a16, .ref a17, .int 0, .ref a18, .ref a19, .ref a20, .ref a21, .ref a22, .int 0, .ref a23, .ref a24, .ref a25])), (a0, .inr (0, [.ref a26, .ref a27, .ref a28, .int 0, .ref a29, .ref a30, .ref a31, .int 0, .ref a32, .int 1, .int 0])), (a27, .inl (cI, 5329, .inl z0))], rfl, rfl, by rw [ht]; exact hP9, va_K.moved hW.alike hK, hD9⟩, hS.F ht⟩) hS.2.2 dX0_fillAgrees_128
set_option maxHeartbeats 8000000 in
set_option maxRecDepth 100000 in
theorem cc_X0_judge_0 (l : Launch) (D : va_G) (cI cL cZ : ClassId) (sz : Nat) (a0 : Nat) (a1 : Nat) (a2 : Nat) (a3 : Nat) (a4 : Nat) (a5 : Nat) (a6 : Nat) (a7 : Nat) : mV l D cI cL cZ yX0_judge cX0_judge 4 none 1 40 0 0 [.ref a0, .int 0] sz [(a1, .inl (cI, 6, .inl z0)), (a2, .inl (cI, 511, .inl (stg 73))), (a3, .inl (cI, 6, .inl z0)), (a0, .inr (0, [.ref a4, .ref a5, .ref a6, .int 0, .ref a1, .ref a2, .ref a3, .int (-1), .ref a7, .int 1, .int 0])), (a5, .inl (cI, 5329, .inl z0))] (fun (w1 : va_W) => w1 = ([(a1, .inl (cI, 6, .inl z0)), (a2, .inl (cI, 511, .inl (stg 73))), (a3, .inl (cI, 6, .inl z0)), (a0, .inr (0, [.ref a4, .ref a5, .ref a6, .int 0, .ref a1, .ref a2, .ref a3, .int 0, .ref a7, .int 1, .int 0])), (a5, .inl (cI, 5329, .inl z0))] : va_W)) := by
  obtain ⟨dC, dI⟩ := D
  refine Met.ofW (cc := cX0_judge) (maxL := 4) (ret := none) (by decide) rfl ?_
  intro p e s m args below meth c s₁ B hml hv
  obtain ⟨rfl, hsz, hP, hK, hD0, hN⟩ := hv
  have hx := B.exec
  have hb := B.bytes
  have hr := B.returns
  have hU : ∀ w ∈ wsU, w.before _ s = true := fun w h => atoms_spec (ws := wU yX0_judge cX0_judge 4 none) B.pre w (List.mem_cons_of_mem _ h)
  have hown : s.vm.findClass RX0 = some m.cls := findClass_of_methodNamed B.named
  have hlocks := B.notSynchronized
  subst hsz
  have hD := hD0.self (sz := s.heap.size)
  generalize hAe : va_A [(a1, .inl (cI, 6, .inl z0)), (a2, .inl (cI, 511, .inl (stg 73))), (a3, .inl (cI, 6, .inl z0)), (a0, .inr (0, [.ref a4, .ref a5, .ref a6, .int 0, .ref a1, .ref a2, .ref a3, .int (-1), .ref a7, .int 1, .int 0])), (a5, .inl (cI, 5329, .inl z0))] s.heap.size = A at hD ⊢
  have hA : ∀ q : Nat, s.heap.size ≤ q → A q := fun q h => by rw [← hAe]; exact Or.inr h
  have hS : va_S A s.heap s.heap [] := va_S.rf
  have hP : va_P (dC, dI) vwCl [(a1, .inl (cI, 6, .inl z0)), (a2, .inl (cI, 511, .inl (stg 73))), (a3, .inl (cI, 6, .inl z0)), (a0, .inr (0, [.ref a4, .ref a5, .ref a6, .int 0, .ref a1, .ref a2, .ref a3, .int (-1), .ref a7, .int 1, .int 0])), (a5, .inl (cI, 5329, .inl z0))] s.heap := hP
  have hl := lv_entry ([.ref a0, .int 0]) (n := 4) (Nat.le_of_ble_eq_true rfl)
  rw [lg_entry_eq]
  generalize (lg_sl ([.ref a0, .int 0]) ++ List.replicate (4 - (lg_sl ([.ref a0, .int 0])).length) Slot.unset).toArray = ls at hl ⊢
  have hl : lv_has ls 4 [(0, .ref a0), (1, .int 0)] := hl
  refine lv_iconst (v := 0) hx hb dX0_judge_0 (by decide) ?_
  refine lv_istore_n (lv' := [(2, .int 0), (0, .ref a0), (1, .int 0)]) hx hb dX0_judge_1 rfl hl (by decide) rfl (fun ls hl => ?_)
  refine lv_iconst (v := 0) hx hb dX0_judge_2 (by decide) ?_
  refine lv_istore_n (lv' := [(3, .int 0), (2, .int 0), (0, .ref a0), (1, .int 0)]) hx hb dX0_judge_3 rfl hl (by decide) rfl (fun ls hl => ?_)
  have hloop_4 : ∀ (n i_2 : Nat) (x_1 : Int32), x_1 = nI i_2 → i_2 ≤ 73 → 73 + 1 ≤ i_2 + n → ∀ (H : Heap) (locs : List Loc), va_P (dC, dI) vwCl [(a1, .inl (cI, 6, .inl z0)), (a2, .inl (cI, 511, .inl (stg 73))), (a3, .inl (cI, 6, .inl z0)), (a0, .inr (0, [.ref a4, .ref a5, .ref a6, .int 0, .ref a1, .ref a2, .ref a3, .int (-1), .ref a7, .int 1, .int 0])), (a5, .inl (cI, 5329, .inl z0))] H → va_D A [(a1, .inl (cI, 6, .inl z0)), (a2, .inl (cI, 511, .inl (stg 73))), (a3, .inl (cI, 6, .inl z0)), (a0, .inr (0, [.ref a4, .ref a5, .ref a6, .int 0, .ref a1, .ref a2, .ref a3, .int (-1), .ref a7, .int 1, .int 0])), (a5, .inl (cI, 5329, .inl z0))] → va_S A s.heap H locs → ∀ (ls : Array Slot), lv_has ls 4 [(3, .int x_1), (2, .int 0), (0, .ref a0), (1, .int 0)] → W p l e (headSpec (wU yX0_judge cX0_judge 4 none) { frames := 1, cells := 0, slots := 0, locals := 40 }).room s m [.ref a0, .int 0].toArray below meth c H locs 0 0 (MQ below (va_Qv (fun (w1 : va_W) => w1 = ([(a1, .inl (cI, 6, .inl z0)), (a2, .inl (cI, 511, .inl (stg 73))), (a3, .inl (cI, 6, .inl z0)), (a0, .inr (0, [.ref a4, .ref a5, .ref a6, .int 0, .ref a1, .ref a2, .ref a3, .int 0, .ref a7, .int 1, .int 0])), (a5, .inl (cI, 5329, .inl z0))] : va_W)) (qB (dC, dI) cI cL cZ A) A) [.ref a0, .int 0].toArray s 0 0 A) (F0 m 4 ls []) := by
    intro n
    induction n with
    | zero => intro i_2 x_1 ex_1 hi hn; exact absurd hn (by omega)
    | succ n ih =>
      intro i_2 x_1 ex_1 hi hn H locs hP hD hS ls hl
      refine lv_iload_n hx hb dX0_judge_4 rfl (lv_at hl 0 rfl) ?_
      refine lv_bipush (v := 73) hx hb dX0_judge_5 (by decide) ?_
      refine lv_icmp_ge (tgt := 40) hx hb dX0_judge_7 (by decide) (fun c_3 => ?_) (fun c_3 => ?_)
      · skip
        have hge : 73 ≤ i_2 := by rcases Nat.lt_or_ge i_2 73 with q | q; exact absurd c_3 (by rw [ex_1]; exact nI_ge (b := 73) q (by omega)); exact q
        have hiN : i_2 = 73 := by omega
        refine lv_iload_n hx hb dX0_judge_40 rfl (lv_at hl 1 rfl) ?_
        refine lv_aload_n hx hb dX0_judge_41 rfl (lv_at hl 2 rfl) ?_
        refine va_get (D := (dC, dI)) (ci := 0) (v := .int (-1)) (C := RX0) (T := TX0) (N := 11) hx hb hU inlX0 hown hK hP 3 rfl rfl 7 (by decide) (hU _ wd_1199) (fun _ h9 => h9) rfl dX0_judge_42 ?_
        refine lv_icmp_le (tgt := 70) hx hb dX0_judge_45 (by decide) (fun c9 => absurd c9 (by decide)) (fun _ => ?_)
        refine lv_aload_n hx hb dX0_judge_48 rfl (lv_at hl 2 rfl) ?_
        refine lv_iload_n hx hb dX0_judge_49 rfl (lv_at hl 1 rfl) ?_
        refine va_put (D := (dC, dI)) (ci := 0) (v := .int 0) (ty := .int) (C := RX0) (T := TX0) (N := 11) hx hb hU inlX0 tyX0 tyX0_ok nmX0 hown hK hP hD hS 3 rfl rfl 7 (by decide) (hU _ wd_1199) (fun _ h9 => h9) rfl (by decide +kernel) rfl rfl (Nat.le_of_ble_eq_true rfl) dX0_judge_50 (fun H locs hP hD hS => ?_)
        have hP : va_P (dC, dI) vwCl [(a1, .inl (cI, 6, .inl z0)), (a2, .inl (cI, 511, .inl (stg 73))), (a3, .inl (cI, 6, .inl z0)), (a0, .inr (0, [.ref a4, .ref a5, .ref a6, .int 0, .ref a1, .ref a2, .ref a3, .int 0, .ref a7, .int 1, .int 0])), (a5, .inl (cI, 5329, .inl z0))] H := hP
        have hD : va_D A [(a1, .inl (cI, 6, .inl z0)), (a2, .inl (cI, 511, .inl (stg 73))), (a3, .inl (cI, 6, .inl z0)), (a0, .inr (0, [.ref a4, .ref a5, .ref a6, .int 0, .ref a1, .ref a2, .ref a3, .int 0, .ref a7, .int 1, .int 0])), (a5, .inl (cI, 5329, .inl z0))] := hD
        refine lv_aload_n hx hb dX0_judge_53 rfl (lv_at hl 2 rfl) ?_
        refine va_get (D := (dC, dI)) (ci := 0) (v := .ref a1) (C := RX0) (T := TX0) (N := 11) hx hb hU inlX0 hown hK hP 3 rfl rfl 4 (by decide) (hU _ wd_160) (fun _ h9 => h9) rfl dX0_judge_54 ?_
        refine lv_iconst (v := 0) hx hb dX0_judge_57 (by decide) ?_
        refine lv_aload_n hx hb dX0_judge_58 rfl (lv_at hl 2 rfl) ?_
        refine va_get (D := (dC, dI)) (ci := 0) (v := .ref a3) (C := RX0) (T := TX0) (N := 11) hx hb hU inlX0 hown hK hP 3 rfl rfl 6 (by decide) (hU _ wd_162) (fun _ h9 => h9) rfl dX0_judge_59 ?_
        refine lv_iconst (v := 0) hx hb dX0_judge_62 (by decide) ?_
        refine lv_aload_n hx hb dX0_judge_63 rfl (lv_at hl 2 rfl) ?_
        refine va_get (D := (dC, dI)) (ci := 0) (v := .int 0) (C := RX0) (T := TX0) (N := 11) hx hb hU inlX0 hown hK hP 3 rfl rfl 3 (by decide) (hU _ wd_1195) (fun _ h9 => h9) rfl dX0_judge_64 ?_
        refine va_copyi (ty := .int) hx hb (by rw [hml]; exact hl.1.symm) hown (hU _ wd_1232) (hU _ wd_253) (hU _ wd_254) (hU _ wd_255) hK hP hD hS 0 2 0 0 rfl rfl rfl rfl rfl (by decide) (by decide) (by decide) (by decide) (by decide) (fun _ _ => rfl) (Nat.le_of_ble_eq_true rfl) (Nat.le_of_ble_eq_true rfl) dX0_judge_67 (fun H locs hP hD hS => ?_)
        have hP : va_P (dC, dI) vwCl [(a1, .inl (cI, 6, .inl z0)), (a2, .inl (cI, 511, .inl (stg 73))), (a3, .inl (cI, 6, .inl z0)), (a0, .inr (0, [.ref a4, .ref a5, .ref a6, .int 0, .ref a1, .ref a2, .ref a3, .int 0, .ref a7, .int 1, .int 0])), (a5, .inl (cI, 5329, .inl z0))] H := by rw [cpy_z0] at hP; exact hP
        have hD : va_D A [(a1, .inl (cI, 6, .inl z0)), (a2, .inl (cI, 511, .inl (stg 73))), (a3, .inl (cI, 6, .inl z0)), (a0, .inr (0, [.ref a4, .ref a5, .ref a6, .int 0, .ref a1, .ref a2, .ref a3, .int 0, .ref a7, .int 1, .int 0])), (a5, .inl (cI, 5329, .inl z0))] := by rw [cpy_z0] at hD; exact hD
        have hP9 := hP.sub (ws' := [(a1, .inl (cI, 6, .inl z0)), (a2, .inl (cI, 511, .inl (stg 73))), (a3, .inl (cI, 6, .inl z0)), (a0, .inr (0, [.ref a4, .ref a5, .ref a6, .int 0, .ref a1, .ref a2, .ref a3, .int 0, .ref a7, .int 1, .int 0])), (a5, .inl (cI, 5329, .inl z0))]) [0, 1, 2, 3, 4] rfl
        have hD9 := hD.sub (ws' := [(a1, .inl (cI, 6, .inl z0)), (a2, .inl (cI, 511, .inl (stg 73))), (a3, .inl (cI, 6, .inl z0)), (a0, .inr (0, [.ref a4, .ref a5, .ref a6, .int 0, .ref a1, .ref a2, .ref a3, .int 0, .ref a7, .int 1, .int 0])), (a5, .inl (cI, 5329, .inl z0))]) [0, 1, 2, 3, 4] (by decide) rfl
        refine W.widen (k := 0) (n := 0) (Nat.le_of_ble_eq_true rfl) (Nat.le_of_ble_eq_true rfl) ?_
        exact W.vret hx hb hr (fun t ht hW => ⟨⟨[(a1, .inl (cI, 6, .inl z0)), (a2, .inl (cI, 511, .inl (stg 73))), (a3, .inl (cI, 6, .inl z0)), (a0, .inr (0, [.ref a4, .ref a5, .ref a6, .int 0, .ref a1, .ref a2, .ref a3, .int 0, .ref a7, .int 1, .int 0])), (a5, .inl (cI, 5329, .inl z0))], rfl, rfl, by rw [ht]; exact hP9, va_K.moved hW.alike hK, hD9⟩, hS.F ht⟩) hS.2.2 dX0_judge_70
      · skip
        have hlt : i_2 < 73 := by rcases Nat.lt_or_ge i_2 73 with q | q; exact q; exact absurd (by rw [ex_1]; exact nI_le (a := 73) q (by omega)) c_3
        refine lv_iload_n hx hb dX0_judge_10 rfl (lv_at hl 1 rfl) ?_
        refine lv_aload_n hx hb dX0_judge_11 rfl (lv_at hl 2 rfl) ?_
        refine va_get (D := (dC, dI)) (ci := 0) (v := .ref a5) (C := RX0) (T := TX0) (N := 11) hx hb hU inlX0 hown hK hP 3 rfl rfl 1 (by decide) (hU _ wd_158) (fun _ h9 => h9) rfl dX0_judge_12 ?_
        refine lv_iload_n hx hb dX0_judge_15 rfl (lv_at hl 0 rfl) ?_
        refine lv_bipush (v := 73) hx hb dX0_judge_16 (by decide) ?_
        refine lv_imul hx hb dX0_judge_18 ?_
        refine lv_aload_n hx hb dX0_judge_19 rfl (lv_at hl 2 rfl) ?_
        refine va_get (D := (dC, dI)) (ci := 0) (v := .ref a2) (C := RX0) (T := TX0) (N := 11) hx hb hU inlX0 hown hK hP 3 rfl rfl 5 (by decide) (hU _ wd_161) (fun _ h9 => h9) rfl dX0_judge_20 ?_
        refine lv_iload_n hx hb dX0_judge_23 rfl (lv_at hl 3 rfl) ?_
        refine lv_bipush (v := 73) hx hb dX0_judge_24 (by decide) ?_
        refine lv_imul hx hb dX0_judge_26 ?_
        refine tk_topi (y := 0) (by decide) ?_
        refine lv_iload_n hx hb dX0_judge_27 rfl (lv_at hl 0 rfl) ?_
        refine lv_iadd hx hb dX0_judge_28 ?_
        refine tk_topi (y := x_1) (by simp) ?_
        refine va_iald hx hb hK hP 1 0 rfl rfl (by rw [ex_1]; exact vp_in_nI (by omega) (by omega)) dX0_judge_29 ?_
        refine tk_topi (y := x_1) (by rw [ex_1, nI_clamp (by omega)]; exact stg_at (by omega)) ?_
        refine lv_iadd hx hb dX0_judge_30 ?_
        refine va_iald hx hb hK hP 4 0 rfl rfl (by rw [ex_1]; exact tk_j (by omega)) dX0_judge_31 ?_
        refine tk_topi (y := 0) rfl ?_
        refine lv_iadd hx hb dX0_judge_32 ?_
        refine tk_topi (y := 0) (by decide) ?_
        refine lv_istore_n (lv' := [(2, .int 0), (3, .int x_1), (0, .ref a0), (1, .int 0)]) hx hb dX0_judge_33 rfl hl (by decide) rfl (fun ls hl => ?_)
        obtain ⟨x_4, ex_4⟩ : ∃ y : Int32, x_1 + 1 = y := ⟨_, rfl⟩
        refine lv_iinc (v := x_4) (lv' := [(3, .int x_4), (2, .int 0), (0, .ref a0), (1, .int 0)]) hx hb dX0_judge_34 hl (k := 1) rfl ex_4 (by decide) rfl (fun ls hl => ?_)
        refine lv_goto (tgt := 4) hx hb dX0_judge_37 (by decide) ?_
        exact ih (i_2 + 1) x_4 (by rw [← ex_4, ex_1]; exact nI_1 i_2) (by omega) (by omega) _ _ hP hD hS ls (lv_sub hl [0, 1, 2, 3] rfl)
  exact hloop_4 (73 + 1) 0 0 nI_0.symm (Nat.zero_le _) (by omega) _ _ hP hD hS ls hl
set_option maxHeartbeats 8000000 in
set_option maxRecDepth 100000 in
theorem cc_X0_tryOrders_0 (l : Launch) (D : va_G) (cI cL cZ : ClassId) (sz : Nat) (a0 : Nat) (a1 : Nat) (a2 : Nat) (a3 : Nat) (a4 : Nat) (a5 : Nat) (a6 : Nat) (a7 : Nat) : mV l D cI cL cZ yX0_tryOrders cX0_tryOrders 6 none 2 63 0 0 [.ref a0, .int 0, .int 0] sz [(a1, .inl (cI, 6, .inl z0)), (a2, .inl (cI, 511, .inl (stg 73))), (a3, .inl (cI, 6, .inl z0)), (a0, .inr (0, [.ref a4, .ref a5, .ref a6, .int 0, .ref a1, .ref a2, .ref a3, .int (-1), .ref a7, .int 1, .int 0])), (a5, .inl (cI, 5329, .inl z0))] (fun (w1 : va_W) => w1 = ([(a1, .inl (cI, 6, .inl z0)), (a2, .inl (cI, 511, .inl (stg 73))), (a3, .inl (cI, 6, .inl z0)), (a0, .inr (0, [.ref a4, .ref a5, .ref a6, .int 0, .ref a1, .ref a2, .ref a3, .int 0, .ref a7, .int 1, .int 0])), (a5, .inl (cI, 5329, .inl z0))] : va_W)) := by
  obtain ⟨dC, dI⟩ := D
  refine Met.ofW (cc := cX0_tryOrders) (maxL := 6) (ret := none) (by decide) rfl ?_
  intro p e s m args below meth c s₁ B hml hv
  obtain ⟨rfl, hsz, hP, hK, hD0, hN⟩ := hv
  have hx := B.exec
  have hb := B.bytes
  have hr := B.returns
  have hU : ∀ w ∈ wsU, w.before _ s = true := fun w h => atoms_spec (ws := wU yX0_tryOrders cX0_tryOrders 6 none) B.pre w (List.mem_cons_of_mem _ h)
  have hown : s.vm.findClass RX0 = some m.cls := findClass_of_methodNamed B.named
  have hlocks := B.notSynchronized
  subst hsz
  have hD := hD0.self (sz := s.heap.size)
  generalize hAe : va_A [(a1, .inl (cI, 6, .inl z0)), (a2, .inl (cI, 511, .inl (stg 73))), (a3, .inl (cI, 6, .inl z0)), (a0, .inr (0, [.ref a4, .ref a5, .ref a6, .int 0, .ref a1, .ref a2, .ref a3, .int (-1), .ref a7, .int 1, .int 0])), (a5, .inl (cI, 5329, .inl z0))] s.heap.size = A at hD ⊢
  have hA : ∀ q : Nat, s.heap.size ≤ q → A q := fun q h => by rw [← hAe]; exact Or.inr h
  have hS : va_S A s.heap s.heap [] := va_S.rf
  have hP : va_P (dC, dI) vwCl [(a1, .inl (cI, 6, .inl z0)), (a2, .inl (cI, 511, .inl (stg 73))), (a3, .inl (cI, 6, .inl z0)), (a0, .inr (0, [.ref a4, .ref a5, .ref a6, .int 0, .ref a1, .ref a2, .ref a3, .int (-1), .ref a7, .int 1, .int 0])), (a5, .inl (cI, 5329, .inl z0))] s.heap := hP
  have hl := lv_entry ([.ref a0, .int 0, .int 0]) (n := 6) (Nat.le_of_ble_eq_true rfl)
  rw [lg_entry_eq]
  generalize (lg_sl ([.ref a0, .int 0, .int 0]) ++ List.replicate (6 - (lg_sl ([.ref a0, .int 0, .int 0])).length) Slot.unset).toArray = ls at hl ⊢
  have hl : lv_has ls 6 [(0, .ref a0), (1, .int 0), (2, .int 0)] := hl
  refine lv_iload_n hx hb dX0_tryOrders_0 rfl (lv_at hl 1 rfl) ?_
  refine lv_aload_n hx hb dX0_tryOrders_1 rfl (lv_at hl 0 rfl) ?_
  refine va_get (D := (dC, dI)) (ci := 0) (v := .int 0) (C := RX0) (T := TX0) (N := 11) hx hb hU inlX0 hown hK hP 3 rfl rfl 3 (by decide) (hU _ wd_1195) (fun _ h9 => h9) rfl dX0_tryOrders_2 ?_
  refine lv_icmp_lt (tgt := 14) hx hb dX0_tryOrders_5 (by decide) (fun c9 => absurd c9 (by decide)) (fun _ => ?_)
  refine lv_aload_n hx hb dX0_tryOrders_8 rfl (lv_at hl 0 rfl) ?_
  refine lv_iload_n hx hb dX0_tryOrders_9 rfl (lv_at hl 1 rfl) ?_
  refine tk_rv (wr := []) (tk_V (As := [.int 0]) (rest := []) (n := 1) hx hb hml hown hU hN (cc_X0_judge_0 l (dC, dI) cI cL cZ s.heap.size a0 a1 a2 a3 a4 a5 a6 a7) wd_1228 wd_1229 wd_1230 wd_37 wd_1231 (by decide +kernel) ⟨Nat.le_of_ble_eq_true rfl, Nat.le_of_ble_eq_true rfl⟩ hK hP hD [0, 1, 2, 3, 4] (by decide) rfl 3 0 rfl rfl rfl rfl hl.1 rfl (Nat.le_of_ble_eq_true rfl) dX0_tryOrders_10 ⟨Nat.le_of_ble_eq_true rfl, Nat.le_of_ble_eq_true rfl⟩) hP hD hS hA [0, 1, 2, 3, 4] [] rfl rfl (by decide) (by decide) (fun w_2 H locs hw hP hD hS => ?_)
  subst hw
  have hP : va_P (dC, dI) vwCl [(a1, .inl (cI, 6, .inl z0)), (a2, .inl (cI, 511, .inl (stg 73))), (a3, .inl (cI, 6, .inl z0)), (a0, .inr (0, [.ref a4, .ref a5, .ref a6, .int 0, .ref a1, .ref a2, .ref a3, .int 0, .ref a7, .int 1, .int 0])), (a5, .inl (cI, 5329, .inl z0))] H := hP
  have hD : va_D A [(a1, .inl (cI, 6, .inl z0)), (a2, .inl (cI, 511, .inl (stg 73))), (a3, .inl (cI, 6, .inl z0)), (a0, .inr (0, [.ref a4, .ref a5, .ref a6, .int 0, .ref a1, .ref a2, .ref a3, .int 0, .ref a7, .int 1, .int 0])), (a5, .inl (cI, 5329, .inl z0))] := hD
  have hP9 := hP.sub (ws' := [(a1, .inl (cI, 6, .inl z0)), (a2, .inl (cI, 511, .inl (stg 73))), (a3, .inl (cI, 6, .inl z0)), (a0, .inr (0, [.ref a4, .ref a5, .ref a6, .int 0, .ref a1, .ref a2, .ref a3, .int 0, .ref a7, .int 1, .int 0])), (a5, .inl (cI, 5329, .inl z0))]) [0, 1, 2, 3, 4] rfl
  have hD9 := hD.sub (ws' := [(a1, .inl (cI, 6, .inl z0)), (a2, .inl (cI, 511, .inl (stg 73))), (a3, .inl (cI, 6, .inl z0)), (a0, .inr (0, [.ref a4, .ref a5, .ref a6, .int 0, .ref a1, .ref a2, .ref a3, .int 0, .ref a7, .int 1, .int 0])), (a5, .inl (cI, 5329, .inl z0))]) [0, 1, 2, 3, 4] (by decide) rfl
  refine W.widen (k := 0) (n := 0) (Nat.le_of_ble_eq_true rfl) (Nat.le_of_ble_eq_true rfl) ?_
  exact W.vret hx hb hr (fun t ht hW => ⟨⟨[(a1, .inl (cI, 6, .inl z0)), (a2, .inl (cI, 511, .inl (stg 73))), (a3, .inl (cI, 6, .inl z0)), (a0, .inr (0, [.ref a4, .ref a5, .ref a6, .int 0, .ref a1, .ref a2, .ref a3, .int 0, .ref a7, .int 1, .int 0])), (a5, .inl (cI, 5329, .inl z0))], rfl, rfl, by rw [ht]; exact hP9, va_K.moved hW.alike hK, hD9⟩, hS.F ht⟩) hS.2.2 dX0_tryOrders_13
set_option maxHeartbeats 8000000 in
set_option maxRecDepth 100000 in
theorem cc_X0_refresh_0 (l : Launch) (D : va_G) (cI cL cZ : ClassId) (sz : Nat) (a0 : Nat) (a1 : Nat) (a2 : Nat) (a3 : Nat) (a4 : Nat) (a5 : Nat) (a6 : Nat) (a7 : Nat) (a8 : Nat) (a9 : Nat) (a10 : Nat) (a11 : Nat) (a12 : Nat) (a13 : Nat) (a14 : Nat) (a15 : Nat) (a16 : Nat) (a17 : Nat) (a18 : Nat) (a19 : Nat) (a20 : Nat) (a21 : Nat) (a22 : Nat) (a23 : Nat) (a24 : Nat) (a25 : Nat) (a26 : Nat) (a27 : Nat) (a28 : Nat) (a29 : Nat) (a30 : Nat) (a31 : Nat) (a32 : Nat) : mV l D cI cL cZ yX0_refresh cX0_refresh 6 none 3 88 0 0 [.ref a0, .int 1, .ref a1, .ref a2, .int 0] sz [(a1, .inr (3, [.ref a3, .ref a4, .ref a5, .ref a6, .ref a7, .int 0, .int 0, .int 0, .int 0, .int 0, .int 0, .int (-1), .ref a8, .ref a9, .ref a10, .int 0, .ref a11, .ref a12])), (a3, .inr (7, [.ref a13, .int 0, .ref a14, .ref a15, .ref a16, .ref a17, .int 0, .ref a18, .ref a19, .ref a20, .ref a21, .ref a22, .int 0, .ref a23, .ref a24, .ref a25])), (a0, .inr (0, [.ref a26, .ref a27, .ref a28, .int 0, .ref a29, .ref a30, .ref a31, .int 0, .ref a32, .int 0, .int (-1)])), (a27, .inl (cI, 5329, .inl z0)), (a29, .inl (cI, 6, .inl z0)), (a30, .inl (cI, 511, .inl z0)), (a31, .inl (cI, 6, .inl z0))] (fun (w1 : va_W) => w1 = ([(a1, .inr (3, [.ref a3, .ref a4, .ref a5, .ref a6, .ref a7, .int 0, .int 0, .int 0, .int 0, .int 0, .int 0, .int (-1), .ref a8, .ref a9, .ref a10, .int 0, .ref a11, .ref a12])), (a3, .inr (7, [.ref a13, .int 0, .ref a14, .ref a15, .ref a16, .ref a17, .int 0, .ref a18, .ref a19, .ref a20, .ref a21, .ref a22, .int 0, .ref a23, .ref a24, .ref a25])), (a29, .inl (cI, 6, .inl z0)), (a30, .inl (cI, 511, .inl (stg 73))), (a31, .inl (cI, 6, .inl z0)), (a0, .inr (0, [.ref a26, .ref a27, .ref a28, .int 0, .ref a29, .ref a30, .ref a31, .int 0, .ref a32, .int 1, .int 0])), (a27, .inl (cI, 5329, .inl z0))] : va_W)) := by
  obtain ⟨dC, dI⟩ := D
  refine Met.ofW (cc := cX0_refresh) (maxL := 6) (ret := none) (by decide) rfl ?_
  intro p e s m args below meth c s₁ B hml hv
  obtain ⟨rfl, hsz, hP, hK, hD0, hN⟩ := hv
  have hx := B.exec
  have hb := B.bytes
  have hr := B.returns
  have hU : ∀ w ∈ wsU, w.before _ s = true := fun w h => atoms_spec (ws := wU yX0_refresh cX0_refresh 6 none) B.pre w (List.mem_cons_of_mem _ h)
  have hown : s.vm.findClass RX0 = some m.cls := findClass_of_methodNamed B.named
  have hlocks := B.notSynchronized
  subst hsz
  have hD := hD0.self (sz := s.heap.size)
  generalize hAe : va_A [(a1, .inr (3, [.ref a3, .ref a4, .ref a5, .ref a6, .ref a7, .int 0, .int 0, .int 0, .int 0, .int 0, .int 0, .int (-1), .ref a8, .ref a9, .ref a10, .int 0, .ref a11, .ref a12])), (a3, .inr (7, [.ref a13, .int 0, .ref a14, .ref a15, .ref a16, .ref a17, .int 0, .ref a18, .ref a19, .ref a20, .ref a21, .ref a22, .int 0, .ref a23, .ref a24, .ref a25])), (a0, .inr (0, [.ref a26, .ref a27, .ref a28, .int 0, .ref a29, .ref a30, .ref a31, .int 0, .ref a32, .int 0, .int (-1)])), (a27, .inl (cI, 5329, .inl z0)), (a29, .inl (cI, 6, .inl z0)), (a30, .inl (cI, 511, .inl z0)), (a31, .inl (cI, 6, .inl z0))] s.heap.size = A at hD ⊢
  have hA : ∀ q : Nat, s.heap.size ≤ q → A q := fun q h => by rw [← hAe]; exact Or.inr h
  have hS : va_S A s.heap s.heap [] := va_S.rf
  have hP : va_P (dC, dI) vwCl [(a1, .inr (3, [.ref a3, .ref a4, .ref a5, .ref a6, .ref a7, .int 0, .int 0, .int 0, .int 0, .int 0, .int 0, .int (-1), .ref a8, .ref a9, .ref a10, .int 0, .ref a11, .ref a12])), (a3, .inr (7, [.ref a13, .int 0, .ref a14, .ref a15, .ref a16, .ref a17, .int 0, .ref a18, .ref a19, .ref a20, .ref a21, .ref a22, .int 0, .ref a23, .ref a24, .ref a25])), (a0, .inr (0, [.ref a26, .ref a27, .ref a28, .int 0, .ref a29, .ref a30, .ref a31, .int 0, .ref a32, .int 0, .int (-1)])), (a27, .inl (cI, 5329, .inl z0)), (a29, .inl (cI, 6, .inl z0)), (a30, .inl (cI, 511, .inl z0)), (a31, .inl (cI, 6, .inl z0))] s.heap := hP
  have hl := lv_entry ([.ref a0, .int 1, .ref a1, .ref a2, .int 0]) (n := 6) (Nat.le_of_ble_eq_true rfl)
  rw [lg_entry_eq]
  generalize (lg_sl ([.ref a0, .int 1, .ref a1, .ref a2, .int 0]) ++ List.replicate (6 - (lg_sl ([.ref a0, .int 1, .ref a1, .ref a2, .int 0])).length) Slot.unset).toArray = ls at hl ⊢
  have hl : lv_has ls 6 [(0, .ref a0), (1, .int 1), (2, .ref a1), (3, .ref a2), (4, .int 0)] := hl
  refine lv_aload_n hx hb dX0_refresh_0 rfl (lv_at hl 0 rfl) ?_
  refine va_get (D := (dC, dI)) (ci := 0) (v := .int (-1)) (C := RX0) (T := TX0) (N := 11) hx hb hU inlX0 hown hK hP 2 rfl rfl 10 (by decide) (hU _ wd_164) (fun _ h9 => h9) rfl dX0_refresh_1 ?_
  refine lv_iload hx hb dX0_refresh_4 (lv_at hl 4 rfl) ?_
  refine lv_icmp_ne (tgt := 18) hx hb dX0_refresh_6 (by decide) (fun _ => ?_) (fun c9 => absurd c9 (by decide)) 
  refine lv_aload_n hx hb dX0_refresh_18 rfl (lv_at hl 0 rfl) ?_
  refine lv_iload hx hb dX0_refresh_19 (lv_at hl 4 rfl) ?_
  refine va_put (D := (dC, dI)) (ci := 0) (v := .int 0) (ty := .int) (C := RX0) (T := TX0) (N := 11) hx hb hU inlX0 tyX0 tyX0_ok nmX0 hown hK hP hD hS 2 rfl rfl 10 (by decide) (hU _ wd_164) (fun _ h9 => h9) rfl (by decide +kernel) rfl rfl (Nat.le_of_ble_eq_true rfl) dX0_refresh_21 (fun H locs hP hD hS => ?_)
  have hP : va_P (dC, dI) vwCl [(a1, .inr (3, [.ref a3, .ref a4, .ref a5, .ref a6, .ref a7, .int 0, .int 0, .int 0, .int 0, .int 0, .int 0, .int (-1), .ref a8, .ref a9, .ref a10, .int 0, .ref a11, .ref a12])), (a3, .inr (7, [.ref a13, .int 0, .ref a14, .ref a15, .ref a16, .ref a17, .int 0, .ref a18, .ref a19, .ref a20, .ref a21, .ref a22, .int 0, .ref a23, .ref a24, .ref a25])), (a0, .inr (0, [.ref a26, .ref a27, .ref a28, .int 0, .ref a29, .ref a30, .ref a31, .int 0, .ref a32, .int 0, .int 0])), (a27, .inl (cI, 5329, .inl z0)), (a29, .inl (cI, 6, .inl z0)), (a30, .inl (cI, 511, .inl z0)), (a31, .inl (cI, 6, .inl z0))] H := hP
  have hD : va_D A [(a1, .inr (3, [.ref a3, .ref a4, .ref a5, .ref a6, .ref a7, .int 0, .int 0, .int 0, .int 0, .int 0, .int 0, .int (-1), .ref a8, .ref a9, .ref a10, .int 0, .ref a11, .ref a12])), (a3, .inr (7, [.ref a13, .int 0, .ref a14, .ref a15, .ref a16, .ref a17, .int 0, .ref a18, .ref a19, .ref a20, .ref a21, .ref a22, .int 0, .ref a23, .ref a24, .ref a25])), (a0, .inr (0, [.ref a26, .ref a27, .ref a28, .int 0, .ref a29, .ref a30, .ref a31, .int 0, .ref a32, .int 0, .int 0])), (a27, .inl (cI, 5329, .inl z0)), (a29, .inl (cI, 6, .inl z0)), (a30, .inl (cI, 511, .inl z0)), (a31, .inl (cI, 6, .inl z0))] := hD
  refine lv_aload_n hx hb dX0_refresh_24 rfl (lv_at hl 0 rfl) ?_
  refine lv_iload_n hx hb dX0_refresh_25 rfl (lv_at hl 1 rfl) ?_
  refine va_put (D := (dC, dI)) (ci := 0) (v := .int 1) (ty := .int) (C := RX0) (T := TX0) (N := 11) hx hb hU inlX0 tyX0 tyX0_ok nmX0 hown hK hP hD hS 2 rfl rfl 9 (by decide) (hU _ wd_1194) (fun _ h9 => h9) rfl (by decide +kernel) rfl rfl (Nat.le_of_ble_eq_true rfl) dX0_refresh_26 (fun H locs hP hD hS => ?_)
  have hP : va_P (dC, dI) vwCl [(a1, .inr (3, [.ref a3, .ref a4, .ref a5, .ref a6, .ref a7, .int 0, .int 0, .int 0, .int 0, .int 0, .int 0, .int (-1), .ref a8, .ref a9, .ref a10, .int 0, .ref a11, .ref a12])), (a3, .inr (7, [.ref a13, .int 0, .ref a14, .ref a15, .ref a16, .ref a17, .int 0, .ref a18, .ref a19, .ref a20, .ref a21, .ref a22, .int 0, .ref a23, .ref a24, .ref a25])), (a0, .inr (0, [.ref a26, .ref a27, .ref a28, .int 0, .ref a29, .ref a30, .ref a31, .int 0, .ref a32, .int 1, .int 0])), (a27, .inl (cI, 5329, .inl z0)), (a29, .inl (cI, 6, .inl z0)), (a30, .inl (cI, 511, .inl z0)), (a31, .inl (cI, 6, .inl z0))] H := hP
  have hD : va_D A [(a1, .inr (3, [.ref a3, .ref a4, .ref a5, .ref a6, .ref a7, .int 0, .int 0, .int 0, .int 0, .int 0, .int 0, .int (-1), .ref a8, .ref a9, .ref a10, .int 0, .ref a11, .ref a12])), (a3, .inr (7, [.ref a13, .int 0, .ref a14, .ref a15, .ref a16, .ref a17, .int 0, .ref a18, .ref a19, .ref a20, .ref a21, .ref a22, .int 0, .ref a23, .ref a24, .ref a25])), (a0, .inr (0, [.ref a26, .ref a27, .ref a28, .int 0, .ref a29, .ref a30, .ref a31, .int 0, .ref a32, .int 1, .int 0])), (a27, .inl (cI, 5329, .inl z0)), (a29, .inl (cI, 6, .inl z0)), (a30, .inl (cI, 511, .inl z0)), (a31, .inl (cI, 6, .inl z0))] := hD
  refine lv_aload_n hx hb dX0_refresh_29 rfl (lv_at hl 0 rfl) ?_
  refine lv_iconst (v := 0) hx hb dX0_refresh_30 (by decide) ?_
  refine va_put (D := (dC, dI)) (ci := 0) (v := .int 0) (ty := .int) (C := RX0) (T := TX0) (N := 11) hx hb hU inlX0 tyX0 tyX0_ok nmX0 hown hK hP hD hS 2 rfl rfl 3 (by decide) (hU _ wd_1195) (fun _ h9 => h9) rfl (by decide +kernel) rfl rfl (Nat.le_of_ble_eq_true rfl) dX0_refresh_31 (fun H locs hP hD hS => ?_)
  have hP : va_P (dC, dI) vwCl [(a1, .inr (3, [.ref a3, .ref a4, .ref a5, .ref a6, .ref a7, .int 0, .int 0, .int 0, .int 0, .int 0, .int 0, .int (-1), .ref a8, .ref a9, .ref a10, .int 0, .ref a11, .ref a12])), (a3, .inr (7, [.ref a13, .int 0, .ref a14, .ref a15, .ref a16, .ref a17, .int 0, .ref a18, .ref a19, .ref a20, .ref a21, .ref a22, .int 0, .ref a23, .ref a24, .ref a25])), (a0, .inr (0, [.ref a26, .ref a27, .ref a28, .int 0, .ref a29, .ref a30, .ref a31, .int 0, .ref a32, .int 1, .int 0])), (a27, .inl (cI, 5329, .inl z0)), (a29, .inl (cI, 6, .inl z0)), (a30, .inl (cI, 511, .inl z0)), (a31, .inl (cI, 6, .inl z0))] H := hP
  have hD : va_D A [(a1, .inr (3, [.ref a3, .ref a4, .ref a5, .ref a6, .ref a7, .int 0, .int 0, .int 0, .int 0, .int 0, .int 0, .int (-1), .ref a8, .ref a9, .ref a10, .int 0, .ref a11, .ref a12])), (a3, .inr (7, [.ref a13, .int 0, .ref a14, .ref a15, .ref a16, .ref a17, .int 0, .ref a18, .ref a19, .ref a20, .ref a21, .ref a22, .int 0, .ref a23, .ref a24, .ref a25])), (a0, .inr (0, [.ref a26, .ref a27, .ref a28, .int 0, .ref a29, .ref a30, .ref a31, .int 0, .ref a32, .int 1, .int 0])), (a27, .inl (cI, 5329, .inl z0)), (a29, .inl (cI, 6, .inl z0)), (a30, .inl (cI, 511, .inl z0)), (a31, .inl (cI, 6, .inl z0))] := hD
  refine lv_iconst (v := 0) hx hb dX0_refresh_34 (by decide) ?_
  refine lv_istore (lv' := [(5, .int 0), (0, .ref a0), (1, .int 1), (2, .ref a1), (3, .ref a2), (4, .int 0)]) hx hb dX0_refresh_35 hl (by decide) rfl (fun ls hl => ?_)
  refine lv_iload hx hb dX0_refresh_37 (lv_at hl 0 rfl) ?_
  refine lv_aload_n hx hb dX0_refresh_39 rfl (lv_at hl 3 rfl) ?_
  refine va_get (D := (dC, dI)) (ci := 3) (v := .ref a3) (C := RX3) (T := TX3) (N := 18) hx hb hU inlX3 hown hK hP 0 rfl rfl 0 (by decide) (hU _ wd_1196) (fun _ h9 => h9) rfl dX0_refresh_40 ?_
  refine va_get (D := (dC, dI)) (ci := 7) (v := .int 0) (C := RX7) (T := TX7) (N := 16) hx hb hU inlX7 hown hK hP 1 rfl rfl 12 (by decide) (hU _ wd_1197) (fun _ h9 => h9) rfl dX0_refresh_43 ?_
  refine lv_icmp_ge (tgt := 108) hx hb dX0_refresh_46 (by decide) (fun _ => ?_) (fun c9 => absurd (by decide) c9) 
  refine lv_aload_n hx hb dX0_refresh_108 rfl (lv_at hl 1 rfl) ?_
  refine lv_aload_n hx hb dX0_refresh_109 rfl (lv_at hl 3 rfl) ?_
  refine lv_aload_n hx hb dX0_refresh_110 rfl (lv_at hl 4 rfl) ?_
  refine tk_rv (wr := [(a29, .inl (cI, 6, .inl z0)), (a30, .inl (cI, 511, .inl z0)), (a31, .inl (cI, 6, .inl z0))]) (tk_V (As := [.ref a1, .ref a2]) (rest := []) (n := 2) hx hb hml hown hU hN (cc_X0_fillAgrees_0 l (dC, dI) cI cL cZ H.size a0 a1 a2 a3 a4 a5 a6 a7 a8 a9 a10 a11 a12 a13 a14 a15 a16 a17 a18 a19 a20 a21 a22 a23 a24 a25 a26 a27 a28 a29 a30 a31 a32) wd_1209 wd_1210 wd_1211 wd_37 wd_1212 (by decide +kernel) ⟨Nat.le_of_ble_eq_true rfl, Nat.le_of_ble_eq_true rfl⟩ hK hP hD [0, 1, 2, 3] (by decide) rfl 2 0 rfl rfl rfl rfl hl.1 rfl (Nat.le_of_ble_eq_true rfl) dX0_refresh_111 ⟨Nat.le_of_ble_eq_true rfl, Nat.le_of_ble_eq_true rfl⟩) hP hD hS hA [0, 1, 2, 3] [4, 5, 6] rfl rfl (by decide) (by decide) (fun w_2 H locs hw hP hD hS => ?_)
  subst hw
  have hP : va_P (dC, dI) vwCl [(a29, .inl (cI, 6, .inl z0)), (a30, .inl (cI, 511, .inl z0)), (a31, .inl (cI, 6, .inl z0)), (a1, .inr (3, [.ref a3, .ref a4, .ref a5, .ref a6, .ref a7, .int 0, .int 0, .int 0, .int 0, .int 0, .int 0, .int (-1), .ref a8, .ref a9, .ref a10, .int 0, .ref a11, .ref a12])), (a3, .inr (7, [.ref a13, .int 0, .ref a14, .ref a15, .ref a16, .ref a17, .int 0, .ref a18, .ref a19, .ref a20, .ref a21, .ref a22, .int 0, .ref a23, .ref a24, .ref a25])), (a0, .inr (0, [.ref a26, .ref a27, .ref a28, .int 0, .ref a29, .ref a30, .ref a31, .int 0, .ref a32, .int 1, .int 0])), (a27, .inl (cI, 5329, .inl z0))] H := hP
  have hD : va_D A [(a29, .inl (cI, 6, .inl z0)), (a30, .inl (cI, 511, .inl z0)), (a31, .inl (cI, 6, .inl z0)), (a1, .inr (3, [.ref a3, .ref a4, .ref a5, .ref a6, .ref a7, .int 0, .int 0, .int 0, .int 0, .int 0, .int 0, .int (-1), .ref a8, .ref a9, .ref a10, .int 0, .ref a11, .ref a12])), (a3, .inr (7, [.ref a13, .int 0, .ref a14, .ref a15, .ref a16, .ref a17, .int 0, .ref a18, .ref a19, .ref a20, .ref a21, .ref a22, .int 0, .ref a23, .ref a24, .ref a25])), (a0, .inr (0, [.ref a26, .ref a27, .ref a28, .int 0, .ref a29, .ref a30, .ref a31, .int 0, .ref a32, .int 1, .int 0])), (a27, .inl (cI, 5329, .inl z0))] := hD
  refine lv_iconst (v := 0) hx hb dX0_refresh_114 (by decide) ?_
  refine lv_istore (lv' := [(5, .int 0), (0, .ref a0), (1, .int 1), (2, .ref a1), (3, .ref a2), (4, .int 0)]) hx hb dX0_refresh_115 hl (by decide) rfl (fun ls hl => ?_)
  have hloop_117 : ∀ (n i_4 : Nat) (x_3 : Int32), x_3 = nI i_4 → i_4 ≤ 73 → 73 + 1 ≤ i_4 + n → ∀ (H : Heap) (locs : List Loc), va_P (dC, dI) vwCl [(a29, .inl (cI, 6, .inl z0)), (a30, .inl (cI, 511, .inl (stg i_4))), (a31, .inl (cI, 6, .inl z0)), (a1, .inr (3, [.ref a3, .ref a4, .ref a5, .ref a6, .ref a7, .int 0, .int 0, .int 0, .int 0, .int 0, .int 0, .int (-1), .ref a8, .ref a9, .ref a10, .int 0, .ref a11, .ref a12])), (a3, .inr (7, [.ref a13, .int 0, .ref a14, .ref a15, .ref a16, .ref a17, .int 0, .ref a18, .ref a19, .ref a20, .ref a21, .ref a22, .int 0, .ref a23, .ref a24, .ref a25])), (a0, .inr (0, [.ref a26, .ref a27, .ref a28, .int 0, .ref a29, .ref a30, .ref a31, .int 0, .ref a32, .int 1, .int 0])), (a27, .inl (cI, 5329, .inl z0))] H → va_D A [(a29, .inl (cI, 6, .inl z0)), (a30, .inl (cI, 511, .inl (stg i_4))), (a31, .inl (cI, 6, .inl z0)), (a1, .inr (3, [.ref a3, .ref a4, .ref a5, .ref a6, .ref a7, .int 0, .int 0, .int 0, .int 0, .int 0, .int 0, .int (-1), .ref a8, .ref a9, .ref a10, .int 0, .ref a11, .ref a12])), (a3, .inr (7, [.ref a13, .int 0, .ref a14, .ref a15, .ref a16, .ref a17, .int 0, .ref a18, .ref a19, .ref a20, .ref a21, .ref a22, .int 0, .ref a23, .ref a24, .ref a25])), (a0, .inr (0, [.ref a26, .ref a27, .ref a28, .int 0, .ref a29, .ref a30, .ref a31, .int 0, .ref a32, .int 1, .int 0])), (a27, .inl (cI, 5329, .inl z0))] → va_S A s.heap H locs → ∀ (ls : Array Slot), lv_has ls 6 [(5, .int x_3), (0, .ref a0), (1, .int 1), (2, .ref a1), (3, .ref a2), (4, .int 0)] → W p l e (headSpec (wU yX0_refresh cX0_refresh 6 none) { frames := 3, cells := 0, slots := 0, locals := 88 }).room s m [.ref a0, .int 1, .ref a1, .ref a2, .int 0].toArray below meth c H locs 0 0 (MQ below (va_Qv (fun (w1 : va_W) => w1 = ([(a1, .inr (3, [.ref a3, .ref a4, .ref a5, .ref a6, .ref a7, .int 0, .int 0, .int 0, .int 0, .int 0, .int 0, .int (-1), .ref a8, .ref a9, .ref a10, .int 0, .ref a11, .ref a12])), (a3, .inr (7, [.ref a13, .int 0, .ref a14, .ref a15, .ref a16, .ref a17, .int 0, .ref a18, .ref a19, .ref a20, .ref a21, .ref a22, .int 0, .ref a23, .ref a24, .ref a25])), (a29, .inl (cI, 6, .inl z0)), (a30, .inl (cI, 511, .inl (stg 73))), (a31, .inl (cI, 6, .inl z0)), (a0, .inr (0, [.ref a26, .ref a27, .ref a28, .int 0, .ref a29, .ref a30, .ref a31, .int 0, .ref a32, .int 1, .int 0])), (a27, .inl (cI, 5329, .inl z0))] : va_W)) (qB (dC, dI) cI cL cZ A) A) [.ref a0, .int 1, .ref a1, .ref a2, .int 0].toArray s 0 0 A) (F0 m 117 ls []) := by
    intro n
    induction n with
    | zero => intro i_4 x_3 ex_3 hi hn; exact absurd hn (by omega)
    | succ n ih =>
      intro i_4 x_3 ex_3 hi hn H locs hP hD hS ls hl
      refine lv_iload hx hb dX0_refresh_117 (lv_at hl 0 rfl) ?_
      refine lv_bipush (v := 73) hx hb dX0_refresh_119 (by decide) ?_
      refine lv_icmp_ge (tgt := 139) hx hb dX0_refresh_121 (by decide) (fun c_5 => ?_) (fun c_5 => ?_)
      · skip
        have hge : 73 ≤ i_4 := by rcases Nat.lt_or_ge i_4 73 with q | q; exact absurd c_5 (by rw [ex_3]; exact nI_ge (b := 73) q (by omega)); exact q
        have hiN : i_4 = 73 := by omega
        have hP : va_P (dC, dI) vwCl [(a29, .inl (cI, 6, .inl z0)), (a30, .inl (cI, 511, .inl (stg 73))), (a31, .inl (cI, 6, .inl z0)), (a1, .inr (3, [.ref a3, .ref a4, .ref a5, .ref a6, .ref a7, .int 0, .int 0, .int 0, .int 0, .int 0, .int 0, .int (-1), .ref a8, .ref a9, .ref a10, .int 0, .ref a11, .ref a12])), (a3, .inr (7, [.ref a13, .int 0, .ref a14, .ref a15, .ref a16, .ref a17, .int 0, .ref a18, .ref a19, .ref a20, .ref a21, .ref a22, .int 0, .ref a23, .ref a24, .ref a25])), (a0, .inr (0, [.ref a26, .ref a27, .ref a28, .int 0, .ref a29, .ref a30, .ref a31, .int 0, .ref a32, .int 1, .int 0])), (a27, .inl (cI, 5329, .inl z0))] H := by rw [hiN] at hP; exact hP
        have hD : va_D A [(a29, .inl (cI, 6, .inl z0)), (a30, .inl (cI, 511, .inl (stg 73))), (a31, .inl (cI, 6, .inl z0)), (a1, .inr (3, [.ref a3, .ref a4, .ref a5, .ref a6, .ref a7, .int 0, .int 0, .int 0, .int 0, .int 0, .int 0, .int (-1), .ref a8, .ref a9, .ref a10, .int 0, .ref a11, .ref a12])), (a3, .inr (7, [.ref a13, .int 0, .ref a14, .ref a15, .ref a16, .ref a17, .int 0, .ref a18, .ref a19, .ref a20, .ref a21, .ref a22, .int 0, .ref a23, .ref a24, .ref a25])), (a0, .inr (0, [.ref a26, .ref a27, .ref a28, .int 0, .ref a29, .ref a30, .ref a31, .int 0, .ref a32, .int 1, .int 0])), (a27, .inl (cI, 5329, .inl z0))] := by rw [hiN] at hD; exact hD
        refine lv_aload_n hx hb dX0_refresh_139 rfl (lv_at hl 1 rfl) ?_
        refine lv_iconst (v := (-1)) hx hb dX0_refresh_140 (by decide) ?_
        refine va_put (D := (dC, dI)) (ci := 0) (v := .int (-1)) (ty := .int) (C := RX0) (T := TX0) (N := 11) hx hb hU inlX0 tyX0 tyX0_ok nmX0 hown hK hP hD hS 5 rfl rfl 7 (by decide) (hU _ wd_1199) (fun _ h9 => h9) rfl (by decide +kernel) rfl rfl (Nat.le_of_ble_eq_true rfl) dX0_refresh_141 (fun H locs hP hD hS => ?_)
        have hP : va_P (dC, dI) vwCl [(a29, .inl (cI, 6, .inl z0)), (a30, .inl (cI, 511, .inl (stg 73))), (a31, .inl (cI, 6, .inl z0)), (a1, .inr (3, [.ref a3, .ref a4, .ref a5, .ref a6, .ref a7, .int 0, .int 0, .int 0, .int 0, .int 0, .int 0, .int (-1), .ref a8, .ref a9, .ref a10, .int 0, .ref a11, .ref a12])), (a3, .inr (7, [.ref a13, .int 0, .ref a14, .ref a15, .ref a16, .ref a17, .int 0, .ref a18, .ref a19, .ref a20, .ref a21, .ref a22, .int 0, .ref a23, .ref a24, .ref a25])), (a0, .inr (0, [.ref a26, .ref a27, .ref a28, .int 0, .ref a29, .ref a30, .ref a31, .int (-1), .ref a32, .int 1, .int 0])), (a27, .inl (cI, 5329, .inl z0))] H := hP
        have hD : va_D A [(a29, .inl (cI, 6, .inl z0)), (a30, .inl (cI, 511, .inl (stg 73))), (a31, .inl (cI, 6, .inl z0)), (a1, .inr (3, [.ref a3, .ref a4, .ref a5, .ref a6, .ref a7, .int 0, .int 0, .int 0, .int 0, .int 0, .int 0, .int (-1), .ref a8, .ref a9, .ref a10, .int 0, .ref a11, .ref a12])), (a3, .inr (7, [.ref a13, .int 0, .ref a14, .ref a15, .ref a16, .ref a17, .int 0, .ref a18, .ref a19, .ref a20, .ref a21, .ref a22, .int 0, .ref a23, .ref a24, .ref a25])), (a0, .inr (0, [.ref a26, .ref a27, .ref a28, .int 0, .ref a29, .ref a30, .ref a31, .int (-1), .ref a32, .int 1, .int 0])), (a27, .inl (cI, 5329, .inl z0))] := hD
        refine lv_aload_n hx hb dX0_refresh_144 rfl (lv_at hl 1 rfl) ?_
        refine lv_iconst (v := 0) hx hb dX0_refresh_145 (by decide) ?_
        refine lv_iconst (v := 0) hx hb dX0_refresh_146 (by decide) ?_
        refine tk_rv (wr := [(a1, .inr (3, [.ref a3, .ref a4, .ref a5, .ref a6, .ref a7, .int 0, .int 0, .int 0, .int 0, .int 0, .int 0, .int (-1), .ref a8, .ref a9, .ref a10, .int 0, .ref a11, .ref a12])), (a3, .inr (7, [.ref a13, .int 0, .ref a14, .ref a15, .ref a16, .ref a17, .int 0, .ref a18, .ref a19, .ref a20, .ref a21, .ref a22, .int 0, .ref a23, .ref a24, .ref a25]))]) (tk_V (As := [.int 0, .int 0]) (rest := []) (n := 2) hx hb hml hown hU hN (cc_X0_tryOrders_0 l (dC, dI) cI cL cZ H.size a0 a29 a30 a31 a26 a27 a28 a32) wd_1224 wd_1225 wd_1226 wd_37 wd_1227 (by decide +kernel) ⟨Nat.le_of_ble_eq_true rfl, Nat.le_of_ble_eq_true rfl⟩ hK hP hD [0, 1, 2, 5, 6] (by decide) rfl 3 0 rfl rfl rfl rfl hl.1 rfl (Nat.le_of_ble_eq_true rfl) dX0_refresh_147 ⟨Nat.le_of_ble_eq_true rfl, Nat.le_of_ble_eq_true rfl⟩) hP hD hS hA [0, 1, 2, 5, 6] [3, 4] rfl rfl (by decide) (by decide) (fun w_7 H locs hw hP hD hS => ?_)
        subst hw
        have hP : va_P (dC, dI) vwCl [(a1, .inr (3, [.ref a3, .ref a4, .ref a5, .ref a6, .ref a7, .int 0, .int 0, .int 0, .int 0, .int 0, .int 0, .int (-1), .ref a8, .ref a9, .ref a10, .int 0, .ref a11, .ref a12])), (a3, .inr (7, [.ref a13, .int 0, .ref a14, .ref a15, .ref a16, .ref a17, .int 0, .ref a18, .ref a19, .ref a20, .ref a21, .ref a22, .int 0, .ref a23, .ref a24, .ref a25])), (a29, .inl (cI, 6, .inl z0)), (a30, .inl (cI, 511, .inl (stg 73))), (a31, .inl (cI, 6, .inl z0)), (a0, .inr (0, [.ref a26, .ref a27, .ref a28, .int 0, .ref a29, .ref a30, .ref a31, .int 0, .ref a32, .int 1, .int 0])), (a27, .inl (cI, 5329, .inl z0))] H := hP
        have hD : va_D A [(a1, .inr (3, [.ref a3, .ref a4, .ref a5, .ref a6, .ref a7, .int 0, .int 0, .int 0, .int 0, .int 0, .int 0, .int (-1), .ref a8, .ref a9, .ref a10, .int 0, .ref a11, .ref a12])), (a3, .inr (7, [.ref a13, .int 0, .ref a14, .ref a15, .ref a16, .ref a17, .int 0, .ref a18, .ref a19, .ref a20, .ref a21, .ref a22, .int 0, .ref a23, .ref a24, .ref a25])), (a29, .inl (cI, 6, .inl z0)), (a30, .inl (cI, 511, .inl (stg 73))), (a31, .inl (cI, 6, .inl z0)), (a0, .inr (0, [.ref a26, .ref a27, .ref a28, .int 0, .ref a29, .ref a30, .ref a31, .int 0, .ref a32, .int 1, .int 0])), (a27, .inl (cI, 5329, .inl z0))] := hD
        have hP9 := hP.sub (ws' := [(a1, .inr (3, [.ref a3, .ref a4, .ref a5, .ref a6, .ref a7, .int 0, .int 0, .int 0, .int 0, .int 0, .int 0, .int (-1), .ref a8, .ref a9, .ref a10, .int 0, .ref a11, .ref a12])), (a3, .inr (7, [.ref a13, .int 0, .ref a14, .ref a15, .ref a16, .ref a17, .int 0, .ref a18, .ref a19, .ref a20, .ref a21, .ref a22, .int 0, .ref a23, .ref a24, .ref a25])), (a29, .inl (cI, 6, .inl z0)), (a30, .inl (cI, 511, .inl (stg 73))), (a31, .inl (cI, 6, .inl z0)), (a0, .inr (0, [.ref a26, .ref a27, .ref a28, .int 0, .ref a29, .ref a30, .ref a31, .int 0, .ref a32, .int 1, .int 0])), (a27, .inl (cI, 5329, .inl z0))]) [0, 1, 2, 3, 4, 5, 6] rfl
        have hD9 := hD.sub (ws' := [(a1, .inr (3, [.ref a3, .ref a4, .ref a5, .ref a6, .ref a7, .int 0, .int 0, .int 0, .int 0, .int 0, .int 0, .int (-1), .ref a8, .ref a9, .ref a10, .int 0, .ref a11, .ref a12])), (a3, .inr (7, [.ref a13, .int 0, .ref a14, .ref a15, .ref a16, .ref a17, .int 0, .ref a18, .ref a19, .ref a20, .ref a21, .ref a22, .int 0, .ref a23, .ref a24, .ref a25])), (a29, .inl (cI, 6, .inl z0)), (a30, .inl (cI, 511, .inl (stg 73))), (a31, .inl (cI, 6, .inl z0)), (a0, .inr (0, [.ref a26, .ref a27, .ref a28, .int 0, .ref a29, .ref a30, .ref a31, .int 0, .ref a32, .int 1, .int 0])), (a27, .inl (cI, 5329, .inl z0))]) [0, 1, 2, 3, 4, 5, 6] (by decide) rfl
        refine W.widen (k := 0) (n := 0) (Nat.le_of_ble_eq_true rfl) (Nat.le_of_ble_eq_true rfl) ?_
        exact W.vret hx hb hr (fun t ht hW => ⟨⟨[(a1, .inr (3, [.ref a3, .ref a4, .ref a5, .ref a6, .ref a7, .int 0, .int 0, .int 0, .int 0, .int 0, .int 0, .int (-1), .ref a8, .ref a9, .ref a10, .int 0, .ref a11, .ref a12])), (a3, .inr (7, [.ref a13, .int 0, .ref a14, .ref a15, .ref a16, .ref a17, .int 0, .ref a18, .ref a19, .ref a20, .ref a21, .ref a22, .int 0, .ref a23, .ref a24, .ref a25])), (a29, .inl (cI, 6, .inl z0)), (a30, .inl (cI, 511, .inl (stg 73))), (a31, .inl (cI, 6, .inl z0)), (a0, .inr (0, [.ref a26, .ref a27, .ref a28, .int 0, .ref a29, .ref a30, .ref a31, .int 0, .ref a32, .int 1, .int 0])), (a27, .inl (cI, 5329, .inl z0))], rfl, rfl, by rw [ht]; exact hP9, va_K.moved hW.alike hK, hD9⟩, hS.F ht⟩) hS.2.2 dX0_refresh_150
      · skip
        have hlt : i_4 < 73 := by rcases Nat.lt_or_ge i_4 73 with q | q; exact q; exact absurd (by rw [ex_3]; exact nI_le (a := 73) q (by omega)) c_5
        refine lv_aload_n hx hb dX0_refresh_124 rfl (lv_at hl 1 rfl) ?_
        refine va_get (D := (dC, dI)) (ci := 0) (v := .ref a30) (C := RX0) (T := TX0) (N := 11) hx hb hU inlX0 hown hK hP 5 rfl rfl 5 (by decide) (hU _ wd_161) (fun _ h9 => h9) rfl dX0_refresh_125 ?_
        refine lv_iload hx hb dX0_refresh_128 (lv_at hl 0 rfl) ?_
        refine lv_iload hx hb dX0_refresh_130 (lv_at hl 0 rfl) ?_
        refine va_iast hx hb hK hP hD hS 1 0 rfl rfl (by rw [ex_3]; exact vp_in_nI (by omega) (by omega)) dX0_refresh_132 (fun H locs hP hD hS => ?_)
        obtain ⟨g_8, eg_8⟩ : ∃ y : Nat → Int32, upd (stg i_4) (Int32.toNatClampNeg x_3) x_3 = y := ⟨_, rfl⟩
        have hP : va_P (dC, dI) vwCl [(a29, .inl (cI, 6, .inl z0)), (a30, .inl (cI, 511, .inl g_8)), (a31, .inl (cI, 6, .inl z0)), (a1, .inr (3, [.ref a3, .ref a4, .ref a5, .ref a6, .ref a7, .int 0, .int 0, .int 0, .int 0, .int 0, .int 0, .int (-1), .ref a8, .ref a9, .ref a10, .int 0, .ref a11, .ref a12])), (a3, .inr (7, [.ref a13, .int 0, .ref a14, .ref a15, .ref a16, .ref a17, .int 0, .ref a18, .ref a19, .ref a20, .ref a21, .ref a22, .int 0, .ref a23, .ref a24, .ref a25])), (a0, .inr (0, [.ref a26, .ref a27, .ref a28, .int 0, .ref a29, .ref a30, .ref a31, .int 0, .ref a32, .int 1, .int 0])), (a27, .inl (cI, 5329, .inl z0))] H := by rw [eg_8] at hP; exact hP
        have hD : va_D A [(a29, .inl (cI, 6, .inl z0)), (a30, .inl (cI, 511, .inl g_8)), (a31, .inl (cI, 6, .inl z0)), (a1, .inr (3, [.ref a3, .ref a4, .ref a5, .ref a6, .ref a7, .int 0, .int 0, .int 0, .int 0, .int 0, .int 0, .int (-1), .ref a8, .ref a9, .ref a10, .int 0, .ref a11, .ref a12])), (a3, .inr (7, [.ref a13, .int 0, .ref a14, .ref a15, .ref a16, .ref a17, .int 0, .ref a18, .ref a19, .ref a20, .ref a21, .ref a22, .int 0, .ref a23, .ref a24, .ref a25])), (a0, .inr (0, [.ref a26, .ref a27, .ref a28, .int 0, .ref a29, .ref a30, .ref a31, .int 0, .ref a32, .int 1, .int 0])), (a27, .inl (cI, 5329, .inl z0))] := by rw [eg_8] at hD; exact hD
        obtain ⟨x_9, ex_9⟩ : ∃ y : Int32, x_3 + 1 = y := ⟨_, rfl⟩
        refine lv_iinc (v := x_9) (lv' := [(5, .int x_9), (0, .ref a0), (1, .int 1), (2, .ref a1), (3, .ref a2), (4, .int 0)]) hx hb dX0_refresh_133 hl (k := 0) rfl ex_9 (by decide) rfl (fun ls hl => ?_)
        refine lv_goto (tgt := 117) hx hb dX0_refresh_136 (by decide) ?_
        exact ih (i_4 + 1) x_9 (by rw [← ex_9, ex_3]; exact nI_1 i_4) (by omega) (by omega) _ _ (by rw [(show stg (i_4 + 1) = g_8 from by rw [← eg_8, ex_3, nI_clamp (by omega)]; exact (stg_s i_4).symm)]; exact hP) (by rw [(show stg (i_4 + 1) = g_8 from by rw [← eg_8, ex_3, nI_clamp (by omega)]; exact (stg_s i_4).symm)]; exact hD) hS ls (lv_sub hl [0, 1, 2, 3, 4, 5] rfl)
  exact hloop_117 (73 + 1) 0 0 nI_0.symm (Nat.zero_le _) (by omega) _ _ (by rw [stg_0]; exact hP) (by rw [stg_0]; exact hD) hS ls hl
