set_option maxHeartbeats 8000000 in
set_option maxRecDepth 100000 in
theorem op_X11_quarrel (l : Launch) (D : va_G) (cI cL cZ : ClassId) (sz : Nat) (a0 : Nat) (x0 : Int32) (x1 : Int32) (a1 : Nat) (a2 : Nat) (a3 : Nat) (a4 : Nat) (a5 : Nat) (a6 : Nat) (a7 : Nat) (a8 : Nat) (a9 : Nat) (a10 : Nat) (a11 : Nat) (a12 : Nat) (a13 : Nat) (a14 : Nat) (a15 : Nat) (a16 : Nat) (a17 : Nat) (a18 : Nat) (a19 : Nat) (a20 : Nat) (a21 : Nat) (a22 : Nat) (a23 : Nat) (a24 : Nat) (a25 : Nat) (a26 : Nat) : mI l D cI cL cZ yX11_quarrel cX11_quarrel 5 (some .int) 1 21 0 0 [.ref a0, .int x0, .int x1] sz [(a0, .inr (11, [.ref a1, .int 0, .ref a2, .ref a3, .ref a4, .ref a5, .ref a6, .ref a7, .int 0, .ref a8, .ref a9, .ref a10, .int 0, .int (-1), .ref a11, .int 0, .ref a12, .ref a13, .int 0])), (a3, .inr (7, [.ref a14, .int 0, .ref a15, .ref a16, .ref a17, .ref a18, .int 0, .ref a19, .ref a20, .ref a21, .ref a22, .ref a23, .int 0, .ref a24, .ref a25, .ref a26]))] (fun (r : Int32) (w1 : va_W) => r = (-1) ∧ w1 = ([] : va_W)) := by
  obtain ⟨dC, dI⟩ := D
  refine Met.ofW (cc := cX11_quarrel) (maxL := 5) (ret := (some .int)) (by decide) rfl ?_
  intro p e s m args below meth c s₁ B hml hv
  obtain ⟨rfl, hsz, hP, hK, hD0, hN⟩ := hv
  have hx := B.exec
  have hb := B.bytes
  have hr := B.returns
  have hU : ∀ w ∈ wsU, w.before _ s = true := fun w h => atoms_spec (ws := wU yX11_quarrel cX11_quarrel 5 (some .int)) B.pre w (List.mem_cons_of_mem _ h)
  have hown : s.vm.findClass RX11 = some m.cls := findClass_of_methodNamed B.named
  have hlocks := B.notSynchronized
  subst hsz
  have hD := hD0.self (sz := s.heap.size)
  generalize hAe : va_A [(a0, .inr (11, [.ref a1, .int 0, .ref a2, .ref a3, .ref a4, .ref a5, .ref a6, .ref a7, .int 0, .ref a8, .ref a9, .ref a10, .int 0, .int (-1), .ref a11, .int 0, .ref a12, .ref a13, .int 0])), (a3, .inr (7, [.ref a14, .int 0, .ref a15, .ref a16, .ref a17, .ref a18, .int 0, .ref a19, .ref a20, .ref a21, .ref a22, .ref a23, .int 0, .ref a24, .ref a25, .ref a26]))] s.heap.size = A at hD ⊢
  have hA : ∀ q : Nat, s.heap.size ≤ q → A q := fun q h => by rw [← hAe]; exact Or.inr h
  have hS : va_S A s.heap s.heap [] := va_S.rf
  have hP : va_P (dC, dI) vwCl [(a0, .inr (11, [.ref a1, .int 0, .ref a2, .ref a3, .ref a4, .ref a5, .ref a6, .ref a7, .int 0, .ref a8, .ref a9, .ref a10, .int 0, .int (-1), .ref a11, .int 0, .ref a12, .ref a13, .int 0])), (a3, .inr (7, [.ref a14, .int 0, .ref a15, .ref a16, .ref a17, .ref a18, .int 0, .ref a19, .ref a20, .ref a21, .ref a22, .ref a23, .int 0, .ref a24, .ref a25, .ref a26]))] s.heap := hP
  have hl := lv_entry ([.ref a0, .int x0, .int x1]) (n := 5) (Nat.le_of_ble_eq_true rfl)
  rw [lg_entry_eq]
  generalize (lg_sl ([.ref a0, .int x0, .int x1]) ++ List.replicate (5 - (lg_sl ([.ref a0, .int x0, .int x1])).length) Slot.unset).toArray = ls at hl ⊢
  have hl : lv_has ls 5 [(0, .ref a0), (1, .int x0), (2, .int x1)] := hl
  refine lv_aload_n hx hb dX11_quarrel_0 rfl (lv_at hl 0 rfl) ?_
  refine lv_iload_n hx hb dX11_quarrel_1 rfl (lv_at hl 1 rfl) ?_
  refine tk_ri (wr := []) (tk_V (As := [.int x0]) (rest := []) (n := 1) hx hb hml hown hU hN (cc_X11_isRule_0 l (dC, dI) cI cL cZ s.heap.size a0 x0 a1 a2 a3 a4 a5 a6 a7 a8 a9 a10 a11 a12 a13 a14 a15 a16 a17 a18 a19 a20 a21 a22 a23 a24 a25 a26) wd_1135 wd_1136 wd_1137 wd_2 wd_1138 (by decide +kernel) ⟨Nat.le_of_ble_eq_true rfl, Nat.le_of_ble_eq_true rfl⟩ hK hP hD [0, 1] (by decide) rfl 0 11 rfl rfl rfl rfl hl.1 rfl (Nat.le_of_ble_eq_true rfl) dX11_quarrel_2 ⟨Nat.le_of_ble_eq_true rfl, Nat.le_of_ble_eq_true rfl⟩) hP hD hS hA [0, 1] [] rfl rfl (by decide) (by decide) (fun r_1 w_2 H locs hw hP hD hS => ?_)
  obtain ⟨rfl, rfl⟩ := hw
  have hP : va_P (dC, dI) vwCl [(a0, .inr (11, [.ref a1, .int 0, .ref a2, .ref a3, .ref a4, .ref a5, .ref a6, .ref a7, .int 0, .ref a8, .ref a9, .ref a10, .int 0, .int (-1), .ref a11, .int 0, .ref a12, .ref a13, .int 0])), (a3, .inr (7, [.ref a14, .int 0, .ref a15, .ref a16, .ref a17, .ref a18, .int 0, .ref a19, .ref a20, .ref a21, .ref a22, .ref a23, .int 0, .ref a24, .ref a25, .ref a26]))] H := hP
  have hD : va_D A [(a0, .inr (11, [.ref a1, .int 0, .ref a2, .ref a3, .ref a4, .ref a5, .ref a6, .ref a7, .int 0, .ref a8, .ref a9, .ref a10, .int 0, .int (-1), .ref a11, .int 0, .ref a12, .ref a13, .int 0])), (a3, .inr (7, [.ref a14, .int 0, .ref a15, .ref a16, .ref a17, .ref a18, .int 0, .ref a19, .ref a20, .ref a21, .ref a22, .ref a23, .int 0, .ref a24, .ref a25, .ref a26]))] := hD
  refine lv_if_eq (tgt := 21) hx hb dX11_quarrel_5 (by decide) (fun _ => ?_) (fun c9 => absurd (by decide) c9) 
  refine lv_iconst (v := (-1)) hx hb dX11_quarrel_21 (by decide) ?_
  have hP9 := hP.sub (ws' := []) [] rfl
  have hD9 := hD.sub (ws' := []) [] (by decide) rfl
  refine W.widen (k := 0) (n := 0) (Nat.le_of_ble_eq_true rfl) (Nat.le_of_ble_eq_true rfl) ?_
  exact W.iret (v := (-1)) hx hb hr (fun t ht hW => ⟨⟨(-1), [], rfl, ⟨rfl, rfl⟩, by rw [ht]; exact hP9, va_K.moved hW.alike hK, hD9⟩, hS.F ht⟩) hS.2.2 dX11_quarrel_22
set_option maxHeartbeats 8000000 in
set_option maxRecDepth 100000 in
theorem cc_X11_firstParted_0 (l : Launch) (D : va_G) (cI cL cZ : ClassId) (sz : Nat) (a0 : Nat) (a1 : Nat) (a2 : Nat) (a3 : Nat) (a4 : Nat) (a5 : Nat) (a6 : Nat) (a7 : Nat) (a8 : Nat) (a9 : Nat) (a10 : Nat) (a11 : Nat) (a12 : Nat) (a13 : Nat) : mI l D cI cL cZ yX11_firstParted cX11_firstParted 8 (some .int) 0 0 0 0 [.ref a0, .int 0, .int 0, .int 1] sz [(a0, .inr (11, [.ref a1, .int 0, .ref a2, .ref a3, .ref a4, .ref a5, .ref a6, .ref a7, .int 0, .ref a8, .ref a9, .ref a10, .int 0, .int (-1), .ref a11, .int 0, .ref a12, .ref a13, .int 0]))] (fun (r : Int32) (w1 : va_W) => r = (-1) ∧ w1 = ([(a0, .inr (11, [.ref a1, .int 0, .ref a2, .ref a3, .ref a4, .ref a5, .ref a6, .ref a7, .int 0, .ref a8, .ref a9, .ref a10, .int 0, .int (-1), .ref a11, .int 0, .ref a12, .ref a13, .int 0]))] : va_W)) := by
  obtain ⟨dC, dI⟩ := D
  refine Met.ofW (cc := cX11_firstParted) (maxL := 8) (ret := (some .int)) (by decide) rfl ?_
  intro p e s m args below meth c s₁ B hml hv
  obtain ⟨rfl, hsz, hP, hK, hD0, hN⟩ := hv
  have hx := B.exec
  have hb := B.bytes
  have hr := B.returns
  have hU : ∀ w ∈ wsU, w.before _ s = true := fun w h => atoms_spec (ws := wU yX11_firstParted cX11_firstParted 8 (some .int)) B.pre w (List.mem_cons_of_mem _ h)
  have hown : s.vm.findClass RX11 = some m.cls := findClass_of_methodNamed B.named
  have hlocks := B.notSynchronized
  subst hsz
  have hD := hD0.self (sz := s.heap.size)
  generalize hAe : va_A [(a0, .inr (11, [.ref a1, .int 0, .ref a2, .ref a3, .ref a4, .ref a5, .ref a6, .ref a7, .int 0, .ref a8, .ref a9, .ref a10, .int 0, .int (-1), .ref a11, .int 0, .ref a12, .ref a13, .int 0]))] s.heap.size = A at hD ⊢
  have hA : ∀ q : Nat, s.heap.size ≤ q → A q := fun q h => by rw [← hAe]; exact Or.inr h
  have hS : va_S A s.heap s.heap [] := va_S.rf
  have hP : va_P (dC, dI) vwCl [(a0, .inr (11, [.ref a1, .int 0, .ref a2, .ref a3, .ref a4, .ref a5, .ref a6, .ref a7, .int 0, .ref a8, .ref a9, .ref a10, .int 0, .int (-1), .ref a11, .int 0, .ref a12, .ref a13, .int 0]))] s.heap := hP
  have hl := lv_entry ([.ref a0, .int 0, .int 0, .int 1]) (n := 8) (Nat.le_of_ble_eq_true rfl)
  rw [lg_entry_eq]
  generalize (lg_sl ([.ref a0, .int 0, .int 0, .int 1]) ++ List.replicate (8 - (lg_sl ([.ref a0, .int 0, .int 0, .int 1])).length) Slot.unset).toArray = ls at hl ⊢
  have hl : lv_has ls 8 [(0, .ref a0), (1, .int 0), (2, .int 0), (3, .int 1)] := hl
  refine lv_iconst (v := 0) hx hb dX11_firstParted_0 (by decide) ?_
  refine lv_istore (lv' := [(4, .int 0), (0, .ref a0), (1, .int 0), (2, .int 0), (3, .int 1)]) hx hb dX11_firstParted_1 hl (by decide) rfl (fun ls hl => ?_)
  refine lv_iconst (v := 1) hx hb dX11_firstParted_3 (by decide) ?_
  refine lv_istore (lv' := [(5, .int 1), (4, .int 0), (0, .ref a0), (1, .int 0), (2, .int 0), (3, .int 1)]) hx hb dX11_firstParted_4 hl (by decide) rfl (fun ls hl => ?_)
  refine lv_iconst (v := 1) hx hb dX11_firstParted_6 (by decide) ?_
  refine lv_istore (lv' := [(6, .int 1), (5, .int 1), (4, .int 0), (0, .ref a0), (1, .int 0), (2, .int 0), (3, .int 1)]) hx hb dX11_firstParted_7 hl (by decide) rfl (fun ls hl => ?_)
  refine lv_iload hx hb dX11_firstParted_9 (lv_at hl 0 rfl) ?_
  refine lv_iload_n hx hb dX11_firstParted_11 rfl (lv_at hl 6 rfl) ?_
  refine lv_icmp_gt (tgt := 90) hx hb dX11_firstParted_12 (by decide) (fun c9 => absurd c9 (by decide)) (fun _ => ?_)
  refine lv_iload_n hx hb dX11_firstParted_15 rfl (lv_at hl 4 rfl) ?_
  refine lv_iload_n hx hb dX11_firstParted_16 rfl (lv_at hl 5 rfl) ?_
  refine lv_icmp_eq (tgt := 90) hx hb dX11_firstParted_17 (by decide) (fun _ => ?_) (fun c9 => absurd (by decide) c9) 
  refine lv_iconst (v := (-1)) hx hb dX11_firstParted_90 (by decide) ?_
  have hP9 := hP.sub (ws' := [(a0, .inr (11, [.ref a1, .int 0, .ref a2, .ref a3, .ref a4, .ref a5, .ref a6, .ref a7, .int 0, .ref a8, .ref a9, .ref a10, .int 0, .int (-1), .ref a11, .int 0, .ref a12, .ref a13, .int 0]))]) [0] rfl
  have hD9 := hD.sub (ws' := [(a0, .inr (11, [.ref a1, .int 0, .ref a2, .ref a3, .ref a4, .ref a5, .ref a6, .ref a7, .int 0, .ref a8, .ref a9, .ref a10, .int 0, .int (-1), .ref a11, .int 0, .ref a12, .ref a13, .int 0]))]) [0] (by decide) rfl
  refine W.widen (k := 0) (n := 0) (Nat.le_of_ble_eq_true rfl) (Nat.le_of_ble_eq_true rfl) ?_
  exact W.iret (v := (-1)) hx hb hr (fun t ht hW => ⟨⟨(-1), [(a0, .inr (11, [.ref a1, .int 0, .ref a2, .ref a3, .ref a4, .ref a5, .ref a6, .ref a7, .int 0, .ref a8, .ref a9, .ref a10, .int 0, .int (-1), .ref a11, .int 0, .ref a12, .ref a13, .int 0]))], rfl, ⟨rfl, rfl⟩, by rw [ht]; exact hP9, va_K.moved hW.alike hK, hD9⟩, hS.F ht⟩) hS.2.2 dX11_firstParted_91
set_option maxHeartbeats 8000000 in
set_option maxRecDepth 100000 in
theorem cc_X11_firstParted_1 (l : Launch) (D : va_G) (cI cL cZ : ClassId) (sz : Nat) (a0 : Nat) (a1 : Nat) (a2 : Nat) (a3 : Nat) (a4 : Nat) (a5 : Nat) (a6 : Nat) (a7 : Nat) (a8 : Nat) (a9 : Nat) (a10 : Nat) (a11 : Nat) (a12 : Nat) (a13 : Nat) : mI l D cI cL cZ yX11_firstParted cX11_firstParted 8 (some .int) 0 0 0 0 [.ref a0, .int 0, .int 0, .int 2] sz [(a0, .inr (11, [.ref a1, .int 0, .ref a2, .ref a3, .ref a4, .ref a5, .ref a6, .ref a7, .int 0, .ref a8, .ref a9, .ref a10, .int 0, .int (-1), .ref a11, .int 0, .ref a12, .ref a13, .int 0]))] (fun (r : Int32) (w1 : va_W) => r = (-1) ∧ w1 = ([(a0, .inr (11, [.ref a1, .int 0, .ref a2, .ref a3, .ref a4, .ref a5, .ref a6, .ref a7, .int 0, .ref a8, .ref a9, .ref a10, .int 0, .int (-1), .ref a11, .int 0, .ref a12, .ref a13, .int 0]))] : va_W)) := by
  obtain ⟨dC, dI⟩ := D
  refine Met.ofW (cc := cX11_firstParted) (maxL := 8) (ret := (some .int)) (by decide) rfl ?_
  intro p e s m args below meth c s₁ B hml hv
  obtain ⟨rfl, hsz, hP, hK, hD0, hN⟩ := hv
  have hx := B.exec
  have hb := B.bytes
  have hr := B.returns
  have hU : ∀ w ∈ wsU, w.before _ s = true := fun w h => atoms_spec (ws := wU yX11_firstParted cX11_firstParted 8 (some .int)) B.pre w (List.mem_cons_of_mem _ h)
  have hown : s.vm.findClass RX11 = some m.cls := findClass_of_methodNamed B.named
  have hlocks := B.notSynchronized
  subst hsz
  have hD := hD0.self (sz := s.heap.size)
  generalize hAe : va_A [(a0, .inr (11, [.ref a1, .int 0, .ref a2, .ref a3, .ref a4, .ref a5, .ref a6, .ref a7, .int 0, .ref a8, .ref a9, .ref a10, .int 0, .int (-1), .ref a11, .int 0, .ref a12, .ref a13, .int 0]))] s.heap.size = A at hD ⊢
  have hA : ∀ q : Nat, s.heap.size ≤ q → A q := fun q h => by rw [← hAe]; exact Or.inr h
  have hS : va_S A s.heap s.heap [] := va_S.rf
  have hP : va_P (dC, dI) vwCl [(a0, .inr (11, [.ref a1, .int 0, .ref a2, .ref a3, .ref a4, .ref a5, .ref a6, .ref a7, .int 0, .ref a8, .ref a9, .ref a10, .int 0, .int (-1), .ref a11, .int 0, .ref a12, .ref a13, .int 0]))] s.heap := hP
  have hl := lv_entry ([.ref a0, .int 0, .int 0, .int 2]) (n := 8) (Nat.le_of_ble_eq_true rfl)
  rw [lg_entry_eq]
  generalize (lg_sl ([.ref a0, .int 0, .int 0, .int 2]) ++ List.replicate (8 - (lg_sl ([.ref a0, .int 0, .int 0, .int 2])).length) Slot.unset).toArray = ls at hl ⊢
  have hl : lv_has ls 8 [(0, .ref a0), (1, .int 0), (2, .int 0), (3, .int 2)] := hl
  refine lv_iconst (v := 0) hx hb dX11_firstParted_0 (by decide) ?_
  refine lv_istore (lv' := [(4, .int 0), (0, .ref a0), (1, .int 0), (2, .int 0), (3, .int 2)]) hx hb dX11_firstParted_1 hl (by decide) rfl (fun ls hl => ?_)
  refine lv_iconst (v := 1) hx hb dX11_firstParted_3 (by decide) ?_
  refine lv_istore (lv' := [(5, .int 1), (4, .int 0), (0, .ref a0), (1, .int 0), (2, .int 0), (3, .int 2)]) hx hb dX11_firstParted_4 hl (by decide) rfl (fun ls hl => ?_)
  refine lv_iconst (v := 1) hx hb dX11_firstParted_6 (by decide) ?_
  refine lv_istore (lv' := [(6, .int 1), (5, .int 1), (4, .int 0), (0, .ref a0), (1, .int 0), (2, .int 0), (3, .int 2)]) hx hb dX11_firstParted_7 hl (by decide) rfl (fun ls hl => ?_)
  refine lv_iload hx hb dX11_firstParted_9 (lv_at hl 0 rfl) ?_
  refine lv_iload_n hx hb dX11_firstParted_11 rfl (lv_at hl 6 rfl) ?_
  refine lv_icmp_gt (tgt := 90) hx hb dX11_firstParted_12 (by decide) (fun c9 => absurd c9 (by decide)) (fun _ => ?_)
  refine lv_iload_n hx hb dX11_firstParted_15 rfl (lv_at hl 4 rfl) ?_
  refine lv_iload_n hx hb dX11_firstParted_16 rfl (lv_at hl 5 rfl) ?_
  refine lv_icmp_eq (tgt := 90) hx hb dX11_firstParted_17 (by decide) (fun _ => ?_) (fun c9 => absurd (by decide) c9) 
  refine lv_iconst (v := (-1)) hx hb dX11_firstParted_90 (by decide) ?_
  have hP9 := hP.sub (ws' := [(a0, .inr (11, [.ref a1, .int 0, .ref a2, .ref a3, .ref a4, .ref a5, .ref a6, .ref a7, .int 0, .ref a8, .ref a9, .ref a10, .int 0, .int (-1), .ref a11, .int 0, .ref a12, .ref a13, .int 0]))]) [0] rfl
  have hD9 := hD.sub (ws' := [(a0, .inr (11, [.ref a1, .int 0, .ref a2, .ref a3, .ref a4, .ref a5, .ref a6, .ref a7, .int 0, .ref a8, .ref a9, .ref a10, .int 0, .int (-1), .ref a11, .int 0, .ref a12, .ref a13, .int 0]))]) [0] (by decide) rfl
  refine W.widen (k := 0) (n := 0) (Nat.le_of_ble_eq_true rfl) (Nat.le_of_ble_eq_true rfl) ?_
  exact W.iret (v := (-1)) hx hb hr (fun t ht hW => ⟨⟨(-1), [(a0, .inr (11, [.ref a1, .int 0, .ref a2, .ref a3, .ref a4, .ref a5, .ref a6, .ref a7, .int 0, .ref a8, .ref a9, .ref a10, .int 0, .int (-1), .ref a11, .int 0, .ref a12, .ref a13, .int 0]))], rfl, ⟨rfl, rfl⟩, by rw [ht]; exact hP9, va_K.moved hW.alike hK, hD9⟩, hS.F ht⟩) hS.2.2 dX11_firstParted_91
set_option maxHeartbeats 8000000 in
set_option maxRecDepth 100000 in
theorem cc_X11_firstParted_2 (l : Launch) (D : va_G) (cI cL cZ : ClassId) (sz : Nat) (a0 : Nat) (a1 : Nat) (a2 : Nat) (a3 : Nat) (a4 : Nat) (a5 : Nat) (a6 : Nat) (a7 : Nat) (a8 : Nat) (a9 : Nat) (a10 : Nat) (a11 : Nat) (a12 : Nat) (a13 : Nat) : mI l D cI cL cZ yX11_firstParted cX11_firstParted 8 (some .int) 0 0 0 0 [.ref a0, .int 0, .int 0, .int 3] sz [(a0, .inr (11, [.ref a1, .int 0, .ref a2, .ref a3, .ref a4, .ref a5, .ref a6, .ref a7, .int 0, .ref a8, .ref a9, .ref a10, .int 0, .int (-1), .ref a11, .int 0, .ref a12, .ref a13, .int 0]))] (fun (r : Int32) (w1 : va_W) => r = (-1) ∧ w1 = ([(a0, .inr (11, [.ref a1, .int 0, .ref a2, .ref a3, .ref a4, .ref a5, .ref a6, .ref a7, .int 0, .ref a8, .ref a9, .ref a10, .int 0, .int (-1), .ref a11, .int 0, .ref a12, .ref a13, .int 0]))] : va_W)) := by
  obtain ⟨dC, dI⟩ := D
  refine Met.ofW (cc := cX11_firstParted) (maxL := 8) (ret := (some .int)) (by decide) rfl ?_
  intro p e s m args below meth c s₁ B hml hv
  obtain ⟨rfl, hsz, hP, hK, hD0, hN⟩ := hv
  have hx := B.exec
  have hb := B.bytes
  have hr := B.returns
  have hU : ∀ w ∈ wsU, w.before _ s = true := fun w h => atoms_spec (ws := wU yX11_firstParted cX11_firstParted 8 (some .int)) B.pre w (List.mem_cons_of_mem _ h)
  have hown : s.vm.findClass RX11 = some m.cls := findClass_of_methodNamed B.named
  have hlocks := B.notSynchronized
  subst hsz
  have hD := hD0.self (sz := s.heap.size)
  generalize hAe : va_A [(a0, .inr (11, [.ref a1, .int 0, .ref a2, .ref a3, .ref a4, .ref a5, .ref a6, .ref a7, .int 0, .ref a8, .ref a9, .ref a10, .int 0, .int (-1), .ref a11, .int 0, .ref a12, .ref a13, .int 0]))] s.heap.size = A at hD ⊢
  have hA : ∀ q : Nat, s.heap.size ≤ q → A q := fun q h => by rw [← hAe]; exact Or.inr h
  have hS : va_S A s.heap s.heap [] := va_S.rf
  have hP : va_P (dC, dI) vwCl [(a0, .inr (11, [.ref a1, .int 0, .ref a2, .ref a3, .ref a4, .ref a5, .ref a6, .ref a7, .int 0, .ref a8, .ref a9, .ref a10, .int 0, .int (-1), .ref a11, .int 0, .ref a12, .ref a13, .int 0]))] s.heap := hP
  have hl := lv_entry ([.ref a0, .int 0, .int 0, .int 3]) (n := 8) (Nat.le_of_ble_eq_true rfl)
  rw [lg_entry_eq]
  generalize (lg_sl ([.ref a0, .int 0, .int 0, .int 3]) ++ List.replicate (8 - (lg_sl ([.ref a0, .int 0, .int 0, .int 3])).length) Slot.unset).toArray = ls at hl ⊢
  have hl : lv_has ls 8 [(0, .ref a0), (1, .int 0), (2, .int 0), (3, .int 3)] := hl
  refine lv_iconst (v := 0) hx hb dX11_firstParted_0 (by decide) ?_
  refine lv_istore (lv' := [(4, .int 0), (0, .ref a0), (1, .int 0), (2, .int 0), (3, .int 3)]) hx hb dX11_firstParted_1 hl (by decide) rfl (fun ls hl => ?_)
  refine lv_iconst (v := 1) hx hb dX11_firstParted_3 (by decide) ?_
  refine lv_istore (lv' := [(5, .int 1), (4, .int 0), (0, .ref a0), (1, .int 0), (2, .int 0), (3, .int 3)]) hx hb dX11_firstParted_4 hl (by decide) rfl (fun ls hl => ?_)
  refine lv_iconst (v := 1) hx hb dX11_firstParted_6 (by decide) ?_
  refine lv_istore (lv' := [(6, .int 1), (5, .int 1), (4, .int 0), (0, .ref a0), (1, .int 0), (2, .int 0), (3, .int 3)]) hx hb dX11_firstParted_7 hl (by decide) rfl (fun ls hl => ?_)
  refine lv_iload hx hb dX11_firstParted_9 (lv_at hl 0 rfl) ?_
  refine lv_iload_n hx hb dX11_firstParted_11 rfl (lv_at hl 6 rfl) ?_
  refine lv_icmp_gt (tgt := 90) hx hb dX11_firstParted_12 (by decide) (fun c9 => absurd c9 (by decide)) (fun _ => ?_)
  refine lv_iload_n hx hb dX11_firstParted_15 rfl (lv_at hl 4 rfl) ?_
  refine lv_iload_n hx hb dX11_firstParted_16 rfl (lv_at hl 5 rfl) ?_
  refine lv_icmp_eq (tgt := 90) hx hb dX11_firstParted_17 (by decide) (fun _ => ?_) (fun c9 => absurd (by decide) c9) 
  refine lv_iconst (v := (-1)) hx hb dX11_firstParted_90 (by decide) ?_
  have hP9 := hP.sub (ws' := [(a0, .inr (11, [.ref a1, .int 0, .ref a2, .ref a3, .ref a4, .ref a5, .ref a6, .ref a7, .int 0, .ref a8, .ref a9, .ref a10, .int 0, .int (-1), .ref a11, .int 0, .ref a12, .ref a13, .int 0]))]) [0] rfl
  have hD9 := hD.sub (ws' := [(a0, .inr (11, [.ref a1, .int 0, .ref a2, .ref a3, .ref a4, .ref a5, .ref a6, .ref a7, .int 0, .ref a8, .ref a9, .ref a10, .int 0, .int (-1), .ref a11, .int 0, .ref a12, .ref a13, .int 0]))]) [0] (by decide) rfl
  refine W.widen (k := 0) (n := 0) (Nat.le_of_ble_eq_true rfl) (Nat.le_of_ble_eq_true rfl) ?_
  exact W.iret (v := (-1)) hx hb hr (fun t ht hW => ⟨⟨(-1), [(a0, .inr (11, [.ref a1, .int 0, .ref a2, .ref a3, .ref a4, .ref a5, .ref a6, .ref a7, .int 0, .ref a8, .ref a9, .ref a10, .int 0, .int (-1), .ref a11, .int 0, .ref a12, .ref a13, .int 0]))], rfl, ⟨rfl, rfl⟩, by rw [ht]; exact hP9, va_K.moved hW.alike hK, hD9⟩, hS.F ht⟩) hS.2.2 dX11_firstParted_91
set_option maxHeartbeats 8000000 in
set_option maxRecDepth 100000 in
theorem op_X11_parts (l : Launch) (D : va_G) (cI cL cZ : ClassId) (sz : Nat) (a0 : Nat) (x0 : Int32) (x1 : Int32) (x2 : Int32) (a1 : Nat) (a2 : Nat) (a3 : Nat) (a4 : Nat) (a5 : Nat) (a6 : Nat) (a7 : Nat) (a8 : Nat) (a9 : Nat) (a10 : Nat) (a11 : Nat) (a12 : Nat) (a13 : Nat) (a14 : Nat) (a15 : Nat) (a16 : Nat) (a17 : Nat) (a18 : Nat) (a19 : Nat) (a20 : Nat) (a21 : Nat) (a22 : Nat) (a23 : Nat) (a24 : Nat) (a25 : Nat) (a26 : Nat) : mI l D cI cL cZ yX11_parts cX11_parts 4 (some .int) 1 27 0 0 [.ref a0, .int x0, .int x1, .int x2] sz [(a0, .inr (11, [.ref a1, .int 0, .ref a2, .ref a3, .ref a4, .ref a5, .ref a6, .ref a7, .int 0, .ref a8, .ref a9, .ref a10, .int 0, .int (-1), .ref a11, .int 0, .ref a12, .ref a13, .int 0])), (a3, .inr (7, [.ref a14, .int 0, .ref a15, .ref a16, .ref a17, .ref a18, .int 0, .ref a19, .ref a20, .ref a21, .ref a22, .ref a23, .int 0, .ref a24, .ref a25, .ref a26]))] (fun (r : Int32) (w1 : va_W) => r = (an_parts x0 x1 x2) ∧ w1 = ([] : va_W)) := by
  obtain ⟨dC, dI⟩ := D
  refine Met.ofW (cc := cX11_parts) (maxL := 4) (ret := (some .int)) (by decide) rfl ?_
  intro p e s m args below meth c s₁ B hml hv
  obtain ⟨rfl, hsz, hP, hK, hD0, hN⟩ := hv
  have hx := B.exec
  have hb := B.bytes
  have hr := B.returns
  have hU : ∀ w ∈ wsU, w.before _ s = true := fun w h => atoms_spec (ws := wU yX11_parts cX11_parts 4 (some .int)) B.pre w (List.mem_cons_of_mem _ h)
  have hown : s.vm.findClass RX11 = some m.cls := findClass_of_methodNamed B.named
  have hlocks := B.notSynchronized
  subst hsz
  have hD := hD0.self (sz := s.heap.size)
  generalize hAe : va_A [(a0, .inr (11, [.ref a1, .int 0, .ref a2, .ref a3, .ref a4, .ref a5, .ref a6, .ref a7, .int 0, .ref a8, .ref a9, .ref a10, .int 0, .int (-1), .ref a11, .int 0, .ref a12, .ref a13, .int 0])), (a3, .inr (7, [.ref a14, .int 0, .ref a15, .ref a16, .ref a17, .ref a18, .int 0, .ref a19, .ref a20, .ref a21, .ref a22, .ref a23, .int 0, .ref a24, .ref a25, .ref a26]))] s.heap.size = A at hD ⊢
  have hA : ∀ q : Nat, s.heap.size ≤ q → A q := fun q h => by rw [← hAe]; exact Or.inr h
  have hS : va_S A s.heap s.heap [] := va_S.rf
  have hP : va_P (dC, dI) vwCl [(a0, .inr (11, [.ref a1, .int 0, .ref a2, .ref a3, .ref a4, .ref a5, .ref a6, .ref a7, .int 0, .ref a8, .ref a9, .ref a10, .int 0, .int (-1), .ref a11, .int 0, .ref a12, .ref a13, .int 0])), (a3, .inr (7, [.ref a14, .int 0, .ref a15, .ref a16, .ref a17, .ref a18, .int 0, .ref a19, .ref a20, .ref a21, .ref a22, .ref a23, .int 0, .ref a24, .ref a25, .ref a26]))] s.heap := hP
  have hl := lv_entry ([.ref a0, .int x0, .int x1, .int x2]) (n := 4) (Nat.le_of_ble_eq_true rfl)
  rw [lg_entry_eq]
  generalize (lg_sl ([.ref a0, .int x0, .int x1, .int x2]) ++ List.replicate (4 - (lg_sl ([.ref a0, .int x0, .int x1, .int x2])).length) Slot.unset).toArray = ls at hl ⊢
  have hl : lv_has ls 4 [(0, .ref a0), (1, .int x0), (2, .int x1), (3, .int x2)] := hl
  by_cases c_1 : x0 = 0
  · subst c_1
    by_cases c_2 : x1 = 0
    · subst c_2
      by_cases c_3 : x2 = 1
      · subst c_3
        refine lv_aload_n hx hb dX11_parts_0 rfl (lv_at hl 0 rfl) ?_
        refine lv_iload_n hx hb dX11_parts_1 rfl (lv_at hl 1 rfl) ?_
        refine tk_ri (wr := []) (tk_V (As := [.int 0]) (rest := []) (n := 1) hx hb hml hown hU hN (cc_X11_isSet_0 l (dC, dI) cI cL cZ s.heap.size a0 a1 a2 a3 a4 a5 a6 a7 a8 a9 a10 a11 a12 a13 a14 a15 a16 a17 a18 a19 a20 a21 a22 a23 a24 a25 a26) wd_678 wd_679 wd_680 wd_2 wd_681 (by decide +kernel) ⟨Nat.le_of_ble_eq_true rfl, Nat.le_of_ble_eq_true rfl⟩ hK hP hD [0, 1] (by decide) rfl 0 11 rfl rfl rfl rfl hl.1 rfl (Nat.le_of_ble_eq_true rfl) dX11_parts_2 ⟨Nat.le_of_ble_eq_true rfl, Nat.le_of_ble_eq_true rfl⟩) hP hD hS hA [0, 1] [] rfl rfl (by decide) (by decide) (fun r_4 w_5 H locs hw hP hD hS => ?_)
        obtain ⟨rfl, rfl⟩ := hw
        have hP : va_P (dC, dI) vwCl [(a0, .inr (11, [.ref a1, .int 0, .ref a2, .ref a3, .ref a4, .ref a5, .ref a6, .ref a7, .int 0, .ref a8, .ref a9, .ref a10, .int 0, .int (-1), .ref a11, .int 0, .ref a12, .ref a13, .int 0])), (a3, .inr (7, [.ref a14, .int 0, .ref a15, .ref a16, .ref a17, .ref a18, .int 0, .ref a19, .ref a20, .ref a21, .ref a22, .ref a23, .int 0, .ref a24, .ref a25, .ref a26]))] H := hP
        have hD : va_D A [(a0, .inr (11, [.ref a1, .int 0, .ref a2, .ref a3, .ref a4, .ref a5, .ref a6, .ref a7, .int 0, .ref a8, .ref a9, .ref a10, .int 0, .int (-1), .ref a11, .int 0, .ref a12, .ref a13, .int 0])), (a3, .inr (7, [.ref a14, .int 0, .ref a15, .ref a16, .ref a17, .ref a18, .int 0, .ref a19, .ref a20, .ref a21, .ref a22, .ref a23, .int 0, .ref a24, .ref a25, .ref a26]))] := hD
        refine lv_if_eq (tgt := 26) hx hb dX11_parts_5 (by decide) (fun c9 => absurd c9 (by decide)) (fun _ => ?_)
        refine lv_aload_n hx hb dX11_parts_8 rfl (lv_at hl 0 rfl) ?_
        refine lv_iload_n hx hb dX11_parts_9 rfl (lv_at hl 2 rfl) ?_
        refine tk_ri (wr := []) (tk_V (As := [.int 0]) (rest := []) (n := 1) hx hb hml hown hU hN (cc_X11_isSet_0 l (dC, dI) cI cL cZ H.size a0 a1 a2 a3 a4 a5 a6 a7 a8 a9 a10 a11 a12 a13 a14 a15 a16 a17 a18 a19 a20 a21 a22 a23 a24 a25 a26) wd_678 wd_679 wd_680 wd_2 wd_681 (by decide +kernel) ⟨Nat.le_of_ble_eq_true rfl, Nat.le_of_ble_eq_true rfl⟩ hK hP hD [0, 1] (by decide) rfl 0 11 rfl rfl rfl rfl hl.1 rfl (Nat.le_of_ble_eq_true rfl) dX11_parts_10 ⟨Nat.le_of_ble_eq_true rfl, Nat.le_of_ble_eq_true rfl⟩) hP hD hS hA [0, 1] [] rfl rfl (by decide) (by decide) (fun r_6 w_7 H locs hw hP hD hS => ?_)
        obtain ⟨rfl, rfl⟩ := hw
        have hP : va_P (dC, dI) vwCl [(a0, .inr (11, [.ref a1, .int 0, .ref a2, .ref a3, .ref a4, .ref a5, .ref a6, .ref a7, .int 0, .ref a8, .ref a9, .ref a10, .int 0, .int (-1), .ref a11, .int 0, .ref a12, .ref a13, .int 0])), (a3, .inr (7, [.ref a14, .int 0, .ref a15, .ref a16, .ref a17, .ref a18, .int 0, .ref a19, .ref a20, .ref a21, .ref a22, .ref a23, .int 0, .ref a24, .ref a25, .ref a26]))] H := hP
        have hD : va_D A [(a0, .inr (11, [.ref a1, .int 0, .ref a2, .ref a3, .ref a4, .ref a5, .ref a6, .ref a7, .int 0, .ref a8, .ref a9, .ref a10, .int 0, .int (-1), .ref a11, .int 0, .ref a12, .ref a13, .int 0])), (a3, .inr (7, [.ref a14, .int 0, .ref a15, .ref a16, .ref a17, .ref a18, .int 0, .ref a19, .ref a20, .ref a21, .ref a22, .ref a23, .int 0, .ref a24, .ref a25, .ref a26]))] := hD
        refine lv_if_eq (tgt := 26) hx hb dX11_parts_13 (by decide) (fun c9 => absurd c9 (by decide)) (fun _ => ?_)
        refine lv_iload_n hx hb dX11_parts_16 rfl (lv_at hl 3 rfl) ?_
        refine lv_iconst (v := 1) hx hb dX11_parts_17 (by decide) ?_
        refine lv_icmp_lt (tgt := 26) hx hb dX11_parts_18 (by decide) (fun c9 => absurd c9 (by decide)) (fun _ => ?_)
        refine lv_iload_n hx hb dX11_parts_21 rfl (lv_at hl 3 rfl) ?_
        refine lv_iconst (v := 3) hx hb dX11_parts_22 (by decide) ?_
        refine lv_icmp_le (tgt := 29) hx hb dX11_parts_23 (by decide) (fun _ => ?_) (fun c9 => absurd (by decide) c9) 
        refine lv_aload_n hx hb dX11_parts_29 rfl (lv_at hl 0 rfl) ?_
        refine lv_iload_n hx hb dX11_parts_30 rfl (lv_at hl 1 rfl) ?_
        refine lv_iload_n hx hb dX11_parts_31 rfl (lv_at hl 2 rfl) ?_
        refine lv_iload_n hx hb dX11_parts_32 rfl (lv_at hl 3 rfl) ?_
        refine tk_ri (wr := [(a3, .inr (7, [.ref a14, .int 0, .ref a15, .ref a16, .ref a17, .ref a18, .int 0, .ref a19, .ref a20, .ref a21, .ref a22, .ref a23, .int 0, .ref a24, .ref a25, .ref a26]))]) (tk_V (As := [.int 0, .int 0, .int 1]) (rest := []) (n := 3) hx hb hml hown hU hN (cc_X11_firstParted_0 l (dC, dI) cI cL cZ H.size a0 a1 a2 a3 a4 a5 a6 a7 a8 a9 a10 a11 a12 a13) wd_1313 wd_1314 wd_1315 wd_2 wd_1316 (by decide +kernel) ⟨Nat.le_of_ble_eq_true rfl, Nat.le_of_ble_eq_true rfl⟩ hK hP hD [0] (by decide) rfl 0 11 rfl rfl rfl rfl hl.1 rfl (Nat.le_of_ble_eq_true rfl) dX11_parts_33 ⟨Nat.le_of_ble_eq_true rfl, Nat.le_of_ble_eq_true rfl⟩) hP hD hS hA [0] [1] rfl rfl (by decide) (by decide) (fun r_8 w_9 H locs hw hP hD hS => ?_)
        obtain ⟨rfl, rfl⟩ := hw
        have hP : va_P (dC, dI) vwCl [(a3, .inr (7, [.ref a14, .int 0, .ref a15, .ref a16, .ref a17, .ref a18, .int 0, .ref a19, .ref a20, .ref a21, .ref a22, .ref a23, .int 0, .ref a24, .ref a25, .ref a26])), (a0, .inr (11, [.ref a1, .int 0, .ref a2, .ref a3, .ref a4, .ref a5, .ref a6, .ref a7, .int 0, .ref a8, .ref a9, .ref a10, .int 0, .int (-1), .ref a11, .int 0, .ref a12, .ref a13, .int 0]))] H := hP
        have hD : va_D A [(a3, .inr (7, [.ref a14, .int 0, .ref a15, .ref a16, .ref a17, .ref a18, .int 0, .ref a19, .ref a20, .ref a21, .ref a22, .ref a23, .int 0, .ref a24, .ref a25, .ref a26])), (a0, .inr (11, [.ref a1, .int 0, .ref a2, .ref a3, .ref a4, .ref a5, .ref a6, .ref a7, .int 0, .ref a8, .ref a9, .ref a10, .int 0, .int (-1), .ref a11, .int 0, .ref a12, .ref a13, .int 0]))] := hD
        have hP9 := hP.sub (ws' := []) [] rfl
        have hD9 := hD.sub (ws' := []) [] (by decide) rfl
        refine W.widen (k := 0) (n := 0) (Nat.le_of_ble_eq_true rfl) (Nat.le_of_ble_eq_true rfl) ?_
        exact W.iret (v := (-1)) hx hb hr (fun t ht hW => ⟨⟨(-1), [], rfl, ⟨by decide, rfl⟩, by rw [ht]; exact hP9, va_K.moved hW.alike hK, hD9⟩, hS.F ht⟩) hS.2.2 dX11_parts_36
      by_cases c_10 : x2 = 2
      · subst c_10
        refine lv_aload_n hx hb dX11_parts_0 rfl (lv_at hl 0 rfl) ?_
        refine lv_iload_n hx hb dX11_parts_1 rfl (lv_at hl 1 rfl) ?_
        refine tk_ri (wr := []) (tk_V (As := [.int 0]) (rest := []) (n := 1) hx hb hml hown hU hN (cc_X11_isSet_0 l (dC, dI) cI cL cZ s.heap.size a0 a1 a2 a3 a4 a5 a6 a7 a8 a9 a10 a11 a12 a13 a14 a15 a16 a17 a18 a19 a20 a21 a22 a23 a24 a25 a26) wd_678 wd_679 wd_680 wd_2 wd_681 (by decide +kernel) ⟨Nat.le_of_ble_eq_true rfl, Nat.le_of_ble_eq_true rfl⟩ hK hP hD [0, 1] (by decide) rfl 0 11 rfl rfl rfl rfl hl.1 rfl (Nat.le_of_ble_eq_true rfl) dX11_parts_2 ⟨Nat.le_of_ble_eq_true rfl, Nat.le_of_ble_eq_true rfl⟩) hP hD hS hA [0, 1] [] rfl rfl (by decide) (by decide) (fun r_11 w_12 H locs hw hP hD hS => ?_)
        obtain ⟨rfl, rfl⟩ := hw
        have hP : va_P (dC, dI) vwCl [(a0, .inr (11, [.ref a1, .int 0, .ref a2, .ref a3, .ref a4, .ref a5, .ref a6, .ref a7, .int 0, .ref a8, .ref a9, .ref a10, .int 0, .int (-1), .ref a11, .int 0, .ref a12, .ref a13, .int 0])), (a3, .inr (7, [.ref a14, .int 0, .ref a15, .ref a16, .ref a17, .ref a18, .int 0, .ref a19, .ref a20, .ref a21, .ref a22, .ref a23, .int 0, .ref a24, .ref a25, .ref a26]))] H := hP
        have hD : va_D A [(a0, .inr (11, [.ref a1, .int 0, .ref a2, .ref a3, .ref a4, .ref a5, .ref a6, .ref a7, .int 0, .ref a8, .ref a9, .ref a10, .int 0, .int (-1), .ref a11, .int 0, .ref a12, .ref a13, .int 0])), (a3, .inr (7, [.ref a14, .int 0, .ref a15, .ref a16, .ref a17, .ref a18, .int 0, .ref a19, .ref a20, .ref a21, .ref a22, .ref a23, .int 0, .ref a24, .ref a25, .ref a26]))] := hD
        refine lv_if_eq (tgt := 26) hx hb dX11_parts_5 (by decide) (fun c9 => absurd c9 (by decide)) (fun _ => ?_)
        refine lv_aload_n hx hb dX11_parts_8 rfl (lv_at hl 0 rfl) ?_
        refine lv_iload_n hx hb dX11_parts_9 rfl (lv_at hl 2 rfl) ?_
        refine tk_ri (wr := []) (tk_V (As := [.int 0]) (rest := []) (n := 1) hx hb hml hown hU hN (cc_X11_isSet_0 l (dC, dI) cI cL cZ H.size a0 a1 a2 a3 a4 a5 a6 a7 a8 a9 a10 a11 a12 a13 a14 a15 a16 a17 a18 a19 a20 a21 a22 a23 a24 a25 a26) wd_678 wd_679 wd_680 wd_2 wd_681 (by decide +kernel) ⟨Nat.le_of_ble_eq_true rfl, Nat.le_of_ble_eq_true rfl⟩ hK hP hD [0, 1] (by decide) rfl 0 11 rfl rfl rfl rfl hl.1 rfl (Nat.le_of_ble_eq_true rfl) dX11_parts_10 ⟨Nat.le_of_ble_eq_true rfl, Nat.le_of_ble_eq_true rfl⟩) hP hD hS hA [0, 1] [] rfl rfl (by decide) (by decide) (fun r_13 w_14 H locs hw hP hD hS => ?_)
        obtain ⟨rfl, rfl⟩ := hw
        have hP : va_P (dC, dI) vwCl [(a0, .inr (11, [.ref a1, .int 0, .ref a2, .ref a3, .ref a4, .ref a5, .ref a6, .ref a7, .int 0, .ref a8, .ref a9, .ref a10, .int 0, .int (-1), .ref a11, .int 0, .ref a12, .ref a13, .int 0])), (a3, .inr (7, [.ref a14, .int 0, .ref a15, .ref a16, .ref a17, .ref a18, .int 0, .ref a19, .ref a20, .ref a21, .ref a22, .ref a23, .int 0, .ref a24, .ref a25, .ref a26]))] H := hP
        have hD : va_D A [(a0, .inr (11, [.ref a1, .int 0, .ref a2, .ref a3, .ref a4, .ref a5, .ref a6, .ref a7, .int 0, .ref a8, .ref a9, .ref a10, .int 0, .int (-1), .ref a11, .int 0, .ref a12, .ref a13, .int 0])), (a3, .inr (7, [.ref a14, .int 0, .ref a15, .ref a16, .ref a17, .ref a18, .int 0, .ref a19, .ref a20, .ref a21, .ref a22, .ref a23, .int 0, .ref a24, .ref a25, .ref a26]))] := hD
        refine lv_if_eq (tgt := 26) hx hb dX11_parts_13 (by decide) (fun c9 => absurd c9 (by decide)) (fun _ => ?_)
        refine lv_iload_n hx hb dX11_parts_16 rfl (lv_at hl 3 rfl) ?_
        refine lv_iconst (v := 1) hx hb dX11_parts_17 (by decide) ?_
        refine lv_icmp_lt (tgt := 26) hx hb dX11_parts_18 (by decide) (fun c9 => absurd c9 (by decide)) (fun _ => ?_)
        refine lv_iload_n hx hb dX11_parts_21 rfl (lv_at hl 3 rfl) ?_
        refine lv_iconst (v := 3) hx hb dX11_parts_22 (by decide) ?_
        refine lv_icmp_le (tgt := 29) hx hb dX11_parts_23 (by decide) (fun _ => ?_) (fun c9 => absurd (by decide) c9) 
        refine lv_aload_n hx hb dX11_parts_29 rfl (lv_at hl 0 rfl) ?_
        refine lv_iload_n hx hb dX11_parts_30 rfl (lv_at hl 1 rfl) ?_
        refine lv_iload_n hx hb dX11_parts_31 rfl (lv_at hl 2 rfl) ?_
        refine lv_iload_n hx hb dX11_parts_32 rfl (lv_at hl 3 rfl) ?_
        refine tk_ri (wr := [(a3, .inr (7, [.ref a14, .int 0, .ref a15, .ref a16, .ref a17, .ref a18, .int 0, .ref a19, .ref a20, .ref a21, .ref a22, .ref a23, .int 0, .ref a24, .ref a25, .ref a26]))]) (tk_V (As := [.int 0, .int 0, .int 2]) (rest := []) (n := 3) hx hb hml hown hU hN (cc_X11_firstParted_1 l (dC, dI) cI cL cZ H.size a0 a1 a2 a3 a4 a5 a6 a7 a8 a9 a10 a11 a12 a13) wd_1313 wd_1314 wd_1315 wd_2 wd_1316 (by decide +kernel) ⟨Nat.le_of_ble_eq_true rfl, Nat.le_of_ble_eq_true rfl⟩ hK hP hD [0] (by decide) rfl 0 11 rfl rfl rfl rfl hl.1 rfl (Nat.le_of_ble_eq_true rfl) dX11_parts_33 ⟨Nat.le_of_ble_eq_true rfl, Nat.le_of_ble_eq_true rfl⟩) hP hD hS hA [0] [1] rfl rfl (by decide) (by decide) (fun r_15 w_16 H locs hw hP hD hS => ?_)
        obtain ⟨rfl, rfl⟩ := hw
        have hP : va_P (dC, dI) vwCl [(a3, .inr (7, [.ref a14, .int 0, .ref a15, .ref a16, .ref a17, .ref a18, .int 0, .ref a19, .ref a20, .ref a21, .ref a22, .ref a23, .int 0, .ref a24, .ref a25, .ref a26])), (a0, .inr (11, [.ref a1, .int 0, .ref a2, .ref a3, .ref a4, .ref a5, .ref a6, .ref a7, .int 0, .ref a8, .ref a9, .ref a10, .int 0, .int (-1), .ref a11, .int 0, .ref a12, .ref a13, .int 0]))] H := hP
        have hD : va_D A [(a3, .inr (7, [.ref a14, .int 0, .ref a15, .ref a16, .ref a17, .ref a18, .int 0, .ref a19, .ref a20, .ref a21, .ref a22, .ref a23, .int 0, .ref a24, .ref a25, .ref a26])), (a0, .inr (11, [.ref a1, .int 0, .ref a2, .ref a3, .ref a4, .ref a5, .ref a6, .ref a7, .int 0, .ref a8, .ref a9, .ref a10, .int 0, .int (-1), .ref a11, .int 0, .ref a12, .ref a13, .int 0]))] := hD
        have hP9 := hP.sub (ws' := []) [] rfl
        have hD9 := hD.sub (ws' := []) [] (by decide) rfl
        refine W.widen (k := 0) (n := 0) (Nat.le_of_ble_eq_true rfl) (Nat.le_of_ble_eq_true rfl) ?_
        exact W.iret (v := (-1)) hx hb hr (fun t ht hW => ⟨⟨(-1), [], rfl, ⟨by decide, rfl⟩, by rw [ht]; exact hP9, va_K.moved hW.alike hK, hD9⟩, hS.F ht⟩) hS.2.2 dX11_parts_36
      by_cases c_17 : x2 = 3
      · subst c_17
        refine lv_aload_n hx hb dX11_parts_0 rfl (lv_at hl 0 rfl) ?_
        refine lv_iload_n hx hb dX11_parts_1 rfl (lv_at hl 1 rfl) ?_
        refine tk_ri (wr := []) (tk_V (As := [.int 0]) (rest := []) (n := 1) hx hb hml hown hU hN (cc_X11_isSet_0 l (dC, dI) cI cL cZ s.heap.size a0 a1 a2 a3 a4 a5 a6 a7 a8 a9 a10 a11 a12 a13 a14 a15 a16 a17 a18 a19 a20 a21 a22 a23 a24 a25 a26) wd_678 wd_679 wd_680 wd_2 wd_681 (by decide +kernel) ⟨Nat.le_of_ble_eq_true rfl, Nat.le_of_ble_eq_true rfl⟩ hK hP hD [0, 1] (by decide) rfl 0 11 rfl rfl rfl rfl hl.1 rfl (Nat.le_of_ble_eq_true rfl) dX11_parts_2 ⟨Nat.le_of_ble_eq_true rfl, Nat.le_of_ble_eq_true rfl⟩) hP hD hS hA [0, 1] [] rfl rfl (by decide) (by decide) (fun r_18 w_19 H locs hw hP hD hS => ?_)
        obtain ⟨rfl, rfl⟩ := hw
        have hP : va_P (dC, dI) vwCl [(a0, .inr (11, [.ref a1, .int 0, .ref a2, .ref a3, .ref a4, .ref a5, .ref a6, .ref a7, .int 0, .ref a8, .ref a9, .ref a10, .int 0, .int (-1), .ref a11, .int 0, .ref a12, .ref a13, .int 0])), (a3, .inr (7, [.ref a14, .int 0, .ref a15, .ref a16, .ref a17, .ref a18, .int 0, .ref a19, .ref a20, .ref a21, .ref a22, .ref a23, .int 0, .ref a24, .ref a25, .ref a26]))] H := hP
        have hD : va_D A [(a0, .inr (11, [.ref a1, .int 0, .ref a2, .ref a3, .ref a4, .ref a5, .ref a6, .ref a7, .int 0, .ref a8, .ref a9, .ref a10, .int 0, .int (-1), .ref a11, .int 0, .ref a12, .ref a13, .int 0])), (a3, .inr (7, [.ref a14, .int 0, .ref a15, .ref a16, .ref a17, .ref a18, .int 0, .ref a19, .ref a20, .ref a21, .ref a22, .ref a23, .int 0, .ref a24, .ref a25, .ref a26]))] := hD
        refine lv_if_eq (tgt := 26) hx hb dX11_parts_5 (by decide) (fun c9 => absurd c9 (by decide)) (fun _ => ?_)
        refine lv_aload_n hx hb dX11_parts_8 rfl (lv_at hl 0 rfl) ?_
        refine lv_iload_n hx hb dX11_parts_9 rfl (lv_at hl 2 rfl) ?_
        refine tk_ri (wr := []) (tk_V (As := [.int 0]) (rest := []) (n := 1) hx hb hml hown hU hN (cc_X11_isSet_0 l (dC, dI) cI cL cZ H.size a0 a1 a2 a3 a4 a5 a6 a7 a8 a9 a10 a11 a12 a13 a14 a15 a16 a17 a18 a19 a20 a21 a22 a23 a24 a25 a26) wd_678 wd_679 wd_680 wd_2 wd_681 (by decide +kernel) ⟨Nat.le_of_ble_eq_true rfl, Nat.le_of_ble_eq_true rfl⟩ hK hP hD [0, 1] (by decide) rfl 0 11 rfl rfl rfl rfl hl.1 rfl (Nat.le_of_ble_eq_true rfl) dX11_parts_10 ⟨Nat.le_of_ble_eq_true rfl, Nat.le_of_ble_eq_true rfl⟩) hP hD hS hA [0, 1] [] rfl rfl (by decide) (by decide) (fun r_20 w_21 H locs hw hP hD hS => ?_)
        obtain ⟨rfl, rfl⟩ := hw
        have hP : va_P (dC, dI) vwCl [(a0, .inr (11, [.ref a1, .int 0, .ref a2, .ref a3, .ref a4, .ref a5, .ref a6, .ref a7, .int 0, .ref a8, .ref a9, .ref a10, .int 0, .int (-1), .ref a11, .int 0, .ref a12, .ref a13, .int 0])), (a3, .inr (7, [.ref a14, .int 0, .ref a15, .ref a16, .ref a17, .ref a18, .int 0, .ref a19, .ref a20, .ref a21, .ref a22, .ref a23, .int 0, .ref a24, .ref a25, .ref a26]))] H := hP
        have hD : va_D A [(a0, .inr (11, [.ref a1, .int 0, .ref a2, .ref a3, .ref a4, .ref a5, .ref a6, .ref a7, .int 0, .ref a8, .ref a9, .ref a10, .int 0, .int (-1), .ref a11, .int 0, .ref a12, .ref a13, .int 0])), (a3, .inr (7, [.ref a14, .int 0, .ref a15, .ref a16, .ref a17, .ref a18, .int 0, .ref a19, .ref a20, .ref a21, .ref a22, .ref a23, .int 0, .ref a24, .ref a25, .ref a26]))] := hD
        refine lv_if_eq (tgt := 26) hx hb dX11_parts_13 (by decide) (fun c9 => absurd c9 (by decide)) (fun _ => ?_)
        refine lv_iload_n hx hb dX11_parts_16 rfl (lv_at hl 3 rfl) ?_
        refine lv_iconst (v := 1) hx hb dX11_parts_17 (by decide) ?_
        refine lv_icmp_lt (tgt := 26) hx hb dX11_parts_18 (by decide) (fun c9 => absurd c9 (by decide)) (fun _ => ?_)
        refine lv_iload_n hx hb dX11_parts_21 rfl (lv_at hl 3 rfl) ?_
        refine lv_iconst (v := 3) hx hb dX11_parts_22 (by decide) ?_
        refine lv_icmp_le (tgt := 29) hx hb dX11_parts_23 (by decide) (fun _ => ?_) (fun c9 => absurd (by decide) c9) 
        refine lv_aload_n hx hb dX11_parts_29 rfl (lv_at hl 0 rfl) ?_
        refine lv_iload_n hx hb dX11_parts_30 rfl (lv_at hl 1 rfl) ?_
        refine lv_iload_n hx hb dX11_parts_31 rfl (lv_at hl 2 rfl) ?_
        refine lv_iload_n hx hb dX11_parts_32 rfl (lv_at hl 3 rfl) ?_
        refine tk_ri (wr := [(a3, .inr (7, [.ref a14, .int 0, .ref a15, .ref a16, .ref a17, .ref a18, .int 0, .ref a19, .ref a20, .ref a21, .ref a22, .ref a23, .int 0, .ref a24, .ref a25, .ref a26]))]) (tk_V (As := [.int 0, .int 0, .int 3]) (rest := []) (n := 3) hx hb hml hown hU hN (cc_X11_firstParted_2 l (dC, dI) cI cL cZ H.size a0 a1 a2 a3 a4 a5 a6 a7 a8 a9 a10 a11 a12 a13) wd_1313 wd_1314 wd_1315 wd_2 wd_1316 (by decide +kernel) ⟨Nat.le_of_ble_eq_true rfl, Nat.le_of_ble_eq_true rfl⟩ hK hP hD [0] (by decide) rfl 0 11 rfl rfl rfl rfl hl.1 rfl (Nat.le_of_ble_eq_true rfl) dX11_parts_33 ⟨Nat.le_of_ble_eq_true rfl, Nat.le_of_ble_eq_true rfl⟩) hP hD hS hA [0] [1] rfl rfl (by decide) (by decide) (fun r_22 w_23 H locs hw hP hD hS => ?_)
        obtain ⟨rfl, rfl⟩ := hw
        have hP : va_P (dC, dI) vwCl [(a3, .inr (7, [.ref a14, .int 0, .ref a15, .ref a16, .ref a17, .ref a18, .int 0, .ref a19, .ref a20, .ref a21, .ref a22, .ref a23, .int 0, .ref a24, .ref a25, .ref a26])), (a0, .inr (11, [.ref a1, .int 0, .ref a2, .ref a3, .ref a4, .ref a5, .ref a6, .ref a7, .int 0, .ref a8, .ref a9, .ref a10, .int 0, .int (-1), .ref a11, .int 0, .ref a12, .ref a13, .int 0]))] H := hP
        have hD : va_D A [(a3, .inr (7, [.ref a14, .int 0, .ref a15, .ref a16, .ref a17, .ref a18, .int 0, .ref a19, .ref a20, .ref a21, .ref a22, .ref a23, .int 0, .ref a24, .ref a25, .ref a26])), (a0, .inr (11, [.ref a1, .int 0, .ref a2, .ref a3, .ref a4, .ref a5, .ref a6, .ref a7, .int 0, .ref a8, .ref a9, .ref a10, .int 0, .int (-1), .ref a11, .int 0, .ref a12, .ref a13, .int 0]))] := hD
        have hP9 := hP.sub (ws' := []) [] rfl
        have hD9 := hD.sub (ws' := []) [] (by decide) rfl
        refine W.widen (k := 0) (n := 0) (Nat.le_of_ble_eq_true rfl) (Nat.le_of_ble_eq_true rfl) ?_
        exact W.iret (v := (-1)) hx hb hr (fun t ht hW => ⟨⟨(-1), [], rfl, ⟨by decide, rfl⟩, by rw [ht]; exact hP9, va_K.moved hW.alike hK, hD9⟩, hS.F ht⟩) hS.2.2 dX11_parts_36
      refine lv_aload_n hx hb dX11_parts_0 rfl (lv_at hl 0 rfl) ?_
      refine lv_iload_n hx hb dX11_parts_1 rfl (lv_at hl 1 rfl) ?_
      refine tk_ri (wr := []) (tk_V (As := [.int 0]) (rest := []) (n := 1) hx hb hml hown hU hN (cc_X11_isSet_0 l (dC, dI) cI cL cZ s.heap.size a0 a1 a2 a3 a4 a5 a6 a7 a8 a9 a10 a11 a12 a13 a14 a15 a16 a17 a18 a19 a20 a21 a22 a23 a24 a25 a26) wd_678 wd_679 wd_680 wd_2 wd_681 (by decide +kernel) ⟨Nat.le_of_ble_eq_true rfl, Nat.le_of_ble_eq_true rfl⟩ hK hP hD [0, 1] (by decide) rfl 0 11 rfl rfl rfl rfl hl.1 rfl (Nat.le_of_ble_eq_true rfl) dX11_parts_2 ⟨Nat.le_of_ble_eq_true rfl, Nat.le_of_ble_eq_true rfl⟩) hP hD hS hA [0, 1] [] rfl rfl (by decide) (by decide) (fun r_24 w_25 H locs hw hP hD hS => ?_)
      obtain ⟨rfl, rfl⟩ := hw
      have hP : va_P (dC, dI) vwCl [(a0, .inr (11, [.ref a1, .int 0, .ref a2, .ref a3, .ref a4, .ref a5, .ref a6, .ref a7, .int 0, .ref a8, .ref a9, .ref a10, .int 0, .int (-1), .ref a11, .int 0, .ref a12, .ref a13, .int 0])), (a3, .inr (7, [.ref a14, .int 0, .ref a15, .ref a16, .ref a17, .ref a18, .int 0, .ref a19, .ref a20, .ref a21, .ref a22, .ref a23, .int 0, .ref a24, .ref a25, .ref a26]))] H := hP
      have hD : va_D A [(a0, .inr (11, [.ref a1, .int 0, .ref a2, .ref a3, .ref a4, .ref a5, .ref a6, .ref a7, .int 0, .ref a8, .ref a9, .ref a10, .int 0, .int (-1), .ref a11, .int 0, .ref a12, .ref a13, .int 0])), (a3, .inr (7, [.ref a14, .int 0, .ref a15, .ref a16, .ref a17, .ref a18, .int 0, .ref a19, .ref a20, .ref a21, .ref a22, .ref a23, .int 0, .ref a24, .ref a25, .ref a26]))] := hD
      refine lv_if_eq (tgt := 26) hx hb dX11_parts_5 (by decide) (fun c9 => absurd c9 (by decide)) (fun _ => ?_)
      refine lv_aload_n hx hb dX11_parts_8 rfl (lv_at hl 0 rfl) ?_
      refine lv_iload_n hx hb dX11_parts_9 rfl (lv_at hl 2 rfl) ?_
      refine tk_ri (wr := []) (tk_V (As := [.int 0]) (rest := []) (n := 1) hx hb hml hown hU hN (cc_X11_isSet_0 l (dC, dI) cI cL cZ H.size a0 a1 a2 a3 a4 a5 a6 a7 a8 a9 a10 a11 a12 a13 a14 a15 a16 a17 a18 a19 a20 a21 a22 a23 a24 a25 a26) wd_678 wd_679 wd_680 wd_2 wd_681 (by decide +kernel) ⟨Nat.le_of_ble_eq_true rfl, Nat.le_of_ble_eq_true rfl⟩ hK hP hD [0, 1] (by decide) rfl 0 11 rfl rfl rfl rfl hl.1 rfl (Nat.le_of_ble_eq_true rfl) dX11_parts_10 ⟨Nat.le_of_ble_eq_true rfl, Nat.le_of_ble_eq_true rfl⟩) hP hD hS hA [0, 1] [] rfl rfl (by decide) (by decide) (fun r_26 w_27 H locs hw hP hD hS => ?_)
      obtain ⟨rfl, rfl⟩ := hw
      have hP : va_P (dC, dI) vwCl [(a0, .inr (11, [.ref a1, .int 0, .ref a2, .ref a3, .ref a4, .ref a5, .ref a6, .ref a7, .int 0, .ref a8, .ref a9, .ref a10, .int 0, .int (-1), .ref a11, .int 0, .ref a12, .ref a13, .int 0])), (a3, .inr (7, [.ref a14, .int 0, .ref a15, .ref a16, .ref a17, .ref a18, .int 0, .ref a19, .ref a20, .ref a21, .ref a22, .ref a23, .int 0, .ref a24, .ref a25, .ref a26]))] H := hP
      have hD : va_D A [(a0, .inr (11, [.ref a1, .int 0, .ref a2, .ref a3, .ref a4, .ref a5, .ref a6, .ref a7, .int 0, .ref a8, .ref a9, .ref a10, .int 0, .int (-1), .ref a11, .int 0, .ref a12, .ref a13, .int 0])), (a3, .inr (7, [.ref a14, .int 0, .ref a15, .ref a16, .ref a17, .ref a18, .int 0, .ref a19, .ref a20, .ref a21, .ref a22, .ref a23, .int 0, .ref a24, .ref a25, .ref a26]))] := hD
      refine lv_if_eq (tgt := 26) hx hb dX11_parts_13 (by decide) (fun c9 => absurd c9 (by decide)) (fun _ => ?_)
      refine lv_iload_n hx hb dX11_parts_16 rfl (lv_at hl 3 rfl) ?_
      refine lv_iconst (v := 1) hx hb dX11_parts_17 (by decide) ?_
      refine lv_icmp_lt (tgt := 26) hx hb dX11_parts_18 (by decide) (fun c_28 => ?_) (fun c_28 => ?_)
      · skip
        refine lv_bipush (v := (-2)) hx hb dX11_parts_26 (by decide) ?_
        have hP9 := hP.sub (ws' := []) [] rfl
        have hD9 := hD.sub (ws' := []) [] (by decide) rfl
        refine W.widen (k := 0) (n := 0) (Nat.le_of_ble_eq_true rfl) (Nat.le_of_ble_eq_true rfl) ?_
        exact W.iret (v := (-2)) hx hb hr (fun t ht hW => ⟨⟨(-2), [], rfl, ⟨by simp [an_parts, c_3, c_10, c_17], rfl⟩, by rw [ht]; exact hP9, va_K.moved hW.alike hK, hD9⟩, hS.F ht⟩) hS.2.2 dX11_parts_28
      · skip
        refine lv_iload_n hx hb dX11_parts_21 rfl (lv_at hl 3 rfl) ?_
        refine lv_iconst (v := 3) hx hb dX11_parts_22 (by decide) ?_
        refine lv_icmp_le (tgt := 29) hx hb dX11_parts_23 (by decide) (fun c_29 => ?_) (fun c_29 => ?_)
        · skip
          exfalso
          simp only [Int32.lt_iff_toInt_lt, Int32.le_iff_toInt_le, ← Int32.toInt_inj, ti_0, ti_1, ti_2, ti_3] at c_3 c_10 c_17 c_28 c_29
          omega
        · skip
          refine lv_bipush (v := (-2)) hx hb dX11_parts_26 (by decide) ?_
          have hP9 := hP.sub (ws' := []) [] rfl
          have hD9 := hD.sub (ws' := []) [] (by decide) rfl
          refine W.widen (k := 0) (n := 0) (Nat.le_of_ble_eq_true rfl) (Nat.le_of_ble_eq_true rfl) ?_
          exact W.iret (v := (-2)) hx hb hr (fun t ht hW => ⟨⟨(-2), [], rfl, ⟨by simp [an_parts, c_3, c_10, c_17], rfl⟩, by rw [ht]; exact hP9, va_K.moved hW.alike hK, hD9⟩, hS.F ht⟩) hS.2.2 dX11_parts_28
    refine lv_aload_n hx hb dX11_parts_0 rfl (lv_at hl 0 rfl) ?_
    refine lv_iload_n hx hb dX11_parts_1 rfl (lv_at hl 1 rfl) ?_
    refine tk_ri (wr := []) (tk_V (As := [.int 0]) (rest := []) (n := 1) hx hb hml hown hU hN (cc_X11_isSet_0 l (dC, dI) cI cL cZ s.heap.size a0 a1 a2 a3 a4 a5 a6 a7 a8 a9 a10 a11 a12 a13 a14 a15 a16 a17 a18 a19 a20 a21 a22 a23 a24 a25 a26) wd_678 wd_679 wd_680 wd_2 wd_681 (by decide +kernel) ⟨Nat.le_of_ble_eq_true rfl, Nat.le_of_ble_eq_true rfl⟩ hK hP hD [0, 1] (by decide) rfl 0 11 rfl rfl rfl rfl hl.1 rfl (Nat.le_of_ble_eq_true rfl) dX11_parts_2 ⟨Nat.le_of_ble_eq_true rfl, Nat.le_of_ble_eq_true rfl⟩) hP hD hS hA [0, 1] [] rfl rfl (by decide) (by decide) (fun r_30 w_31 H locs hw hP hD hS => ?_)
    obtain ⟨rfl, rfl⟩ := hw
    have hP : va_P (dC, dI) vwCl [(a0, .inr (11, [.ref a1, .int 0, .ref a2, .ref a3, .ref a4, .ref a5, .ref a6, .ref a7, .int 0, .ref a8, .ref a9, .ref a10, .int 0, .int (-1), .ref a11, .int 0, .ref a12, .ref a13, .int 0])), (a3, .inr (7, [.ref a14, .int 0, .ref a15, .ref a16, .ref a17, .ref a18, .int 0, .ref a19, .ref a20, .ref a21, .ref a22, .ref a23, .int 0, .ref a24, .ref a25, .ref a26]))] H := hP
    have hD : va_D A [(a0, .inr (11, [.ref a1, .int 0, .ref a2, .ref a3, .ref a4, .ref a5, .ref a6, .ref a7, .int 0, .ref a8, .ref a9, .ref a10, .int 0, .int (-1), .ref a11, .int 0, .ref a12, .ref a13, .int 0])), (a3, .inr (7, [.ref a14, .int 0, .ref a15, .ref a16, .ref a17, .ref a18, .int 0, .ref a19, .ref a20, .ref a21, .ref a22, .ref a23, .int 0, .ref a24, .ref a25, .ref a26]))] := hD
    refine lv_if_eq (tgt := 26) hx hb dX11_parts_5 (by decide) (fun c9 => absurd c9 (by decide)) (fun _ => ?_)
    refine lv_aload_n hx hb dX11_parts_8 rfl (lv_at hl 0 rfl) ?_
    refine lv_iload_n hx hb dX11_parts_9 rfl (lv_at hl 2 rfl) ?_
    refine tk_ri (wr := []) (tk_V (As := [.int x1]) (rest := []) (n := 1) hx hb hml hown hU hN (cc_X11_isSet_1 l (dC, dI) cI cL cZ H.size a0 x1 a1 a2 a3 a4 a5 a6 a7 a8 a9 a10 a11 a12 a13 a14 a15 a16 a17 a18 a19 a20 a21 a22 a23 a24 a25 a26) wd_678 wd_679 wd_680 wd_2 wd_681 (by decide +kernel) ⟨Nat.le_of_ble_eq_true rfl, Nat.le_of_ble_eq_true rfl⟩ hK hP hD [0, 1] (by decide) rfl 0 11 rfl rfl rfl rfl hl.1 rfl (Nat.le_of_ble_eq_true rfl) dX11_parts_10 ⟨Nat.le_of_ble_eq_true rfl, Nat.le_of_ble_eq_true rfl⟩) hP hD hS hA [0, 1] [] rfl rfl (by decide) (by decide) (fun r_32 w_33 H locs hw hP hD hS => ?_)
    rcases hw with ⟨c_34, rfl, rfl⟩ | ⟨c_35, c_36, rfl, rfl⟩ | ⟨c_37, c_38, rfl, rfl⟩
    · skip
      have hP : va_P (dC, dI) vwCl [(a0, .inr (11, [.ref a1, .int 0, .ref a2, .ref a3, .ref a4, .ref a5, .ref a6, .ref a7, .int 0, .ref a8, .ref a9, .ref a10, .int 0, .int (-1), .ref a11, .int 0, .ref a12, .ref a13, .int 0])), (a3, .inr (7, [.ref a14, .int 0, .ref a15, .ref a16, .ref a17, .ref a18, .int 0, .ref a19, .ref a20, .ref a21, .ref a22, .ref a23, .int 0, .ref a24, .ref a25, .ref a26]))] H := hP
      have hD : va_D A [(a0, .inr (11, [.ref a1, .int 0, .ref a2, .ref a3, .ref a4, .ref a5, .ref a6, .ref a7, .int 0, .ref a8, .ref a9, .ref a10, .int 0, .int (-1), .ref a11, .int 0, .ref a12, .ref a13, .int 0])), (a3, .inr (7, [.ref a14, .int 0, .ref a15, .ref a16, .ref a17, .ref a18, .int 0, .ref a19, .ref a20, .ref a21, .ref a22, .ref a23, .int 0, .ref a24, .ref a25, .ref a26]))] := hD
      refine lv_if_eq (tgt := 26) hx hb dX11_parts_13 (by decide) (fun _ => ?_) (fun c9 => absurd (by decide) c9) 
      refine lv_bipush (v := (-2)) hx hb dX11_parts_26 (by decide) ?_
      have hP9 := hP.sub (ws' := []) [] rfl
      have hD9 := hD.sub (ws' := []) [] (by decide) rfl
      refine W.widen (k := 0) (n := 0) (Nat.le_of_ble_eq_true rfl) (Nat.le_of_ble_eq_true rfl) ?_
      exact W.iret (v := (-2)) hx hb hr (fun t ht hW => ⟨⟨(-2), [], rfl, ⟨by simp [an_parts, c_2], rfl⟩, by rw [ht]; exact hP9, va_K.moved hW.alike hK, hD9⟩, hS.F ht⟩) hS.2.2 dX11_parts_28
    · skip
      have hP : va_P (dC, dI) vwCl [(a0, .inr (11, [.ref a1, .int 0, .ref a2, .ref a3, .ref a4, .ref a5, .ref a6, .ref a7, .int 0, .ref a8, .ref a9, .ref a10, .int 0, .int (-1), .ref a11, .int 0, .ref a12, .ref a13, .int 0])), (a3, .inr (7, [.ref a14, .int 0, .ref a15, .ref a16, .ref a17, .ref a18, .int 0, .ref a19, .ref a20, .ref a21, .ref a22, .ref a23, .int 0, .ref a24, .ref a25, .ref a26]))] H := hP
      have hD : va_D A [(a0, .inr (11, [.ref a1, .int 0, .ref a2, .ref a3, .ref a4, .ref a5, .ref a6, .ref a7, .int 0, .ref a8, .ref a9, .ref a10, .int 0, .int (-1), .ref a11, .int 0, .ref a12, .ref a13, .int 0])), (a3, .inr (7, [.ref a14, .int 0, .ref a15, .ref a16, .ref a17, .ref a18, .int 0, .ref a19, .ref a20, .ref a21, .ref a22, .ref a23, .int 0, .ref a24, .ref a25, .ref a26]))] := hD
      refine lv_if_eq (tgt := 26) hx hb dX11_parts_13 (by decide) (fun _ => ?_) (fun c9 => absurd (by decide) c9) 
      refine lv_bipush (v := (-2)) hx hb dX11_parts_26 (by decide) ?_
      have hP9 := hP.sub (ws' := []) [] rfl
      have hD9 := hD.sub (ws' := []) [] (by decide) rfl
      refine W.widen (k := 0) (n := 0) (Nat.le_of_ble_eq_true rfl) (Nat.le_of_ble_eq_true rfl) ?_
      exact W.iret (v := (-2)) hx hb hr (fun t ht hW => ⟨⟨(-2), [], rfl, ⟨by simp [an_parts, c_2], rfl⟩, by rw [ht]; exact hP9, va_K.moved hW.alike hK, hD9⟩, hS.F ht⟩) hS.2.2 dX11_parts_28
    · skip
      exfalso
      simp only [Int32.lt_iff_toInt_lt, Int32.le_iff_toInt_le, ← Int32.toInt_inj, ti_0, ti_1] at c_2 c_37 c_38
      omega
  refine lv_aload_n hx hb dX11_parts_0 rfl (lv_at hl 0 rfl) ?_
  refine lv_iload_n hx hb dX11_parts_1 rfl (lv_at hl 1 rfl) ?_
  refine tk_ri (wr := []) (tk_V (As := [.int x0]) (rest := []) (n := 1) hx hb hml hown hU hN (cc_X11_isSet_1 l (dC, dI) cI cL cZ s.heap.size a0 x0 a1 a2 a3 a4 a5 a6 a7 a8 a9 a10 a11 a12 a13 a14 a15 a16 a17 a18 a19 a20 a21 a22 a23 a24 a25 a26) wd_678 wd_679 wd_680 wd_2 wd_681 (by decide +kernel) ⟨Nat.le_of_ble_eq_true rfl, Nat.le_of_ble_eq_true rfl⟩ hK hP hD [0, 1] (by decide) rfl 0 11 rfl rfl rfl rfl hl.1 rfl (Nat.le_of_ble_eq_true rfl) dX11_parts_2 ⟨Nat.le_of_ble_eq_true rfl, Nat.le_of_ble_eq_true rfl⟩) hP hD hS hA [0, 1] [] rfl rfl (by decide) (by decide) (fun r_39 w_40 H locs hw hP hD hS => ?_)
  rcases hw with ⟨c_41, rfl, rfl⟩ | ⟨c_42, c_43, rfl, rfl⟩ | ⟨c_44, c_45, rfl, rfl⟩
  · skip
    have hP : va_P (dC, dI) vwCl [(a0, .inr (11, [.ref a1, .int 0, .ref a2, .ref a3, .ref a4, .ref a5, .ref a6, .ref a7, .int 0, .ref a8, .ref a9, .ref a10, .int 0, .int (-1), .ref a11, .int 0, .ref a12, .ref a13, .int 0])), (a3, .inr (7, [.ref a14, .int 0, .ref a15, .ref a16, .ref a17, .ref a18, .int 0, .ref a19, .ref a20, .ref a21, .ref a22, .ref a23, .int 0, .ref a24, .ref a25, .ref a26]))] H := hP
    have hD : va_D A [(a0, .inr (11, [.ref a1, .int 0, .ref a2, .ref a3, .ref a4, .ref a5, .ref a6, .ref a7, .int 0, .ref a8, .ref a9, .ref a10, .int 0, .int (-1), .ref a11, .int 0, .ref a12, .ref a13, .int 0])), (a3, .inr (7, [.ref a14, .int 0, .ref a15, .ref a16, .ref a17, .ref a18, .int 0, .ref a19, .ref a20, .ref a21, .ref a22, .ref a23, .int 0, .ref a24, .ref a25, .ref a26]))] := hD
    refine lv_if_eq (tgt := 26) hx hb dX11_parts_5 (by decide) (fun _ => ?_) (fun c9 => absurd (by decide) c9) 
    refine lv_bipush (v := (-2)) hx hb dX11_parts_26 (by decide) ?_
    have hP9 := hP.sub (ws' := []) [] rfl
    have hD9 := hD.sub (ws' := []) [] (by decide) rfl
    refine W.widen (k := 0) (n := 0) (Nat.le_of_ble_eq_true rfl) (Nat.le_of_ble_eq_true rfl) ?_
    exact W.iret (v := (-2)) hx hb hr (fun t ht hW => ⟨⟨(-2), [], rfl, ⟨by simp [an_parts, c_1], rfl⟩, by rw [ht]; exact hP9, va_K.moved hW.alike hK, hD9⟩, hS.F ht⟩) hS.2.2 dX11_parts_28
  · skip
    have hP : va_P (dC, dI) vwCl [(a0, .inr (11, [.ref a1, .int 0, .ref a2, .ref a3, .ref a4, .ref a5, .ref a6, .ref a7, .int 0, .ref a8, .ref a9, .ref a10, .int 0, .int (-1), .ref a11, .int 0, .ref a12, .ref a13, .int 0])), (a3, .inr (7, [.ref a14, .int 0, .ref a15, .ref a16, .ref a17, .ref a18, .int 0, .ref a19, .ref a20, .ref a21, .ref a22, .ref a23, .int 0, .ref a24, .ref a25, .ref a26]))] H := hP
    have hD : va_D A [(a0, .inr (11, [.ref a1, .int 0, .ref a2, .ref a3, .ref a4, .ref a5, .ref a6, .ref a7, .int 0, .ref a8, .ref a9, .ref a10, .int 0, .int (-1), .ref a11, .int 0, .ref a12, .ref a13, .int 0])), (a3, .inr (7, [.ref a14, .int 0, .ref a15, .ref a16, .ref a17, .ref a18, .int 0, .ref a19, .ref a20, .ref a21, .ref a22, .ref a23, .int 0, .ref a24, .ref a25, .ref a26]))] := hD
    refine lv_if_eq (tgt := 26) hx hb dX11_parts_5 (by decide) (fun _ => ?_) (fun c9 => absurd (by decide) c9) 
    refine lv_bipush (v := (-2)) hx hb dX11_parts_26 (by decide) ?_
    have hP9 := hP.sub (ws' := []) [] rfl
    have hD9 := hD.sub (ws' := []) [] (by decide) rfl
    refine W.widen (k := 0) (n := 0) (Nat.le_of_ble_eq_true rfl) (Nat.le_of_ble_eq_true rfl) ?_
    exact W.iret (v := (-2)) hx hb hr (fun t ht hW => ⟨⟨(-2), [], rfl, ⟨by simp [an_parts, c_1], rfl⟩, by rw [ht]; exact hP9, va_K.moved hW.alike hK, hD9⟩, hS.F ht⟩) hS.2.2 dX11_parts_28
  · skip
    exfalso
    simp only [Int32.lt_iff_toInt_lt, Int32.le_iff_toInt_le, ← Int32.toInt_inj, ti_0, ti_1] at c_1 c_44 c_45
    omega
set_option maxHeartbeats 8000000 in
set_option maxRecDepth 100000 in
theorem op_X11_idle (l : Launch) (D : va_G) (cI cL cZ : ClassId) (sz : Nat) (a0 : Nat) (x0 : Int32) (x1 : Int32) (a1 : Nat) (a2 : Nat) (a3 : Nat) (a4 : Nat) (a5 : Nat) (a6 : Nat) (a7 : Nat) (a8 : Nat) (a9 : Nat) (a10 : Nat) (a11 : Nat) (a12 : Nat) (a13 : Nat) (a14 : Nat) (a15 : Nat) (a16 : Nat) (a17 : Nat) (a18 : Nat) (a19 : Nat) (a20 : Nat) (a21 : Nat) (a22 : Nat) (a23 : Nat) (a24 : Nat) (a25 : Nat) (a26 : Nat) : mI l D cI cL cZ yX11_idle cX11_idle 4 (some .int) 1 21 0 0 [.ref a0, .int x0, .int x1] sz [(a0, .inr (11, [.ref a1, .int 0, .ref a2, .ref a3, .ref a4, .ref a5, .ref a6, .ref a7, .int 0, .ref a8, .ref a9, .ref a10, .int 0, .int (-1), .ref a11, .int 0, .ref a12, .ref a13, .int 0])), (a3, .inr (7, [.ref a14, .int 0, .ref a15, .ref a16, .ref a17, .ref a18, .int 0, .ref a19, .ref a20, .ref a21, .ref a22, .ref a23, .int 0, .ref a24, .ref a25, .ref a26]))] (fun (r : Int32) (w1 : va_W) => r = (-1) ∧ w1 = ([] : va_W)) := by
  obtain ⟨dC, dI⟩ := D
  refine Met.ofW (cc := cX11_idle) (maxL := 4) (ret := (some .int)) (by decide) rfl ?_
  intro p e s m args below meth c s₁ B hml hv
  obtain ⟨rfl, hsz, hP, hK, hD0, hN⟩ := hv
  have hx := B.exec
  have hb := B.bytes
  have hr := B.returns
  have hU : ∀ w ∈ wsU, w.before _ s = true := fun w h => atoms_spec (ws := wU yX11_idle cX11_idle 4 (some .int)) B.pre w (List.mem_cons_of_mem _ h)
  have hown : s.vm.findClass RX11 = some m.cls := findClass_of_methodNamed B.named
  have hlocks := B.notSynchronized
  subst hsz
  have hD := hD0.self (sz := s.heap.size)
  generalize hAe : va_A [(a0, .inr (11, [.ref a1, .int 0, .ref a2, .ref a3, .ref a4, .ref a5, .ref a6, .ref a7, .int 0, .ref a8, .ref a9, .ref a10, .int 0, .int (-1), .ref a11, .int 0, .ref a12, .ref a13, .int 0])), (a3, .inr (7, [.ref a14, .int 0, .ref a15, .ref a16, .ref a17, .ref a18, .int 0, .ref a19, .ref a20, .ref a21, .ref a22, .ref a23, .int 0, .ref a24, .ref a25, .ref a26]))] s.heap.size = A at hD ⊢
  have hA : ∀ q : Nat, s.heap.size ≤ q → A q := fun q h => by rw [← hAe]; exact Or.inr h
  have hS : va_S A s.heap s.heap [] := va_S.rf
  have hP : va_P (dC, dI) vwCl [(a0, .inr (11, [.ref a1, .int 0, .ref a2, .ref a3, .ref a4, .ref a5, .ref a6, .ref a7, .int 0, .ref a8, .ref a9, .ref a10, .int 0, .int (-1), .ref a11, .int 0, .ref a12, .ref a13, .int 0])), (a3, .inr (7, [.ref a14, .int 0, .ref a15, .ref a16, .ref a17, .ref a18, .int 0, .ref a19, .ref a20, .ref a21, .ref a22, .ref a23, .int 0, .ref a24, .ref a25, .ref a26]))] s.heap := hP
  have hl := lv_entry ([.ref a0, .int x0, .int x1]) (n := 4) (Nat.le_of_ble_eq_true rfl)
  rw [lg_entry_eq]
  generalize (lg_sl ([.ref a0, .int x0, .int x1]) ++ List.replicate (4 - (lg_sl ([.ref a0, .int x0, .int x1])).length) Slot.unset).toArray = ls at hl ⊢
  have hl : lv_has ls 4 [(0, .ref a0), (1, .int x0), (2, .int x1)] := hl
  refine lv_aload_n hx hb dX11_idle_0 rfl (lv_at hl 0 rfl) ?_
  refine lv_iload_n hx hb dX11_idle_1 rfl (lv_at hl 1 rfl) ?_
  refine tk_ri (wr := []) (tk_V (As := [.int x0]) (rest := []) (n := 1) hx hb hml hown hU hN (cc_X11_isRule_0 l (dC, dI) cI cL cZ s.heap.size a0 x0 a1 a2 a3 a4 a5 a6 a7 a8 a9 a10 a11 a12 a13 a14 a15 a16 a17 a18 a19 a20 a21 a22 a23 a24 a25 a26) wd_1135 wd_1136 wd_1137 wd_2 wd_1138 (by decide +kernel) ⟨Nat.le_of_ble_eq_true rfl, Nat.le_of_ble_eq_true rfl⟩ hK hP hD [0, 1] (by decide) rfl 0 11 rfl rfl rfl rfl hl.1 rfl (Nat.le_of_ble_eq_true rfl) dX11_idle_2 ⟨Nat.le_of_ble_eq_true rfl, Nat.le_of_ble_eq_true rfl⟩) hP hD hS hA [0, 1] [] rfl rfl (by decide) (by decide) (fun r_1 w_2 H locs hw hP hD hS => ?_)
  obtain ⟨rfl, rfl⟩ := hw
  have hP : va_P (dC, dI) vwCl [(a0, .inr (11, [.ref a1, .int 0, .ref a2, .ref a3, .ref a4, .ref a5, .ref a6, .ref a7, .int 0, .ref a8, .ref a9, .ref a10, .int 0, .int (-1), .ref a11, .int 0, .ref a12, .ref a13, .int 0])), (a3, .inr (7, [.ref a14, .int 0, .ref a15, .ref a16, .ref a17, .ref a18, .int 0, .ref a19, .ref a20, .ref a21, .ref a22, .ref a23, .int 0, .ref a24, .ref a25, .ref a26]))] H := hP
  have hD : va_D A [(a0, .inr (11, [.ref a1, .int 0, .ref a2, .ref a3, .ref a4, .ref a5, .ref a6, .ref a7, .int 0, .ref a8, .ref a9, .ref a10, .int 0, .int (-1), .ref a11, .int 0, .ref a12, .ref a13, .int 0])), (a3, .inr (7, [.ref a14, .int 0, .ref a15, .ref a16, .ref a17, .ref a18, .int 0, .ref a19, .ref a20, .ref a21, .ref a22, .ref a23, .int 0, .ref a24, .ref a25, .ref a26]))] := hD
  refine lv_if_eq (tgt := 32) hx hb dX11_idle_5 (by decide) (fun _ => ?_) (fun c9 => absurd (by decide) c9) 
  refine lv_iconst (v := (-1)) hx hb dX11_idle_32 (by decide) ?_
  have hP9 := hP.sub (ws' := []) [] rfl
  have hD9 := hD.sub (ws' := []) [] (by decide) rfl
  refine W.widen (k := 0) (n := 0) (Nat.le_of_ble_eq_true rfl) (Nat.le_of_ble_eq_true rfl) ?_
  exact W.iret (v := (-1)) hx hb hr (fun t ht hW => ⟨⟨(-1), [], rfl, ⟨rfl, rfl⟩, by rw [ht]; exact hP9, va_K.moved hW.alike hK, hD9⟩, hS.F ht⟩) hS.2.2 dX11_idle_33
set_option maxHeartbeats 8000000 in
set_option maxRecDepth 100000 in
theorem cc_X3_clearNeeded_0 (l : Launch) (D : va_G) (cI cL cZ : ClassId) (sz : Nat) (a0 : Nat) (a1 : Nat) (a2 : Nat) (a3 : Nat) (a4 : Nat) (a5 : Nat) (a6 : Nat) (a7 : Nat) (a8 : Nat) (a9 : Nat) (a10 : Nat) : mV l D cI cL cZ yX3_clearNeeded cX3_clearNeeded 1 none 1 23 0 0 [.ref a0] sz [(a0, .inr (3, [.ref a1, .ref a2, .ref a3, .ref a4, .ref a5, .int 0, .int 0, .int 0, .int 0, .int 0, .int 0, .int (-1), .ref a6, .ref a7, .ref a8, .int 0, .ref a9, .ref a10])), (a10, .inl (cI, 256, .inl z0))] (fun (w1 : va_W) => w1 = ([(a0, .inr (3, [.ref a1, .ref a2, .ref a3, .ref a4, .ref a5, .int 0, .int 0, .int 0, .int 0, .int 0, .int 0, .int (-1), .ref a6, .ref a7, .ref a8, .int 0, .ref a9, .ref a10])), (a10, .inl (cI, 256, .inl z0))] : va_W)) := by
  obtain ⟨dC, dI⟩ := D
  refine Met.ofW (cc := cX3_clearNeeded) (maxL := 1) (ret := none) (by decide) rfl ?_
  intro p e s m args below meth c s₁ B hml hv
  obtain ⟨rfl, hsz, hP, hK, hD0, hN⟩ := hv
  have hx := B.exec
  have hb := B.bytes
  have hr := B.returns
  have hU : ∀ w ∈ wsU, w.before _ s = true := fun w h => atoms_spec (ws := wU yX3_clearNeeded cX3_clearNeeded 1 none) B.pre w (List.mem_cons_of_mem _ h)
  have hown : s.vm.findClass RX3 = some m.cls := findClass_of_methodNamed B.named
  have hlocks := B.notSynchronized
  subst hsz
  have hD := hD0.self (sz := s.heap.size)
  generalize hAe : va_A [(a0, .inr (3, [.ref a1, .ref a2, .ref a3, .ref a4, .ref a5, .int 0, .int 0, .int 0, .int 0, .int 0, .int 0, .int (-1), .ref a6, .ref a7, .ref a8, .int 0, .ref a9, .ref a10])), (a10, .inl (cI, 256, .inl z0))] s.heap.size = A at hD ⊢
  have hA : ∀ q : Nat, s.heap.size ≤ q → A q := fun q h => by rw [← hAe]; exact Or.inr h
  have hS : va_S A s.heap s.heap [] := va_S.rf
  have hP : va_P (dC, dI) vwCl [(a0, .inr (3, [.ref a1, .ref a2, .ref a3, .ref a4, .ref a5, .int 0, .int 0, .int 0, .int 0, .int 0, .int 0, .int (-1), .ref a6, .ref a7, .ref a8, .int 0, .ref a9, .ref a10])), (a10, .inl (cI, 256, .inl z0))] s.heap := hP
  have hl := lv_entry ([.ref a0]) (n := 1) (Nat.le_of_ble_eq_true rfl)
  rw [lg_entry_eq]
  generalize (lg_sl ([.ref a0]) ++ List.replicate (1 - (lg_sl ([.ref a0])).length) Slot.unset).toArray = ls at hl ⊢
  have hl : lv_has ls 1 [(0, .ref a0)] := hl
  refine lv_aload_n hx hb dX3_clearNeeded_0 rfl (lv_at hl 0 rfl) ?_
  refine va_get (D := (dC, dI)) (ci := 3) (v := .ref a10) (C := RX3) (T := TX3) (N := 18) hx hb hU inlX3 hown hK hP 0 rfl rfl 17 (by decide) (hU _ wd_67) (fun _ h9 => h9) rfl dX3_clearNeeded_1 ?_
  refine lv_iconst (v := 0) hx hb dX3_clearNeeded_4 (by decide) ?_
  refine tk_rv (wr := [(a0, .inr (3, [.ref a1, .ref a2, .ref a3, .ref a4, .ref a5, .int 0, .int 0, .int 0, .int 0, .int 0, .int 0, .int (-1), .ref a6, .ref a7, .ref a8, .int 0, .ref a9, .ref a10]))]) (tk_S (As := [.ref a10, .int 0]) (rest := []) (n := 2) hx hb hml hown hU hN (cc_fill0 l (dC, dI) cI cL cZ s.heap.size a10 256 (by decide)) wd_1362 wd_266 wd_267 wd_268 (by decide +kernel) ⟨Nat.le_of_ble_eq_true rfl, Nat.le_of_ble_eq_true rfl⟩ hK hP hD [1] (by decide) rfl rfl hl.1 rfl (Nat.le_of_ble_eq_true rfl) dX3_clearNeeded_5 ⟨Nat.le_of_ble_eq_true rfl, Nat.le_of_ble_eq_true rfl⟩) hP hD hS hA [1] [0] rfl rfl (by decide) (by decide) (fun w_2 H locs hw hP hD hS => ?_)
  subst hw
  have hP : va_P (dC, dI) vwCl [(a0, .inr (3, [.ref a1, .ref a2, .ref a3, .ref a4, .ref a5, .int 0, .int 0, .int 0, .int 0, .int 0, .int 0, .int (-1), .ref a6, .ref a7, .ref a8, .int 0, .ref a9, .ref a10])), (a10, .inl (cI, 256, .inl z0))] H := hP
  have hD : va_D A [(a0, .inr (3, [.ref a1, .ref a2, .ref a3, .ref a4, .ref a5, .int 0, .int 0, .int 0, .int 0, .int 0, .int 0, .int (-1), .ref a6, .ref a7, .ref a8, .int 0, .ref a9, .ref a10])), (a10, .inl (cI, 256, .inl z0))] := hD
  have hP9 := hP.sub (ws' := [(a0, .inr (3, [.ref a1, .ref a2, .ref a3, .ref a4, .ref a5, .int 0, .int 0, .int 0, .int 0, .int 0, .int 0, .int (-1), .ref a6, .ref a7, .ref a8, .int 0, .ref a9, .ref a10])), (a10, .inl (cI, 256, .inl z0))]) [0, 1] rfl
  have hD9 := hD.sub (ws' := [(a0, .inr (3, [.ref a1, .ref a2, .ref a3, .ref a4, .ref a5, .int 0, .int 0, .int 0, .int 0, .int 0, .int 0, .int (-1), .ref a6, .ref a7, .ref a8, .int 0, .ref a9, .ref a10])), (a10, .inl (cI, 256, .inl z0))]) [0, 1] (by decide) rfl
  refine W.widen (k := 0) (n := 0) (Nat.le_of_ble_eq_true rfl) (Nat.le_of_ble_eq_true rfl) ?_
  exact W.vret hx hb hr (fun t ht hW => ⟨⟨[(a0, .inr (3, [.ref a1, .ref a2, .ref a3, .ref a4, .ref a5, .int 0, .int 0, .int 0, .int 0, .int 0, .int 0, .int (-1), .ref a6, .ref a7, .ref a8, .int 0, .ref a9, .ref a10])), (a10, .inl (cI, 256, .inl z0))], rfl, rfl, by rw [ht]; exact hP9, va_K.moved hW.alike hK, hD9⟩, hS.F ht⟩) hS.2.2 dX3_clearNeeded_8
set_option maxHeartbeats 8000000 in
set_option maxRecDepth 100000 in
theorem cc_bitc (l : Launch) (D : va_G) (cI cL cZ : ClassId) (sz : Nat) (x0 : Int32) : mI l D cI cL cZ yJ6_bitCount_0f7a4 cJ6_bitCount_0f7a4 1 (some .int) 0 0 0 0 [.int x0] sz [] (fun (r : Int32) (w1 : va_W) => ¬ r < 0 ∧ w1 = ([] : va_W)) := by
  obtain ⟨dC, dI⟩ := D
  refine Met.ofW (cc := cJ6_bitCount_0f7a4) (maxL := 1) (ret := (some .int)) (by decide) rfl ?_
  intro p e s m args below meth c s₁ B hml hv
  obtain ⟨rfl, hsz, hP, hK, hD0, hN⟩ := hv
  have hx := B.exec
  have hb := B.bytes
  have hr := B.returns
  have hU : ∀ w ∈ wsU, w.before _ s = true := fun w h => atoms_spec (ws := wU yJ6_bitCount_0f7a4 cJ6_bitCount_0f7a4 1 (some .int)) B.pre w (List.mem_cons_of_mem _ h)
  have hown : s.vm.findClass RJ6 = some m.cls := findClass_of_methodNamed B.named
  have hlocks := B.notSynchronized
  subst hsz
  have hD := hD0.self (sz := s.heap.size)
  generalize hAe : va_A [] s.heap.size = A at hD ⊢
  have hA : ∀ q : Nat, s.heap.size ≤ q → A q := fun q h => by rw [← hAe]; exact Or.inr h
  have hS : va_S A s.heap s.heap [] := va_S.rf
  have hP : va_P (dC, dI) vwCl [] s.heap := hP
  have hl := lv_entry ([.int x0]) (n := 1) (Nat.le_of_ble_eq_true rfl)
  rw [lg_entry_eq]
  generalize (lg_sl ([.int x0]) ++ List.replicate (1 - (lg_sl ([.int x0])).length) Slot.unset).toArray = ls at hl ⊢
  have hl : lv_has ls 1 [(0, .int x0)] := hl
  refine lv_iload_n hx hb dJ6_bitCount_0f7a4_0 rfl (lv_at hl 0 rfl) ?_
  refine lv_iload_n hx hb dJ6_bitCount_0f7a4_1 rfl (lv_at hl 0 rfl) ?_
  refine lv_iconst (v := 1) hx hb dJ6_bitCount_0f7a4_2 (by decide) ?_
  refine lv_iushr hx hb dJ6_bitCount_0f7a4_3 rfl ?_
  refine lv_topi (fun u_1 eu_1 => ?_)
  refine lv_ldcw (v := 1431655765) hx hb hown (hU _ wd_1187) dJ6_bitCount_0f7a4_4 ?_
  refine lv_iand hx hb dJ6_bitCount_0f7a4_7 ?_
  refine lv_isub hx hb dJ6_bitCount_0f7a4_8 ?_
  refine lv_istore_n (lv' := [(0, .int (x0 - (u_1 &&& 1431655765)))]) hx hb dJ6_bitCount_0f7a4_9 rfl hl (by decide) rfl (fun ls hl => ?_)
  refine lv_iload_n hx hb dJ6_bitCount_0f7a4_10 rfl (lv_at hl 0 rfl) ?_
  refine lv_ldcw (v := 858993459) hx hb hown (hU _ wd_1188) dJ6_bitCount_0f7a4_11 ?_
  refine lv_iand hx hb dJ6_bitCount_0f7a4_14 ?_
  refine lv_iload_n hx hb dJ6_bitCount_0f7a4_15 rfl (lv_at hl 0 rfl) ?_
  refine lv_iconst (v := 2) hx hb dJ6_bitCount_0f7a4_16 (by decide) ?_
  refine lv_iushr hx hb dJ6_bitCount_0f7a4_17 rfl ?_
  refine lv_topi (fun u_2 eu_2 => ?_)
  refine lv_ldcw (v := 858993459) hx hb hown (hU _ wd_1188) dJ6_bitCount_0f7a4_18 ?_
  refine lv_iand hx hb dJ6_bitCount_0f7a4_21 ?_
  refine lv_iadd hx hb dJ6_bitCount_0f7a4_22 ?_
  refine lv_istore_n (lv' := [(0, .int (((x0 - (u_1 &&& 1431655765)) &&& 858993459) + (u_2 &&& 858993459)))]) hx hb dJ6_bitCount_0f7a4_23 rfl hl (by decide) rfl (fun ls hl => ?_)
  refine lv_iload_n hx hb dJ6_bitCount_0f7a4_24 rfl (lv_at hl 0 rfl) ?_
  refine lv_iload_n hx hb dJ6_bitCount_0f7a4_25 rfl (lv_at hl 0 rfl) ?_
  refine lv_iconst (v := 4) hx hb dJ6_bitCount_0f7a4_26 (by decide) ?_
  refine lv_iushr hx hb dJ6_bitCount_0f7a4_27 rfl ?_
  refine lv_topi (fun u_3 eu_3 => ?_)
  refine lv_iadd hx hb dJ6_bitCount_0f7a4_28 ?_
  refine lv_ldcw (v := 252645135) hx hb hown (hU _ wd_1189) dJ6_bitCount_0f7a4_29 ?_
  refine lv_iand hx hb dJ6_bitCount_0f7a4_32 ?_
  refine lv_istore_n (lv' := [(0, .int (((((x0 - (u_1 &&& 1431655765)) &&& 858993459) + (u_2 &&& 858993459)) + u_3) &&& 252645135))]) hx hb dJ6_bitCount_0f7a4_33 rfl hl (by decide) rfl (fun ls hl => ?_)
  refine lv_iload_n hx hb dJ6_bitCount_0f7a4_34 rfl (lv_at hl 0 rfl) ?_
  refine lv_iload_n hx hb dJ6_bitCount_0f7a4_35 rfl (lv_at hl 0 rfl) ?_
  refine lv_bipush (v := 8) hx hb dJ6_bitCount_0f7a4_36 (by decide) ?_
  refine lv_iushr hx hb dJ6_bitCount_0f7a4_38 rfl ?_
  refine lv_topi (fun u_4 eu_4 => ?_)
  refine lv_iadd hx hb dJ6_bitCount_0f7a4_39 ?_
  refine lv_istore_n (lv' := [(0, .int ((((((x0 - (u_1 &&& 1431655765)) &&& 858993459) + (u_2 &&& 858993459)) + u_3) &&& 252645135) + u_4))]) hx hb dJ6_bitCount_0f7a4_40 rfl hl (by decide) rfl (fun ls hl => ?_)
  refine lv_iload_n hx hb dJ6_bitCount_0f7a4_41 rfl (lv_at hl 0 rfl) ?_
  refine lv_iload_n hx hb dJ6_bitCount_0f7a4_42 rfl (lv_at hl 0 rfl) ?_
  refine lv_bipush (v := 16) hx hb dJ6_bitCount_0f7a4_43 (by decide) ?_
  refine lv_iushr hx hb dJ6_bitCount_0f7a4_45 rfl ?_
  refine lv_topi (fun u_5 eu_5 => ?_)
  refine lv_iadd hx hb dJ6_bitCount_0f7a4_46 ?_
  refine lv_istore_n (lv' := [(0, .int (((((((x0 - (u_1 &&& 1431655765)) &&& 858993459) + (u_2 &&& 858993459)) + u_3) &&& 252645135) + u_4) + u_5))]) hx hb dJ6_bitCount_0f7a4_47 rfl hl (by decide) rfl (fun ls hl => ?_)
  refine lv_iload_n hx hb dJ6_bitCount_0f7a4_48 rfl (lv_at hl 0 rfl) ?_
  refine lv_bipush (v := 63) hx hb dJ6_bitCount_0f7a4_49 (by decide) ?_
  refine lv_iand hx hb dJ6_bitCount_0f7a4_51 ?_
  have hP9 := hP.sub (ws' := []) [] rfl
  have hD9 := hD.sub (ws' := []) [] (by decide) rfl
  refine W.widen (k := 0) (n := 0) (Nat.le_of_ble_eq_true rfl) (Nat.le_of_ble_eq_true rfl) ?_
  exact W.iret (v := ((((((((x0 - (u_1 &&& 1431655765)) &&& 858993459) + (u_2 &&& 858993459)) + u_3) &&& 252645135) + u_4) + u_5) &&& 63)) hx hb hr (fun t ht hW => ⟨⟨((((((((x0 - (u_1 &&& 1431655765)) &&& 858993459) + (u_2 &&& 858993459)) + u_3) &&& 252645135) + u_4) + u_5) &&& 63), [], rfl, ⟨and63 _, rfl⟩, by rw [ht]; exact hP9, va_K.moved hW.alike hK, hD9⟩, hS.F ht⟩) hS.2.2 dJ6_bitCount_0f7a4_52
set_option maxHeartbeats 8000000 in
set_option maxRecDepth 100000 in
theorem cc_X3_leastThatMeetsNeeds_0 (l : Launch) (D : va_G) (cI cL cZ : ClassId) (sz : Nat) (a0 : Nat) (a1 : Nat) (a2 : Nat) (a3 : Nat) (a4 : Nat) (a5 : Nat) (a6 : Nat) (a7 : Nat) (a8 : Nat) (a9 : Nat) (a10 : Nat) : mI l D cI cL cZ yX3_leastThatMeetsNeeds cX3_leastThatMeetsNeeds 5 (some .int) 1 20 0 0 [.ref a0, .int 0] sz [(a0, .inr (3, [.ref a1, .ref a2, .ref a3, .ref a4, .ref a5, .int 0, .int 0, .int 0, .int 0, .int 0, .int 0, .int (-1), .ref a6, .ref a7, .ref a8, .int 0, .ref a9, .ref a10]))] (fun (r : Int32) (w1 : va_W) => r = 0 ∧ w1 = ([(a0, .inr (3, [.ref a1, .ref a2, .ref a3, .ref a4, .ref a5, .int 0, .int 0, .int 0, .int 0, .int 0, .int 0, .int (-1), .ref a6, .ref a7, .ref a8, .int 0, .ref a9, .ref a10]))] : va_W)) := by
  obtain ⟨dC, dI⟩ := D
  refine Met.ofW (cc := cX3_leastThatMeetsNeeds) (maxL := 5) (ret := (some .int)) (by decide) rfl ?_
  intro p e s m args below meth c s₁ B hml hv
  obtain ⟨rfl, hsz, hP, hK, hD0, hN⟩ := hv
  have hx := B.exec
  have hb := B.bytes
  have hr := B.returns
  have hU : ∀ w ∈ wsU, w.before _ s = true := fun w h => atoms_spec (ws := wU yX3_leastThatMeetsNeeds cX3_leastThatMeetsNeeds 5 (some .int)) B.pre w (List.mem_cons_of_mem _ h)
  have hown : s.vm.findClass RX3 = some m.cls := findClass_of_methodNamed B.named
  have hlocks := B.notSynchronized
  subst hsz
  have hD := hD0.self (sz := s.heap.size)
  generalize hAe : va_A [(a0, .inr (3, [.ref a1, .ref a2, .ref a3, .ref a4, .ref a5, .int 0, .int 0, .int 0, .int 0, .int 0, .int 0, .int (-1), .ref a6, .ref a7, .ref a8, .int 0, .ref a9, .ref a10]))] s.heap.size = A at hD ⊢
  have hA : ∀ q : Nat, s.heap.size ≤ q → A q := fun q h => by rw [← hAe]; exact Or.inr h
  have hS : va_S A s.heap s.heap [] := va_S.rf
  have hP : va_P (dC, dI) vwCl [(a0, .inr (3, [.ref a1, .ref a2, .ref a3, .ref a4, .ref a5, .int 0, .int 0, .int 0, .int 0, .int 0, .int 0, .int (-1), .ref a6, .ref a7, .ref a8, .int 0, .ref a9, .ref a10]))] s.heap := hP
  have hl := lv_entry ([.ref a0, .int 0]) (n := 5) (Nat.le_of_ble_eq_true rfl)
  rw [lg_entry_eq]
  generalize (lg_sl ([.ref a0, .int 0]) ++ List.replicate (5 - (lg_sl ([.ref a0, .int 0])).length) Slot.unset).toArray = ls at hl ⊢
  have hl : lv_has ls 5 [(0, .ref a0), (1, .int 0)] := hl
  refine lv_iload_n hx hb dX3_leastThatMeetsNeeds_0 rfl (lv_at hl 1 rfl) ?_
  refine lv_istore_n (lv' := [(2, .int 0), (0, .ref a0), (1, .int 0)]) hx hb dX3_leastThatMeetsNeeds_1 rfl hl (by decide) rfl (fun ls hl => ?_)
  refine lv_iconst (v := 0) hx hb dX3_leastThatMeetsNeeds_2 (by decide) ?_
  refine lv_istore_n (lv' := [(3, .int 0), (2, .int 0), (0, .ref a0), (1, .int 0)]) hx hb dX3_leastThatMeetsNeeds_3 rfl hl (by decide) rfl (fun ls hl => ?_)
  have hloop_4 : ∀ (n i_2 : Nat) (x_1 : Int32), x_1 = nI i_2 → i_2 ≤ 256 → 256 + 1 ≤ i_2 + n → ∀ (H : Heap) (locs : List Loc), va_P (dC, dI) vwCl [(a0, .inr (3, [.ref a1, .ref a2, .ref a3, .ref a4, .ref a5, .int 0, .int 0, .int 0, .int 0, .int 0, .int 0, .int (-1), .ref a6, .ref a7, .ref a8, .int 0, .ref a9, .ref a10]))] H → va_D A [(a0, .inr (3, [.ref a1, .ref a2, .ref a3, .ref a4, .ref a5, .int 0, .int 0, .int 0, .int 0, .int 0, .int 0, .int (-1), .ref a6, .ref a7, .ref a8, .int 0, .ref a9, .ref a10]))] → va_S A s.heap H locs → ∀ (ls : Array Slot), lv_has ls 5 [(3, .int x_1), (2, .int 0), (0, .ref a0), (1, .int 0)] → W p l e (headSpec (wU yX3_leastThatMeetsNeeds cX3_leastThatMeetsNeeds 5 (some .int)) { frames := 1, cells := 0, slots := 0, locals := 20 }).room s m [.ref a0, .int 0].toArray below meth c H locs 0 0 (MQ below (va_Qi (fun (r : Int32) (w1 : va_W) => r = 0 ∧ w1 = ([(a0, .inr (3, [.ref a1, .ref a2, .ref a3, .ref a4, .ref a5, .int 0, .int 0, .int 0, .int 0, .int 0, .int 0, .int (-1), .ref a6, .ref a7, .ref a8, .int 0, .ref a9, .ref a10]))] : va_W)) (qB (dC, dI) cI cL cZ A) A) [.ref a0, .int 0].toArray s 0 0 A) (F0 m 4 ls []) := by
    intro n
    induction n with
    | zero => intro i_2 x_1 ex_1 hi hn; exact absurd hn (by omega)
    | succ n ih =>
      intro i_2 x_1 ex_1 hi hn H locs hP hD hS ls hl
      refine lv_iload_n hx hb dX3_leastThatMeetsNeeds_4 rfl (lv_at hl 0 rfl) ?_
      refine lv_sipush (v := 256) hx hb dX3_leastThatMeetsNeeds_5 (by decide) ?_
      refine lv_icmp_ge (tgt := 58) hx hb dX3_leastThatMeetsNeeds_8 (by decide) (fun c_3 => ?_) (fun c_3 => ?_)
      · skip
        have hge : 256 ≤ i_2 := by rcases Nat.lt_or_ge i_2 256 with q | q; exact absurd c_3 (by rw [ex_1]; exact nI_ge (b := 256) q (by omega)); exact q
        have hiN : i_2 = 256 := by omega
        refine lv_iload_n hx hb dX3_leastThatMeetsNeeds_58 rfl (lv_at hl 1 rfl) ?_
        have hP9 := hP.sub (ws' := [(a0, .inr (3, [.ref a1, .ref a2, .ref a3, .ref a4, .ref a5, .int 0, .int 0, .int 0, .int 0, .int 0, .int 0, .int (-1), .ref a6, .ref a7, .ref a8, .int 0, .ref a9, .ref a10]))]) [0] rfl
        have hD9 := hD.sub (ws' := [(a0, .inr (3, [.ref a1, .ref a2, .ref a3, .ref a4, .ref a5, .int 0, .int 0, .int 0, .int 0, .int 0, .int 0, .int (-1), .ref a6, .ref a7, .ref a8, .int 0, .ref a9, .ref a10]))]) [0] (by decide) rfl
        refine W.widen (k := 0) (n := 0) (Nat.le_of_ble_eq_true rfl) (Nat.le_of_ble_eq_true rfl) ?_
        exact W.iret (v := 0) hx hb hr (fun t ht hW => ⟨⟨0, [(a0, .inr (3, [.ref a1, .ref a2, .ref a3, .ref a4, .ref a5, .int 0, .int 0, .int 0, .int 0, .int 0, .int 0, .int (-1), .ref a6, .ref a7, .ref a8, .int 0, .ref a9, .ref a10]))], rfl, ⟨rfl, rfl⟩, by rw [ht]; exact hP9, va_K.moved hW.alike hK, hD9⟩, hS.F ht⟩) hS.2.2 dX3_leastThatMeetsNeeds_59
      · skip
        have hlt : i_2 < 256 := by rcases Nat.lt_or_ge i_2 256 with q | q; exact q; exact absurd (by rw [ex_1]; exact nI_le (a := 256) q (by omega)) c_3
        refine lv_iload_n hx hb dX3_leastThatMeetsNeeds_11 rfl (lv_at hl 0 rfl) ?_
        refine tk_ri (wr := [(a0, .inr (3, [.ref a1, .ref a2, .ref a3, .ref a4, .ref a5, .int 0, .int 0, .int 0, .int 0, .int 0, .int 0, .int (-1), .ref a6, .ref a7, .ref a8, .int 0, .ref a9, .ref a10]))]) (tk_S (As := [.int x_1]) (rest := []) (n := 1) hx hb hml hown hU hN (cc_bitc l (dC, dI) cI cL cZ H.size x_1) wd_1371 wd_1184 wd_1185 wd_1186 (by decide +kernel) ⟨Nat.le_of_ble_eq_true rfl, Nat.le_of_ble_eq_true rfl⟩ hK hP hD [] (by decide) rfl rfl hl.1 rfl (Nat.le_of_ble_eq_true rfl) dX3_leastThatMeetsNeeds_12 ⟨Nat.le_of_ble_eq_true rfl, Nat.le_of_ble_eq_true rfl⟩) hP hD hS hA [] [0] rfl rfl (by decide) (by decide) (fun r_4 w_5 H locs hw hP hD hS => ?_)
        obtain ⟨c_6, rfl⟩ := hw
        have hP : va_P (dC, dI) vwCl [(a0, .inr (3, [.ref a1, .ref a2, .ref a3, .ref a4, .ref a5, .int 0, .int 0, .int 0, .int 0, .int 0, .int 0, .int (-1), .ref a6, .ref a7, .ref a8, .int 0, .ref a9, .ref a10]))] H := hP
        have hD : va_D A [(a0, .inr (3, [.ref a1, .ref a2, .ref a3, .ref a4, .ref a5, .int 0, .int 0, .int 0, .int 0, .int 0, .int 0, .int (-1), .ref a6, .ref a7, .ref a8, .int 0, .ref a9, .ref a10]))] := hD
        refine lv_iload_n hx hb dX3_leastThatMeetsNeeds_15 rfl (lv_at hl 1 rfl) ?_
        refine tk_ri (wr := [(a0, .inr (3, [.ref a1, .ref a2, .ref a3, .ref a4, .ref a5, .int 0, .int 0, .int 0, .int 0, .int 0, .int 0, .int (-1), .ref a6, .ref a7, .ref a8, .int 0, .ref a9, .ref a10]))]) (tk_S (As := [.int 0]) (rest := [.int r_4]) (n := 1) hx hb hml hown hU hN (cc_J6_bitCount_0f7a4_0 l (dC, dI) cI cL cZ H.size ) wd_1371 wd_1184 wd_1185 wd_1186 (by decide +kernel) ⟨Nat.le_of_ble_eq_true rfl, Nat.le_of_ble_eq_true rfl⟩ hK hP hD [] (by decide) rfl rfl hl.1 rfl (Nat.le_of_ble_eq_true rfl) dX3_leastThatMeetsNeeds_16 ⟨Nat.le_of_ble_eq_true rfl, Nat.le_of_ble_eq_true rfl⟩) hP hD hS hA [] [0] rfl rfl (by decide) (by decide) (fun r_7 w_8 H locs hw hP hD hS => ?_)
        obtain ⟨rfl, rfl⟩ := hw
        have hP : va_P (dC, dI) vwCl [(a0, .inr (3, [.ref a1, .ref a2, .ref a3, .ref a4, .ref a5, .int 0, .int 0, .int 0, .int 0, .int 0, .int 0, .int (-1), .ref a6, .ref a7, .ref a8, .int 0, .ref a9, .ref a10]))] H := hP
        have hD : va_D A [(a0, .inr (3, [.ref a1, .ref a2, .ref a3, .ref a4, .ref a5, .int 0, .int 0, .int 0, .int 0, .int 0, .int 0, .int (-1), .ref a6, .ref a7, .ref a8, .int 0, .ref a9, .ref a10]))] := hD
        refine lv_icmp_ge (tgt := 26) hx hb dX3_leastThatMeetsNeeds_19 (by decide) (fun c_9 => ?_) (fun c_9 => ?_)
        · skip
          refine lv_iconst (v := 0) hx hb dX3_leastThatMeetsNeeds_26 (by decide) ?_
          refine lv_istore (lv' := [(4, .int 0), (3, .int x_1), (2, .int 0), (0, .ref a0), (1, .int 0)]) hx hb dX3_leastThatMeetsNeeds_27 hl (by decide) rfl (fun ls hl => ?_)
          refine lv_iload_n hx hb dX3_leastThatMeetsNeeds_29 rfl (lv_at hl 1 rfl) ?_
          refine lv_iload_n hx hb dX3_leastThatMeetsNeeds_30 rfl (lv_at hl 4 rfl) ?_
          refine lv_iconst (v := (-1)) hx hb dX3_leastThatMeetsNeeds_31 (by decide) ?_
          refine lv_ixor hx hb dX3_leastThatMeetsNeeds_32 ?_
          refine tk_topi (y := (-1)) (by decide) ?_
          refine lv_iand hx hb dX3_leastThatMeetsNeeds_33 ?_
          refine lv_if_ne (tgt := 52) hx hb dX3_leastThatMeetsNeeds_34 (by decide) (fun c_10 => ?_) (fun c_10 => ?_)
          · skip
            obtain ⟨x_11, ex_11⟩ : ∃ y : Int32, x_1 + 1 = y := ⟨_, rfl⟩
            refine lv_iinc (v := x_11) (lv' := [(3, .int x_11), (4, .int 0), (2, .int 0), (0, .ref a0), (1, .int 0)]) hx hb dX3_leastThatMeetsNeeds_52 hl (k := 1) rfl ex_11 (by decide) rfl (fun ls hl => ?_)
            refine lv_goto (tgt := 4) hx hb dX3_leastThatMeetsNeeds_55 (by decide) ?_
            exact ih (i_2 + 1) x_11 (by rw [← ex_11, ex_1]; exact nI_1 i_2) (by omega) (by omega) _ _ hP hD hS ls (lv_sub hl [0, 2, 3, 4] rfl)
          · skip
            refine lv_iload hx hb dX3_leastThatMeetsNeeds_37 (lv_at hl 0 rfl) ?_
            refine lv_if_eq (tgt := 52) hx hb dX3_leastThatMeetsNeeds_39 (by decide) (fun _ => ?_) (fun c9 => absurd (by decide) c9) 
            obtain ⟨x_12, ex_12⟩ : ∃ y : Int32, x_1 + 1 = y := ⟨_, rfl⟩
            refine lv_iinc (v := x_12) (lv' := [(3, .int x_12), (4, .int 0), (2, .int 0), (0, .ref a0), (1, .int 0)]) hx hb dX3_leastThatMeetsNeeds_52 hl (k := 1) rfl ex_12 (by decide) rfl (fun ls hl => ?_)
            refine lv_goto (tgt := 4) hx hb dX3_leastThatMeetsNeeds_55 (by decide) ?_
            exact ih (i_2 + 1) x_12 (by rw [← ex_12, ex_1]; exact nI_1 i_2) (by omega) (by omega) _ _ hP hD hS ls (lv_sub hl [0, 2, 3, 4] rfl)
        · skip
          exfalso
          simp only [Int32.lt_iff_toInt_lt, Int32.le_iff_toInt_le, ← Int32.toInt_inj, ti_0] at c_6 c_9
          omega
  exact hloop_4 (256 + 1) 0 0 nI_0.symm (Nat.zero_le _) (by omega) _ _ hP hD hS ls hl
set_option maxHeartbeats 8000000 in
set_option maxRecDepth 100000 in
theorem op_X11_fewest (l : Launch) (D : va_G) (cI cL cZ : ClassId) (sz : Nat) (a0 : Nat) (x0 : Int32) (a1 : Nat) (a2 : Nat) (a3 : Nat) (a4 : Nat) (a5 : Nat) (a6 : Nat) (a7 : Nat) (a8 : Nat) (a9 : Nat) (a10 : Nat) (a11 : Nat) (a12 : Nat) (a13 : Nat) (a14 : Nat) (a15 : Nat) (a16 : Nat) (a17 : Nat) (a18 : Nat) (a19 : Nat) (a20 : Nat) (a21 : Nat) (a22 : Nat) (a23 : Nat) (a24 : Nat) (a25 : Nat) (a26 : Nat) (a27 : Nat) (a28 : Nat) (a29 : Nat) (a30 : Nat) (a31 : Nat) (a32 : Nat) (a33 : Nat) (a34 : Nat) (a35 : Nat) (a36 : Nat) (a37 : Nat) (a38 : Nat) (a39 : Nat) (a40 : Nat) : mI l D cI cL cZ yX11_fewest cX11_fewest 5 (some .int) 2 44 0 0 [.ref a0, .int x0] sz [(a0, .inr (11, [.ref a1, .int 0, .ref a2, .ref a3, .ref a4, .ref a5, .ref a6, .ref a7, .int 0, .ref a8, .ref a9, .ref a10, .int 0, .int (-1), .ref a11, .int 0, .ref a12, .ref a13, .int 0])), (a2, .inr (3, [.ref a3, .ref a4, .ref a14, .ref a15, .ref a16, .int 0, .int 0, .int 0, .int 0, .int 0, .int 0, .int (-1), .ref a17, .ref a18, .ref a19, .int 0, .ref a20, .ref a21])), (a3, .inr (7, [.ref a22, .int 0, .ref a23, .ref a24, .ref a25, .ref a26, .int 0, .ref a27, .ref a28, .ref a29, .ref a30, .ref a31, .int 0, .ref a32, .ref a33, .ref a34])), (a21, .inl (cI, 256, .inl z0)), (a5, .inr (6, [.int 0, .int 1, .ref a35, .ref a36, .ref a37, .int 0, .ref a38, .ref a39, .ref a40]))] (fun (r : Int32) (w1 : va_W) => r = (an_fewest x0) ∧ w1 = ([] : va_W)) := by
  obtain ⟨dC, dI⟩ := D
  refine Met.ofW (cc := cX11_fewest) (maxL := 5) (ret := (some .int)) (by decide) rfl ?_
  intro p e s m args below meth c s₁ B hml hv
  obtain ⟨rfl, hsz, hP, hK, hD0, hN⟩ := hv
  have hx := B.exec
  have hb := B.bytes
  have hr := B.returns
  have hU : ∀ w ∈ wsU, w.before _ s = true := fun w h => atoms_spec (ws := wU yX11_fewest cX11_fewest 5 (some .int)) B.pre w (List.mem_cons_of_mem _ h)
  have hown : s.vm.findClass RX11 = some m.cls := findClass_of_methodNamed B.named
  have hlocks := B.notSynchronized
  subst hsz
  have hD := hD0.self (sz := s.heap.size)
  generalize hAe : va_A [(a0, .inr (11, [.ref a1, .int 0, .ref a2, .ref a3, .ref a4, .ref a5, .ref a6, .ref a7, .int 0, .ref a8, .ref a9, .ref a10, .int 0, .int (-1), .ref a11, .int 0, .ref a12, .ref a13, .int 0])), (a2, .inr (3, [.ref a3, .ref a4, .ref a14, .ref a15, .ref a16, .int 0, .int 0, .int 0, .int 0, .int 0, .int 0, .int (-1), .ref a17, .ref a18, .ref a19, .int 0, .ref a20, .ref a21])), (a3, .inr (7, [.ref a22, .int 0, .ref a23, .ref a24, .ref a25, .ref a26, .int 0, .ref a27, .ref a28, .ref a29, .ref a30, .ref a31, .int 0, .ref a32, .ref a33, .ref a34])), (a21, .inl (cI, 256, .inl z0)), (a5, .inr (6, [.int 0, .int 1, .ref a35, .ref a36, .ref a37, .int 0, .ref a38, .ref a39, .ref a40]))] s.heap.size = A at hD ⊢
  have hA : ∀ q : Nat, s.heap.size ≤ q → A q := fun q h => by rw [← hAe]; exact Or.inr h
  have hS : va_S A s.heap s.heap [] := va_S.rf
  have hP : va_P (dC, dI) vwCl [(a0, .inr (11, [.ref a1, .int 0, .ref a2, .ref a3, .ref a4, .ref a5, .ref a6, .ref a7, .int 0, .ref a8, .ref a9, .ref a10, .int 0, .int (-1), .ref a11, .int 0, .ref a12, .ref a13, .int 0])), (a2, .inr (3, [.ref a3, .ref a4, .ref a14, .ref a15, .ref a16, .int 0, .int 0, .int 0, .int 0, .int 0, .int 0, .int (-1), .ref a17, .ref a18, .ref a19, .int 0, .ref a20, .ref a21])), (a3, .inr (7, [.ref a22, .int 0, .ref a23, .ref a24, .ref a25, .ref a26, .int 0, .ref a27, .ref a28, .ref a29, .ref a30, .ref a31, .int 0, .ref a32, .ref a33, .ref a34])), (a21, .inl (cI, 256, .inl z0)), (a5, .inr (6, [.int 0, .int 1, .ref a35, .ref a36, .ref a37, .int 0, .ref a38, .ref a39, .ref a40]))] s.heap := hP
  have hl := lv_entry ([.ref a0, .int x0]) (n := 5) (Nat.le_of_ble_eq_true rfl)
  rw [lg_entry_eq]
  generalize (lg_sl ([.ref a0, .int x0]) ++ List.replicate (5 - (lg_sl ([.ref a0, .int x0])).length) Slot.unset).toArray = ls at hl ⊢
  have hl : lv_has ls 5 [(0, .ref a0), (1, .int x0)] := hl
  by_cases c_1 : x0 = 1
  · subst c_1
    refine lv_iload_n hx hb dX11_fewest_0 rfl (lv_at hl 1 rfl) ?_
    refine lv_iconst (v := 1) hx hb dX11_fewest_1 (by decide) ?_
    refine lv_icmp_lt (tgt := 10) hx hb dX11_fewest_2 (by decide) (fun c9 => absurd c9 (by decide)) (fun _ => ?_)
    refine lv_iload_n hx hb dX11_fewest_5 rfl (lv_at hl 1 rfl) ?_
    refine lv_iconst (v := 2) hx hb dX11_fewest_6 (by decide) ?_
    refine lv_icmp_le (tgt := 12) hx hb dX11_fewest_7 (by decide) (fun _ => ?_) (fun c9 => absurd (by decide) c9) 
    refine lv_aload_n hx hb dX11_fewest_12 rfl (lv_at hl 0 rfl) ?_
    refine va_get (D := (dC, dI)) (ci := 11) (v := .ref a2) (C := RX11) (T := TX11) (N := 19) hx hb hU inlX11 hown hK hP 0 rfl rfl 2 (by decide) (hU _ wd_17) (fun _ h9 => h9) rfl dX11_fewest_13 ?_
    refine tk_rv (wr := [(a0, .inr (11, [.ref a1, .int 0, .ref a2, .ref a3, .ref a4, .ref a5, .ref a6, .ref a7, .int 0, .ref a8, .ref a9, .ref a10, .int 0, .int (-1), .ref a11, .int 0, .ref a12, .ref a13, .int 0])), (a3, .inr (7, [.ref a22, .int 0, .ref a23, .ref a24, .ref a25, .ref a26, .int 0, .ref a27, .ref a28, .ref a29, .ref a30, .ref a31, .int 0, .ref a32, .ref a33, .ref a34])), (a5, .inr (6, [.int 0, .int 1, .ref a35, .ref a36, .ref a37, .int 0, .ref a38, .ref a39, .ref a40]))]) (tk_V (As := []) (rest := []) (n := 0) hx hb hml hown hU hN (cc_X3_clearNeeded_0 l (dC, dI) cI cL cZ s.heap.size a2 a3 a4 a14 a15 a16 a17 a18 a19 a20 a21) wd_1358 wd_1359 wd_1360 wd_16 wd_1361 (by decide +kernel) ⟨Nat.le_of_ble_eq_true rfl, Nat.le_of_ble_eq_true rfl⟩ hK hP hD [1, 3] (by decide) rfl 0 3 rfl rfl rfl rfl hl.1 rfl (Nat.le_of_ble_eq_true rfl) dX11_fewest_16 ⟨Nat.le_of_ble_eq_true rfl, Nat.le_of_ble_eq_true rfl⟩) hP hD hS hA [1, 3] [0, 2, 4] rfl rfl (by decide) (by decide) (fun w_3 H locs hw hP hD hS => ?_)
    subst hw
    have hP : va_P (dC, dI) vwCl [(a0, .inr (11, [.ref a1, .int 0, .ref a2, .ref a3, .ref a4, .ref a5, .ref a6, .ref a7, .int 0, .ref a8, .ref a9, .ref a10, .int 0, .int (-1), .ref a11, .int 0, .ref a12, .ref a13, .int 0])), (a3, .inr (7, [.ref a22, .int 0, .ref a23, .ref a24, .ref a25, .ref a26, .int 0, .ref a27, .ref a28, .ref a29, .ref a30, .ref a31, .int 0, .ref a32, .ref a33, .ref a34])), (a5, .inr (6, [.int 0, .int 1, .ref a35, .ref a36, .ref a37, .int 0, .ref a38, .ref a39, .ref a40])), (a2, .inr (3, [.ref a3, .ref a4, .ref a14, .ref a15, .ref a16, .int 0, .int 0, .int 0, .int 0, .int 0, .int 0, .int (-1), .ref a17, .ref a18, .ref a19, .int 0, .ref a20, .ref a21])), (a21, .inl (cI, 256, .inl z0))] H := hP
    have hD : va_D A [(a0, .inr (11, [.ref a1, .int 0, .ref a2, .ref a3, .ref a4, .ref a5, .ref a6, .ref a7, .int 0, .ref a8, .ref a9, .ref a10, .int 0, .int (-1), .ref a11, .int 0, .ref a12, .ref a13, .int 0])), (a3, .inr (7, [.ref a22, .int 0, .ref a23, .ref a24, .ref a25, .ref a26, .int 0, .ref a27, .ref a28, .ref a29, .ref a30, .ref a31, .int 0, .ref a32, .ref a33, .ref a34])), (a5, .inr (6, [.int 0, .int 1, .ref a35, .ref a36, .ref a37, .int 0, .ref a38, .ref a39, .ref a40])), (a2, .inr (3, [.ref a3, .ref a4, .ref a14, .ref a15, .ref a16, .int 0, .int 0, .int 0, .int 0, .int 0, .int 0, .int (-1), .ref a17, .ref a18, .ref a19, .int 0, .ref a20, .ref a21])), (a21, .inl (cI, 256, .inl z0))] := hD
    refine lv_iconst (v := 1) hx hb dX11_fewest_19 (by decide) ?_
    refine lv_istore_n (lv' := [(2, .int 1), (0, .ref a0), (1, .int 1)]) hx hb dX11_fewest_20 rfl hl (by decide) rfl (fun ls hl => ?_)
    refine lv_iconst (v := 1) hx hb dX11_fewest_21 (by decide) ?_
    refine lv_istore_n (lv' := [(3, .int 1), (2, .int 1), (0, .ref a0), (1, .int 1)]) hx hb dX11_fewest_22 rfl hl (by decide) rfl (fun ls hl => ?_)
    refine lv_iload_n hx hb dX11_fewest_23 rfl (lv_at hl 0 rfl) ?_
    refine lv_iload_n hx hb dX11_fewest_24 rfl (lv_at hl 3 rfl) ?_
    refine lv_icmp_gt (tgt := 90) hx hb dX11_fewest_25 (by decide) (fun c9 => absurd c9 (by decide)) (fun _ => ?_)
    refine lv_iload_n hx hb dX11_fewest_28 rfl (lv_at hl 1 rfl) ?_
    refine lv_aload_n hx hb dX11_fewest_29 rfl (lv_at hl 2 rfl) ?_
    refine va_get (D := (dC, dI)) (ci := 11) (v := .ref a3) (C := RX11) (T := TX11) (N := 19) hx hb hU inlX11 hown hK hP 0 rfl rfl 3 (by decide) (hU _ wd_19) (fun _ h9 => h9) rfl dX11_fewest_30 ?_
    refine va_get (D := (dC, dI)) (ci := 7) (v := .int 0) (C := RX7) (T := TX7) (N := 16) hx hb hU inlX7 hown hK hP 1 rfl rfl 1 (by decide) (hU _ wd_1151) (fun _ h9 => h9) rfl dX11_fewest_33 ?_
    refine lv_imul hx hb dX11_fewest_36 ?_
    refine tk_topi (y := 0) (by decide) ?_
    refine lv_istore_n (lv' := [(2, .int 0), (3, .int 1), (0, .ref a0), (1, .int 1)]) hx hb dX11_fewest_37 rfl hl (by decide) rfl (fun ls hl => ?_)
    refine lv_iconst (v := 0) hx hb dX11_fewest_38 (by decide) ?_
    refine lv_istore (lv' := [(4, .int 0), (2, .int 0), (3, .int 1), (0, .ref a0), (1, .int 1)]) hx hb dX11_fewest_39 hl (by decide) rfl (fun ls hl => ?_)
    refine lv_iload hx hb dX11_fewest_41 (lv_at hl 0 rfl) ?_
    refine lv_iload_n hx hb dX11_fewest_43 rfl (lv_at hl 1 rfl) ?_
    refine lv_icmp_ge (tgt := 84) hx hb dX11_fewest_44 (by decide) (fun _ => ?_) (fun c9 => absurd (by decide) c9) 
    refine lv_iinc (v := 2) (lv' := [(3, .int 2), (4, .int 0), (2, .int 0), (0, .ref a0), (1, .int 1)]) hx hb dX11_fewest_84 hl (k := 2) rfl (by decide) (by decide) rfl (fun ls hl => ?_)
    refine lv_goto (tgt := 23) hx hb dX11_fewest_87 (by decide) ?_
    refine lv_iload_n hx hb dX11_fewest_23 rfl (lv_at hl 0 rfl) ?_
    refine lv_iload_n hx hb dX11_fewest_24 rfl (lv_at hl 4 rfl) ?_
    refine lv_icmp_gt (tgt := 90) hx hb dX11_fewest_25 (by decide) (fun _ => ?_) (fun c9 => absurd (by decide) c9) 
    refine lv_aload_n hx hb dX11_fewest_90 rfl (lv_at hl 3 rfl) ?_
    refine va_get (D := (dC, dI)) (ci := 11) (v := .ref a2) (C := RX11) (T := TX11) (N := 19) hx hb hU inlX11 hown hK hP 0 rfl rfl 2 (by decide) (hU _ wd_17) (fun _ h9 => h9) rfl dX11_fewest_91 ?_
    refine lv_aload_n hx hb dX11_fewest_94 rfl (lv_at hl 3 rfl) ?_
    refine va_get (D := (dC, dI)) (ci := 11) (v := .ref a5) (C := RX11) (T := TX11) (N := 19) hx hb hU inlX11 hown hK hP 0 rfl rfl 5 (by decide) (hU _ wd_25) (fun _ h9 => h9) rfl dX11_fewest_95 ?_
    refine va_get (D := (dC, dI)) (ci := 6) (v := .int 0) (C := RX6) (T := TX6) (N := 9) hx hb hU inlX6 hown hK hP 2 rfl rfl 0 (by decide) (hU _ wd_677) (fun _ h9 => h9) rfl dX11_fewest_98 ?_
    refine tk_ri (wr := [(a0, .inr (11, [.ref a1, .int 0, .ref a2, .ref a3, .ref a4, .ref a5, .ref a6, .ref a7, .int 0, .ref a8, .ref a9, .ref a10, .int 0, .int (-1), .ref a11, .int 0, .ref a12, .ref a13, .int 0])), (a3, .inr (7, [.ref a22, .int 0, .ref a23, .ref a24, .ref a25, .ref a26, .int 0, .ref a27, .ref a28, .ref a29, .ref a30, .ref a31, .int 0, .ref a32, .ref a33, .ref a34])), (a5, .inr (6, [.int 0, .int 1, .ref a35, .ref a36, .ref a37, .int 0, .ref a38, .ref a39, .ref a40])), (a21, .inl (cI, 256, .inl z0))]) (tk_V (As := [.int 0]) (rest := []) (n := 1) hx hb hml hown hU hN (cc_X3_leastThatMeetsNeeds_0 l (dC, dI) cI cL cZ H.size a2 a3 a4 a14 a15 a16 a17 a18 a19 a20 a21) wd_1367 wd_1368 wd_1369 wd_16 wd_1370 (by decide +kernel) ⟨Nat.le_of_ble_eq_true rfl, Nat.le_of_ble_eq_true rfl⟩ hK hP hD [3] (by decide) rfl 0 3 rfl rfl rfl rfl hl.1 rfl (Nat.le_of_ble_eq_true rfl) dX11_fewest_101 ⟨Nat.le_of_ble_eq_true rfl, Nat.le_of_ble_eq_true rfl⟩) hP hD hS hA [3] [0, 1, 2, 4] rfl rfl (by decide) (by decide) (fun r_4 w_5 H locs hw hP hD hS => ?_)
    obtain ⟨rfl, rfl⟩ := hw
    have hP : va_P (dC, dI) vwCl [(a0, .inr (11, [.ref a1, .int 0, .ref a2, .ref a3, .ref a4, .ref a5, .ref a6, .ref a7, .int 0, .ref a8, .ref a9, .ref a10, .int 0, .int (-1), .ref a11, .int 0, .ref a12, .ref a13, .int 0])), (a3, .inr (7, [.ref a22, .int 0, .ref a23, .ref a24, .ref a25, .ref a26, .int 0, .ref a27, .ref a28, .ref a29, .ref a30, .ref a31, .int 0, .ref a32, .ref a33, .ref a34])), (a5, .inr (6, [.int 0, .int 1, .ref a35, .ref a36, .ref a37, .int 0, .ref a38, .ref a39, .ref a40])), (a21, .inl (cI, 256, .inl z0)), (a2, .inr (3, [.ref a3, .ref a4, .ref a14, .ref a15, .ref a16, .int 0, .int 0, .int 0, .int 0, .int 0, .int 0, .int (-1), .ref a17, .ref a18, .ref a19, .int 0, .ref a20, .ref a21]))] H := hP
    have hD : va_D A [(a0, .inr (11, [.ref a1, .int 0, .ref a2, .ref a3, .ref a4, .ref a5, .ref a6, .ref a7, .int 0, .ref a8, .ref a9, .ref a10, .int 0, .int (-1), .ref a11, .int 0, .ref a12, .ref a13, .int 0])), (a3, .inr (7, [.ref a22, .int 0, .ref a23, .ref a24, .ref a25, .ref a26, .int 0, .ref a27, .ref a28, .ref a29, .ref a30, .ref a31, .int 0, .ref a32, .ref a33, .ref a34])), (a5, .inr (6, [.int 0, .int 1, .ref a35, .ref a36, .ref a37, .int 0, .ref a38, .ref a39, .ref a40])), (a21, .inl (cI, 256, .inl z0)), (a2, .inr (3, [.ref a3, .ref a4, .ref a14, .ref a15, .ref a16, .int 0, .int 0, .int 0, .int 0, .int 0, .int 0, .int (-1), .ref a17, .ref a18, .ref a19, .int 0, .ref a20, .ref a21]))] := hD
    have hP9 := hP.sub (ws' := []) [] rfl
    have hD9 := hD.sub (ws' := []) [] (by decide) rfl
    refine W.widen (k := 0) (n := 0) (Nat.le_of_ble_eq_true rfl) (Nat.le_of_ble_eq_true rfl) ?_
    exact W.iret (v := 0) hx hb hr (fun t ht hW => ⟨⟨0, [], rfl, ⟨by decide, rfl⟩, by rw [ht]; exact hP9, va_K.moved hW.alike hK, hD9⟩, hS.F ht⟩) hS.2.2 dX11_fewest_104
  by_cases c_6 : x0 = 2
  · subst c_6
    refine lv_iload_n hx hb dX11_fewest_0 rfl (lv_at hl 1 rfl) ?_
    refine lv_iconst (v := 1) hx hb dX11_fewest_1 (by decide) ?_
    refine lv_icmp_lt (tgt := 10) hx hb dX11_fewest_2 (by decide) (fun c9 => absurd c9 (by decide)) (fun _ => ?_)
    refine lv_iload_n hx hb dX11_fewest_5 rfl (lv_at hl 1 rfl) ?_
    refine lv_iconst (v := 2) hx hb dX11_fewest_6 (by decide) ?_
    refine lv_icmp_le (tgt := 12) hx hb dX11_fewest_7 (by decide) (fun _ => ?_) (fun c9 => absurd (by decide) c9) 
    refine lv_aload_n hx hb dX11_fewest_12 rfl (lv_at hl 0 rfl) ?_
    refine va_get (D := (dC, dI)) (ci := 11) (v := .ref a2) (C := RX11) (T := TX11) (N := 19) hx hb hU inlX11 hown hK hP 0 rfl rfl 2 (by decide) (hU _ wd_17) (fun _ h9 => h9) rfl dX11_fewest_13 ?_
    refine tk_rv (wr := [(a0, .inr (11, [.ref a1, .int 0, .ref a2, .ref a3, .ref a4, .ref a5, .ref a6, .ref a7, .int 0, .ref a8, .ref a9, .ref a10, .int 0, .int (-1), .ref a11, .int 0, .ref a12, .ref a13, .int 0])), (a3, .inr (7, [.ref a22, .int 0, .ref a23, .ref a24, .ref a25, .ref a26, .int 0, .ref a27, .ref a28, .ref a29, .ref a30, .ref a31, .int 0, .ref a32, .ref a33, .ref a34])), (a5, .inr (6, [.int 0, .int 1, .ref a35, .ref a36, .ref a37, .int 0, .ref a38, .ref a39, .ref a40]))]) (tk_V (As := []) (rest := []) (n := 0) hx hb hml hown hU hN (cc_X3_clearNeeded_0 l (dC, dI) cI cL cZ s.heap.size a2 a3 a4 a14 a15 a16 a17 a18 a19 a20 a21) wd_1358 wd_1359 wd_1360 wd_16 wd_1361 (by decide +kernel) ⟨Nat.le_of_ble_eq_true rfl, Nat.le_of_ble_eq_true rfl⟩ hK hP hD [1, 3] (by decide) rfl 0 3 rfl rfl rfl rfl hl.1 rfl (Nat.le_of_ble_eq_true rfl) dX11_fewest_16 ⟨Nat.le_of_ble_eq_true rfl, Nat.le_of_ble_eq_true rfl⟩) hP hD hS hA [1, 3] [0, 2, 4] rfl rfl (by decide) (by decide) (fun w_8 H locs hw hP hD hS => ?_)
    subst hw
    have hP : va_P (dC, dI) vwCl [(a0, .inr (11, [.ref a1, .int 0, .ref a2, .ref a3, .ref a4, .ref a5, .ref a6, .ref a7, .int 0, .ref a8, .ref a9, .ref a10, .int 0, .int (-1), .ref a11, .int 0, .ref a12, .ref a13, .int 0])), (a3, .inr (7, [.ref a22, .int 0, .ref a23, .ref a24, .ref a25, .ref a26, .int 0, .ref a27, .ref a28, .ref a29, .ref a30, .ref a31, .int 0, .ref a32, .ref a33, .ref a34])), (a5, .inr (6, [.int 0, .int 1, .ref a35, .ref a36, .ref a37, .int 0, .ref a38, .ref a39, .ref a40])), (a2, .inr (3, [.ref a3, .ref a4, .ref a14, .ref a15, .ref a16, .int 0, .int 0, .int 0, .int 0, .int 0, .int 0, .int (-1), .ref a17, .ref a18, .ref a19, .int 0, .ref a20, .ref a21])), (a21, .inl (cI, 256, .inl z0))] H := hP
    have hD : va_D A [(a0, .inr (11, [.ref a1, .int 0, .ref a2, .ref a3, .ref a4, .ref a5, .ref a6, .ref a7, .int 0, .ref a8, .ref a9, .ref a10, .int 0, .int (-1), .ref a11, .int 0, .ref a12, .ref a13, .int 0])), (a3, .inr (7, [.ref a22, .int 0, .ref a23, .ref a24, .ref a25, .ref a26, .int 0, .ref a27, .ref a28, .ref a29, .ref a30, .ref a31, .int 0, .ref a32, .ref a33, .ref a34])), (a5, .inr (6, [.int 0, .int 1, .ref a35, .ref a36, .ref a37, .int 0, .ref a38, .ref a39, .ref a40])), (a2, .inr (3, [.ref a3, .ref a4, .ref a14, .ref a15, .ref a16, .int 0, .int 0, .int 0, .int 0, .int 0, .int 0, .int (-1), .ref a17, .ref a18, .ref a19, .int 0, .ref a20, .ref a21])), (a21, .inl (cI, 256, .inl z0))] := hD
    refine lv_iconst (v := 1) hx hb dX11_fewest_19 (by decide) ?_
    refine lv_istore_n (lv' := [(2, .int 1), (0, .ref a0), (1, .int 2)]) hx hb dX11_fewest_20 rfl hl (by decide) rfl (fun ls hl => ?_)
    refine lv_iconst (v := 1) hx hb dX11_fewest_21 (by decide) ?_
    refine lv_istore_n (lv' := [(3, .int 1), (2, .int 1), (0, .ref a0), (1, .int 2)]) hx hb dX11_fewest_22 rfl hl (by decide) rfl (fun ls hl => ?_)
    refine lv_iload_n hx hb dX11_fewest_23 rfl (lv_at hl 0 rfl) ?_
    refine lv_iload_n hx hb dX11_fewest_24 rfl (lv_at hl 3 rfl) ?_
    refine lv_icmp_gt (tgt := 90) hx hb dX11_fewest_25 (by decide) (fun c9 => absurd c9 (by decide)) (fun _ => ?_)
    refine lv_iload_n hx hb dX11_fewest_28 rfl (lv_at hl 1 rfl) ?_
    refine lv_aload_n hx hb dX11_fewest_29 rfl (lv_at hl 2 rfl) ?_
    refine va_get (D := (dC, dI)) (ci := 11) (v := .ref a3) (C := RX11) (T := TX11) (N := 19) hx hb hU inlX11 hown hK hP 0 rfl rfl 3 (by decide) (hU _ wd_19) (fun _ h9 => h9) rfl dX11_fewest_30 ?_
    refine va_get (D := (dC, dI)) (ci := 7) (v := .int 0) (C := RX7) (T := TX7) (N := 16) hx hb hU inlX7 hown hK hP 1 rfl rfl 1 (by decide) (hU _ wd_1151) (fun _ h9 => h9) rfl dX11_fewest_33 ?_
    refine lv_imul hx hb dX11_fewest_36 ?_
    refine tk_topi (y := 0) (by decide) ?_
    refine lv_istore_n (lv' := [(2, .int 0), (3, .int 1), (0, .ref a0), (1, .int 2)]) hx hb dX11_fewest_37 rfl hl (by decide) rfl (fun ls hl => ?_)
    refine lv_iconst (v := 0) hx hb dX11_fewest_38 (by decide) ?_
    refine lv_istore (lv' := [(4, .int 0), (2, .int 0), (3, .int 1), (0, .ref a0), (1, .int 2)]) hx hb dX11_fewest_39 hl (by decide) rfl (fun ls hl => ?_)
    refine lv_iload hx hb dX11_fewest_41 (lv_at hl 0 rfl) ?_
    refine lv_iload_n hx hb dX11_fewest_43 rfl (lv_at hl 1 rfl) ?_
    refine lv_icmp_ge (tgt := 84) hx hb dX11_fewest_44 (by decide) (fun _ => ?_) (fun c9 => absurd (by decide) c9) 
    refine lv_iinc (v := 2) (lv' := [(3, .int 2), (4, .int 0), (2, .int 0), (0, .ref a0), (1, .int 2)]) hx hb dX11_fewest_84 hl (k := 2) rfl (by decide) (by decide) rfl (fun ls hl => ?_)
    refine lv_goto (tgt := 23) hx hb dX11_fewest_87 (by decide) ?_
    refine lv_iload_n hx hb dX11_fewest_23 rfl (lv_at hl 0 rfl) ?_
    refine lv_iload_n hx hb dX11_fewest_24 rfl (lv_at hl 4 rfl) ?_
    refine lv_icmp_gt (tgt := 90) hx hb dX11_fewest_25 (by decide) (fun c9 => absurd c9 (by decide)) (fun _ => ?_)
    refine lv_iload_n hx hb dX11_fewest_28 rfl (lv_at hl 2 rfl) ?_
    refine lv_aload_n hx hb dX11_fewest_29 rfl (lv_at hl 3 rfl) ?_
    refine va_get (D := (dC, dI)) (ci := 11) (v := .ref a3) (C := RX11) (T := TX11) (N := 19) hx hb hU inlX11 hown hK hP 0 rfl rfl 3 (by decide) (hU _ wd_19) (fun _ h9 => h9) rfl dX11_fewest_30 ?_
    refine va_get (D := (dC, dI)) (ci := 7) (v := .int 0) (C := RX7) (T := TX7) (N := 16) hx hb hU inlX7 hown hK hP 1 rfl rfl 1 (by decide) (hU _ wd_1151) (fun _ h9 => h9) rfl dX11_fewest_33 ?_
    refine lv_imul hx hb dX11_fewest_36 ?_
    refine tk_topi (y := 0) (by decide) ?_
    refine lv_istore_n (lv' := [(2, .int 0), (3, .int 2), (4, .int 0), (0, .ref a0), (1, .int 2)]) hx hb dX11_fewest_37 rfl hl (by decide) rfl (fun ls hl => ?_)
    refine lv_iconst (v := 0) hx hb dX11_fewest_38 (by decide) ?_
    refine lv_istore (lv' := [(4, .int 0), (2, .int 0), (3, .int 2), (0, .ref a0), (1, .int 2)]) hx hb dX11_fewest_39 hl (by decide) rfl (fun ls hl => ?_)
    refine lv_iload hx hb dX11_fewest_41 (lv_at hl 0 rfl) ?_
    refine lv_iload_n hx hb dX11_fewest_43 rfl (lv_at hl 1 rfl) ?_
    refine lv_icmp_ge (tgt := 84) hx hb dX11_fewest_44 (by decide) (fun _ => ?_) (fun c9 => absurd (by decide) c9) 
    refine lv_iinc (v := 3) (lv' := [(3, .int 3), (4, .int 0), (2, .int 0), (0, .ref a0), (1, .int 2)]) hx hb dX11_fewest_84 hl (k := 2) rfl (by decide) (by decide) rfl (fun ls hl => ?_)
    refine lv_goto (tgt := 23) hx hb dX11_fewest_87 (by decide) ?_
    refine lv_iload_n hx hb dX11_fewest_23 rfl (lv_at hl 0 rfl) ?_
    refine lv_iload_n hx hb dX11_fewest_24 rfl (lv_at hl 4 rfl) ?_
    refine lv_icmp_gt (tgt := 90) hx hb dX11_fewest_25 (by decide) (fun _ => ?_) (fun c9 => absurd (by decide) c9) 
    refine lv_aload_n hx hb dX11_fewest_90 rfl (lv_at hl 3 rfl) ?_
    refine va_get (D := (dC, dI)) (ci := 11) (v := .ref a2) (C := RX11) (T := TX11) (N := 19) hx hb hU inlX11 hown hK hP 0 rfl rfl 2 (by decide) (hU _ wd_17) (fun _ h9 => h9) rfl dX11_fewest_91 ?_
    refine lv_aload_n hx hb dX11_fewest_94 rfl (lv_at hl 3 rfl) ?_
    refine va_get (D := (dC, dI)) (ci := 11) (v := .ref a5) (C := RX11) (T := TX11) (N := 19) hx hb hU inlX11 hown hK hP 0 rfl rfl 5 (by decide) (hU _ wd_25) (fun _ h9 => h9) rfl dX11_fewest_95 ?_
    refine va_get (D := (dC, dI)) (ci := 6) (v := .int 0) (C := RX6) (T := TX6) (N := 9) hx hb hU inlX6 hown hK hP 2 rfl rfl 0 (by decide) (hU _ wd_677) (fun _ h9 => h9) rfl dX11_fewest_98 ?_
    refine tk_ri (wr := [(a0, .inr (11, [.ref a1, .int 0, .ref a2, .ref a3, .ref a4, .ref a5, .ref a6, .ref a7, .int 0, .ref a8, .ref a9, .ref a10, .int 0, .int (-1), .ref a11, .int 0, .ref a12, .ref a13, .int 0])), (a3, .inr (7, [.ref a22, .int 0, .ref a23, .ref a24, .ref a25, .ref a26, .int 0, .ref a27, .ref a28, .ref a29, .ref a30, .ref a31, .int 0, .ref a32, .ref a33, .ref a34])), (a5, .inr (6, [.int 0, .int 1, .ref a35, .ref a36, .ref a37, .int 0, .ref a38, .ref a39, .ref a40])), (a21, .inl (cI, 256, .inl z0))]) (tk_V (As := [.int 0]) (rest := []) (n := 1) hx hb hml hown hU hN (cc_X3_leastThatMeetsNeeds_0 l (dC, dI) cI cL cZ H.size a2 a3 a4 a14 a15 a16 a17 a18 a19 a20 a21) wd_1367 wd_1368 wd_1369 wd_16 wd_1370 (by decide +kernel) ⟨Nat.le_of_ble_eq_true rfl, Nat.le_of_ble_eq_true rfl⟩ hK hP hD [3] (by decide) rfl 0 3 rfl rfl rfl rfl hl.1 rfl (Nat.le_of_ble_eq_true rfl) dX11_fewest_101 ⟨Nat.le_of_ble_eq_true rfl, Nat.le_of_ble_eq_true rfl⟩) hP hD hS hA [3] [0, 1, 2, 4] rfl rfl (by decide) (by decide) (fun r_9 w_10 H locs hw hP hD hS => ?_)
    obtain ⟨rfl, rfl⟩ := hw
    have hP : va_P (dC, dI) vwCl [(a0, .inr (11, [.ref a1, .int 0, .ref a2, .ref a3, .ref a4, .ref a5, .ref a6, .ref a7, .int 0, .ref a8, .ref a9, .ref a10, .int 0, .int (-1), .ref a11, .int 0, .ref a12, .ref a13, .int 0])), (a3, .inr (7, [.ref a22, .int 0, .ref a23, .ref a24, .ref a25, .ref a26, .int 0, .ref a27, .ref a28, .ref a29, .ref a30, .ref a31, .int 0, .ref a32, .ref a33, .ref a34])), (a5, .inr (6, [.int 0, .int 1, .ref a35, .ref a36, .ref a37, .int 0, .ref a38, .ref a39, .ref a40])), (a21, .inl (cI, 256, .inl z0)), (a2, .inr (3, [.ref a3, .ref a4, .ref a14, .ref a15, .ref a16, .int 0, .int 0, .int 0, .int 0, .int 0, .int 0, .int (-1), .ref a17, .ref a18, .ref a19, .int 0, .ref a20, .ref a21]))] H := hP
    have hD : va_D A [(a0, .inr (11, [.ref a1, .int 0, .ref a2, .ref a3, .ref a4, .ref a5, .ref a6, .ref a7, .int 0, .ref a8, .ref a9, .ref a10, .int 0, .int (-1), .ref a11, .int 0, .ref a12, .ref a13, .int 0])), (a3, .inr (7, [.ref a22, .int 0, .ref a23, .ref a24, .ref a25, .ref a26, .int 0, .ref a27, .ref a28, .ref a29, .ref a30, .ref a31, .int 0, .ref a32, .ref a33, .ref a34])), (a5, .inr (6, [.int 0, .int 1, .ref a35, .ref a36, .ref a37, .int 0, .ref a38, .ref a39, .ref a40])), (a21, .inl (cI, 256, .inl z0)), (a2, .inr (3, [.ref a3, .ref a4, .ref a14, .ref a15, .ref a16, .int 0, .int 0, .int 0, .int 0, .int 0, .int 0, .int (-1), .ref a17, .ref a18, .ref a19, .int 0, .ref a20, .ref a21]))] := hD
    have hP9 := hP.sub (ws' := []) [] rfl
    have hD9 := hD.sub (ws' := []) [] (by decide) rfl
    refine W.widen (k := 0) (n := 0) (Nat.le_of_ble_eq_true rfl) (Nat.le_of_ble_eq_true rfl) ?_
    exact W.iret (v := 0) hx hb hr (fun t ht hW => ⟨⟨0, [], rfl, ⟨by decide, rfl⟩, by rw [ht]; exact hP9, va_K.moved hW.alike hK, hD9⟩, hS.F ht⟩) hS.2.2 dX11_fewest_104
  refine lv_iload_n hx hb dX11_fewest_0 rfl (lv_at hl 1 rfl) ?_
  refine lv_iconst (v := 1) hx hb dX11_fewest_1 (by decide) ?_
  refine lv_icmp_lt (tgt := 10) hx hb dX11_fewest_2 (by decide) (fun c_11 => ?_) (fun c_11 => ?_)
  · skip
    refine lv_iconst (v := (-1)) hx hb dX11_fewest_10 (by decide) ?_
    have hP9 := hP.sub (ws' := []) [] rfl
    have hD9 := hD.sub (ws' := []) [] (by decide) rfl
    refine W.widen (k := 0) (n := 0) (Nat.le_of_ble_eq_true rfl) (Nat.le_of_ble_eq_true rfl) ?_
    exact W.iret (v := (-1)) hx hb hr (fun t ht hW => ⟨⟨(-1), [], rfl, ⟨by simp [an_fewest, c_1, c_6], rfl⟩, by rw [ht]; exact hP9, va_K.moved hW.alike hK, hD9⟩, hS.F ht⟩) hS.2.2 dX11_fewest_11
  · skip
    refine lv_iload_n hx hb dX11_fewest_5 rfl (lv_at hl 1 rfl) ?_
    refine lv_iconst (v := 2) hx hb dX11_fewest_6 (by decide) ?_
    refine lv_icmp_le (tgt := 12) hx hb dX11_fewest_7 (by decide) (fun c_12 => ?_) (fun c_12 => ?_)
    · skip
      exfalso
      simp only [Int32.lt_iff_toInt_lt, Int32.le_iff_toInt_le, ← Int32.toInt_inj, ti_0, ti_1, ti_2] at c_1 c_6 c_11 c_12
      omega
    · skip
      refine lv_iconst (v := (-1)) hx hb dX11_fewest_10 (by decide) ?_
      have hP9 := hP.sub (ws' := []) [] rfl
      have hD9 := hD.sub (ws' := []) [] (by decide) rfl
      refine W.widen (k := 0) (n := 0) (Nat.le_of_ble_eq_true rfl) (Nat.le_of_ble_eq_true rfl) ?_
      exact W.iret (v := (-1)) hx hb hr (fun t ht hW => ⟨⟨(-1), [], rfl, ⟨by simp [an_fewest, c_1, c_6], rfl⟩, by rw [ht]; exact hP9, va_K.moved hW.alike hK, hD9⟩, hS.F ht⟩) hS.2.2 dX11_fewest_11
set_option maxHeartbeats 8000000 in
set_option maxRecDepth 100000 in
theorem cc_X11_placeOfColon_0 (l : Launch) (D : va_G) (cI cL cZ : ClassId) (sz : Nat) (a0 : Nat) (a1 : Nat) (a2 : Nat) (a3 : Nat) (a4 : Nat) (a5 : Nat) (a6 : Nat) (a7 : Nat) (a8 : Nat) (a9 : Nat) (a10 : Nat) (a11 : Nat) (a12 : Nat) (a13 : Nat) : mI l D cI cL cZ yX11_placeOfColon cX11_placeOfColon 3 (some .int) 0 0 0 0 [.ref a0, .int 0] sz [(a0, .inr (11, [.ref a1, .int 0, .ref a2, .ref a3, .ref a4, .ref a5, .ref a6, .ref a7, .int 0, .ref a8, .ref a9, .ref a10, .int 0, .int (-1), .ref a11, .int 0, .ref a12, .ref a13, .int 0]))] (fun (r : Int32) (w1 : va_W) => r = (-1) ∧ w1 = ([(a0, .inr (11, [.ref a1, .int 0, .ref a2, .ref a3, .ref a4, .ref a5, .ref a6, .ref a7, .int 0, .ref a8, .ref a9, .ref a10, .int 0, .int (-1), .ref a11, .int 0, .ref a12, .ref a13, .int 0]))] : va_W)) := by
  obtain ⟨dC, dI⟩ := D
  refine Met.ofW (cc := cX11_placeOfColon) (maxL := 3) (ret := (some .int)) (by decide) rfl ?_
  intro p e s m args below meth c s₁ B hml hv
  obtain ⟨rfl, hsz, hP, hK, hD0, hN⟩ := hv
  have hx := B.exec
  have hb := B.bytes
  have hr := B.returns
  have hU : ∀ w ∈ wsU, w.before _ s = true := fun w h => atoms_spec (ws := wU yX11_placeOfColon cX11_placeOfColon 3 (some .int)) B.pre w (List.mem_cons_of_mem _ h)
  have hown : s.vm.findClass RX11 = some m.cls := findClass_of_methodNamed B.named
  have hlocks := B.notSynchronized
  subst hsz
  have hD := hD0.self (sz := s.heap.size)
  generalize hAe : va_A [(a0, .inr (11, [.ref a1, .int 0, .ref a2, .ref a3, .ref a4, .ref a5, .ref a6, .ref a7, .int 0, .ref a8, .ref a9, .ref a10, .int 0, .int (-1), .ref a11, .int 0, .ref a12, .ref a13, .int 0]))] s.heap.size = A at hD ⊢
  have hA : ∀ q : Nat, s.heap.size ≤ q → A q := fun q h => by rw [← hAe]; exact Or.inr h
  have hS : va_S A s.heap s.heap [] := va_S.rf
  have hP : va_P (dC, dI) vwCl [(a0, .inr (11, [.ref a1, .int 0, .ref a2, .ref a3, .ref a4, .ref a5, .ref a6, .ref a7, .int 0, .ref a8, .ref a9, .ref a10, .int 0, .int (-1), .ref a11, .int 0, .ref a12, .ref a13, .int 0]))] s.heap := hP
  have hl := lv_entry ([.ref a0, .int 0]) (n := 3) (Nat.le_of_ble_eq_true rfl)
  rw [lg_entry_eq]
  generalize (lg_sl ([.ref a0, .int 0]) ++ List.replicate (3 - (lg_sl ([.ref a0, .int 0])).length) Slot.unset).toArray = ls at hl ⊢
  have hl : lv_has ls 3 [(0, .ref a0), (1, .int 0)] := hl
  refine lv_iconst (v := 0) hx hb dX11_placeOfColon_0 (by decide) ?_
  refine lv_istore_n (lv' := [(2, .int 0), (0, .ref a0), (1, .int 0)]) hx hb dX11_placeOfColon_1 rfl hl (by decide) rfl (fun ls hl => ?_)
  refine lv_iload_n hx hb dX11_placeOfColon_2 rfl (lv_at hl 0 rfl) ?_
  refine lv_iload_n hx hb dX11_placeOfColon_3 rfl (lv_at hl 2 rfl) ?_
  refine lv_icmp_ge (tgt := 26) hx hb dX11_placeOfColon_4 (by decide) (fun _ => ?_) (fun c9 => absurd (by decide) c9) 
  refine lv_iconst (v := (-1)) hx hb dX11_placeOfColon_26 (by decide) ?_
  have hP9 := hP.sub (ws' := [(a0, .inr (11, [.ref a1, .int 0, .ref a2, .ref a3, .ref a4, .ref a5, .ref a6, .ref a7, .int 0, .ref a8, .ref a9, .ref a10, .int 0, .int (-1), .ref a11, .int 0, .ref a12, .ref a13, .int 0]))]) [0] rfl
  have hD9 := hD.sub (ws' := [(a0, .inr (11, [.ref a1, .int 0, .ref a2, .ref a3, .ref a4, .ref a5, .ref a6, .ref a7, .int 0, .ref a8, .ref a9, .ref a10, .int 0, .int (-1), .ref a11, .int 0, .ref a12, .ref a13, .int 0]))]) [0] (by decide) rfl
  refine W.widen (k := 0) (n := 0) (Nat.le_of_ble_eq_true rfl) (Nat.le_of_ble_eq_true rfl) ?_
  exact W.iret (v := (-1)) hx hb hr (fun t ht hW => ⟨⟨(-1), [(a0, .inr (11, [.ref a1, .int 0, .ref a2, .ref a3, .ref a4, .ref a5, .ref a6, .ref a7, .int 0, .ref a8, .ref a9, .ref a10, .int 0, .int (-1), .ref a11, .int 0, .ref a12, .ref a13, .int 0]))], rfl, ⟨rfl, rfl⟩, by rw [ht]; exact hP9, va_K.moved hW.alike hK, hD9⟩, hS.F ht⟩) hS.2.2 dX11_placeOfColon_27
set_option maxHeartbeats 8000000 in
set_option maxRecDepth 100000 in
theorem op_X11_example (l : Launch) (D : va_G) (cI cL cZ : ClassId) (sz : Nat) (a0 : Nat) (x0 : Int32) (a1 : Nat) (a2 : Nat) (a3 : Nat) (a4 : Nat) (a5 : Nat) (a6 : Nat) (a7 : Nat) (a8 : Nat) (a9 : Nat) (a10 : Nat) (a11 : Nat) (a12 : Nat) (a13 : Nat) (a14 : Nat) (a15 : Nat) (a16 : Nat) (a17 : Nat) (a18 : Nat) (a19 : Nat) (a20 : Nat) (a21 : Nat) : mI l D cI cL cZ yX11_example cX11_example 6 (some .int) 1 22 0 0 [.ref a0, .int x0] sz [(a0, .inr (11, [.ref a1, .int 0, .ref a2, .ref a3, .ref a4, .ref a5, .ref a6, .ref a7, .int 0, .ref a8, .ref a9, .ref a10, .int 0, .int (-1), .ref a11, .int 0, .ref a12, .ref a13, .int 0])), (a5, .inr (6, [.int 0, .int 1, .ref a14, .ref a15, .ref a16, .int 0, .ref a17, .ref a18, .ref a19])), (a15, .inr (9, [.ref a20, .ref a21, .int 0]))] (fun (r : Int32) (w1 : va_W) => r = (-1) ∧ w1 = ([] : va_W)) := by
  obtain ⟨dC, dI⟩ := D
  refine Met.ofW (cc := cX11_example) (maxL := 6) (ret := (some .int)) (by decide) rfl ?_
  intro p e s m args below meth c s₁ B hml hv
  obtain ⟨rfl, hsz, hP, hK, hD0, hN⟩ := hv
  have hx := B.exec
  have hb := B.bytes
  have hr := B.returns
  have hU : ∀ w ∈ wsU, w.before _ s = true := fun w h => atoms_spec (ws := wU yX11_example cX11_example 6 (some .int)) B.pre w (List.mem_cons_of_mem _ h)
  have hown : s.vm.findClass RX11 = some m.cls := findClass_of_methodNamed B.named
  have hlocks := B.notSynchronized
  subst hsz
  have hD := hD0.self (sz := s.heap.size)
  generalize hAe : va_A [(a0, .inr (11, [.ref a1, .int 0, .ref a2, .ref a3, .ref a4, .ref a5, .ref a6, .ref a7, .int 0, .ref a8, .ref a9, .ref a10, .int 0, .int (-1), .ref a11, .int 0, .ref a12, .ref a13, .int 0])), (a5, .inr (6, [.int 0, .int 1, .ref a14, .ref a15, .ref a16, .int 0, .ref a17, .ref a18, .ref a19])), (a15, .inr (9, [.ref a20, .ref a21, .int 0]))] s.heap.size = A at hD ⊢
  have hA : ∀ q : Nat, s.heap.size ≤ q → A q := fun q h => by rw [← hAe]; exact Or.inr h
  have hS : va_S A s.heap s.heap [] := va_S.rf
  have hP : va_P (dC, dI) vwCl [(a0, .inr (11, [.ref a1, .int 0, .ref a2, .ref a3, .ref a4, .ref a5, .ref a6, .ref a7, .int 0, .ref a8, .ref a9, .ref a10, .int 0, .int (-1), .ref a11, .int 0, .ref a12, .ref a13, .int 0])), (a5, .inr (6, [.int 0, .int 1, .ref a14, .ref a15, .ref a16, .int 0, .ref a17, .ref a18, .ref a19])), (a15, .inr (9, [.ref a20, .ref a21, .int 0]))] s.heap := hP
  have hl := lv_entry ([.ref a0, .int x0]) (n := 6) (Nat.le_of_ble_eq_true rfl)
  rw [lg_entry_eq]
  generalize (lg_sl ([.ref a0, .int x0]) ++ List.replicate (6 - (lg_sl ([.ref a0, .int x0])).length) Slot.unset).toArray = ls at hl ⊢
  have hl : lv_has ls 6 [(0, .ref a0), (1, .int x0)] := hl
  refine lv_aload_n hx hb dX11_example_0 rfl (lv_at hl 0 rfl) ?_
  refine tk_ri (wr := [(a5, .inr (6, [.int 0, .int 1, .ref a14, .ref a15, .ref a16, .int 0, .ref a17, .ref a18, .ref a19])), (a15, .inr (9, [.ref a20, .ref a21, .int 0]))]) (tk_V (As := []) (rest := []) (n := 0) hx hb hml hown hU hN (cc_X11_emptyTape_0 l (dC, dI) cI cL cZ s.heap.size a0 a1 a2 a3 a4 a5 a6 a7 a8 a9 a10 a11 a12 a13) wd_239 wd_240 wd_241 wd_2 wd_242 (by decide +kernel) ⟨Nat.le_of_ble_eq_true rfl, Nat.le_of_ble_eq_true rfl⟩ hK hP hD [0] (by decide) rfl 0 11 rfl rfl rfl rfl hl.1 rfl (Nat.le_of_ble_eq_true rfl) dX11_example_1 ⟨Nat.le_of_ble_eq_true rfl, Nat.le_of_ble_eq_true rfl⟩) hP hD hS hA [0] [1, 2] rfl rfl (by decide) (by decide) (fun r_1 w_2 H locs hw hP hD hS => ?_)
  obtain ⟨rfl, rfl⟩ := hw
  have hP : va_P (dC, dI) vwCl [(a5, .inr (6, [.int 0, .int 1, .ref a14, .ref a15, .ref a16, .int 0, .ref a17, .ref a18, .ref a19])), (a15, .inr (9, [.ref a20, .ref a21, .int 0])), (a0, .inr (11, [.ref a1, .int 0, .ref a2, .ref a3, .ref a4, .ref a5, .ref a6, .ref a7, .int 0, .ref a8, .ref a9, .ref a10, .int 0, .int (-1), .ref a11, .int 0, .ref a12, .ref a13, .int 0]))] H := hP
  have hD : va_D A [(a5, .inr (6, [.int 0, .int 1, .ref a14, .ref a15, .ref a16, .int 0, .ref a17, .ref a18, .ref a19])), (a15, .inr (9, [.ref a20, .ref a21, .int 0])), (a0, .inr (11, [.ref a1, .int 0, .ref a2, .ref a3, .ref a4, .ref a5, .ref a6, .ref a7, .int 0, .ref a8, .ref a9, .ref a10, .int 0, .int (-1), .ref a11, .int 0, .ref a12, .ref a13, .int 0]))] := hD
  refine lv_istore_n (lv' := [(2, .int 0), (0, .ref a0), (1, .int x0)]) hx hb dX11_example_4 rfl hl (by decide) rfl (fun ls hl => ?_)
  refine lv_aload_n hx hb dX11_example_5 rfl (lv_at hl 1 rfl) ?_
  refine va_get (D := (dC, dI)) (ci := 11) (v := .ref a5) (C := RX11) (T := TX11) (N := 19) hx hb hU inlX11 hown hK hP 2 rfl rfl 5 (by decide) (hU _ wd_25) (fun _ h9 => h9) rfl dX11_example_6 ?_
  refine va_get (D := (dC, dI)) (ci := 6) (v := .ref a15) (C := RX6) (T := TX6) (N := 9) hx hb hU inlX6 hown hK hP 0 rfl rfl 3 (by decide) (hU _ wd_1387) (fun _ h9 => h9) rfl dX11_example_9 ?_
  refine va_get (D := (dC, dI)) (ci := 9) (v := .int 0) (C := RX9) (T := TX9) (N := 3) hx hb hU inlX9 hown hK hP 1 rfl rfl 2 (by decide) (hU _ wd_1000) (fun _ h9 => h9) rfl dX11_example_12 ?_
  refine lv_bipush (v := 12) hx hb dX11_example_15 (by decide) ?_
  refine lv_icmp_lt (tgt := 22) hx hb dX11_example_17 (by decide) (fun _ => ?_) (fun c9 => absurd (by decide) c9) 
  refine lv_aload_n hx hb dX11_example_22 rfl (lv_at hl 1 rfl) ?_
  refine lv_iload_n hx hb dX11_example_23 rfl (lv_at hl 0 rfl) ?_
  refine tk_ri (wr := [(a5, .inr (6, [.int 0, .int 1, .ref a14, .ref a15, .ref a16, .int 0, .ref a17, .ref a18, .ref a19])), (a15, .inr (9, [.ref a20, .ref a21, .int 0]))]) (tk_V (As := [.int 0]) (rest := []) (n := 1) hx hb hml hown hU hN (cc_X11_placeOfColon_0 l (dC, dI) cI cL cZ H.size a0 a1 a2 a3 a4 a5 a6 a7 a8 a9 a10 a11 a12 a13) wd_1389 wd_1390 wd_1391 wd_2 wd_1392 (by decide +kernel) ⟨Nat.le_of_ble_eq_true rfl, Nat.le_of_ble_eq_true rfl⟩ hK hP hD [2] (by decide) rfl 0 11 rfl rfl rfl rfl hl.1 rfl (Nat.le_of_ble_eq_true rfl) dX11_example_24 ⟨Nat.le_of_ble_eq_true rfl, Nat.le_of_ble_eq_true rfl⟩) hP hD hS hA [2] [0, 1] rfl rfl (by decide) (by decide) (fun r_3 w_4 H locs hw hP hD hS => ?_)
  obtain ⟨rfl, rfl⟩ := hw
  have hP : va_P (dC, dI) vwCl [(a5, .inr (6, [.int 0, .int 1, .ref a14, .ref a15, .ref a16, .int 0, .ref a17, .ref a18, .ref a19])), (a15, .inr (9, [.ref a20, .ref a21, .int 0])), (a0, .inr (11, [.ref a1, .int 0, .ref a2, .ref a3, .ref a4, .ref a5, .ref a6, .ref a7, .int 0, .ref a8, .ref a9, .ref a10, .int 0, .int (-1), .ref a11, .int 0, .ref a12, .ref a13, .int 0]))] H := hP
  have hD : va_D A [(a5, .inr (6, [.int 0, .int 1, .ref a14, .ref a15, .ref a16, .int 0, .ref a17, .ref a18, .ref a19])), (a15, .inr (9, [.ref a20, .ref a21, .int 0])), (a0, .inr (11, [.ref a1, .int 0, .ref a2, .ref a3, .ref a4, .ref a5, .ref a6, .ref a7, .int 0, .ref a8, .ref a9, .ref a10, .int 0, .int (-1), .ref a11, .int 0, .ref a12, .ref a13, .int 0]))] := hD
  refine lv_istore_n (lv' := [(3, .int (-1)), (2, .int 0), (0, .ref a0), (1, .int x0)]) hx hb dX11_example_27 rfl hl (by decide) rfl (fun ls hl => ?_)
  refine lv_iload_n hx hb dX11_example_28 rfl (lv_at hl 1 rfl) ?_
  refine lv_iload_n hx hb dX11_example_29 rfl (lv_at hl 0 rfl) ?_
  refine lv_isub hx hb dX11_example_30 ?_
  refine tk_topi (y := 1) (by decide) ?_
  refine lv_iconst (v := 1) hx hb dX11_example_31 (by decide) ?_
  refine lv_isub hx hb dX11_example_32 ?_
  refine tk_topi (y := 0) (by decide) ?_
  refine lv_istore (lv' := [(4, .int 0), (3, .int (-1)), (2, .int 0), (0, .ref a0), (1, .int x0)]) hx hb dX11_example_33 hl (by decide) rfl (fun ls hl => ?_)
  refine lv_iload_n hx hb dX11_example_35 rfl (lv_at hl 1 rfl) ?_
  refine lv_iconst (v := (-1)) hx hb dX11_example_36 (by decide) ?_
  refine lv_icmp_eq (tgt := 58) hx hb dX11_example_37 (by decide) (fun _ => ?_) (fun c9 => absurd (by decide) c9) 
  refine lv_iconst (v := (-1)) hx hb dX11_example_58 (by decide) ?_
  have hP9 := hP.sub (ws' := []) [] rfl
  have hD9 := hD.sub (ws' := []) [] (by decide) rfl
  refine W.widen (k := 0) (n := 0) (Nat.le_of_ble_eq_true rfl) (Nat.le_of_ble_eq_true rfl) ?_
  exact W.iret (v := (-1)) hx hb hr (fun t ht hW => ⟨⟨(-1), [], rfl, ⟨rfl, rfl⟩, by rw [ht]; exact hP9, va_K.moved hW.alike hK, hD9⟩, hS.F ht⟩) hS.2.2 dX11_example_59
set_option maxHeartbeats 8000000 in
set_option maxRecDepth 100000 in
theorem cc_X6_study_0 (l : Launch) (D : va_G) (cI cL cZ : ClassId) (sz : Nat) (a0 : Nat) (a1 : Nat) (a2 : Nat) (a3 : Nat) (a4 : Nat) (a5 : Nat) (a6 : Nat) (a7 : Nat) (a8 : Nat) (a9 : Nat) : mV l D cI cL cZ yX6_study cX6_study 7 none 0 0 0 0 [.ref a0, .ref a1, .int 0] sz [(a0, .inr (6, [.int 0, .int 1, .ref a2, .ref a3, .ref a4, .int 0, .ref a5, .ref a6, .ref a7])), (a3, .inr (9, [.ref a8, .ref a9, .int 0]))] (fun (w1 : va_W) => w1 = ([(a0, .inr (6, [.int 0, .int 1, .ref a2, .ref a3, .ref a4, .int 0, .ref a5, .ref a6, .ref a7])), (a3, .inr (9, [.ref a8, .ref a9, .int 0]))] : va_W)) := by
  obtain ⟨dC, dI⟩ := D
  refine Met.ofW (cc := cX6_study) (maxL := 7) (ret := none) (by decide) rfl ?_
  intro p e s m args below meth c s₁ B hml hv
  obtain ⟨rfl, hsz, hP, hK, hD0, hN⟩ := hv
  have hx := B.exec
  have hb := B.bytes
  have hr := B.returns
  have hU : ∀ w ∈ wsU, w.before _ s = true := fun w h => atoms_spec (ws := wU yX6_study cX6_study 7 none) B.pre w (List.mem_cons_of_mem _ h)
  have hown : s.vm.findClass RX6 = some m.cls := findClass_of_methodNamed B.named
  have hlocks := B.notSynchronized
  subst hsz
  have hD := hD0.self (sz := s.heap.size)
  generalize hAe : va_A [(a0, .inr (6, [.int 0, .int 1, .ref a2, .ref a3, .ref a4, .int 0, .ref a5, .ref a6, .ref a7])), (a3, .inr (9, [.ref a8, .ref a9, .int 0]))] s.heap.size = A at hD ⊢
  have hA : ∀ q : Nat, s.heap.size ≤ q → A q := fun q h => by rw [← hAe]; exact Or.inr h
  have hS : va_S A s.heap s.heap [] := va_S.rf
  have hP : va_P (dC, dI) vwCl [(a0, .inr (6, [.int 0, .int 1, .ref a2, .ref a3, .ref a4, .int 0, .ref a5, .ref a6, .ref a7])), (a3, .inr (9, [.ref a8, .ref a9, .int 0]))] s.heap := hP
  have hl := lv_entry ([.ref a0, .ref a1, .int 0]) (n := 7) (Nat.le_of_ble_eq_true rfl)
  rw [lg_entry_eq]
  generalize (lg_sl ([.ref a0, .ref a1, .int 0]) ++ List.replicate (7 - (lg_sl ([.ref a0, .ref a1, .int 0])).length) Slot.unset).toArray = ls at hl ⊢
  have hl : lv_has ls 7 [(0, .ref a0), (1, .ref a1), (2, .int 0)] := hl
  refine lv_iconst (v := 1) hx hb dX6_study_0 (by decide) ?_
  refine lv_iload_n hx hb dX6_study_1 rfl (lv_at hl 2 rfl) ?_
  refine lv_ishl hx hb dX6_study_2 ?_
  refine tk_topi (y := 1) (by decide) ?_
  refine lv_iconst (v := 1) hx hb dX6_study_3 (by decide) ?_
  refine lv_isub hx hb dX6_study_4 ?_
  refine tk_topi (y := 0) (by decide) ?_
  refine lv_istore_n (lv' := [(3, .int 0), (0, .ref a0), (1, .ref a1), (2, .int 0)]) hx hb dX6_study_5 rfl hl (by decide) rfl (fun ls hl => ?_)
  refine lv_iconst (v := 0) hx hb dX6_study_6 (by decide) ?_
  refine lv_istore (lv' := [(4, .int 0), (3, .int 0), (0, .ref a0), (1, .ref a1), (2, .int 0)]) hx hb dX6_study_7 hl (by decide) rfl (fun ls hl => ?_)
  refine lv_iload hx hb dX6_study_9 (lv_at hl 0 rfl) ?_
  refine lv_aload_n hx hb dX6_study_11 rfl (lv_at hl 2 rfl) ?_
  refine va_get (D := (dC, dI)) (ci := 6) (v := .ref a3) (C := RX6) (T := TX6) (N := 9) hx hb hU inlX6 hown hK hP 0 rfl rfl 3 (by decide) (hU _ wd_139) (fun _ h9 => h9) rfl dX6_study_12 ?_
  refine va_get (D := (dC, dI)) (ci := 9) (v := .int 0) (C := RX9) (T := TX9) (N := 3) hx hb hU inlX9 hown hK hP 1 rfl rfl 2 (by decide) (hU _ wd_1397) (fun _ h9 => h9) rfl dX6_study_15 ?_
  refine lv_icmp_ge (tgt := 128) hx hb dX6_study_18 (by decide) (fun _ => ?_) (fun c9 => absurd (by decide) c9) 
  have hP9 := hP.sub (ws' := [(a0, .inr (6, [.int 0, .int 1, .ref a2, .ref a3, .ref a4, .int 0, .ref a5, .ref a6, .ref a7])), (a3, .inr (9, [.ref a8, .ref a9, .int 0]))]) [0, 1] rfl
  have hD9 := hD.sub (ws' := [(a0, .inr (6, [.int 0, .int 1, .ref a2, .ref a3, .ref a4, .int 0, .ref a5, .ref a6, .ref a7])), (a3, .inr (9, [.ref a8, .ref a9, .int 0]))]) [0, 1] (by decide) rfl
  refine W.widen (k := 0) (n := 0) (Nat.le_of_ble_eq_true rfl) (Nat.le_of_ble_eq_true rfl) ?_
  exact W.vret hx hb hr (fun t ht hW => ⟨⟨[(a0, .inr (6, [.int 0, .int 1, .ref a2, .ref a3, .ref a4, .int 0, .ref a5, .ref a6, .ref a7])), (a3, .inr (9, [.ref a8, .ref a9, .int 0]))], rfl, rfl, by rw [ht]; exact hP9, va_K.moved hW.alike hK, hD9⟩, hS.F ht⟩) hS.2.2 dX6_study_128
