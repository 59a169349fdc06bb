set_option maxHeartbeats 8000000 in
set_option maxRecDepth 100000 in
theorem cc_X12_isUsed_0 (l : Launch) (D : va_G) (cI cL cZ : ClassId) (sz : Nat) (a0 : Nat) (x0 : Int32) (a1 : Nat) (a2 : Nat) (a3 : Nat) (a4 : Nat) (a5 : Nat) (a6 : Nat) (a7 : Nat) (a8 : Nat) (a9 : Nat) (a10 : Nat) (a11 : Nat) (a12 : Nat) (a13 : Nat) (a14 : Nat) (a15 : Nat) (a16 : Nat) (a17 : Nat) (a18 : Nat) (a19 : Nat) (a20 : Nat) (a21 : Nat) (a22 : Nat) (a23 : Nat) (a24 : Nat) (a25 : Nat) (a26 : Nat) (a27 : Nat) (a28 : Nat) (a29 : Nat) (a30 : Nat) (a31 : Nat) : mI l D cI cL cZ yX12_isUsed cX12_isUsed 2 (some .boolean) 2 43 0 0 [.ref a0, .int x0] sz [(a0, .inr (12, [.ref a1, .ref a2, .ref a3, .int 0, .ref a4, .int 0, .int 0, .int 0, .int 0, .int 0, .int (-1), .int 0, .int 0, .int 0, .int 0, .ref a5, .ref a6, .ref a7, .ref a8, .ref a9, .ref a10, .ref a11, .ref a12, .int 0, .int 0, .int 0, .int 0, .int 0, .ref a13, .int 0, .ref a14, .ref a15, .int 0, .int 0, .ref a16, .int 0, .ref a17, .ref a18, .int 0, .int (-1), .ref a19, .ref a20, .ref a21, .int 0, .ref a22, .ref a23, .ref a24, .ref a25, .ref a26, .ref a27, .ref a28, .ref a29, .ref a30, .int 0, .int 0, .ref a31])), (a1, .inl (cI, 1560, .inl w0))] (fun (r : Int32) (w1 : va_W) => r = 0 ∧ w1 = ([(a0, .inr (12, [.ref a1, .ref a2, .ref a3, .int 0, .ref a4, .int 0, .int 0, .int 0, .int 0, .int 0, .int (-1), .int 0, .int 0, .int 0, .int 0, .ref a5, .ref a6, .ref a7, .ref a8, .ref a9, .ref a10, .ref a11, .ref a12, .int 0, .int 0, .int 0, .int 0, .int 0, .ref a13, .int 0, .ref a14, .ref a15, .int 0, .int 0, .ref a16, .int 0, .ref a17, .ref a18, .int 0, .int (-1), .ref a19, .ref a20, .ref a21, .int 0, .ref a22, .ref a23, .ref a24, .ref a25, .ref a26, .ref a27, .ref a28, .ref a29, .ref a30, .int 0, .int 0, .ref a31])), (a1, .inl (cI, 1560, .inl w0))] : va_W)) := by
  obtain ⟨dC, dI⟩ := D
  refine Met.ofW (cc := cX12_isUsed) (maxL := 2) (ret := (some .boolean)) (by decide) rfl ?_
  intro p e s m args below meth c s₁ B hml hv
  obtain ⟨rfl, hsz, hP, hK, hD0, hN⟩ := hv
  have hx := B.exec
  have hb := B.bytes
  have hr := B.returns
  have hU : ∀ w ∈ wsU, w.before _ s = true := fun w h => atoms_spec (ws := wU yX12_isUsed cX12_isUsed 2 (some .boolean)) B.pre w (List.mem_cons_of_mem _ h)
  have hown : s.vm.findClass RX12 = some m.cls := findClass_of_methodNamed B.named
  have hlocks := B.notSynchronized
  subst hsz
  have hD := hD0.self (sz := s.heap.size)
  generalize hAe : va_A [(a0, .inr (12, [.ref a1, .ref a2, .ref a3, .int 0, .ref a4, .int 0, .int 0, .int 0, .int 0, .int 0, .int (-1), .int 0, .int 0, .int 0, .int 0, .ref a5, .ref a6, .ref a7, .ref a8, .ref a9, .ref a10, .ref a11, .ref a12, .int 0, .int 0, .int 0, .int 0, .int 0, .ref a13, .int 0, .ref a14, .ref a15, .int 0, .int 0, .ref a16, .int 0, .ref a17, .ref a18, .int 0, .int (-1), .ref a19, .ref a20, .ref a21, .int 0, .ref a22, .ref a23, .ref a24, .ref a25, .ref a26, .ref a27, .ref a28, .ref a29, .ref a30, .int 0, .int 0, .ref a31])), (a1, .inl (cI, 1560, .inl w0))] s.heap.size = A at hD ⊢
  have hA : ∀ q : Nat, s.heap.size ≤ q → A q := fun q h => by rw [← hAe]; exact Or.inr h
  have hS : va_S A s.heap s.heap [] := va_S.rf
  have hP : va_P (dC, dI) vwCl [(a0, .inr (12, [.ref a1, .ref a2, .ref a3, .int 0, .ref a4, .int 0, .int 0, .int 0, .int 0, .int 0, .int (-1), .int 0, .int 0, .int 0, .int 0, .ref a5, .ref a6, .ref a7, .ref a8, .ref a9, .ref a10, .ref a11, .ref a12, .int 0, .int 0, .int 0, .int 0, .int 0, .ref a13, .int 0, .ref a14, .ref a15, .int 0, .int 0, .ref a16, .int 0, .ref a17, .ref a18, .int 0, .int (-1), .ref a19, .ref a20, .ref a21, .int 0, .ref a22, .ref a23, .ref a24, .ref a25, .ref a26, .ref a27, .ref a28, .ref a29, .ref a30, .int 0, .int 0, .ref a31])), (a1, .inl (cI, 1560, .inl w0))] s.heap := hP
  have hl := lv_entry ([.ref a0, .int x0]) (n := 2) (Nat.le_of_ble_eq_true rfl)
  rw [lg_entry_eq]
  generalize (lg_sl ([.ref a0, .int x0]) ++ List.replicate (2 - (lg_sl ([.ref a0, .int x0])).length) Slot.unset).toArray = ls at hl ⊢
  have hl : lv_has ls 2 [(0, .ref a0), (1, .int x0)] := hl
  refine lv_aload_n hx hb dX12_isUsed_0 rfl (lv_at hl 0 rfl) ?_
  refine lv_iload_n hx hb dX12_isUsed_1 rfl (lv_at hl 1 rfl) ?_
  refine tk_ri (wr := []) (tk_V (As := [.int x0]) (rest := []) (n := 1) hx hb hml hown hU hN (cc_X12_isRule_0 l (dC, dI) cI cL cZ s.heap.size a0 x0 a1 a2 a3 a4 a5 a6 a7 a8 a9 a10 a11 a12 a13 a14 a15 a16 a17 a18 a19 a20 a21 a22 a23 a24 a25 a26 a27 a28 a29 a30 a31) wd_1289 wd_1290 wd_1291 wd_5 wd_1292 (by decide +kernel) ⟨Nat.le_of_ble_eq_true rfl, Nat.le_of_ble_eq_true rfl⟩ hK hP hD [0, 1] (by decide) rfl 0 12 rfl rfl rfl rfl hl.1 rfl (Nat.le_of_ble_eq_true rfl) dX12_isUsed_2 ⟨Nat.le_of_ble_eq_true rfl, Nat.le_of_ble_eq_true rfl⟩) hP hD hS hA [0, 1] [] rfl rfl (by decide) (by decide) (fun r_1 w_2 H locs hw hP hD hS => ?_)
  obtain ⟨rfl, rfl⟩ := hw
  have hP : va_P (dC, dI) vwCl [(a0, .inr (12, [.ref a1, .ref a2, .ref a3, .int 0, .ref a4, .int 0, .int 0, .int 0, .int 0, .int 0, .int (-1), .int 0, .int 0, .int 0, .int 0, .ref a5, .ref a6, .ref a7, .ref a8, .ref a9, .ref a10, .ref a11, .ref a12, .int 0, .int 0, .int 0, .int 0, .int 0, .ref a13, .int 0, .ref a14, .ref a15, .int 0, .int 0, .ref a16, .int 0, .ref a17, .ref a18, .int 0, .int (-1), .ref a19, .ref a20, .ref a21, .int 0, .ref a22, .ref a23, .ref a24, .ref a25, .ref a26, .ref a27, .ref a28, .ref a29, .ref a30, .int 0, .int 0, .ref a31])), (a1, .inl (cI, 1560, .inl w0))] H := hP
  have hD : va_D A [(a0, .inr (12, [.ref a1, .ref a2, .ref a3, .int 0, .ref a4, .int 0, .int 0, .int 0, .int 0, .int 0, .int (-1), .int 0, .int 0, .int 0, .int 0, .ref a5, .ref a6, .ref a7, .ref a8, .ref a9, .ref a10, .ref a11, .ref a12, .int 0, .int 0, .int 0, .int 0, .int 0, .ref a13, .int 0, .ref a14, .ref a15, .int 0, .int 0, .ref a16, .int 0, .ref a17, .ref a18, .int 0, .int (-1), .ref a19, .ref a20, .ref a21, .int 0, .ref a22, .ref a23, .ref a24, .ref a25, .ref a26, .ref a27, .ref a28, .ref a29, .ref a30, .int 0, .int 0, .ref a31])), (a1, .inl (cI, 1560, .inl w0))] := hD
  refine lv_if_eq (tgt := 27) hx hb dX12_isUsed_5 (by decide) (fun _ => ?_) (fun c9 => absurd (by decide) c9) 
  refine lv_iconst (v := 0) hx hb dX12_isUsed_27 (by decide) ?_
  have hP9 := hP.sub (ws' := [(a0, .inr (12, [.ref a1, .ref a2, .ref a3, .int 0, .ref a4, .int 0, .int 0, .int 0, .int 0, .int 0, .int (-1), .int 0, .int 0, .int 0, .int 0, .ref a5, .ref a6, .ref a7, .ref a8, .ref a9, .ref a10, .ref a11, .ref a12, .int 0, .int 0, .int 0, .int 0, .int 0, .ref a13, .int 0, .ref a14, .ref a15, .int 0, .int 0, .ref a16, .int 0, .ref a17, .ref a18, .int 0, .int (-1), .ref a19, .ref a20, .ref a21, .int 0, .ref a22, .ref a23, .ref a24, .ref a25, .ref a26, .ref a27, .ref a28, .ref a29, .ref a30, .int 0, .int 0, .ref a31])), (a1, .inl (cI, 1560, .inl w0))]) [0, 1] rfl
  have hD9 := hD.sub (ws' := [(a0, .inr (12, [.ref a1, .ref a2, .ref a3, .int 0, .ref a4, .int 0, .int 0, .int 0, .int 0, .int 0, .int (-1), .int 0, .int 0, .int 0, .int 0, .ref a5, .ref a6, .ref a7, .ref a8, .ref a9, .ref a10, .ref a11, .ref a12, .int 0, .int 0, .int 0, .int 0, .int 0, .ref a13, .int 0, .ref a14, .ref a15, .int 0, .int 0, .ref a16, .int 0, .ref a17, .ref a18, .int 0, .int (-1), .ref a19, .ref a20, .ref a21, .int 0, .ref a22, .ref a23, .ref a24, .ref a25, .ref a26, .ref a27, .ref a28, .ref a29, .ref a30, .int 0, .int 0, .ref a31])), (a1, .inl (cI, 1560, .inl w0))]) [0, 1] (by decide) rfl
  refine W.widen (k := 0) (n := 0) (Nat.le_of_ble_eq_true rfl) (Nat.le_of_ble_eq_true rfl) ?_
  exact W.zret (v := 0) (ty := .boolean) hx hb hr rfl (fun t ht hW => ⟨⟨0, [(a0, .inr (12, [.ref a1, .ref a2, .ref a3, .int 0, .ref a4, .int 0, .int 0, .int 0, .int 0, .int 0, .int (-1), .int 0, .int 0, .int 0, .int 0, .ref a5, .ref a6, .ref a7, .ref a8, .ref a9, .ref a10, .ref a11, .ref a12, .int 0, .int 0, .int 0, .int 0, .int 0, .ref a13, .int 0, .ref a14, .ref a15, .int 0, .int 0, .ref a16, .int 0, .ref a17, .ref a18, .int 0, .int (-1), .ref a19, .ref a20, .ref a21, .int 0, .ref a22, .ref a23, .ref a24, .ref a25, .ref a26, .ref a27, .ref a28, .ref a29, .ref a30, .int 0, .int 0, .ref a31])), (a1, .inl (cI, 1560, .inl w0))], rfl, ⟨rfl, rfl⟩, by rw [ht]; exact hP9, va_K.moved hW.alike hK, hD9⟩, hS.F ht⟩) hS.2.2 dX12_isUsed_28
set_option maxHeartbeats 8000000 in
set_option maxRecDepth 100000 in
theorem op_X12_idle (l : Launch) (D : va_G) (cI cL cZ : ClassId) (sz : Nat) (a0 : Nat) (x0 : Int32) (x1 : Int32) (a1 : Nat) (a2 : Nat) (a3 : Nat) (a4 : Nat) (a5 : Nat) (a6 : Nat) (a7 : Nat) (a8 : Nat) (a9 : Nat) (a10 : Nat) (a11 : Nat) (a12 : Nat) (a13 : Nat) (a14 : Nat) (a15 : Nat) (a16 : Nat) (a17 : Nat) (a18 : Nat) (a19 : Nat) (a20 : Nat) (a21 : Nat) (a22 : Nat) (a23 : Nat) (a24 : Nat) (a25 : Nat) (a26 : Nat) (a27 : Nat) (a28 : Nat) (a29 : Nat) (a30 : Nat) (a31 : Nat) : mI l D cI cL cZ yX12_idle cX12_idle 3 (some .int) 3 64 0 0 [.ref a0, .int x0, .int x1] sz [(a0, .inr (12, [.ref a1, .ref a2, .ref a3, .int 0, .ref a4, .int 0, .int 0, .int 0, .int 0, .int 0, .int (-1), .int 0, .int 0, .int 0, .int 0, .ref a5, .ref a6, .ref a7, .ref a8, .ref a9, .ref a10, .ref a11, .ref a12, .int 0, .int 0, .int 0, .int 0, .int 0, .ref a13, .int 0, .ref a14, .ref a15, .int 0, .int 0, .ref a16, .int 0, .ref a17, .ref a18, .int 0, .int (-1), .ref a19, .ref a20, .ref a21, .int 0, .ref a22, .ref a23, .ref a24, .ref a25, .ref a26, .ref a27, .ref a28, .ref a29, .ref a30, .int 0, .int 0, .ref a31])), (a1, .inl (cI, 1560, .inl w0))] (fun (r : Int32) (w1 : va_W) => r = (-1) ∧ w1 = ([] : va_W)) := by
  obtain ⟨dC, dI⟩ := D
  refine Met.ofW (cc := cX12_idle) (maxL := 3) (ret := (some .int)) (by decide) rfl ?_
  intro p e s m args below meth c s₁ B hml hv
  obtain ⟨rfl, hsz, hP, hK, hD0, hN⟩ := hv
  have hx := B.exec
  have hb := B.bytes
  have hr := B.returns
  have hU : ∀ w ∈ wsU, w.before _ s = true := fun w h => atoms_spec (ws := wU yX12_idle cX12_idle 3 (some .int)) B.pre w (List.mem_cons_of_mem _ h)
  have hown : s.vm.findClass RX12 = some m.cls := findClass_of_methodNamed B.named
  have hlocks := B.notSynchronized
  subst hsz
  have hD := hD0.self (sz := s.heap.size)
  generalize hAe : va_A [(a0, .inr (12, [.ref a1, .ref a2, .ref a3, .int 0, .ref a4, .int 0, .int 0, .int 0, .int 0, .int 0, .int (-1), .int 0, .int 0, .int 0, .int 0, .ref a5, .ref a6, .ref a7, .ref a8, .ref a9, .ref a10, .ref a11, .ref a12, .int 0, .int 0, .int 0, .int 0, .int 0, .ref a13, .int 0, .ref a14, .ref a15, .int 0, .int 0, .ref a16, .int 0, .ref a17, .ref a18, .int 0, .int (-1), .ref a19, .ref a20, .ref a21, .int 0, .ref a22, .ref a23, .ref a24, .ref a25, .ref a26, .ref a27, .ref a28, .ref a29, .ref a30, .int 0, .int 0, .ref a31])), (a1, .inl (cI, 1560, .inl w0))] s.heap.size = A at hD ⊢
  have hA : ∀ q : Nat, s.heap.size ≤ q → A q := fun q h => by rw [← hAe]; exact Or.inr h
  have hS : va_S A s.heap s.heap [] := va_S.rf
  have hP : va_P (dC, dI) vwCl [(a0, .inr (12, [.ref a1, .ref a2, .ref a3, .int 0, .ref a4, .int 0, .int 0, .int 0, .int 0, .int 0, .int (-1), .int 0, .int 0, .int 0, .int 0, .ref a5, .ref a6, .ref a7, .ref a8, .ref a9, .ref a10, .ref a11, .ref a12, .int 0, .int 0, .int 0, .int 0, .int 0, .ref a13, .int 0, .ref a14, .ref a15, .int 0, .int 0, .ref a16, .int 0, .ref a17, .ref a18, .int 0, .int (-1), .ref a19, .ref a20, .ref a21, .int 0, .ref a22, .ref a23, .ref a24, .ref a25, .ref a26, .ref a27, .ref a28, .ref a29, .ref a30, .int 0, .int 0, .ref a31])), (a1, .inl (cI, 1560, .inl w0))] s.heap := hP
  have hl := lv_entry ([.ref a0, .int x0, .int x1]) (n := 3) (Nat.le_of_ble_eq_true rfl)
  rw [lg_entry_eq]
  generalize (lg_sl ([.ref a0, .int x0, .int x1]) ++ List.replicate (3 - (lg_sl ([.ref a0, .int x0, .int x1])).length) Slot.unset).toArray = ls at hl ⊢
  have hl : lv_has ls 3 [(0, .ref a0), (1, .int x0), (2, .int x1)] := hl
  refine lv_aload_n hx hb dX12_idle_0 rfl (lv_at hl 0 rfl) ?_
  refine lv_iload_n hx hb dX12_idle_1 rfl (lv_at hl 1 rfl) ?_
  refine tk_ri (wr := []) (tk_V (As := [.int x0]) (rest := []) (n := 1) hx hb hml hown hU hN (cc_X12_isUsed_0 l (dC, dI) cI cL cZ s.heap.size a0 x0 a1 a2 a3 a4 a5 a6 a7 a8 a9 a10 a11 a12 a13 a14 a15 a16 a17 a18 a19 a20 a21 a22 a23 a24 a25 a26 a27 a28 a29 a30 a31) wd_1350 wd_1351 wd_1352 wd_5 wd_1353 (by decide +kernel) ⟨Nat.le_of_ble_eq_true rfl, Nat.le_of_ble_eq_true rfl⟩ hK hP hD [0, 1] (by decide) rfl 0 12 rfl rfl rfl rfl hl.1 rfl (Nat.le_of_ble_eq_true rfl) dX12_idle_2 ⟨Nat.le_of_ble_eq_true rfl, Nat.le_of_ble_eq_true rfl⟩) hP hD hS hA [0, 1] [] rfl rfl (by decide) (by decide) (fun r_1 w_2 H locs hw hP hD hS => ?_)
  obtain ⟨rfl, rfl⟩ := hw
  have hP : va_P (dC, dI) vwCl [(a0, .inr (12, [.ref a1, .ref a2, .ref a3, .int 0, .ref a4, .int 0, .int 0, .int 0, .int 0, .int 0, .int (-1), .int 0, .int 0, .int 0, .int 0, .ref a5, .ref a6, .ref a7, .ref a8, .ref a9, .ref a10, .ref a11, .ref a12, .int 0, .int 0, .int 0, .int 0, .int 0, .ref a13, .int 0, .ref a14, .ref a15, .int 0, .int 0, .ref a16, .int 0, .ref a17, .ref a18, .int 0, .int (-1), .ref a19, .ref a20, .ref a21, .int 0, .ref a22, .ref a23, .ref a24, .ref a25, .ref a26, .ref a27, .ref a28, .ref a29, .ref a30, .int 0, .int 0, .ref a31])), (a1, .inl (cI, 1560, .inl w0))] H := hP
  have hD : va_D A [(a0, .inr (12, [.ref a1, .ref a2, .ref a3, .int 0, .ref a4, .int 0, .int 0, .int 0, .int 0, .int 0, .int (-1), .int 0, .int 0, .int 0, .int 0, .ref a5, .ref a6, .ref a7, .ref a8, .ref a9, .ref a10, .ref a11, .ref a12, .int 0, .int 0, .int 0, .int 0, .int 0, .ref a13, .int 0, .ref a14, .ref a15, .int 0, .int 0, .ref a16, .int 0, .ref a17, .ref a18, .int 0, .int (-1), .ref a19, .ref a20, .ref a21, .int 0, .ref a22, .ref a23, .ref a24, .ref a25, .ref a26, .ref a27, .ref a28, .ref a29, .ref a30, .int 0, .int 0, .ref a31])), (a1, .inl (cI, 1560, .inl w0))] := hD
  refine lv_if_eq (tgt := 17) hx hb dX12_idle_5 (by decide) (fun _ => ?_) (fun c9 => absurd (by decide) c9) 
  refine lv_iconst (v := (-1)) hx hb dX12_idle_17 (by decide) ?_
  refine lv_goto (tgt := 55) hx hb dX12_idle_18 (by decide) ?_
  have hP9 := hP.sub (ws' := []) [] rfl
  have hD9 := hD.sub (ws' := []) [] (by decide) rfl
  refine W.widen (k := 0) (n := 0) (Nat.le_of_ble_eq_true rfl) (Nat.le_of_ble_eq_true rfl) ?_
  exact W.iret (v := (-1)) hx hb hr (fun t ht hW => ⟨⟨(-1), [], rfl, ⟨rfl, rfl⟩, by rw [ht]; exact hP9, va_K.moved hW.alike hK, hD9⟩, hS.F ht⟩) hS.2.2 dX12_idle_55
set_option maxHeartbeats 8000000 in
set_option maxRecDepth 100000 in
theorem cc_X12_count_0 (l : Launch) (D : va_G) (cI cL cZ : ClassId) (sz : Nat)  : mI l D cI cL cZ yX12_count cX12_count 3 (some .int) 0 0 0 0 [.int 0] sz [] (fun (r : Int32) (w1 : va_W) => r = 0 ∧ w1 = ([] : va_W)) := by
  obtain ⟨dC, dI⟩ := D
  refine Met.ofW (cc := cX12_count) (maxL := 3) (ret := (some .int)) (by decide) rfl ?_
  intro p e s m args below meth c s₁ B hml hv
  obtain ⟨rfl, hsz, hP, hK, hD0, hN⟩ := hv
  have hx := B.exec
  have hb := B.bytes
  have hr := B.returns
  have hU : ∀ w ∈ wsU, w.before _ s = true := fun w h => atoms_spec (ws := wU yX12_count cX12_count 3 (some .int)) B.pre w (List.mem_cons_of_mem _ h)
  have hown : s.vm.findClass RX12 = some m.cls := findClass_of_methodNamed B.named
  have hlocks := B.notSynchronized
  subst hsz
  have hD := hD0.self (sz := s.heap.size)
  generalize hAe : va_A [] s.heap.size = A at hD ⊢
  have hA : ∀ q : Nat, s.heap.size ≤ q → A q := fun q h => by rw [← hAe]; exact Or.inr h
  have hS : va_S A s.heap s.heap [] := va_S.rf
  have hP : va_P (dC, dI) vwCl [] s.heap := hP
  have hl := lv_entry ([.int 0]) (n := 3) (Nat.le_of_ble_eq_true rfl)
  rw [lg_entry_eq]
  generalize (lg_sl ([.int 0]) ++ List.replicate (3 - (lg_sl ([.int 0])).length) Slot.unset).toArray = ls at hl ⊢
  have hl : lv_has ls 3 [(0, .int 0)] := hl
  refine lv_iconst (v := 0) hx hb dX12_count_0 (by decide) ?_
  refine lv_istore_n (lv' := [(1, .int 0), (0, .int 0)]) hx hb dX12_count_1 rfl hl (by decide) rfl (fun ls hl => ?_)
  refine lv_iconst (v := 0) hx hb dX12_count_2 (by decide) ?_
  refine lv_istore_n (lv' := [(2, .int 0), (1, .int 0), (0, .int 0)]) hx hb dX12_count_3 rfl hl (by decide) rfl (fun ls hl => ?_)
  refine lv_iload_n hx hb dX12_count_4 rfl (lv_at hl 0 rfl) ?_
  refine lv_bipush (v := 10) hx hb dX12_count_5 (by decide) ?_
  refine lv_icmp_ge (tgt := 24) hx hb dX12_count_7 (by decide) (fun c9 => absurd c9 (by decide)) (fun _ => ?_)
  refine lv_iload_n hx hb dX12_count_10 rfl (lv_at hl 1 rfl) ?_
  refine lv_iload_n hx hb dX12_count_11 rfl (lv_at hl 2 rfl) ?_
  refine lv_iload_n hx hb dX12_count_12 rfl (lv_at hl 0 rfl) ?_
  refine lv_ishr hx hb dX12_count_13 ?_
  refine tk_topi (y := 0) (by decide) ?_
  refine lv_iconst (v := 1) hx hb dX12_count_14 (by decide) ?_
  refine lv_iand hx hb dX12_count_15 ?_
  refine tk_topi (y := 0) (by decide) ?_
  refine lv_iadd hx hb dX12_count_16 ?_
  refine tk_topi (y := 0) (by decide) ?_
  refine lv_istore_n (lv' := [(1, .int 0), (2, .int 0), (0, .int 0)]) hx hb dX12_count_17 rfl hl (by decide) rfl (fun ls hl => ?_)
  refine lv_iinc (v := 1) (lv' := [(2, .int 1), (1, .int 0), (0, .int 0)]) hx hb dX12_count_18 hl (k := 1) rfl (by decide) (by decide) rfl (fun ls hl => ?_)
  refine lv_goto (tgt := 4) hx hb dX12_count_21 (by decide) ?_
  refine lv_iload_n hx hb dX12_count_4 rfl (lv_at hl 0 rfl) ?_
  refine lv_bipush (v := 10) hx hb dX12_count_5 (by decide) ?_
  refine lv_icmp_ge (tgt := 24) hx hb dX12_count_7 (by decide) (fun c9 => absurd c9 (by decide)) (fun _ => ?_)
  refine lv_iload_n hx hb dX12_count_10 rfl (lv_at hl 1 rfl) ?_
  refine lv_iload_n hx hb dX12_count_11 rfl (lv_at hl 2 rfl) ?_
  refine lv_iload_n hx hb dX12_count_12 rfl (lv_at hl 0 rfl) ?_
  refine lv_ishr hx hb dX12_count_13 ?_
  refine tk_topi (y := 0) (by decide) ?_
  refine lv_iconst (v := 1) hx hb dX12_count_14 (by decide) ?_
  refine lv_iand hx hb dX12_count_15 ?_
  refine tk_topi (y := 0) (by decide) ?_
  refine lv_iadd hx hb dX12_count_16 ?_
  refine tk_topi (y := 0) (by decide) ?_
  refine lv_istore_n (lv' := [(1, .int 0), (2, .int 1), (0, .int 0)]) hx hb dX12_count_17 rfl hl (by decide) rfl (fun ls hl => ?_)
  refine lv_iinc (v := 2) (lv' := [(2, .int 2), (1, .int 0), (0, .int 0)]) hx hb dX12_count_18 hl (k := 1) rfl (by decide) (by decide) rfl (fun ls hl => ?_)
  refine lv_goto (tgt := 4) hx hb dX12_count_21 (by decide) ?_
  refine lv_iload_n hx hb dX12_count_4 rfl (lv_at hl 0 rfl) ?_
  refine lv_bipush (v := 10) hx hb dX12_count_5 (by decide) ?_
  refine lv_icmp_ge (tgt := 24) hx hb dX12_count_7 (by decide) (fun c9 => absurd c9 (by decide)) (fun _ => ?_)
  refine lv_iload_n hx hb dX12_count_10 rfl (lv_at hl 1 rfl) ?_
  refine lv_iload_n hx hb dX12_count_11 rfl (lv_at hl 2 rfl) ?_
  refine lv_iload_n hx hb dX12_count_12 rfl (lv_at hl 0 rfl) ?_
  refine lv_ishr hx hb dX12_count_13 ?_
  refine tk_topi (y := 0) (by decide) ?_
  refine lv_iconst (v := 1) hx hb dX12_count_14 (by decide) ?_
  refine lv_iand hx hb dX12_count_15 ?_
  refine tk_topi (y := 0) (by decide) ?_
  refine lv_iadd hx hb dX12_count_16 ?_
  refine tk_topi (y := 0) (by decide) ?_
  refine lv_istore_n (lv' := [(1, .int 0), (2, .int 2), (0, .int 0)]) hx hb dX12_count_17 rfl hl (by decide) rfl (fun ls hl => ?_)
  refine lv_iinc (v := 3) (lv' := [(2, .int 3), (1, .int 0), (0, .int 0)]) hx hb dX12_count_18 hl (k := 1) rfl (by decide) (by decide) rfl (fun ls hl => ?_)
  refine lv_goto (tgt := 4) hx hb dX12_count_21 (by decide) ?_
  refine lv_iload_n hx hb dX12_count_4 rfl (lv_at hl 0 rfl) ?_
  refine lv_bipush (v := 10) hx hb dX12_count_5 (by decide) ?_
  refine lv_icmp_ge (tgt := 24) hx hb dX12_count_7 (by decide) (fun c9 => absurd c9 (by decide)) (fun _ => ?_)
  refine lv_iload_n hx hb dX12_count_10 rfl (lv_at hl 1 rfl) ?_
  refine lv_iload_n hx hb dX12_count_11 rfl (lv_at hl 2 rfl) ?_
  refine lv_iload_n hx hb dX12_count_12 rfl (lv_at hl 0 rfl) ?_
  refine lv_ishr hx hb dX12_count_13 ?_
  refine tk_topi (y := 0) (by decide) ?_
  refine lv_iconst (v := 1) hx hb dX12_count_14 (by decide) ?_
  refine lv_iand hx hb dX12_count_15 ?_
  refine tk_topi (y := 0) (by decide) ?_
  refine lv_iadd hx hb dX12_count_16 ?_
  refine tk_topi (y := 0) (by decide) ?_
  refine lv_istore_n (lv' := [(1, .int 0), (2, .int 3), (0, .int 0)]) hx hb dX12_count_17 rfl hl (by decide) rfl (fun ls hl => ?_)
  refine lv_iinc (v := 4) (lv' := [(2, .int 4), (1, .int 0), (0, .int 0)]) hx hb dX12_count_18 hl (k := 1) rfl (by decide) (by decide) rfl (fun ls hl => ?_)
  refine lv_goto (tgt := 4) hx hb dX12_count_21 (by decide) ?_
  refine lv_iload_n hx hb dX12_count_4 rfl (lv_at hl 0 rfl) ?_
  refine lv_bipush (v := 10) hx hb dX12_count_5 (by decide) ?_
  refine lv_icmp_ge (tgt := 24) hx hb dX12_count_7 (by decide) (fun c9 => absurd c9 (by decide)) (fun _ => ?_)
  refine lv_iload_n hx hb dX12_count_10 rfl (lv_at hl 1 rfl) ?_
  refine lv_iload_n hx hb dX12_count_11 rfl (lv_at hl 2 rfl) ?_
  refine lv_iload_n hx hb dX12_count_12 rfl (lv_at hl 0 rfl) ?_
  refine lv_ishr hx hb dX12_count_13 ?_
  refine tk_topi (y := 0) (by decide) ?_
  refine lv_iconst (v := 1) hx hb dX12_count_14 (by decide) ?_
  refine lv_iand hx hb dX12_count_15 ?_
  refine tk_topi (y := 0) (by decide) ?_
  refine lv_iadd hx hb dX12_count_16 ?_
  refine tk_topi (y := 0) (by decide) ?_
  refine lv_istore_n (lv' := [(1, .int 0), (2, .int 4), (0, .int 0)]) hx hb dX12_count_17 rfl hl (by decide) rfl (fun ls hl => ?_)
  refine lv_iinc (v := 5) (lv' := [(2, .int 5), (1, .int 0), (0, .int 0)]) hx hb dX12_count_18 hl (k := 1) rfl (by decide) (by decide) rfl (fun ls hl => ?_)
  refine lv_goto (tgt := 4) hx hb dX12_count_21 (by decide) ?_
  refine lv_iload_n hx hb dX12_count_4 rfl (lv_at hl 0 rfl) ?_
  refine lv_bipush (v := 10) hx hb dX12_count_5 (by decide) ?_
  refine lv_icmp_ge (tgt := 24) hx hb dX12_count_7 (by decide) (fun c9 => absurd c9 (by decide)) (fun _ => ?_)
  refine lv_iload_n hx hb dX12_count_10 rfl (lv_at hl 1 rfl) ?_
  refine lv_iload_n hx hb dX12_count_11 rfl (lv_at hl 2 rfl) ?_
  refine lv_iload_n hx hb dX12_count_12 rfl (lv_at hl 0 rfl) ?_
  refine lv_ishr hx hb dX12_count_13 ?_
  refine tk_topi (y := 0) (by decide) ?_
  refine lv_iconst (v := 1) hx hb dX12_count_14 (by decide) ?_
  refine lv_iand hx hb dX12_count_15 ?_
  refine tk_topi (y := 0) (by decide) ?_
  refine lv_iadd hx hb dX12_count_16 ?_
  refine tk_topi (y := 0) (by decide) ?_
  refine lv_istore_n (lv' := [(1, .int 0), (2, .int 5), (0, .int 0)]) hx hb dX12_count_17 rfl hl (by decide) rfl (fun ls hl => ?_)
  refine lv_iinc (v := 6) (lv' := [(2, .int 6), (1, .int 0), (0, .int 0)]) hx hb dX12_count_18 hl (k := 1) rfl (by decide) (by decide) rfl (fun ls hl => ?_)
  refine lv_goto (tgt := 4) hx hb dX12_count_21 (by decide) ?_
  refine lv_iload_n hx hb dX12_count_4 rfl (lv_at hl 0 rfl) ?_
  refine lv_bipush (v := 10) hx hb dX12_count_5 (by decide) ?_
  refine lv_icmp_ge (tgt := 24) hx hb dX12_count_7 (by decide) (fun c9 => absurd c9 (by decide)) (fun _ => ?_)
  refine lv_iload_n hx hb dX12_count_10 rfl (lv_at hl 1 rfl) ?_
  refine lv_iload_n hx hb dX12_count_11 rfl (lv_at hl 2 rfl) ?_
  refine lv_iload_n hx hb dX12_count_12 rfl (lv_at hl 0 rfl) ?_
  refine lv_ishr hx hb dX12_count_13 ?_
  refine tk_topi (y := 0) (by decide) ?_
  refine lv_iconst (v := 1) hx hb dX12_count_14 (by decide) ?_
  refine lv_iand hx hb dX12_count_15 ?_
  refine tk_topi (y := 0) (by decide) ?_
  refine lv_iadd hx hb dX12_count_16 ?_
  refine tk_topi (y := 0) (by decide) ?_
  refine lv_istore_n (lv' := [(1, .int 0), (2, .int 6), (0, .int 0)]) hx hb dX12_count_17 rfl hl (by decide) rfl (fun ls hl => ?_)
  refine lv_iinc (v := 7) (lv' := [(2, .int 7), (1, .int 0), (0, .int 0)]) hx hb dX12_count_18 hl (k := 1) rfl (by decide) (by decide) rfl (fun ls hl => ?_)
  refine lv_goto (tgt := 4) hx hb dX12_count_21 (by decide) ?_
  refine lv_iload_n hx hb dX12_count_4 rfl (lv_at hl 0 rfl) ?_
  refine lv_bipush (v := 10) hx hb dX12_count_5 (by decide) ?_
  refine lv_icmp_ge (tgt := 24) hx hb dX12_count_7 (by decide) (fun c9 => absurd c9 (by decide)) (fun _ => ?_)
  refine lv_iload_n hx hb dX12_count_10 rfl (lv_at hl 1 rfl) ?_
  refine lv_iload_n hx hb dX12_count_11 rfl (lv_at hl 2 rfl) ?_
  refine lv_iload_n hx hb dX12_count_12 rfl (lv_at hl 0 rfl) ?_
  refine lv_ishr hx hb dX12_count_13 ?_
  refine tk_topi (y := 0) (by decide) ?_
  refine lv_iconst (v := 1) hx hb dX12_count_14 (by decide) ?_
  refine lv_iand hx hb dX12_count_15 ?_
  refine tk_topi (y := 0) (by decide) ?_
  refine lv_iadd hx hb dX12_count_16 ?_
  refine tk_topi (y := 0) (by decide) ?_
  refine lv_istore_n (lv' := [(1, .int 0), (2, .int 7), (0, .int 0)]) hx hb dX12_count_17 rfl hl (by decide) rfl (fun ls hl => ?_)
  refine lv_iinc (v := 8) (lv' := [(2, .int 8), (1, .int 0), (0, .int 0)]) hx hb dX12_count_18 hl (k := 1) rfl (by decide) (by decide) rfl (fun ls hl => ?_)
  refine lv_goto (tgt := 4) hx hb dX12_count_21 (by decide) ?_
  refine lv_iload_n hx hb dX12_count_4 rfl (lv_at hl 0 rfl) ?_
  refine lv_bipush (v := 10) hx hb dX12_count_5 (by decide) ?_
  refine lv_icmp_ge (tgt := 24) hx hb dX12_count_7 (by decide) (fun c9 => absurd c9 (by decide)) (fun _ => ?_)
  refine lv_iload_n hx hb dX12_count_10 rfl (lv_at hl 1 rfl) ?_
  refine lv_iload_n hx hb dX12_count_11 rfl (lv_at hl 2 rfl) ?_
  refine lv_iload_n hx hb dX12_count_12 rfl (lv_at hl 0 rfl) ?_
  refine lv_ishr hx hb dX12_count_13 ?_
  refine tk_topi (y := 0) (by decide) ?_
  refine lv_iconst (v := 1) hx hb dX12_count_14 (by decide) ?_
  refine lv_iand hx hb dX12_count_15 ?_
  refine tk_topi (y := 0) (by decide) ?_
  refine lv_iadd hx hb dX12_count_16 ?_
  refine tk_topi (y := 0) (by decide) ?_
  refine lv_istore_n (lv' := [(1, .int 0), (2, .int 8), (0, .int 0)]) hx hb dX12_count_17 rfl hl (by decide) rfl (fun ls hl => ?_)
  refine lv_iinc (v := 9) (lv' := [(2, .int 9), (1, .int 0), (0, .int 0)]) hx hb dX12_count_18 hl (k := 1) rfl (by decide) (by decide) rfl (fun ls hl => ?_)
  refine lv_goto (tgt := 4) hx hb dX12_count_21 (by decide) ?_
  refine lv_iload_n hx hb dX12_count_4 rfl (lv_at hl 0 rfl) ?_
  refine lv_bipush (v := 10) hx hb dX12_count_5 (by decide) ?_
  refine lv_icmp_ge (tgt := 24) hx hb dX12_count_7 (by decide) (fun c9 => absurd c9 (by decide)) (fun _ => ?_)
  refine lv_iload_n hx hb dX12_count_10 rfl (lv_at hl 1 rfl) ?_
  refine lv_iload_n hx hb dX12_count_11 rfl (lv_at hl 2 rfl) ?_
  refine lv_iload_n hx hb dX12_count_12 rfl (lv_at hl 0 rfl) ?_
  refine lv_ishr hx hb dX12_count_13 ?_
  refine tk_topi (y := 0) (by decide) ?_
  refine lv_iconst (v := 1) hx hb dX12_count_14 (by decide) ?_
  refine lv_iand hx hb dX12_count_15 ?_
  refine tk_topi (y := 0) (by decide) ?_
  refine lv_iadd hx hb dX12_count_16 ?_
  refine tk_topi (y := 0) (by decide) ?_
  refine lv_istore_n (lv' := [(1, .int 0), (2, .int 9), (0, .int 0)]) hx hb dX12_count_17 rfl hl (by decide) rfl (fun ls hl => ?_)
  refine lv_iinc (v := 10) (lv' := [(2, .int 10), (1, .int 0), (0, .int 0)]) hx hb dX12_count_18 hl (k := 1) rfl (by decide) (by decide) rfl (fun ls hl => ?_)
  refine lv_goto (tgt := 4) hx hb dX12_count_21 (by decide) ?_
  refine lv_iload_n hx hb dX12_count_4 rfl (lv_at hl 0 rfl) ?_
  refine lv_bipush (v := 10) hx hb dX12_count_5 (by decide) ?_
  refine lv_icmp_ge (tgt := 24) hx hb dX12_count_7 (by decide) (fun _ => ?_) (fun c9 => absurd (by decide) c9) 
  refine lv_iload_n hx hb dX12_count_24 rfl (lv_at hl 1 rfl) ?_
  have hP9 := hP.sub (ws' := []) [] rfl
  have hD9 := hD.sub (ws' := []) [] (by decide) rfl
  refine W.widen (k := 0) (n := 0) (Nat.le_of_ble_eq_true rfl) (Nat.le_of_ble_eq_true rfl) ?_
  exact W.iret (v := 0) hx hb hr (fun t ht hW => ⟨⟨0, [], rfl, ⟨rfl, rfl⟩, by rw [ht]; exact hP9, va_K.moved hW.alike hK, hD9⟩, hS.F ht⟩) hS.2.2 dX12_count_25
set_option maxHeartbeats 8000000 in
set_option maxRecDepth 100000 in
theorem op_X12_fewest (l : Launch) (D : va_G) (cI cL cZ : ClassId) (sz : Nat) (a0 : Nat) (x0 : Int32) (a1 : Nat) (a2 : Nat) (a3 : Nat) (a4 : Nat) (a5 : Nat) (a6 : Nat) (a7 : Nat) (a8 : Nat) (a9 : Nat) (a10 : Nat) (a11 : Nat) (a12 : Nat) (a13 : Nat) (a14 : Nat) (a15 : Nat) (a16 : Nat) (a17 : Nat) (a18 : Nat) (a19 : Nat) (a20 : Nat) (a21 : Nat) (a22 : Nat) (a23 : Nat) (a24 : Nat) (a25 : Nat) (a26 : Nat) (a27 : Nat) (a28 : Nat) (a29 : Nat) (a30 : Nat) (a31 : Nat) : mI l D cI cL cZ yX12_fewest cX12_fewest 5 (some .int) 1 24 0 0 [.ref a0, .int x0] sz [(a0, .inr (12, [.ref a1, .ref a2, .ref a3, .int 0, .ref a4, .int 0, .int 0, .int 0, .int 0, .int 0, .int (-1), .int 0, .int 0, .int 0, .int 0, .ref a5, .ref a6, .ref a7, .ref a8, .ref a9, .ref a10, .ref a11, .ref a12, .int 0, .int 0, .int 0, .int 0, .int 0, .ref a13, .int 0, .ref a14, .ref a15, .int 0, .int 0, .ref a16, .int 0, .ref a17, .ref a18, .int 0, .int (-1), .ref a19, .ref a20, .ref a21, .int 0, .ref a22, .ref a23, .ref a24, .ref a25, .ref a26, .ref a27, .ref a28, .ref a29, .ref a30, .int 0, .int 0, .ref a31])), (a1, .inl (cI, 1560, .inl w0)), (a25, .inl (cZ, 256, .inl z0))] (fun (r : Int32) (w1 : va_W) => r = (an_fewest x0) ∧ w1 = ([] : va_W)) := by
  obtain ⟨dC, dI⟩ := D
  refine Met.ofW (cc := cX12_fewest) (maxL := 5) (ret := (some .int)) (by decide) rfl ?_
  intro p e s m args below meth c s₁ B hml hv
  obtain ⟨rfl, hsz, hP, hK, hD0, hN⟩ := hv
  have hx := B.exec
  have hb := B.bytes
  have hr := B.returns
  have hU : ∀ w ∈ wsU, w.before _ s = true := fun w h => atoms_spec (ws := wU yX12_fewest cX12_fewest 5 (some .int)) B.pre w (List.mem_cons_of_mem _ h)
  have hown : s.vm.findClass RX12 = some m.cls := findClass_of_methodNamed B.named
  have hlocks := B.notSynchronized
  subst hsz
  have hD := hD0.self (sz := s.heap.size)
  generalize hAe : va_A [(a0, .inr (12, [.ref a1, .ref a2, .ref a3, .int 0, .ref a4, .int 0, .int 0, .int 0, .int 0, .int 0, .int (-1), .int 0, .int 0, .int 0, .int 0, .ref a5, .ref a6, .ref a7, .ref a8, .ref a9, .ref a10, .ref a11, .ref a12, .int 0, .int 0, .int 0, .int 0, .int 0, .ref a13, .int 0, .ref a14, .ref a15, .int 0, .int 0, .ref a16, .int 0, .ref a17, .ref a18, .int 0, .int (-1), .ref a19, .ref a20, .ref a21, .int 0, .ref a22, .ref a23, .ref a24, .ref a25, .ref a26, .ref a27, .ref a28, .ref a29, .ref a30, .int 0, .int 0, .ref a31])), (a1, .inl (cI, 1560, .inl w0)), (a25, .inl (cZ, 256, .inl z0))] s.heap.size = A at hD ⊢
  have hA : ∀ q : Nat, s.heap.size ≤ q → A q := fun q h => by rw [← hAe]; exact Or.inr h
  have hS : va_S A s.heap s.heap [] := va_S.rf
  have hP : va_P (dC, dI) vwCl [(a0, .inr (12, [.ref a1, .ref a2, .ref a3, .int 0, .ref a4, .int 0, .int 0, .int 0, .int 0, .int 0, .int (-1), .int 0, .int 0, .int 0, .int 0, .ref a5, .ref a6, .ref a7, .ref a8, .ref a9, .ref a10, .ref a11, .ref a12, .int 0, .int 0, .int 0, .int 0, .int 0, .ref a13, .int 0, .ref a14, .ref a15, .int 0, .int 0, .ref a16, .int 0, .ref a17, .ref a18, .int 0, .int (-1), .ref a19, .ref a20, .ref a21, .int 0, .ref a22, .ref a23, .ref a24, .ref a25, .ref a26, .ref a27, .ref a28, .ref a29, .ref a30, .int 0, .int 0, .ref a31])), (a1, .inl (cI, 1560, .inl w0)), (a25, .inl (cZ, 256, .inl z0))] s.heap := hP
  have hl := lv_entry ([.ref a0, .int x0]) (n := 5) (Nat.le_of_ble_eq_true rfl)
  rw [lg_entry_eq]
  generalize (lg_sl ([.ref a0, .int x0]) ++ List.replicate (5 - (lg_sl ([.ref a0, .int x0])).length) Slot.unset).toArray = ls at hl ⊢
  have hl : lv_has ls 5 [(0, .ref a0), (1, .int x0)] := hl
  by_cases c_1 : x0 = 1
  · subst c_1
    refine lv_iload_n hx hb dX12_fewest_0 rfl (lv_at hl 1 rfl) ?_
    refine lv_iconst (v := 1) hx hb dX12_fewest_1 (by decide) ?_
    refine lv_iconst (v := 2) hx hb dX12_fewest_2 (by decide) ?_
    refine tk_ri (wr := [(a0, .inr (12, [.ref a1, .ref a2, .ref a3, .int 0, .ref a4, .int 0, .int 0, .int 0, .int 0, .int 0, .int (-1), .int 0, .int 0, .int 0, .int 0, .ref a5, .ref a6, .ref a7, .ref a8, .ref a9, .ref a10, .ref a11, .ref a12, .int 0, .int 0, .int 0, .int 0, .int 0, .ref a13, .int 0, .ref a14, .ref a15, .int 0, .int 0, .ref a16, .int 0, .ref a17, .ref a18, .int 0, .int (-1), .ref a19, .ref a20, .ref a21, .int 0, .ref a22, .ref a23, .ref a24, .ref a25, .ref a26, .ref a27, .ref a28, .ref a29, .ref a30, .int 0, .int 0, .ref a31])), (a1, .inl (cI, 1560, .inl w0)), (a25, .inl (cZ, 256, .inl z0))]) (tk_S (As := [.int 1, .int 1, .int 2]) (rest := []) (n := 3) hx hb hml hown hU hN (cc_X12_isIn_8 l (dC, dI) cI cL cZ s.heap.size ) wd_227 wd_228 wd_5 wd_229 (by decide +kernel) ⟨Nat.le_of_ble_eq_true rfl, Nat.le_of_ble_eq_true rfl⟩ hK hP hD [] (by decide) rfl rfl hl.1 rfl (Nat.le_of_ble_eq_true rfl) dX12_fewest_3 ⟨Nat.le_of_ble_eq_true rfl, Nat.le_of_ble_eq_true rfl⟩) hP hD hS hA [] [0, 1, 2] rfl rfl (by decide) (by decide) (fun r_2 w_3 H locs hw hP hD hS => ?_)
    obtain ⟨rfl, rfl⟩ := hw
    have hP : va_P (dC, dI) vwCl [(a0, .inr (12, [.ref a1, .ref a2, .ref a3, .int 0, .ref a4, .int 0, .int 0, .int 0, .int 0, .int 0, .int (-1), .int 0, .int 0, .int 0, .int 0, .ref a5, .ref a6, .ref a7, .ref a8, .ref a9, .ref a10, .ref a11, .ref a12, .int 0, .int 0, .int 0, .int 0, .int 0, .ref a13, .int 0, .ref a14, .ref a15, .int 0, .int 0, .ref a16, .int 0, .ref a17, .ref a18, .int 0, .int (-1), .ref a19, .ref a20, .ref a21, .int 0, .ref a22, .ref a23, .ref a24, .ref a25, .ref a26, .ref a27, .ref a28, .ref a29, .ref a30, .int 0, .int 0, .ref a31])), (a1, .inl (cI, 1560, .inl w0)), (a25, .inl (cZ, 256, .inl z0))] H := hP
    have hD : va_D A [(a0, .inr (12, [.ref a1, .ref a2, .ref a3, .int 0, .ref a4, .int 0, .int 0, .int 0, .int 0, .int 0, .int (-1), .int 0, .int 0, .int 0, .int 0, .ref a5, .ref a6, .ref a7, .ref a8, .ref a9, .ref a10, .ref a11, .ref a12, .int 0, .int 0, .int 0, .int 0, .int 0, .ref a13, .int 0, .ref a14, .ref a15, .int 0, .int 0, .ref a16, .int 0, .ref a17, .ref a18, .int 0, .int (-1), .ref a19, .ref a20, .ref a21, .int 0, .ref a22, .ref a23, .ref a24, .ref a25, .ref a26, .ref a27, .ref a28, .ref a29, .ref a30, .int 0, .int 0, .ref a31])), (a1, .inl (cI, 1560, .inl w0)), (a25, .inl (cZ, 256, .inl z0))] := hD
    refine lv_if_ne (tgt := 11) hx hb dX12_fewest_6 (by decide) (fun _ => ?_) (fun c9 => absurd c9 (by decide)) 
    refine lv_iconst (v := 0) hx hb dX12_fewest_11 (by decide) ?_
    refine lv_istore_n (lv' := [(2, .int 0), (0, .ref a0), (1, .int 1)]) hx hb dX12_fewest_12 rfl hl (by decide) rfl (fun ls hl => ?_)
    have hloop_13 : ∀ (n i_5 : Nat) (x_4 : Int32), x_4 = nI i_5 → i_5 ≤ 256 → 256 + 1 ≤ i_5 + n → ∀ (H : Heap) (locs : List Loc), va_P (dC, dI) vwCl [(a0, .inr (12, [.ref a1, .ref a2, .ref a3, .int 0, .ref a4, .int 0, .int 0, .int 0, .int 0, .int 0, .int (-1), .int 0, .int 0, .int 0, .int 0, .ref a5, .ref a6, .ref a7, .ref a8, .ref a9, .ref a10, .ref a11, .ref a12, .int 0, .int 0, .int 0, .int 0, .int 0, .ref a13, .int 0, .ref a14, .ref a15, .int 0, .int 0, .ref a16, .int 0, .ref a17, .ref a18, .int 0, .int (-1), .ref a19, .ref a20, .ref a21, .int 0, .ref a22, .ref a23, .ref a24, .ref a25, .ref a26, .ref a27, .ref a28, .ref a29, .ref a30, .int 0, .int 0, .ref a31])), (a1, .inl (cI, 1560, .inl w0)), (a25, .inl (cZ, 256, .inl z0))] H → va_D A [(a0, .inr (12, [.ref a1, .ref a2, .ref a3, .int 0, .ref a4, .int 0, .int 0, .int 0, .int 0, .int 0, .int (-1), .int 0, .int 0, .int 0, .int 0, .ref a5, .ref a6, .ref a7, .ref a8, .ref a9, .ref a10, .ref a11, .ref a12, .int 0, .int 0, .int 0, .int 0, .int 0, .ref a13, .int 0, .ref a14, .ref a15, .int 0, .int 0, .ref a16, .int 0, .ref a17, .ref a18, .int 0, .int (-1), .ref a19, .ref a20, .ref a21, .int 0, .ref a22, .ref a23, .ref a24, .ref a25, .ref a26, .ref a27, .ref a28, .ref a29, .ref a30, .int 0, .int 0, .ref a31])), (a1, .inl (cI, 1560, .inl w0)), (a25, .inl (cZ, 256, .inl z0))] → va_S A s.heap H locs → ∀ (ls : Array Slot), lv_has ls 5 [(2, .int x_4), (0, .ref a0), (1, .int 1)] → W p l e (headSpec (wU yX12_fewest cX12_fewest 5 (some .int)) { frames := 1, cells := 0, slots := 0, locals := 24 }).room s m [.ref a0, .int 1].toArray below meth c H locs 0 0 (MQ below (va_Qi (fun (r : Int32) (w1 : va_W) => r = (an_fewest 1) ∧ w1 = ([] : va_W)) (qB (dC, dI) cI cL cZ A) A) [.ref a0, .int 1].toArray s 0 0 A) (F0 m 13 ls []) := by
      intro n
      induction n with
      | zero => intro i_5 x_4 ex_4 hi hn; exact absurd hn (by omega)
      | succ n ih =>
        intro i_5 x_4 ex_4 hi hn H locs hP hD hS ls hl
        refine lv_iload_n hx hb dX12_fewest_13 rfl (lv_at hl 0 rfl) ?_
        refine lv_sipush (v := 256) hx hb dX12_fewest_14 (by decide) ?_
        refine lv_icmp_ge (tgt := 33) hx hb dX12_fewest_17 (by decide) (fun c_6 => ?_) (fun c_6 => ?_)
        · skip
          have hge : 256 ≤ i_5 := by rcases Nat.lt_or_ge i_5 256 with q | q; exact absurd c_6 (by rw [ex_4]; exact nI_ge (b := 256) q (by omega)); exact q
          have hiN : i_5 = 256 := by omega
          refine lv_aload_n hx hb dX12_fewest_33 rfl (lv_at hl 1 rfl) ?_
          refine lv_iload_n hx hb dX12_fewest_34 rfl (lv_at hl 2 rfl) ?_
          refine tk_ri (wr := [(a25, .inl (cZ, 256, .inl z0))]) (tk_V (As := [.int 1]) (rest := []) (n := 1) hx hb hml hown hU hN (cc_X12_wordsUpTo_0 l (dC, dI) cI cL cZ H.size a0 a1 a2 a3 a4 a5 a6 a7 a8 a9 a10 a11 a12 a13 a14 a15 a16 a17 a18 a19 a20 a21 a22 a23 a24 a25 a26 a27 a28 a29 a30 a31) wd_1169 wd_1170 wd_1171 wd_5 wd_1172 (by decide +kernel) ⟨Nat.le_of_ble_eq_true rfl, Nat.le_of_ble_eq_true rfl⟩ hK hP hD [0, 1] (by decide) rfl 0 12 rfl rfl rfl rfl hl.1 rfl (Nat.le_of_ble_eq_true rfl) dX12_fewest_35 ⟨Nat.le_of_ble_eq_true rfl, Nat.le_of_ble_eq_true rfl⟩) hP hD hS hA [0, 1] [2] rfl rfl (by decide) (by decide) (fun r_7 w_8 H locs hw hP hD hS => ?_)
          obtain ⟨rfl, rfl⟩ := hw
          have hP : va_P (dC, dI) vwCl [(a25, .inl (cZ, 256, .inl z0)), (a0, .inr (12, [.ref a1, .ref a2, .ref a3, .int 0, .ref a4, .int 0, .int 0, .int 0, .int 0, .int 0, .int (-1), .int 0, .int 0, .int 0, .int 0, .ref a5, .ref a6, .ref a7, .ref a8, .ref a9, .ref a10, .ref a11, .ref a12, .int 0, .int 0, .int 0, .int 0, .int 0, .ref a13, .int 0, .ref a14, .ref a15, .int 0, .int 0, .ref a16, .int 0, .ref a17, .ref a18, .int 0, .int (-1), .ref a19, .ref a20, .ref a21, .int 0, .ref a22, .ref a23, .ref a24, .ref a25, .ref a26, .ref a27, .ref a28, .ref a29, .ref a30, .int 0, .int 0, .ref a31])), (a1, .inl (cI, 1560, .inl w0))] H := hP
          have hD : va_D A [(a25, .inl (cZ, 256, .inl z0)), (a0, .inr (12, [.ref a1, .ref a2, .ref a3, .int 0, .ref a4, .int 0, .int 0, .int 0, .int 0, .int 0, .int (-1), .int 0, .int 0, .int 0, .int 0, .ref a5, .ref a6, .ref a7, .ref a8, .ref a9, .ref a10, .ref a11, .ref a12, .int 0, .int 0, .int 0, .int 0, .int 0, .ref a13, .int 0, .ref a14, .ref a15, .int 0, .int 0, .ref a16, .int 0, .ref a17, .ref a18, .int 0, .int (-1), .ref a19, .ref a20, .ref a21, .int 0, .ref a22, .ref a23, .ref a24, .ref a25, .ref a26, .ref a27, .ref a28, .ref a29, .ref a30, .int 0, .int 0, .ref a31])), (a1, .inl (cI, 1560, .inl w0))] := hD
          refine lv_istore_n (lv' := [(2, .int 0), (0, .ref a0), (1, .int 1)]) hx hb dX12_fewest_38 rfl hl (by decide) rfl (fun ls hl => ?_)
          refine lv_iconst (v := 0) hx hb dX12_fewest_39 (by decide) ?_
          refine lv_istore_n (lv' := [(3, .int 0), (2, .int 0), (0, .ref a0), (1, .int 1)]) hx hb dX12_fewest_40 rfl hl (by decide) rfl (fun ls hl => ?_)
          refine lv_iload_n hx hb dX12_fewest_41 rfl (lv_at hl 0 rfl) ?_
          refine lv_iload_n hx hb dX12_fewest_42 rfl (lv_at hl 1 rfl) ?_
          refine lv_icmp_ge (tgt := 88) hx hb dX12_fewest_43 (by decide) (fun _ => ?_) (fun c9 => absurd (by decide) c9) 
          refine lv_aload_n hx hb dX12_fewest_88 rfl (lv_at hl 2 rfl) ?_
          refine va_get (D := (dC, dI)) (ci := 12) (v := .ref a1) (C := RX12) (T := TX12) (N := 56) hx hb hU inlX12 hown hK hP 1 rfl rfl 0 (by decide) (hU _ wd_169) (fun _ h9 => h9) rfl dX12_fewest_89 ?_
          refine lv_bipush (v := 40) hx hb dX12_fewest_92 (by decide) ?_
          refine va_iald hx hb hK hP 2 0 rfl rfl (vp_in_nI (n := 40) (by decide) (by decide)) dX12_fewest_94 ?_
          refine tk_topi (y := 0) (by decide) ?_
          refine lv_istore_n (lv' := [(3, .int 0), (2, .int 0), (0, .ref a0), (1, .int 1)]) hx hb dX12_fewest_95 rfl hl (by decide) rfl (fun ls hl => ?_)
          refine lv_iconst (v := 0) hx hb dX12_fewest_96 (by decide) ?_
          refine lv_istore (lv' := [(4, .int 0), (3, .int 0), (2, .int 0), (0, .ref a0), (1, .int 1)]) hx hb dX12_fewest_97 hl (by decide) rfl (fun ls hl => ?_)
          refine lv_iload hx hb dX12_fewest_99 (lv_at hl 0 rfl) ?_
          refine lv_aload_n hx hb dX12_fewest_101 rfl (lv_at hl 3 rfl) ?_
          refine va_get (D := (dC, dI)) (ci := 12) (v := .ref a1) (C := RX12) (T := TX12) (N := 56) hx hb hU inlX12 hown hK hP 1 rfl rfl 0 (by decide) (hU _ wd_169) (fun _ h9 => h9) rfl dX12_fewest_102 ?_
          refine lv_bipush (v := 40) hx hb dX12_fewest_105 (by decide) ?_
          refine va_iald hx hb hK hP 2 0 rfl rfl (vp_in_nI (n := 40) (by decide) (by decide)) dX12_fewest_107 ?_
          refine tk_topi (y := 0) (by decide) ?_
          refine lv_icmp_gt (tgt := 157) hx hb dX12_fewest_108 (by decide) (fun c9 => absurd c9 (by decide)) (fun _ => ?_)
          refine lv_iload hx hb dX12_fewest_111 (lv_at hl 0 rfl) ?_
          refine lv_aload_n hx hb dX12_fewest_113 rfl (lv_at hl 3 rfl) ?_
          refine va_get (D := (dC, dI)) (ci := 12) (v := .ref a1) (C := RX12) (T := TX12) (N := 56) hx hb hU inlX12 hown hK hP 1 rfl rfl 0 (by decide) (hU _ wd_169) (fun _ h9 => h9) rfl dX12_fewest_114 ?_
          refine lv_bipush (v := 40) hx hb dX12_fewest_117 (by decide) ?_
          refine va_iald hx hb hK hP 2 0 rfl rfl (vp_in_nI (n := 40) (by decide) (by decide)) dX12_fewest_119 ?_
          refine tk_topi (y := 0) (by decide) ?_
          refine lv_iconst (v := (-1)) hx hb dX12_fewest_120 (by decide) ?_
          refine lv_ixor hx hb dX12_fewest_121 ?_
          refine tk_topi (y := (-1)) (by decide) ?_
          refine lv_iand hx hb dX12_fewest_122 ?_
          refine tk_topi (y := 0) (by decide) ?_
          refine lv_if_ne (tgt := 151) hx hb dX12_fewest_123 (by decide) (fun c9 => absurd (by decide) c9) (fun _ => ?_)
          refine lv_aload_n hx hb dX12_fewest_126 rfl (lv_at hl 3 rfl) ?_
          refine va_get (D := (dC, dI)) (ci := 12) (v := .ref a25) (C := RX12) (T := TX12) (N := 56) hx hb hU inlX12 hown hK hP 1 rfl rfl 47 (by decide) (hU _ wd_197) (fun _ h9 => h9) rfl dX12_fewest_127 ?_
          refine lv_iload hx hb dX12_fewest_130 (lv_at hl 0 rfl) ?_
          refine va_zald hx hb hK hP 0 2 rfl rfl (vp_in_nI (n := 0) (by decide) (by decide)) dX12_fewest_132 ?_
          refine tk_topi (y := 0) rfl ?_
          refine lv_if_ne (tgt := 151) hx hb dX12_fewest_133 (by decide) (fun c9 => absurd (by decide) c9) (fun _ => ?_)
          refine lv_iload hx hb dX12_fewest_136 (lv_at hl 0 rfl) ?_
          refine tk_ri (wr := [(a25, .inl (cZ, 256, .inl z0)), (a0, .inr (12, [.ref a1, .ref a2, .ref a3, .int 0, .ref a4, .int 0, .int 0, .int 0, .int 0, .int 0, .int (-1), .int 0, .int 0, .int 0, .int 0, .ref a5, .ref a6, .ref a7, .ref a8, .ref a9, .ref a10, .ref a11, .ref a12, .int 0, .int 0, .int 0, .int 0, .int 0, .ref a13, .int 0, .ref a14, .ref a15, .int 0, .int 0, .ref a16, .int 0, .ref a17, .ref a18, .int 0, .int (-1), .ref a19, .ref a20, .ref a21, .int 0, .ref a22, .ref a23, .ref a24, .ref a25, .ref a26, .ref a27, .ref a28, .ref a29, .ref a30, .int 0, .int 0, .ref a31])), (a1, .inl (cI, 1560, .inl w0))]) (tk_S (As := [.int 0]) (rest := []) (n := 1) hx hb hml hown hU hN (cc_X12_count_0 l (dC, dI) cI cL cZ H.size ) wd_1380 wd_1381 wd_5 wd_1382 (by decide +kernel) ⟨Nat.le_of_ble_eq_true rfl, Nat.le_of_ble_eq_true rfl⟩ hK hP hD [] (by decide) rfl rfl hl.1 rfl (Nat.le_of_ble_eq_true rfl) dX12_fewest_138 ⟨Nat.le_of_ble_eq_true rfl, Nat.le_of_ble_eq_true rfl⟩) hP hD hS hA [] [0, 1, 2] rfl rfl (by decide) (by decide) (fun r_9 w_10 H locs hw hP hD hS => ?_)
          obtain ⟨rfl, rfl⟩ := hw
          have hP : va_P (dC, dI) vwCl [(a25, .inl (cZ, 256, .inl z0)), (a0, .inr (12, [.ref a1, .ref a2, .ref a3, .int 0, .ref a4, .int 0, .int 0, .int 0, .int 0, .int 0, .int (-1), .int 0, .int 0, .int 0, .int 0, .ref a5, .ref a6, .ref a7, .ref a8, .ref a9, .ref a10, .ref a11, .ref a12, .int 0, .int 0, .int 0, .int 0, .int 0, .ref a13, .int 0, .ref a14, .ref a15, .int 0, .int 0, .ref a16, .int 0, .ref a17, .ref a18, .int 0, .int (-1), .ref a19, .ref a20, .ref a21, .int 0, .ref a22, .ref a23, .ref a24, .ref a25, .ref a26, .ref a27, .ref a28, .ref a29, .ref a30, .int 0, .int 0, .ref a31])), (a1, .inl (cI, 1560, .inl w0))] H := hP
          have hD : va_D A [(a25, .inl (cZ, 256, .inl z0)), (a0, .inr (12, [.ref a1, .ref a2, .ref a3, .int 0, .ref a4, .int 0, .int 0, .int 0, .int 0, .int 0, .int (-1), .int 0, .int 0, .int 0, .int 0, .ref a5, .ref a6, .ref a7, .ref a8, .ref a9, .ref a10, .ref a11, .ref a12, .int 0, .int 0, .int 0, .int 0, .int 0, .ref a13, .int 0, .ref a14, .ref a15, .int 0, .int 0, .ref a16, .int 0, .ref a17, .ref a18, .int 0, .int (-1), .ref a19, .ref a20, .ref a21, .int 0, .ref a22, .ref a23, .ref a24, .ref a25, .ref a26, .ref a27, .ref a28, .ref a29, .ref a30, .int 0, .int 0, .ref a31])), (a1, .inl (cI, 1560, .inl w0))] := hD
          refine lv_iload_n hx hb dX12_fewest_141 rfl (lv_at hl 1 rfl) ?_
          refine tk_ri (wr := [(a25, .inl (cZ, 256, .inl z0)), (a0, .inr (12, [.ref a1, .ref a2, .ref a3, .int 0, .ref a4, .int 0, .int 0, .int 0, .int 0, .int 0, .int (-1), .int 0, .int 0, .int 0, .int 0, .ref a5, .ref a6, .ref a7, .ref a8, .ref a9, .ref a10, .ref a11, .ref a12, .int 0, .int 0, .int 0, .int 0, .int 0, .ref a13, .int 0, .ref a14, .ref a15, .int 0, .int 0, .ref a16, .int 0, .ref a17, .ref a18, .int 0, .int (-1), .ref a19, .ref a20, .ref a21, .int 0, .ref a22, .ref a23, .ref a24, .ref a25, .ref a26, .ref a27, .ref a28, .ref a29, .ref a30, .int 0, .int 0, .ref a31])), (a1, .inl (cI, 1560, .inl w0))]) (tk_S (As := [.int 0]) (rest := [.int 0]) (n := 1) hx hb hml hown hU hN (cc_X12_count_0 l (dC, dI) cI cL cZ H.size ) wd_1380 wd_1381 wd_5 wd_1382 (by decide +kernel) ⟨Nat.le_of_ble_eq_true rfl, Nat.le_of_ble_eq_true rfl⟩ hK hP hD [] (by decide) rfl rfl hl.1 rfl (Nat.le_of_ble_eq_true rfl) dX12_fewest_142 ⟨Nat.le_of_ble_eq_true rfl, Nat.le_of_ble_eq_true rfl⟩) hP hD hS hA [] [0, 1, 2] rfl rfl (by decide) (by decide) (fun r_11 w_12 H locs hw hP hD hS => ?_)
          obtain ⟨rfl, rfl⟩ := hw
          have hP : va_P (dC, dI) vwCl [(a25, .inl (cZ, 256, .inl z0)), (a0, .inr (12, [.ref a1, .ref a2, .ref a3, .int 0, .ref a4, .int 0, .int 0, .int 0, .int 0, .int 0, .int (-1), .int 0, .int 0, .int 0, .int 0, .ref a5, .ref a6, .ref a7, .ref a8, .ref a9, .ref a10, .ref a11, .ref a12, .int 0, .int 0, .int 0, .int 0, .int 0, .ref a13, .int 0, .ref a14, .ref a15, .int 0, .int 0, .ref a16, .int 0, .ref a17, .ref a18, .int 0, .int (-1), .ref a19, .ref a20, .ref a21, .int 0, .ref a22, .ref a23, .ref a24, .ref a25, .ref a26, .ref a27, .ref a28, .ref a29, .ref a30, .int 0, .int 0, .ref a31])), (a1, .inl (cI, 1560, .inl w0))] H := hP
          have hD : va_D A [(a25, .inl (cZ, 256, .inl z0)), (a0, .inr (12, [.ref a1, .ref a2, .ref a3, .int 0, .ref a4, .int 0, .int 0, .int 0, .int 0, .int 0, .int (-1), .int 0, .int 0, .int 0, .int 0, .ref a5, .ref a6, .ref a7, .ref a8, .ref a9, .ref a10, .ref a11, .ref a12, .int 0, .int 0, .int 0, .int 0, .int 0, .ref a13, .int 0, .ref a14, .ref a15, .int 0, .int 0, .ref a16, .int 0, .ref a17, .ref a18, .int 0, .int (-1), .ref a19, .ref a20, .ref a21, .int 0, .ref a22, .ref a23, .ref a24, .ref a25, .ref a26, .ref a27, .ref a28, .ref a29, .ref a30, .int 0, .int 0, .ref a31])), (a1, .inl (cI, 1560, .inl w0))] := hD
          refine lv_icmp_ge (tgt := 151) hx hb dX12_fewest_145 (by decide) (fun _ => ?_) (fun c9 => absurd (by decide) c9) 
          refine lv_iinc (v := 1) (lv' := [(4, .int 1), (3, .int 0), (2, .int 0), (0, .ref a0), (1, .int 1)]) hx hb dX12_fewest_151 hl (k := 0) rfl (by decide) (by decide) rfl (fun ls hl => ?_)
          refine lv_goto (tgt := 99) hx hb dX12_fewest_154 (by decide) ?_
          refine lv_iload hx hb dX12_fewest_99 (lv_at hl 0 rfl) ?_
          refine lv_aload_n hx hb dX12_fewest_101 rfl (lv_at hl 3 rfl) ?_
          refine va_get (D := (dC, dI)) (ci := 12) (v := .ref a1) (C := RX12) (T := TX12) (N := 56) hx hb hU inlX12 hown hK hP 1 rfl rfl 0 (by decide) (hU _ wd_169) (fun _ h9 => h9) rfl dX12_fewest_102 ?_
          refine lv_bipush (v := 40) hx hb dX12_fewest_105 (by decide) ?_
          refine va_iald hx hb hK hP 2 0 rfl rfl (vp_in_nI (n := 40) (by decide) (by decide)) dX12_fewest_107 ?_
          refine tk_topi (y := 0) (by decide) ?_
          refine lv_icmp_gt (tgt := 157) hx hb dX12_fewest_108 (by decide) (fun _ => ?_) (fun c9 => absurd (by decide) c9) 
          refine lv_iload_n hx hb dX12_fewest_157 rfl (lv_at hl 1 rfl) ?_
          have hP9 := hP.sub (ws' := []) [] rfl
          have hD9 := hD.sub (ws' := []) [] (by decide) rfl
          refine W.widen (k := 0) (n := 0) (Nat.le_of_ble_eq_true rfl) (Nat.le_of_ble_eq_true rfl) ?_
          exact W.iret (v := 0) hx hb hr (fun t ht hW => ⟨⟨0, [], rfl, ⟨by decide, rfl⟩, by rw [ht]; exact hP9, va_K.moved hW.alike hK, hD9⟩, hS.F ht⟩) hS.2.2 dX12_fewest_158
        · skip
          have hlt : i_5 < 256 := by rcases Nat.lt_or_ge i_5 256 with q | q; exact q; exact absurd (by rw [ex_4]; exact nI_le (a := 256) q (by omega)) c_6
          refine lv_aload_n hx hb dX12_fewest_20 rfl (lv_at hl 1 rfl) ?_
          refine va_get (D := (dC, dI)) (ci := 12) (v := .ref a25) (C := RX12) (T := TX12) (N := 56) hx hb hU inlX12 hown hK hP 0 rfl rfl 47 (by decide) (hU _ wd_197) (fun _ h9 => h9) rfl dX12_fewest_21 ?_
          refine lv_iload_n hx hb dX12_fewest_24 rfl (lv_at hl 0 rfl) ?_
          refine lv_iconst (v := 0) hx hb dX12_fewest_25 (by decide) ?_
          refine va_zast hx hb hK hP hD hS 2 2 rfl rfl (by rw [ex_4]; exact vp_in_nI (by omega) (by omega)) dX12_fewest_26 (fun H locs hP hD hS => ?_)
          have hP : va_P (dC, dI) vwCl [(a0, .inr (12, [.ref a1, .ref a2, .ref a3, .int 0, .ref a4, .int 0, .int 0, .int 0, .int 0, .int 0, .int (-1), .int 0, .int 0, .int 0, .int 0, .ref a5, .ref a6, .ref a7, .ref a8, .ref a9, .ref a10, .ref a11, .ref a12, .int 0, .int 0, .int 0, .int 0, .int 0, .ref a13, .int 0, .ref a14, .ref a15, .int 0, .int 0, .ref a16, .int 0, .ref a17, .ref a18, .int 0, .int (-1), .ref a19, .ref a20, .ref a21, .int 0, .ref a22, .ref a23, .ref a24, .ref a25, .ref a26, .ref a27, .ref a28, .ref a29, .ref a30, .int 0, .int 0, .ref a31])), (a1, .inl (cI, 1560, .inl w0)), (a25, .inl (cZ, 256, .inl z0))] H := by rw [upd_z0b] at hP; exact hP
          have hD : va_D A [(a0, .inr (12, [.ref a1, .ref a2, .ref a3, .int 0, .ref a4, .int 0, .int 0, .int 0, .int 0, .int 0, .int (-1), .int 0, .int 0, .int 0, .int 0, .ref a5, .ref a6, .ref a7, .ref a8, .ref a9, .ref a10, .ref a11, .ref a12, .int 0, .int 0, .int 0, .int 0, .int 0, .ref a13, .int 0, .ref a14, .ref a15, .int 0, .int 0, .ref a16, .int 0, .ref a17, .ref a18, .int 0, .int (-1), .ref a19, .ref a20, .ref a21, .int 0, .ref a22, .ref a23, .ref a24, .ref a25, .ref a26, .ref a27, .ref a28, .ref a29, .ref a30, .int 0, .int 0, .ref a31])), (a1, .inl (cI, 1560, .inl w0)), (a25, .inl (cZ, 256, .inl z0))] := by rw [upd_z0b] at hD; exact hD
          obtain ⟨x_13, ex_13⟩ : ∃ y : Int32, x_4 + 1 = y := ⟨_, rfl⟩
          refine lv_iinc (v := x_13) (lv' := [(2, .int x_13), (0, .ref a0), (1, .int 1)]) hx hb dX12_fewest_27 hl (k := 0) rfl ex_13 (by decide) rfl (fun ls hl => ?_)
          refine lv_goto (tgt := 13) hx hb dX12_fewest_30 (by decide) ?_
          exact ih (i_5 + 1) x_13 (by rw [← ex_13, ex_4]; exact nI_1 i_5) (by omega) (by omega) _ _ hP hD hS ls (lv_sub hl [0, 1, 2] rfl)
    exact hloop_13 (256 + 1) 0 0 nI_0.symm (Nat.zero_le _) (by omega) _ _ hP hD hS ls hl
  by_cases c_14 : x0 = 2
  · subst c_14
    refine lv_iload_n hx hb dX12_fewest_0 rfl (lv_at hl 1 rfl) ?_
    refine lv_iconst (v := 1) hx hb dX12_fewest_1 (by decide) ?_
    refine lv_iconst (v := 2) hx hb dX12_fewest_2 (by decide) ?_
    refine tk_ri (wr := [(a0, .inr (12, [.ref a1, .ref a2, .ref a3, .int 0, .ref a4, .int 0, .int 0, .int 0, .int 0, .int 0, .int (-1), .int 0, .int 0, .int 0, .int 0, .ref a5, .ref a6, .ref a7, .ref a8, .ref a9, .ref a10, .ref a11, .ref a12, .int 0, .int 0, .int 0, .int 0, .int 0, .ref a13, .int 0, .ref a14, .ref a15, .int 0, .int 0, .ref a16, .int 0, .ref a17, .ref a18, .int 0, .int (-1), .ref a19, .ref a20, .ref a21, .int 0, .ref a22, .ref a23, .ref a24, .ref a25, .ref a26, .ref a27, .ref a28, .ref a29, .ref a30, .int 0, .int 0, .ref a31])), (a1, .inl (cI, 1560, .inl w0)), (a25, .inl (cZ, 256, .inl z0))]) (tk_S (As := [.int 2, .int 1, .int 2]) (rest := []) (n := 3) hx hb hml hown hU hN (cc_X12_isIn_10 l (dC, dI) cI cL cZ s.heap.size ) wd_227 wd_228 wd_5 wd_229 (by decide +kernel) ⟨Nat.le_of_ble_eq_true rfl, Nat.le_of_ble_eq_true rfl⟩ hK hP hD [] (by decide) rfl rfl hl.1 rfl (Nat.le_of_ble_eq_true rfl) dX12_fewest_3 ⟨Nat.le_of_ble_eq_true rfl, Nat.le_of_ble_eq_true rfl⟩) hP hD hS hA [] [0, 1, 2] rfl rfl (by decide) (by decide) (fun r_15 w_16 H locs hw hP hD hS => ?_)
    obtain ⟨rfl, rfl⟩ := hw
    have hP : va_P (dC, dI) vwCl [(a0, .inr (12, [.ref a1, .ref a2, .ref a3, .int 0, .ref a4, .int 0, .int 0, .int 0, .int 0, .int 0, .int (-1), .int 0, .int 0, .int 0, .int 0, .ref a5, .ref a6, .ref a7, .ref a8, .ref a9, .ref a10, .ref a11, .ref a12, .int 0, .int 0, .int 0, .int 0, .int 0, .ref a13, .int 0, .ref a14, .ref a15, .int 0, .int 0, .ref a16, .int 0, .ref a17, .ref a18, .int 0, .int (-1), .ref a19, .ref a20, .ref a21, .int 0, .ref a22, .ref a23, .ref a24, .ref a25, .ref a26, .ref a27, .ref a28, .ref a29, .ref a30, .int 0, .int 0, .ref a31])), (a1, .inl (cI, 1560, .inl w0)), (a25, .inl (cZ, 256, .inl z0))] H := hP
    have hD : va_D A [(a0, .inr (12, [.ref a1, .ref a2, .ref a3, .int 0, .ref a4, .int 0, .int 0, .int 0, .int 0, .int 0, .int (-1), .int 0, .int 0, .int 0, .int 0, .ref a5, .ref a6, .ref a7, .ref a8, .ref a9, .ref a10, .ref a11, .ref a12, .int 0, .int 0, .int 0, .int 0, .int 0, .ref a13, .int 0, .ref a14, .ref a15, .int 0, .int 0, .ref a16, .int 0, .ref a17, .ref a18, .int 0, .int (-1), .ref a19, .ref a20, .ref a21, .int 0, .ref a22, .ref a23, .ref a24, .ref a25, .ref a26, .ref a27, .ref a28, .ref a29, .ref a30, .int 0, .int 0, .ref a31])), (a1, .inl (cI, 1560, .inl w0)), (a25, .inl (cZ, 256, .inl z0))] := hD
    refine lv_if_ne (tgt := 11) hx hb dX12_fewest_6 (by decide) (fun _ => ?_) (fun c9 => absurd c9 (by decide)) 
    refine lv_iconst (v := 0) hx hb dX12_fewest_11 (by decide) ?_
    refine lv_istore_n (lv' := [(2, .int 0), (0, .ref a0), (1, .int 2)]) hx hb dX12_fewest_12 rfl hl (by decide) rfl (fun ls hl => ?_)
    have hloop_13 : ∀ (n i_18 : Nat) (x_17 : Int32), x_17 = nI i_18 → i_18 ≤ 256 → 256 + 1 ≤ i_18 + n → ∀ (H : Heap) (locs : List Loc), va_P (dC, dI) vwCl [(a0, .inr (12, [.ref a1, .ref a2, .ref a3, .int 0, .ref a4, .int 0, .int 0, .int 0, .int 0, .int 0, .int (-1), .int 0, .int 0, .int 0, .int 0, .ref a5, .ref a6, .ref a7, .ref a8, .ref a9, .ref a10, .ref a11, .ref a12, .int 0, .int 0, .int 0, .int 0, .int 0, .ref a13, .int 0, .ref a14, .ref a15, .int 0, .int 0, .ref a16, .int 0, .ref a17, .ref a18, .int 0, .int (-1), .ref a19, .ref a20, .ref a21, .int 0, .ref a22, .ref a23, .ref a24, .ref a25, .ref a26, .ref a27, .ref a28, .ref a29, .ref a30, .int 0, .int 0, .ref a31])), (a1, .inl (cI, 1560, .inl w0)), (a25, .inl (cZ, 256, .inl z0))] H → va_D A [(a0, .inr (12, [.ref a1, .ref a2, .ref a3, .int 0, .ref a4, .int 0, .int 0, .int 0, .int 0, .int 0, .int (-1), .int 0, .int 0, .int 0, .int 0, .ref a5, .ref a6, .ref a7, .ref a8, .ref a9, .ref a10, .ref a11, .ref a12, .int 0, .int 0, .int 0, .int 0, .int 0, .ref a13, .int 0, .ref a14, .ref a15, .int 0, .int 0, .ref a16, .int 0, .ref a17, .ref a18, .int 0, .int (-1), .ref a19, .ref a20, .ref a21, .int 0, .ref a22, .ref a23, .ref a24, .ref a25, .ref a26, .ref a27, .ref a28, .ref a29, .ref a30, .int 0, .int 0, .ref a31])), (a1, .inl (cI, 1560, .inl w0)), (a25, .inl (cZ, 256, .inl z0))] → va_S A s.heap H locs → ∀ (ls : Array Slot), lv_has ls 5 [(2, .int x_17), (0, .ref a0), (1, .int 2)] → W p l e (headSpec (wU yX12_fewest cX12_fewest 5 (some .int)) { frames := 1, cells := 0, slots := 0, locals := 24 }).room s m [.ref a0, .int 2].toArray below meth c H locs 0 0 (MQ below (va_Qi (fun (r : Int32) (w1 : va_W) => r = (an_fewest 2) ∧ w1 = ([] : va_W)) (qB (dC, dI) cI cL cZ A) A) [.ref a0, .int 2].toArray s 0 0 A) (F0 m 13 ls []) := by
      intro n
      induction n with
      | zero => intro i_18 x_17 ex_17 hi hn; exact absurd hn (by omega)
      | succ n ih =>
        intro i_18 x_17 ex_17 hi hn H locs hP hD hS ls hl
        refine lv_iload_n hx hb dX12_fewest_13 rfl (lv_at hl 0 rfl) ?_
        refine lv_sipush (v := 256) hx hb dX12_fewest_14 (by decide) ?_
        refine lv_icmp_ge (tgt := 33) hx hb dX12_fewest_17 (by decide) (fun c_19 => ?_) (fun c_19 => ?_)
        · skip
          have hge : 256 ≤ i_18 := by rcases Nat.lt_or_ge i_18 256 with q | q; exact absurd c_19 (by rw [ex_17]; exact nI_ge (b := 256) q (by omega)); exact q
          have hiN : i_18 = 256 := by omega
          refine lv_aload_n hx hb dX12_fewest_33 rfl (lv_at hl 1 rfl) ?_
          refine lv_iload_n hx hb dX12_fewest_34 rfl (lv_at hl 2 rfl) ?_
          refine tk_ri (wr := [(a25, .inl (cZ, 256, .inl z0))]) (tk_V (As := [.int 2]) (rest := []) (n := 1) hx hb hml hown hU hN (cc_X12_wordsUpTo_1 l (dC, dI) cI cL cZ H.size a0 a1 a2 a3 a4 a5 a6 a7 a8 a9 a10 a11 a12 a13 a14 a15 a16 a17 a18 a19 a20 a21 a22 a23 a24 a25 a26 a27 a28 a29 a30 a31) wd_1169 wd_1170 wd_1171 wd_5 wd_1172 (by decide +kernel) ⟨Nat.le_of_ble_eq_true rfl, Nat.le_of_ble_eq_true rfl⟩ hK hP hD [0, 1] (by decide) rfl 0 12 rfl rfl rfl rfl hl.1 rfl (Nat.le_of_ble_eq_true rfl) dX12_fewest_35 ⟨Nat.le_of_ble_eq_true rfl, Nat.le_of_ble_eq_true rfl⟩) hP hD hS hA [0, 1] [2] rfl rfl (by decide) (by decide) (fun r_20 w_21 H locs hw hP hD hS => ?_)
          obtain ⟨rfl, rfl⟩ := hw
          have hP : va_P (dC, dI) vwCl [(a25, .inl (cZ, 256, .inl z0)), (a0, .inr (12, [.ref a1, .ref a2, .ref a3, .int 0, .ref a4, .int 0, .int 0, .int 0, .int 0, .int 0, .int (-1), .int 0, .int 0, .int 0, .int 0, .ref a5, .ref a6, .ref a7, .ref a8, .ref a9, .ref a10, .ref a11, .ref a12, .int 0, .int 0, .int 0, .int 0, .int 0, .ref a13, .int 0, .ref a14, .ref a15, .int 0, .int 0, .ref a16, .int 0, .ref a17, .ref a18, .int 0, .int (-1), .ref a19, .ref a20, .ref a21, .int 0, .ref a22, .ref a23, .ref a24, .ref a25, .ref a26, .ref a27, .ref a28, .ref a29, .ref a30, .int 0, .int 0, .ref a31])), (a1, .inl (cI, 1560, .inl w0))] H := hP
          have hD : va_D A [(a25, .inl (cZ, 256, .inl z0)), (a0, .inr (12, [.ref a1, .ref a2, .ref a3, .int 0, .ref a4, .int 0, .int 0, .int 0, .int 0, .int 0, .int (-1), .int 0, .int 0, .int 0, .int 0, .ref a5, .ref a6, .ref a7, .ref a8, .ref a9, .ref a10, .ref a11, .ref a12, .int 0, .int 0, .int 0, .int 0, .int 0, .ref a13, .int 0, .ref a14, .ref a15, .int 0, .int 0, .ref a16, .int 0, .ref a17, .ref a18, .int 0, .int (-1), .ref a19, .ref a20, .ref a21, .int 0, .ref a22, .ref a23, .ref a24, .ref a25, .ref a26, .ref a27, .ref a28, .ref a29, .ref a30, .int 0, .int 0, .ref a31])), (a1, .inl (cI, 1560, .inl w0))] := hD
          refine lv_istore_n (lv' := [(2, .int 0), (0, .ref a0), (1, .int 2)]) hx hb dX12_fewest_38 rfl hl (by decide) rfl (fun ls hl => ?_)
          refine lv_iconst (v := 0) hx hb dX12_fewest_39 (by decide) ?_
          refine lv_istore_n (lv' := [(3, .int 0), (2, .int 0), (0, .ref a0), (1, .int 2)]) hx hb dX12_fewest_40 rfl hl (by decide) rfl (fun ls hl => ?_)
          refine lv_iload_n hx hb dX12_fewest_41 rfl (lv_at hl 0 rfl) ?_
          refine lv_iload_n hx hb dX12_fewest_42 rfl (lv_at hl 1 rfl) ?_
          refine lv_icmp_ge (tgt := 88) hx hb dX12_fewest_43 (by decide) (fun _ => ?_) (fun c9 => absurd (by decide) c9) 
          refine lv_aload_n hx hb dX12_fewest_88 rfl (lv_at hl 2 rfl) ?_
          refine va_get (D := (dC, dI)) (ci := 12) (v := .ref a1) (C := RX12) (T := TX12) (N := 56) hx hb hU inlX12 hown hK hP 1 rfl rfl 0 (by decide) (hU _ wd_169) (fun _ h9 => h9) rfl dX12_fewest_89 ?_
          refine lv_bipush (v := 40) hx hb dX12_fewest_92 (by decide) ?_
          refine va_iald hx hb hK hP 2 0 rfl rfl (vp_in_nI (n := 40) (by decide) (by decide)) dX12_fewest_94 ?_
          refine tk_topi (y := 0) (by decide) ?_
          refine lv_istore_n (lv' := [(3, .int 0), (2, .int 0), (0, .ref a0), (1, .int 2)]) hx hb dX12_fewest_95 rfl hl (by decide) rfl (fun ls hl => ?_)
          refine lv_iconst (v := 0) hx hb dX12_fewest_96 (by decide) ?_
          refine lv_istore (lv' := [(4, .int 0), (3, .int 0), (2, .int 0), (0, .ref a0), (1, .int 2)]) hx hb dX12_fewest_97 hl (by decide) rfl (fun ls hl => ?_)
          refine lv_iload hx hb dX12_fewest_99 (lv_at hl 0 rfl) ?_
          refine lv_aload_n hx hb dX12_fewest_101 rfl (lv_at hl 3 rfl) ?_
          refine va_get (D := (dC, dI)) (ci := 12) (v := .ref a1) (C := RX12) (T := TX12) (N := 56) hx hb hU inlX12 hown hK hP 1 rfl rfl 0 (by decide) (hU _ wd_169) (fun _ h9 => h9) rfl dX12_fewest_102 ?_
          refine lv_bipush (v := 40) hx hb dX12_fewest_105 (by decide) ?_
          refine va_iald hx hb hK hP 2 0 rfl rfl (vp_in_nI (n := 40) (by decide) (by decide)) dX12_fewest_107 ?_
          refine tk_topi (y := 0) (by decide) ?_
          refine lv_icmp_gt (tgt := 157) hx hb dX12_fewest_108 (by decide) (fun c9 => absurd c9 (by decide)) (fun _ => ?_)
          refine lv_iload hx hb dX12_fewest_111 (lv_at hl 0 rfl) ?_
          refine lv_aload_n hx hb dX12_fewest_113 rfl (lv_at hl 3 rfl) ?_
          refine va_get (D := (dC, dI)) (ci := 12) (v := .ref a1) (C := RX12) (T := TX12) (N := 56) hx hb hU inlX12 hown hK hP 1 rfl rfl 0 (by decide) (hU _ wd_169) (fun _ h9 => h9) rfl dX12_fewest_114 ?_
          refine lv_bipush (v := 40) hx hb dX12_fewest_117 (by decide) ?_
          refine va_iald hx hb hK hP 2 0 rfl rfl (vp_in_nI (n := 40) (by decide) (by decide)) dX12_fewest_119 ?_
          refine tk_topi (y := 0) (by decide) ?_
          refine lv_iconst (v := (-1)) hx hb dX12_fewest_120 (by decide) ?_
          refine lv_ixor hx hb dX12_fewest_121 ?_
          refine tk_topi (y := (-1)) (by decide) ?_
          refine lv_iand hx hb dX12_fewest_122 ?_
          refine tk_topi (y := 0) (by decide) ?_
          refine lv_if_ne (tgt := 151) hx hb dX12_fewest_123 (by decide) (fun c9 => absurd (by decide) c9) (fun _ => ?_)
          refine lv_aload_n hx hb dX12_fewest_126 rfl (lv_at hl 3 rfl) ?_
          refine va_get (D := (dC, dI)) (ci := 12) (v := .ref a25) (C := RX12) (T := TX12) (N := 56) hx hb hU inlX12 hown hK hP 1 rfl rfl 47 (by decide) (hU _ wd_197) (fun _ h9 => h9) rfl dX12_fewest_127 ?_
          refine lv_iload hx hb dX12_fewest_130 (lv_at hl 0 rfl) ?_
          refine va_zald hx hb hK hP 0 2 rfl rfl (vp_in_nI (n := 0) (by decide) (by decide)) dX12_fewest_132 ?_
          refine tk_topi (y := 0) rfl ?_
          refine lv_if_ne (tgt := 151) hx hb dX12_fewest_133 (by decide) (fun c9 => absurd (by decide) c9) (fun _ => ?_)
          refine lv_iload hx hb dX12_fewest_136 (lv_at hl 0 rfl) ?_
          refine tk_ri (wr := [(a25, .inl (cZ, 256, .inl z0)), (a0, .inr (12, [.ref a1, .ref a2, .ref a3, .int 0, .ref a4, .int 0, .int 0, .int 0, .int 0, .int 0, .int (-1), .int 0, .int 0, .int 0, .int 0, .ref a5, .ref a6, .ref a7, .ref a8, .ref a9, .ref a10, .ref a11, .ref a12, .int 0, .int 0, .int 0, .int 0, .int 0, .ref a13, .int 0, .ref a14, .ref a15, .int 0, .int 0, .ref a16, .int 0, .ref a17, .ref a18, .int 0, .int (-1), .ref a19, .ref a20, .ref a21, .int 0, .ref a22, .ref a23, .ref a24, .ref a25, .ref a26, .ref a27, .ref a28, .ref a29, .ref a30, .int 0, .int 0, .ref a31])), (a1, .inl (cI, 1560, .inl w0))]) (tk_S (As := [.int 0]) (rest := []) (n := 1) hx hb hml hown hU hN (cc_X12_count_0 l (dC, dI) cI cL cZ H.size ) wd_1380 wd_1381 wd_5 wd_1382 (by decide +kernel) ⟨Nat.le_of_ble_eq_true rfl, Nat.le_of_ble_eq_true rfl⟩ hK hP hD [] (by decide) rfl rfl hl.1 rfl (Nat.le_of_ble_eq_true rfl) dX12_fewest_138 ⟨Nat.le_of_ble_eq_true rfl, Nat.le_of_ble_eq_true rfl⟩) hP hD hS hA [] [0, 1, 2] rfl rfl (by decide) (by decide) (fun r_22 w_23 H locs hw hP hD hS => ?_)
          obtain ⟨rfl, rfl⟩ := hw
          have hP : va_P (dC, dI) vwCl [(a25, .inl (cZ, 256, .inl z0)), (a0, .inr (12, [.ref a1, .ref a2, .ref a3, .int 0, .ref a4, .int 0, .int 0, .int 0, .int 0, .int 0, .int (-1), .int 0, .int 0, .int 0, .int 0, .ref a5, .ref a6, .ref a7, .ref a8, .ref a9, .ref a10, .ref a11, .ref a12, .int 0, .int 0, .int 0, .int 0, .int 0, .ref a13, .int 0, .ref a14, .ref a15, .int 0, .int 0, .ref a16, .int 0, .ref a17, .ref a18, .int 0, .int (-1), .ref a19, .ref a20, .ref a21, .int 0, .ref a22, .ref a23, .ref a24, .ref a25, .ref a26, .ref a27, .ref a28, .ref a29, .ref a30, .int 0, .int 0, .ref a31])), (a1, .inl (cI, 1560, .inl w0))] H := hP
          have hD : va_D A [(a25, .inl (cZ, 256, .inl z0)), (a0, .inr (12, [.ref a1, .ref a2, .ref a3, .int 0, .ref a4, .int 0, .int 0, .int 0, .int 0, .int 0, .int (-1), .int 0, .int 0, .int 0, .int 0, .ref a5, .ref a6, .ref a7, .ref a8, .ref a9, .ref a10, .ref a11, .ref a12, .int 0, .int 0, .int 0, .int 0, .int 0, .ref a13, .int 0, .ref a14, .ref a15, .int 0, .int 0, .ref a16, .int 0, .ref a17, .ref a18, .int 0, .int (-1), .ref a19, .ref a20, .ref a21, .int 0, .ref a22, .ref a23, .ref a24, .ref a25, .ref a26, .ref a27, .ref a28, .ref a29, .ref a30, .int 0, .int 0, .ref a31])), (a1, .inl (cI, 1560, .inl w0))] := hD
          refine lv_iload_n hx hb dX12_fewest_141 rfl (lv_at hl 1 rfl) ?_
          refine tk_ri (wr := [(a25, .inl (cZ, 256, .inl z0)), (a0, .inr (12, [.ref a1, .ref a2, .ref a3, .int 0, .ref a4, .int 0, .int 0, .int 0, .int 0, .int 0, .int (-1), .int 0, .int 0, .int 0, .int 0, .ref a5, .ref a6, .ref a7, .ref a8, .ref a9, .ref a10, .ref a11, .ref a12, .int 0, .int 0, .int 0, .int 0, .int 0, .ref a13, .int 0, .ref a14, .ref a15, .int 0, .int 0, .ref a16, .int 0, .ref a17, .ref a18, .int 0, .int (-1), .ref a19, .ref a20, .ref a21, .int 0, .ref a22, .ref a23, .ref a24, .ref a25, .ref a26, .ref a27, .ref a28, .ref a29, .ref a30, .int 0, .int 0, .ref a31])), (a1, .inl (cI, 1560, .inl w0))]) (tk_S (As := [.int 0]) (rest := [.int 0]) (n := 1) hx hb hml hown hU hN (cc_X12_count_0 l (dC, dI) cI cL cZ H.size ) wd_1380 wd_1381 wd_5 wd_1382 (by decide +kernel) ⟨Nat.le_of_ble_eq_true rfl, Nat.le_of_ble_eq_true rfl⟩ hK hP hD [] (by decide) rfl rfl hl.1 rfl (Nat.le_of_ble_eq_true rfl) dX12_fewest_142 ⟨Nat.le_of_ble_eq_true rfl, Nat.le_of_ble_eq_true rfl⟩) hP hD hS hA [] [0, 1, 2] rfl rfl (by decide) (by decide) (fun r_24 w_25 H locs hw hP hD hS => ?_)
          obtain ⟨rfl, rfl⟩ := hw
          have hP : va_P (dC, dI) vwCl [(a25, .inl (cZ, 256, .inl z0)), (a0, .inr (12, [.ref a1, .ref a2, .ref a3, .int 0, .ref a4, .int 0, .int 0, .int 0, .int 0, .int 0, .int (-1), .int 0, .int 0, .int 0, .int 0, .ref a5, .ref a6, .ref a7, .ref a8, .ref a9, .ref a10, .ref a11, .ref a12, .int 0, .int 0, .int 0, .int 0, .int 0, .ref a13, .int 0, .ref a14, .ref a15, .int 0, .int 0, .ref a16, .int 0, .ref a17, .ref a18, .int 0, .int (-1), .ref a19, .ref a20, .ref a21, .int 0, .ref a22, .ref a23, .ref a24, .ref a25, .ref a26, .ref a27, .ref a28, .ref a29, .ref a30, .int 0, .int 0, .ref a31])), (a1, .inl (cI, 1560, .inl w0))] H := hP
          have hD : va_D A [(a25, .inl (cZ, 256, .inl z0)), (a0, .inr (12, [.ref a1, .ref a2, .ref a3, .int 0, .ref a4, .int 0, .int 0, .int 0, .int 0, .int 0, .int (-1), .int 0, .int 0, .int 0, .int 0, .ref a5, .ref a6, .ref a7, .ref a8, .ref a9, .ref a10, .ref a11, .ref a12, .int 0, .int 0, .int 0, .int 0, .int 0, .ref a13, .int 0, .ref a14, .ref a15, .int 0, .int 0, .ref a16, .int 0, .ref a17, .ref a18, .int 0, .int (-1), .ref a19, .ref a20, .ref a21, .int 0, .ref a22, .ref a23, .ref a24, .ref a25, .ref a26, .ref a27, .ref a28, .ref a29, .ref a30, .int 0, .int 0, .ref a31])), (a1, .inl (cI, 1560, .inl w0))] := hD
          refine lv_icmp_ge (tgt := 151) hx hb dX12_fewest_145 (by decide) (fun _ => ?_) (fun c9 => absurd (by decide) c9) 
          refine lv_iinc (v := 1) (lv' := [(4, .int 1), (3, .int 0), (2, .int 0), (0, .ref a0), (1, .int 2)]) hx hb dX12_fewest_151 hl (k := 0) rfl (by decide) (by decide) rfl (fun ls hl => ?_)
          refine lv_goto (tgt := 99) hx hb dX12_fewest_154 (by decide) ?_
          refine lv_iload hx hb dX12_fewest_99 (lv_at hl 0 rfl) ?_
          refine lv_aload_n hx hb dX12_fewest_101 rfl (lv_at hl 3 rfl) ?_
          refine va_get (D := (dC, dI)) (ci := 12) (v := .ref a1) (C := RX12) (T := TX12) (N := 56) hx hb hU inlX12 hown hK hP 1 rfl rfl 0 (by decide) (hU _ wd_169) (fun _ h9 => h9) rfl dX12_fewest_102 ?_
          refine lv_bipush (v := 40) hx hb dX12_fewest_105 (by decide) ?_
          refine va_iald hx hb hK hP 2 0 rfl rfl (vp_in_nI (n := 40) (by decide) (by decide)) dX12_fewest_107 ?_
          refine tk_topi (y := 0) (by decide) ?_
          refine lv_icmp_gt (tgt := 157) hx hb dX12_fewest_108 (by decide) (fun _ => ?_) (fun c9 => absurd (by decide) c9) 
          refine lv_iload_n hx hb dX12_fewest_157 rfl (lv_at hl 1 rfl) ?_
          have hP9 := hP.sub (ws' := []) [] rfl
          have hD9 := hD.sub (ws' := []) [] (by decide) rfl
          refine W.widen (k := 0) (n := 0) (Nat.le_of_ble_eq_true rfl) (Nat.le_of_ble_eq_true rfl) ?_
          exact W.iret (v := 0) hx hb hr (fun t ht hW => ⟨⟨0, [], rfl, ⟨by decide, rfl⟩, by rw [ht]; exact hP9, va_K.moved hW.alike hK, hD9⟩, hS.F ht⟩) hS.2.2 dX12_fewest_158
        · skip
          have hlt : i_18 < 256 := by rcases Nat.lt_or_ge i_18 256 with q | q; exact q; exact absurd (by rw [ex_17]; exact nI_le (a := 256) q (by omega)) c_19
          refine lv_aload_n hx hb dX12_fewest_20 rfl (lv_at hl 1 rfl) ?_
          refine va_get (D := (dC, dI)) (ci := 12) (v := .ref a25) (C := RX12) (T := TX12) (N := 56) hx hb hU inlX12 hown hK hP 0 rfl rfl 47 (by decide) (hU _ wd_197) (fun _ h9 => h9) rfl dX12_fewest_21 ?_
          refine lv_iload_n hx hb dX12_fewest_24 rfl (lv_at hl 0 rfl) ?_
          refine lv_iconst (v := 0) hx hb dX12_fewest_25 (by decide) ?_
          refine va_zast hx hb hK hP hD hS 2 2 rfl rfl (by rw [ex_17]; exact vp_in_nI (by omega) (by omega)) dX12_fewest_26 (fun H locs hP hD hS => ?_)
          have hP : va_P (dC, dI) vwCl [(a0, .inr (12, [.ref a1, .ref a2, .ref a3, .int 0, .ref a4, .int 0, .int 0, .int 0, .int 0, .int 0, .int (-1), .int 0, .int 0, .int 0, .int 0, .ref a5, .ref a6, .ref a7, .ref a8, .ref a9, .ref a10, .ref a11, .ref a12, .int 0, .int 0, .int 0, .int 0, .int 0, .ref a13, .int 0, .ref a14, .ref a15, .int 0, .int 0, .ref a16, .int 0, .ref a17, .ref a18, .int 0, .int (-1), .ref a19, .ref a20, .ref a21, .int 0, .ref a22, .ref a23, .ref a24, .ref a25, .ref a26, .ref a27, .ref a28, .ref a29, .ref a30, .int 0, .int 0, .ref a31])), (a1, .inl (cI, 1560, .inl w0)), (a25, .inl (cZ, 256, .inl z0))] H := by rw [upd_z0b] at hP; exact hP
          have hD : va_D A [(a0, .inr (12, [.ref a1, .ref a2, .ref a3, .int 0, .ref a4, .int 0, .int 0, .int 0, .int 0, .int 0, .int (-1), .int 0, .int 0, .int 0, .int 0, .ref a5, .ref a6, .ref a7, .ref a8, .ref a9, .ref a10, .ref a11, .ref a12, .int 0, .int 0, .int 0, .int 0, .int 0, .ref a13, .int 0, .ref a14, .ref a15, .int 0, .int 0, .ref a16, .int 0, .ref a17, .ref a18, .int 0, .int (-1), .ref a19, .ref a20, .ref a21, .int 0, .ref a22, .ref a23, .ref a24, .ref a25, .ref a26, .ref a27, .ref a28, .ref a29, .ref a30, .int 0, .int 0, .ref a31])), (a1, .inl (cI, 1560, .inl w0)), (a25, .inl (cZ, 256, .inl z0))] := by rw [upd_z0b] at hD; exact hD
          obtain ⟨x_26, ex_26⟩ : ∃ y : Int32, x_17 + 1 = y := ⟨_, rfl⟩
          refine lv_iinc (v := x_26) (lv' := [(2, .int x_26), (0, .ref a0), (1, .int 2)]) hx hb dX12_fewest_27 hl (k := 0) rfl ex_26 (by decide) rfl (fun ls hl => ?_)
          refine lv_goto (tgt := 13) hx hb dX12_fewest_30 (by decide) ?_
          exact ih (i_18 + 1) x_26 (by rw [← ex_26, ex_17]; exact nI_1 i_18) (by omega) (by omega) _ _ hP hD hS ls (lv_sub hl [0, 1, 2] rfl)
    exact hloop_13 (256 + 1) 0 0 nI_0.symm (Nat.zero_le _) (by omega) _ _ hP hD hS ls hl
  refine lv_iload_n hx hb dX12_fewest_0 rfl (lv_at hl 1 rfl) ?_
  refine lv_iconst (v := 1) hx hb dX12_fewest_1 (by decide) ?_
  refine lv_iconst (v := 2) hx hb dX12_fewest_2 (by decide) ?_
  refine tk_ri (wr := [(a0, .inr (12, [.ref a1, .ref a2, .ref a3, .int 0, .ref a4, .int 0, .int 0, .int 0, .int 0, .int 0, .int (-1), .int 0, .int 0, .int 0, .int 0, .ref a5, .ref a6, .ref a7, .ref a8, .ref a9, .ref a10, .ref a11, .ref a12, .int 0, .int 0, .int 0, .int 0, .int 0, .ref a13, .int 0, .ref a14, .ref a15, .int 0, .int 0, .ref a16, .int 0, .ref a17, .ref a18, .int 0, .int (-1), .ref a19, .ref a20, .ref a21, .int 0, .ref a22, .ref a23, .ref a24, .ref a25, .ref a26, .ref a27, .ref a28, .ref a29, .ref a30, .int 0, .int 0, .ref a31])), (a1, .inl (cI, 1560, .inl w0)), (a25, .inl (cZ, 256, .inl z0))]) (tk_S (As := [.int x0, .int 1, .int 2]) (rest := []) (n := 3) hx hb hml hown hU hN (cc_X12_isIn_11 l (dC, dI) cI cL cZ s.heap.size x0) wd_227 wd_228 wd_5 wd_229 (by decide +kernel) ⟨Nat.le_of_ble_eq_true rfl, Nat.le_of_ble_eq_true rfl⟩ hK hP hD [] (by decide) rfl rfl hl.1 rfl (Nat.le_of_ble_eq_true rfl) dX12_fewest_3 ⟨Nat.le_of_ble_eq_true rfl, Nat.le_of_ble_eq_true rfl⟩) hP hD hS hA [] [0, 1, 2] rfl rfl (by decide) (by decide) (fun r_27 w_28 H locs hw hP hD hS => ?_)
  rcases hw with ⟨c_29, rfl, rfl⟩ | ⟨c_30, c_31, rfl, rfl⟩ | ⟨c_32, c_33, rfl, rfl⟩
  · skip
    have hP : va_P (dC, dI) vwCl [(a0, .inr (12, [.ref a1, .ref a2, .ref a3, .int 0, .ref a4, .int 0, .int 0, .int 0, .int 0, .int 0, .int (-1), .int 0, .int 0, .int 0, .int 0, .ref a5, .ref a6, .ref a7, .ref a8, .ref a9, .ref a10, .ref a11, .ref a12, .int 0, .int 0, .int 0, .int 0, .int 0, .ref a13, .int 0, .ref a14, .ref a15, .int 0, .int 0, .ref a16, .int 0, .ref a17, .ref a18, .int 0, .int (-1), .ref a19, .ref a20, .ref a21, .int 0, .ref a22, .ref a23, .ref a24, .ref a25, .ref a26, .ref a27, .ref a28, .ref a29, .ref a30, .int 0, .int 0, .ref a31])), (a1, .inl (cI, 1560, .inl w0)), (a25, .inl (cZ, 256, .inl z0))] H := hP
    have hD : va_D A [(a0, .inr (12, [.ref a1, .ref a2, .ref a3, .int 0, .ref a4, .int 0, .int 0, .int 0, .int 0, .int 0, .int (-1), .int 0, .int 0, .int 0, .int 0, .ref a5, .ref a6, .ref a7, .ref a8, .ref a9, .ref a10, .ref a11, .ref a12, .int 0, .int 0, .int 0, .int 0, .int 0, .ref a13, .int 0, .ref a14, .ref a15, .int 0, .int 0, .ref a16, .int 0, .ref a17, .ref a18, .int 0, .int (-1), .ref a19, .ref a20, .ref a21, .int 0, .ref a22, .ref a23, .ref a24, .ref a25, .ref a26, .ref a27, .ref a28, .ref a29, .ref a30, .int 0, .int 0, .ref a31])), (a1, .inl (cI, 1560, .inl w0)), (a25, .inl (cZ, 256, .inl z0))] := hD
    refine lv_if_ne (tgt := 11) hx hb dX12_fewest_6 (by decide) (fun c9 => absurd (by decide) c9) (fun _ => ?_)
    refine lv_iconst (v := (-1)) hx hb dX12_fewest_9 (by decide) ?_
    have hP9 := hP.sub (ws' := []) [] rfl
    have hD9 := hD.sub (ws' := []) [] (by decide) rfl
    refine W.widen (k := 0) (n := 0) (Nat.le_of_ble_eq_true rfl) (Nat.le_of_ble_eq_true rfl) ?_
    exact W.iret (v := (-1)) hx hb hr (fun t ht hW => ⟨⟨(-1), [], rfl, ⟨by simp [an_fewest, c_1, c_14], rfl⟩, by rw [ht]; exact hP9, va_K.moved hW.alike hK, hD9⟩, hS.F ht⟩) hS.2.2 dX12_fewest_10
  · skip
    have hP : va_P (dC, dI) vwCl [(a0, .inr (12, [.ref a1, .ref a2, .ref a3, .int 0, .ref a4, .int 0, .int 0, .int 0, .int 0, .int 0, .int (-1), .int 0, .int 0, .int 0, .int 0, .ref a5, .ref a6, .ref a7, .ref a8, .ref a9, .ref a10, .ref a11, .ref a12, .int 0, .int 0, .int 0, .int 0, .int 0, .ref a13, .int 0, .ref a14, .ref a15, .int 0, .int 0, .ref a16, .int 0, .ref a17, .ref a18, .int 0, .int (-1), .ref a19, .ref a20, .ref a21, .int 0, .ref a22, .ref a23, .ref a24, .ref a25, .ref a26, .ref a27, .ref a28, .ref a29, .ref a30, .int 0, .int 0, .ref a31])), (a1, .inl (cI, 1560, .inl w0)), (a25, .inl (cZ, 256, .inl z0))] H := hP
    have hD : va_D A [(a0, .inr (12, [.ref a1, .ref a2, .ref a3, .int 0, .ref a4, .int 0, .int 0, .int 0, .int 0, .int 0, .int (-1), .int 0, .int 0, .int 0, .int 0, .ref a5, .ref a6, .ref a7, .ref a8, .ref a9, .ref a10, .ref a11, .ref a12, .int 0, .int 0, .int 0, .int 0, .int 0, .ref a13, .int 0, .ref a14, .ref a15, .int 0, .int 0, .ref a16, .int 0, .ref a17, .ref a18, .int 0, .int (-1), .ref a19, .ref a20, .ref a21, .int 0, .ref a22, .ref a23, .ref a24, .ref a25, .ref a26, .ref a27, .ref a28, .ref a29, .ref a30, .int 0, .int 0, .ref a31])), (a1, .inl (cI, 1560, .inl w0)), (a25, .inl (cZ, 256, .inl z0))] := hD
    refine lv_if_ne (tgt := 11) hx hb dX12_fewest_6 (by decide) (fun c9 => absurd (by decide) c9) (fun _ => ?_)
    refine lv_iconst (v := (-1)) hx hb dX12_fewest_9 (by decide) ?_
    have hP9 := hP.sub (ws' := []) [] rfl
    have hD9 := hD.sub (ws' := []) [] (by decide) rfl
    refine W.widen (k := 0) (n := 0) (Nat.le_of_ble_eq_true rfl) (Nat.le_of_ble_eq_true rfl) ?_
    exact W.iret (v := (-1)) hx hb hr (fun t ht hW => ⟨⟨(-1), [], rfl, ⟨by simp [an_fewest, c_1, c_14], rfl⟩, by rw [ht]; exact hP9, va_K.moved hW.alike hK, hD9⟩, hS.F ht⟩) hS.2.2 dX12_fewest_10
  · skip
    exfalso
    simp only [Int32.lt_iff_toInt_lt, Int32.le_iff_toInt_le, ← Int32.toInt_inj, ti_0, ti_1, ti_2] at c_1 c_14 c_32 c_33
    omega
set_option maxHeartbeats 8000000 in
set_option maxRecDepth 100000 in
theorem op_X12_example (l : Launch) (D : va_G) (cI cL cZ : ClassId) (sz : Nat) (a0 : Nat) (x0 : Int32) (a1 : Nat) (a2 : Nat) (a3 : Nat) (a4 : Nat) (a5 : Nat) (a6 : Nat) (a7 : Nat) (a8 : Nat) (a9 : Nat) (a10 : Nat) (a11 : Nat) (a12 : Nat) (a13 : Nat) (a14 : Nat) (a15 : Nat) (a16 : Nat) (a17 : Nat) (a18 : Nat) (a19 : Nat) (a20 : Nat) (a21 : Nat) (a22 : Nat) (a23 : Nat) (a24 : Nat) (a25 : Nat) (a26 : Nat) (a27 : Nat) (a28 : Nat) (a29 : Nat) (a30 : Nat) (a31 : Nat) : mI l D cI cL cZ yX12_example cX12_example 7 (some .int) 0 0 0 0 [.ref a0, .int x0] sz [(a0, .inr (12, [.ref a1, .ref a2, .ref a3, .int 0, .ref a4, .int 0, .int 0, .int 0, .int 0, .int 0, .int (-1), .int 0, .int 0, .int 0, .int 0, .ref a5, .ref a6, .ref a7, .ref a8, .ref a9, .ref a10, .ref a11, .ref a12, .int 0, .int 0, .int 0, .int 0, .int 0, .ref a13, .int 0, .ref a14, .ref a15, .int 0, .int 0, .ref a16, .int 0, .ref a17, .ref a18, .int 0, .int (-1), .ref a19, .ref a20, .ref a21, .int 0, .ref a22, .ref a23, .ref a24, .ref a25, .ref a26, .ref a27, .ref a28, .ref a29, .ref a30, .int 0, .int 0, .ref a31])), (a1, .inl (cI, 1560, .inl w0))] (fun (r : Int32) (w1 : va_W) => r = (-1) ∧ w1 = ([] : va_W)) := by
  obtain ⟨dC, dI⟩ := D
  refine Met.ofW (cc := cX12_example) (maxL := 7) (ret := (some .int)) (by decide) rfl ?_
  intro p e s m args below meth c s₁ B hml hv
  obtain ⟨rfl, hsz, hP, hK, hD0, hN⟩ := hv
  have hx := B.exec
  have hb := B.bytes
  have hr := B.returns
  have hU : ∀ w ∈ wsU, w.before _ s = true := fun w h => atoms_spec (ws := wU yX12_example cX12_example 7 (some .int)) B.pre w (List.mem_cons_of_mem _ h)
  have hown : s.vm.findClass RX12 = some m.cls := findClass_of_methodNamed B.named
  have hlocks := B.notSynchronized
  subst hsz
  have hD := hD0.self (sz := s.heap.size)
  generalize hAe : va_A [(a0, .inr (12, [.ref a1, .ref a2, .ref a3, .int 0, .ref a4, .int 0, .int 0, .int 0, .int 0, .int 0, .int (-1), .int 0, .int 0, .int 0, .int 0, .ref a5, .ref a6, .ref a7, .ref a8, .ref a9, .ref a10, .ref a11, .ref a12, .int 0, .int 0, .int 0, .int 0, .int 0, .ref a13, .int 0, .ref a14, .ref a15, .int 0, .int 0, .ref a16, .int 0, .ref a17, .ref a18, .int 0, .int (-1), .ref a19, .ref a20, .ref a21, .int 0, .ref a22, .ref a23, .ref a24, .ref a25, .ref a26, .ref a27, .ref a28, .ref a29, .ref a30, .int 0, .int 0, .ref a31])), (a1, .inl (cI, 1560, .inl w0))] s.heap.size = A at hD ⊢
  have hA : ∀ q : Nat, s.heap.size ≤ q → A q := fun q h => by rw [← hAe]; exact Or.inr h
  have hS : va_S A s.heap s.heap [] := va_S.rf
  have hP : va_P (dC, dI) vwCl [(a0, .inr (12, [.ref a1, .ref a2, .ref a3, .int 0, .ref a4, .int 0, .int 0, .int 0, .int 0, .int 0, .int (-1), .int 0, .int 0, .int 0, .int 0, .ref a5, .ref a6, .ref a7, .ref a8, .ref a9, .ref a10, .ref a11, .ref a12, .int 0, .int 0, .int 0, .int 0, .int 0, .ref a13, .int 0, .ref a14, .ref a15, .int 0, .int 0, .ref a16, .int 0, .ref a17, .ref a18, .int 0, .int (-1), .ref a19, .ref a20, .ref a21, .int 0, .ref a22, .ref a23, .ref a24, .ref a25, .ref a26, .ref a27, .ref a28, .ref a29, .ref a30, .int 0, .int 0, .ref a31])), (a1, .inl (cI, 1560, .inl w0))] s.heap := hP
  have hl := lv_entry ([.ref a0, .int x0]) (n := 7) (Nat.le_of_ble_eq_true rfl)
  rw [lg_entry_eq]
  generalize (lg_sl ([.ref a0, .int x0]) ++ List.replicate (7 - (lg_sl ([.ref a0, .int x0])).length) Slot.unset).toArray = ls at hl ⊢
  have hl : lv_has ls 7 [(0, .ref a0), (1, .int x0)] := hl
  refine lv_aload_n hx hb dX12_example_0 rfl (lv_at hl 0 rfl) ?_
  refine va_get (D := (dC, dI)) (ci := 12) (v := .int 0) (C := RX12) (T := TX12) (N := 56) hx hb hU inlX12 hown hK hP 0 rfl rfl 5 (by decide) (hU _ wd_218) (fun _ h9 => h9) rfl dX12_example_1 ?_
  refine lv_istore_n (lv' := [(2, .int 0), (0, .ref a0), (1, .int x0)]) hx hb dX12_example_4 rfl hl (by decide) rfl (fun ls hl => ?_)
  refine lv_aload_n hx hb dX12_example_5 rfl (lv_at hl 1 rfl) ?_
  refine lv_iconst (v := 0) hx hb dX12_example_6 (by decide) ?_
  refine va_put (D := (dC, dI)) (ci := 12) (v := .int 0) (ty := .int) (C := RX12) (T := TX12) (N := 56) hx hb hU inlX12 tyX12 tyX12_ok nmX12 hown hK hP hD hS 0 rfl rfl 5 (by decide) (hU _ wd_218) (fun _ h9 => h9) rfl (by decide +kernel) rfl rfl (Nat.le_of_ble_eq_true rfl) dX12_example_7 (fun H locs hP hD hS => ?_)
  have hP : va_P (dC, dI) vwCl [(a0, .inr (12, [.ref a1, .ref a2, .ref a3, .int 0, .ref a4, .int 0, .int 0, .int 0, .int 0, .int 0, .int (-1), .int 0, .int 0, .int 0, .int 0, .ref a5, .ref a6, .ref a7, .ref a8, .ref a9, .ref a10, .ref a11, .ref a12, .int 0, .int 0, .int 0, .int 0, .int 0, .ref a13, .int 0, .ref a14, .ref a15, .int 0, .int 0, .ref a16, .int 0, .ref a17, .ref a18, .int 0, .int (-1), .ref a19, .ref a20, .ref a21, .int 0, .ref a22, .ref a23, .ref a24, .ref a25, .ref a26, .ref a27, .ref a28, .ref a29, .ref a30, .int 0, .int 0, .ref a31])), (a1, .inl (cI, 1560, .inl w0))] H := hP
  have hD : va_D A [(a0, .inr (12, [.ref a1, .ref a2, .ref a3, .int 0, .ref a4, .int 0, .int 0, .int 0, .int 0, .int 0, .int (-1), .int 0, .int 0, .int 0, .int 0, .ref a5, .ref a6, .ref a7, .ref a8, .ref a9, .ref a10, .ref a11, .ref a12, .int 0, .int 0, .int 0, .int 0, .int 0, .ref a13, .int 0, .ref a14, .ref a15, .int 0, .int 0, .ref a16, .int 0, .ref a17, .ref a18, .int 0, .int (-1), .ref a19, .ref a20, .ref a21, .int 0, .ref a22, .ref a23, .ref a24, .ref a25, .ref a26, .ref a27, .ref a28, .ref a29, .ref a30, .int 0, .int 0, .ref a31])), (a1, .inl (cI, 1560, .inl w0))] := hD
  refine lv_aload_n hx hb dX12_example_10 rfl (lv_at hl 1 rfl) ?_
  refine va_get (D := (dC, dI)) (ci := 12) (v := .ref a1) (C := RX12) (T := TX12) (N := 56) hx hb hU inlX12 hown hK hP 0 rfl rfl 0 (by decide) (hU _ wd_169) (fun _ h9 => h9) rfl dX12_example_11 ?_
  refine lv_bipush (v := 42) hx hb dX12_example_14 (by decide) ?_
  refine va_iald hx hb hK hP 1 0 rfl rfl (vp_in_nI (n := 42) (by decide) (by decide)) dX12_example_16 ?_
  refine tk_topi (y := 0) (by decide) ?_
  refine lv_bipush (v := 12) hx hb dX12_example_17 (by decide) ?_
  refine lv_icmp_ne (tgt := 24) hx hb dX12_example_19 (by decide) (fun _ => ?_) (fun c9 => absurd c9 (by decide)) 
  refine lv_sipush (v := 220) hx hb dX12_example_24 (by decide) ?_
  refine lv_bipush (v := 20) hx hb dX12_example_27 (by decide) ?_
  refine lv_aload_n hx hb dX12_example_29 rfl (lv_at hl 1 rfl) ?_
  refine va_get (D := (dC, dI)) (ci := 12) (v := .ref a1) (C := RX12) (T := TX12) (N := 56) hx hb hU inlX12 hown hK hP 0 rfl rfl 0 (by decide) (hU _ wd_169) (fun _ h9 => h9) rfl dX12_example_30 ?_
  refine lv_bipush (v := 42) hx hb dX12_example_33 (by decide) ?_
  refine va_iald hx hb hK hP 1 0 rfl rfl (vp_in_nI (n := 42) (by decide) (by decide)) dX12_example_35 ?_
  refine tk_topi (y := 0) (by decide) ?_
  refine lv_imul hx hb dX12_example_36 ?_
  refine tk_topi (y := 0) (by decide) ?_
  refine lv_iadd hx hb dX12_example_37 ?_
  refine tk_topi (y := 220) (by decide) ?_
  refine lv_istore_n (lv' := [(3, .int 220), (2, .int 0), (0, .ref a0), (1, .int x0)]) hx hb dX12_example_38 rfl hl (by decide) rfl (fun ls hl => ?_)
  refine lv_iconst (v := 0) hx hb dX12_example_39 (by decide) ?_
  refine lv_istore (lv' := [(4, .int 0), (3, .int 220), (2, .int 0), (0, .ref a0), (1, .int x0)]) hx hb dX12_example_40 hl (by decide) rfl (fun ls hl => ?_)
  refine lv_aload_n hx hb dX12_example_42 rfl (lv_at hl 3 rfl) ?_
  refine va_get (D := (dC, dI)) (ci := 12) (v := .ref a1) (C := RX12) (T := TX12) (N := 56) hx hb hU inlX12 hown hK hP 0 rfl rfl 0 (by decide) (hU _ wd_169) (fun _ h9 => h9) rfl dX12_example_43 ?_
  refine lv_iload_n hx hb dX12_example_46 rfl (lv_at hl 1 rfl) ?_
  refine lv_iconst (v := 1) hx hb dX12_example_47 (by decide) ?_
  refine lv_iadd hx hb dX12_example_48 ?_
  refine tk_topi (y := 221) (by decide) ?_
  refine lv_iconst (v := 0) hx hb dX12_example_49 (by decide) ?_
  refine va_iast hx hb hK hP hD hS 1 0 rfl rfl (vp_in_nI (n := 221) (by decide) (by decide)) dX12_example_50 (fun H locs hP hD hS => ?_)
  obtain ⟨g_1, eg_1⟩ : ∃ y : Nat → Int32, upd w0 (Int32.toNatClampNeg 221) 0 = y := ⟨_, rfl⟩
  have hP : va_P (dC, dI) vwCl [(a0, .inr (12, [.ref a1, .ref a2, .ref a3, .int 0, .ref a4, .int 0, .int 0, .int 0, .int 0, .int 0, .int (-1), .int 0, .int 0, .int 0, .int 0, .ref a5, .ref a6, .ref a7, .ref a8, .ref a9, .ref a10, .ref a11, .ref a12, .int 0, .int 0, .int 0, .int 0, .int 0, .ref a13, .int 0, .ref a14, .ref a15, .int 0, .int 0, .ref a16, .int 0, .ref a17, .ref a18, .int 0, .int (-1), .ref a19, .ref a20, .ref a21, .int 0, .ref a22, .ref a23, .ref a24, .ref a25, .ref a26, .ref a27, .ref a28, .ref a29, .ref a30, .int 0, .int 0, .ref a31])), (a1, .inl (cI, 1560, .inl g_1))] H := by rw [eg_1] at hP; exact hP
  have hD : va_D A [(a0, .inr (12, [.ref a1, .ref a2, .ref a3, .int 0, .ref a4, .int 0, .int 0, .int 0, .int 0, .int 0, .int (-1), .int 0, .int 0, .int 0, .int 0, .ref a5, .ref a6, .ref a7, .ref a8, .ref a9, .ref a10, .ref a11, .ref a12, .int 0, .int 0, .int 0, .int 0, .int 0, .ref a13, .int 0, .ref a14, .ref a15, .int 0, .int 0, .ref a16, .int 0, .ref a17, .ref a18, .int 0, .int (-1), .ref a19, .ref a20, .ref a21, .int 0, .ref a22, .ref a23, .ref a24, .ref a25, .ref a26, .ref a27, .ref a28, .ref a29, .ref a30, .int 0, .int 0, .ref a31])), (a1, .inl (cI, 1560, .inl g_1))] := by rw [eg_1] at hD; exact hD
  refine lv_aload_n hx hb dX12_example_51 rfl (lv_at hl 3 rfl) ?_
  refine va_get (D := (dC, dI)) (ci := 12) (v := .ref a1) (C := RX12) (T := TX12) (N := 56) hx hb hU inlX12 hown hK hP 0 rfl rfl 0 (by decide) (hU _ wd_169) (fun _ h9 => h9) rfl dX12_example_52 ?_
  refine lv_iload_n hx hb dX12_example_55 rfl (lv_at hl 1 rfl) ?_
  refine lv_iconst (v := 2) hx hb dX12_example_56 (by decide) ?_
  refine lv_iadd hx hb dX12_example_57 ?_
  refine tk_topi (y := 222) (by decide) ?_
  refine lv_iconst (v := 0) hx hb dX12_example_58 (by decide) ?_
  refine va_iast hx hb hK hP hD hS 1 0 rfl rfl (vp_in_nI (n := 222) (by decide) (by decide)) dX12_example_59 (fun H locs hP hD hS => ?_)
  obtain ⟨g_2, eg_2⟩ : ∃ y : Nat → Int32, upd g_1 (Int32.toNatClampNeg 222) 0 = y := ⟨_, rfl⟩
  have hP : va_P (dC, dI) vwCl [(a0, .inr (12, [.ref a1, .ref a2, .ref a3, .int 0, .ref a4, .int 0, .int 0, .int 0, .int 0, .int 0, .int (-1), .int 0, .int 0, .int 0, .int 0, .ref a5, .ref a6, .ref a7, .ref a8, .ref a9, .ref a10, .ref a11, .ref a12, .int 0, .int 0, .int 0, .int 0, .int 0, .ref a13, .int 0, .ref a14, .ref a15, .int 0, .int 0, .ref a16, .int 0, .ref a17, .ref a18, .int 0, .int (-1), .ref a19, .ref a20, .ref a21, .int 0, .ref a22, .ref a23, .ref a24, .ref a25, .ref a26, .ref a27, .ref a28, .ref a29, .ref a30, .int 0, .int 0, .ref a31])), (a1, .inl (cI, 1560, .inl g_2))] H := by rw [eg_2] at hP; exact hP
  have hD : va_D A [(a0, .inr (12, [.ref a1, .ref a2, .ref a3, .int 0, .ref a4, .int 0, .int 0, .int 0, .int 0, .int 0, .int (-1), .int 0, .int 0, .int 0, .int 0, .ref a5, .ref a6, .ref a7, .ref a8, .ref a9, .ref a10, .ref a11, .ref a12, .int 0, .int 0, .int 0, .int 0, .int 0, .ref a13, .int 0, .ref a14, .ref a15, .int 0, .int 0, .ref a16, .int 0, .ref a17, .ref a18, .int 0, .int (-1), .ref a19, .ref a20, .ref a21, .int 0, .ref a22, .ref a23, .ref a24, .ref a25, .ref a26, .ref a27, .ref a28, .ref a29, .ref a30, .int 0, .int 0, .ref a31])), (a1, .inl (cI, 1560, .inl g_2))] := by rw [eg_2] at hD; exact hD
  refine lv_iconst (v := 0) hx hb dX12_example_60 (by decide) ?_
  refine lv_istore (lv' := [(5, .int 0), (4, .int 0), (3, .int 220), (2, .int 0), (0, .ref a0), (1, .int x0)]) hx hb dX12_example_61 hl (by decide) rfl (fun ls hl => ?_)
  refine lv_iload hx hb dX12_example_63 (lv_at hl 0 rfl) ?_
  refine lv_iload_n hx hb dX12_example_65 rfl (lv_at hl 3 rfl) ?_
  refine lv_icmp_ge (tgt := 180) hx hb dX12_example_66 (by decide) (fun _ => ?_) (fun c9 => absurd (by decide) c9) 
  refine lv_iload hx hb dX12_example_180 (lv_at hl 1 rfl) ?_
  refine lv_if_eq (tgt := 205) hx hb dX12_example_182 (by decide) (fun _ => ?_) (fun c9 => absurd (by decide) c9) 
  refine lv_iconst (v := (-1)) hx hb dX12_example_205 (by decide) ?_
  have hP9 := hP.sub (ws' := []) [] rfl
  have hD9 := hD.sub (ws' := []) [] (by decide) rfl
  refine W.widen (k := 0) (n := 0) (Nat.le_of_ble_eq_true rfl) (Nat.le_of_ble_eq_true rfl) ?_
  exact W.iret (v := (-1)) hx hb hr (fun t ht hW => ⟨⟨(-1), [], rfl, ⟨rfl, rfl⟩, by rw [ht]; exact hP9, va_K.moved hW.alike hK, hD9⟩, hS.F ht⟩) hS.2.2 dX12_example_206
set_option maxHeartbeats 8000000 in
set_option maxRecDepth 100000 in
theorem cc_X12_firstWrong_0 (l : Launch) (D : va_G) (cI cL cZ : ClassId) (sz : Nat) (a0 : Nat) (a1 : Nat) (a2 : Nat) (a3 : Nat) (a4 : Nat) (a5 : Nat) (a6 : Nat) (a7 : Nat) (a8 : Nat) (a9 : Nat) (a10 : Nat) (a11 : Nat) (a12 : Nat) (a13 : Nat) (a14 : Nat) (a15 : Nat) (a16 : Nat) (a17 : Nat) (a18 : Nat) (a19 : Nat) (a20 : Nat) (a21 : Nat) (a22 : Nat) (a23 : Nat) (a24 : Nat) (a25 : Nat) (a26 : Nat) (a27 : Nat) (a28 : Nat) (a29 : Nat) (a30 : Nat) (a31 : Nat) : mI l D cI cL cZ yX12_firstWrong cX12_firstWrong 3 (some .int) 0 0 0 0 [.ref a0, .int 0] sz [(a0, .inr (12, [.ref a1, .ref a2, .ref a3, .int 0, .ref a4, .int 0, .int 0, .int 0, .int 0, .int 0, .int (-1), .int 0, .int 0, .int 0, .int 0, .ref a5, .ref a6, .ref a7, .ref a8, .ref a9, .ref a10, .ref a11, .ref a12, .int 0, .int 0, .int 0, .int 0, .int 0, .ref a13, .int 0, .ref a14, .ref a15, .int 0, .int 0, .ref a16, .int 0, .ref a17, .ref a18, .int 0, .int (-1), .ref a19, .ref a20, .ref a21, .int 0, .ref a22, .ref a23, .ref a24, .ref a25, .ref a26, .ref a27, .ref a28, .ref a29, .ref a30, .int 0, .int 0, .ref a31])), (a1, .inl (cI, 1560, .inl w0))] (fun (r : Int32) (w1 : va_W) => r = (-1) ∧ w1 = ([(a0, .inr (12, [.ref a1, .ref a2, .ref a3, .int 0, .ref a4, .int 0, .int 0, .int 0, .int 0, .int 0, .int (-1), .int 0, .int 0, .int 0, .int 0, .ref a5, .ref a6, .ref a7, .ref a8, .ref a9, .ref a10, .ref a11, .ref a12, .int 0, .int 0, .int 0, .int 0, .int 0, .ref a13, .int 0, .ref a14, .ref a15, .int 0, .int 0, .ref a16, .int 0, .ref a17, .ref a18, .int 0, .int (-1), .ref a19, .ref a20, .ref a21, .int 0, .ref a22, .ref a23, .ref a24, .ref a25, .ref a26, .ref a27, .ref a28, .ref a29, .ref a30, .int 0, .int 0, .ref a31])), (a1, .inl (cI, 1560, .inl w0))] : va_W)) := by
  obtain ⟨dC, dI⟩ := D
  refine Met.ofW (cc := cX12_firstWrong) (maxL := 3) (ret := (some .int)) (by decide) rfl ?_
  intro p e s m args below meth c s₁ B hml hv
  obtain ⟨rfl, hsz, hP, hK, hD0, hN⟩ := hv
  have hx := B.exec
  have hb := B.bytes
  have hr := B.returns
  have hU : ∀ w ∈ wsU, w.before _ s = true := fun w h => atoms_spec (ws := wU yX12_firstWrong cX12_firstWrong 3 (some .int)) B.pre w (List.mem_cons_of_mem _ h)
  have hown : s.vm.findClass RX12 = some m.cls := findClass_of_methodNamed B.named
  have hlocks := B.notSynchronized
  subst hsz
  have hD := hD0.self (sz := s.heap.size)
  generalize hAe : va_A [(a0, .inr (12, [.ref a1, .ref a2, .ref a3, .int 0, .ref a4, .int 0, .int 0, .int 0, .int 0, .int 0, .int (-1), .int 0, .int 0, .int 0, .int 0, .ref a5, .ref a6, .ref a7, .ref a8, .ref a9, .ref a10, .ref a11, .ref a12, .int 0, .int 0, .int 0, .int 0, .int 0, .ref a13, .int 0, .ref a14, .ref a15, .int 0, .int 0, .ref a16, .int 0, .ref a17, .ref a18, .int 0, .int (-1), .ref a19, .ref a20, .ref a21, .int 0, .ref a22, .ref a23, .ref a24, .ref a25, .ref a26, .ref a27, .ref a28, .ref a29, .ref a30, .int 0, .int 0, .ref a31])), (a1, .inl (cI, 1560, .inl w0))] s.heap.size = A at hD ⊢
  have hA : ∀ q : Nat, s.heap.size ≤ q → A q := fun q h => by rw [← hAe]; exact Or.inr h
  have hS : va_S A s.heap s.heap [] := va_S.rf
  have hP : va_P (dC, dI) vwCl [(a0, .inr (12, [.ref a1, .ref a2, .ref a3, .int 0, .ref a4, .int 0, .int 0, .int 0, .int 0, .int 0, .int (-1), .int 0, .int 0, .int 0, .int 0, .ref a5, .ref a6, .ref a7, .ref a8, .ref a9, .ref a10, .ref a11, .ref a12, .int 0, .int 0, .int 0, .int 0, .int 0, .ref a13, .int 0, .ref a14, .ref a15, .int 0, .int 0, .ref a16, .int 0, .ref a17, .ref a18, .int 0, .int (-1), .ref a19, .ref a20, .ref a21, .int 0, .ref a22, .ref a23, .ref a24, .ref a25, .ref a26, .ref a27, .ref a28, .ref a29, .ref a30, .int 0, .int 0, .ref a31])), (a1, .inl (cI, 1560, .inl w0))] s.heap := hP
  have hl := lv_entry ([.ref a0, .int 0]) (n := 3) (Nat.le_of_ble_eq_true rfl)
  rw [lg_entry_eq]
  generalize (lg_sl ([.ref a0, .int 0]) ++ List.replicate (3 - (lg_sl ([.ref a0, .int 0])).length) Slot.unset).toArray = ls at hl ⊢
  have hl : lv_has ls 3 [(0, .ref a0), (1, .int 0)] := hl
  refine lv_iconst (v := 0) hx hb dX12_firstWrong_0 (by decide) ?_
  refine lv_istore_n (lv' := [(2, .int 0), (0, .ref a0), (1, .int 0)]) hx hb dX12_firstWrong_1 rfl hl (by decide) rfl (fun ls hl => ?_)
  refine lv_iload_n hx hb dX12_firstWrong_2 rfl (lv_at hl 0 rfl) ?_
  refine lv_aload_n hx hb dX12_firstWrong_3 rfl (lv_at hl 1 rfl) ?_
  refine va_get (D := (dC, dI)) (ci := 12) (v := .ref a1) (C := RX12) (T := TX12) (N := 56) hx hb hU inlX12 hown hK hP 0 rfl rfl 0 (by decide) (hU _ wd_169) (fun _ h9 => h9) rfl dX12_firstWrong_4 ?_
  refine lv_bipush (v := 42) hx hb dX12_firstWrong_7 (by decide) ?_
  refine va_iald hx hb hK hP 1 0 rfl rfl (vp_in_nI (n := 42) (by decide) (by decide)) dX12_firstWrong_9 ?_
  refine tk_topi (y := 0) (by decide) ?_
  refine lv_icmp_ge (tgt := 30) hx hb dX12_firstWrong_10 (by decide) (fun _ => ?_) (fun c9 => absurd (by decide) c9) 
  refine lv_iconst (v := (-1)) hx hb dX12_firstWrong_30 (by decide) ?_
  have hP9 := hP.sub (ws' := [(a0, .inr (12, [.ref a1, .ref a2, .ref a3, .int 0, .ref a4, .int 0, .int 0, .int 0, .int 0, .int 0, .int (-1), .int 0, .int 0, .int 0, .int 0, .ref a5, .ref a6, .ref a7, .ref a8, .ref a9, .ref a10, .ref a11, .ref a12, .int 0, .int 0, .int 0, .int 0, .int 0, .ref a13, .int 0, .ref a14, .ref a15, .int 0, .int 0, .ref a16, .int 0, .ref a17, .ref a18, .int 0, .int (-1), .ref a19, .ref a20, .ref a21, .int 0, .ref a22, .ref a23, .ref a24, .ref a25, .ref a26, .ref a27, .ref a28, .ref a29, .ref a30, .int 0, .int 0, .ref a31])), (a1, .inl (cI, 1560, .inl w0))]) [0, 1] rfl
  have hD9 := hD.sub (ws' := [(a0, .inr (12, [.ref a1, .ref a2, .ref a3, .int 0, .ref a4, .int 0, .int 0, .int 0, .int 0, .int 0, .int (-1), .int 0, .int 0, .int 0, .int 0, .ref a5, .ref a6, .ref a7, .ref a8, .ref a9, .ref a10, .ref a11, .ref a12, .int 0, .int 0, .int 0, .int 0, .int 0, .ref a13, .int 0, .ref a14, .ref a15, .int 0, .int 0, .ref a16, .int 0, .ref a17, .ref a18, .int 0, .int (-1), .ref a19, .ref a20, .ref a21, .int 0, .ref a22, .ref a23, .ref a24, .ref a25, .ref a26, .ref a27, .ref a28, .ref a29, .ref a30, .int 0, .int 0, .ref a31])), (a1, .inl (cI, 1560, .inl w0))]) [0, 1] (by decide) rfl
  refine W.widen (k := 0) (n := 0) (Nat.le_of_ble_eq_true rfl) (Nat.le_of_ble_eq_true rfl) ?_
  exact W.iret (v := (-1)) hx hb hr (fun t ht hW => ⟨⟨(-1), [(a0, .inr (12, [.ref a1, .ref a2, .ref a3, .int 0, .ref a4, .int 0, .int 0, .int 0, .int 0, .int 0, .int (-1), .int 0, .int 0, .int 0, .int 0, .ref a5, .ref a6, .ref a7, .ref a8, .ref a9, .ref a10, .ref a11, .ref a12, .int 0, .int 0, .int 0, .int 0, .int 0, .ref a13, .int 0, .ref a14, .ref a15, .int 0, .int 0, .ref a16, .int 0, .ref a17, .ref a18, .int 0, .int (-1), .ref a19, .ref a20, .ref a21, .int 0, .ref a22, .ref a23, .ref a24, .ref a25, .ref a26, .ref a27, .ref a28, .ref a29, .ref a30, .int 0, .int 0, .ref a31])), (a1, .inl (cI, 1560, .inl w0))], rfl, ⟨rfl, rfl⟩, by rw [ht]; exact hP9, va_K.moved hW.alike hK, hD9⟩, hS.F ht⟩) hS.2.2 dX12_firstWrong_31
set_option maxHeartbeats 8000000 in
set_option maxRecDepth 100000 in
theorem op_X12_fits (l : Launch) (D : va_G) (cI cL cZ : ClassId) (sz : Nat) (a0 : Nat) (x0 : Int32) (a1 : Nat) (a2 : Nat) (a3 : Nat) (a4 : Nat) (a5 : Nat) (a6 : Nat) (a7 : Nat) (a8 : Nat) (a9 : Nat) (a10 : Nat) (a11 : Nat) (a12 : Nat) (a13 : Nat) (a14 : Nat) (a15 : Nat) (a16 : Nat) (a17 : Nat) (a18 : Nat) (a19 : Nat) (a20 : Nat) (a21 : Nat) (a22 : Nat) (a23 : Nat) (a24 : Nat) (a25 : Nat) (a26 : Nat) (a27 : Nat) (a28 : Nat) (a29 : Nat) (a30 : Nat) (a31 : Nat) : mI l D cI cL cZ yX12_fits cX12_fits 2 (some .int) 1 22 0 0 [.ref a0, .int x0] sz [(a0, .inr (12, [.ref a1, .ref a2, .ref a3, .int 0, .ref a4, .int 0, .int 0, .int 0, .int 0, .int 0, .int (-1), .int 0, .int 0, .int 0, .int 0, .ref a5, .ref a6, .ref a7, .ref a8, .ref a9, .ref a10, .ref a11, .ref a12, .int 0, .int 0, .int 0, .int 0, .int 0, .ref a13, .int 0, .ref a14, .ref a15, .int 0, .int 0, .ref a16, .int 0, .ref a17, .ref a18, .int 0, .int (-1), .ref a19, .ref a20, .ref a21, .int 0, .ref a22, .ref a23, .ref a24, .ref a25, .ref a26, .ref a27, .ref a28, .ref a29, .ref a30, .int 0, .int 0, .ref a31])), (a1, .inl (cI, 1560, .inl w0))] (fun (r : Int32) (w1 : va_W) => r = (an_fits x0) ∧ w1 = ([] : va_W)) := by
  obtain ⟨dC, dI⟩ := D
  refine Met.ofW (cc := cX12_fits) (maxL := 2) (ret := (some .int)) (by decide) rfl ?_
  intro p e s m args below meth c s₁ B hml hv
  obtain ⟨rfl, hsz, hP, hK, hD0, hN⟩ := hv
  have hx := B.exec
  have hb := B.bytes
  have hr := B.returns
  have hU : ∀ w ∈ wsU, w.before _ s = true := fun w h => atoms_spec (ws := wU yX12_fits cX12_fits 2 (some .int)) B.pre w (List.mem_cons_of_mem _ h)
  have hown : s.vm.findClass RX12 = some m.cls := findClass_of_methodNamed B.named
  have hlocks := B.notSynchronized
  subst hsz
  have hD := hD0.self (sz := s.heap.size)
  generalize hAe : va_A [(a0, .inr (12, [.ref a1, .ref a2, .ref a3, .int 0, .ref a4, .int 0, .int 0, .int 0, .int 0, .int 0, .int (-1), .int 0, .int 0, .int 0, .int 0, .ref a5, .ref a6, .ref a7, .ref a8, .ref a9, .ref a10, .ref a11, .ref a12, .int 0, .int 0, .int 0, .int 0, .int 0, .ref a13, .int 0, .ref a14, .ref a15, .int 0, .int 0, .ref a16, .int 0, .ref a17, .ref a18, .int 0, .int (-1), .ref a19, .ref a20, .ref a21, .int 0, .ref a22, .ref a23, .ref a24, .ref a25, .ref a26, .ref a27, .ref a28, .ref a29, .ref a30, .int 0, .int 0, .ref a31])), (a1, .inl (cI, 1560, .inl w0))] s.heap.size = A at hD ⊢
  have hA : ∀ q : Nat, s.heap.size ≤ q → A q := fun q h => by rw [← hAe]; exact Or.inr h
  have hS : va_S A s.heap s.heap [] := va_S.rf
  have hP : va_P (dC, dI) vwCl [(a0, .inr (12, [.ref a1, .ref a2, .ref a3, .int 0, .ref a4, .int 0, .int 0, .int 0, .int 0, .int 0, .int (-1), .int 0, .int 0, .int 0, .int 0, .ref a5, .ref a6, .ref a7, .ref a8, .ref a9, .ref a10, .ref a11, .ref a12, .int 0, .int 0, .int 0, .int 0, .int 0, .ref a13, .int 0, .ref a14, .ref a15, .int 0, .int 0, .ref a16, .int 0, .ref a17, .ref a18, .int 0, .int (-1), .ref a19, .ref a20, .ref a21, .int 0, .ref a22, .ref a23, .ref a24, .ref a25, .ref a26, .ref a27, .ref a28, .ref a29, .ref a30, .int 0, .int 0, .ref a31])), (a1, .inl (cI, 1560, .inl w0))] s.heap := hP
  have hl := lv_entry ([.ref a0, .int x0]) (n := 2) (Nat.le_of_ble_eq_true rfl)
  rw [lg_entry_eq]
  generalize (lg_sl ([.ref a0, .int x0]) ++ List.replicate (2 - (lg_sl ([.ref a0, .int x0])).length) Slot.unset).toArray = ls at hl ⊢
  have hl : lv_has ls 2 [(0, .ref a0), (1, .int x0)] := hl
  by_cases c_1 : x0 = 0
  · subst c_1
    refine lv_iload_n hx hb dX12_fits_0 rfl (lv_at hl 1 rfl) ?_
    refine lv_iconst (v := 0) hx hb dX12_fits_1 (by decide) ?_
    refine lv_aload_n hx hb dX12_fits_2 rfl (lv_at hl 0 rfl) ?_
    refine tk_ri (wr := []) (tk_V (As := []) (rest := [.int 0, .int 0]) (n := 0) hx hb hml hown hU hN (cc_X12_allRules_0 l (dC, dI) cI cL cZ s.heap.size a0 a1 a2 a3 a4 a5 a6 a7 a8 a9 a10 a11 a12 a13 a14 a15 a16 a17 a18 a19 a20 a21 a22 a23 a24 a25 a26 a27 a28 a29 a30 a31) wd_686 wd_687 wd_688 wd_5 wd_689 (by decide +kernel) ⟨Nat.le_of_ble_eq_true rfl, Nat.le_of_ble_eq_true rfl⟩ hK hP hD [0, 1] (by decide) rfl 0 12 rfl rfl rfl rfl hl.1 rfl (Nat.le_of_ble_eq_true rfl) dX12_fits_3 ⟨Nat.le_of_ble_eq_true rfl, Nat.le_of_ble_eq_true rfl⟩) hP hD hS hA [0, 1] [] rfl rfl (by decide) (by decide) (fun r_2 w_3 H locs hw hP hD hS => ?_)
    obtain ⟨rfl, rfl⟩ := hw
    have hP : va_P (dC, dI) vwCl [(a0, .inr (12, [.ref a1, .ref a2, .ref a3, .int 0, .ref a4, .int 0, .int 0, .int 0, .int 0, .int 0, .int (-1), .int 0, .int 0, .int 0, .int 0, .ref a5, .ref a6, .ref a7, .ref a8, .ref a9, .ref a10, .ref a11, .ref a12, .int 0, .int 0, .int 0, .int 0, .int 0, .ref a13, .int 0, .ref a14, .ref a15, .int 0, .int 0, .ref a16, .int 0, .ref a17, .ref a18, .int 0, .int (-1), .ref a19, .ref a20, .ref a21, .int 0, .ref a22, .ref a23, .ref a24, .ref a25, .ref a26, .ref a27, .ref a28, .ref a29, .ref a30, .int 0, .int 0, .ref a31])), (a1, .inl (cI, 1560, .inl w0))] H := hP
    have hD : va_D A [(a0, .inr (12, [.ref a1, .ref a2, .ref a3, .int 0, .ref a4, .int 0, .int 0, .int 0, .int 0, .int 0, .int (-1), .int 0, .int 0, .int 0, .int 0, .ref a5, .ref a6, .ref a7, .ref a8, .ref a9, .ref a10, .ref a11, .ref a12, .int 0, .int 0, .int 0, .int 0, .int 0, .ref a13, .int 0, .ref a14, .ref a15, .int 0, .int 0, .ref a16, .int 0, .ref a17, .ref a18, .int 0, .int (-1), .ref a19, .ref a20, .ref a21, .int 0, .ref a22, .ref a23, .ref a24, .ref a25, .ref a26, .ref a27, .ref a28, .ref a29, .ref a30, .int 0, .int 0, .ref a31])), (a1, .inl (cI, 1560, .inl w0))] := hD
    refine tk_ri (wr := [(a0, .inr (12, [.ref a1, .ref a2, .ref a3, .int 0, .ref a4, .int 0, .int 0, .int 0, .int 0, .int 0, .int (-1), .int 0, .int 0, .int 0, .int 0, .ref a5, .ref a6, .ref a7, .ref a8, .ref a9, .ref a10, .ref a11, .ref a12, .int 0, .int 0, .int 0, .int 0, .int 0, .ref a13, .int 0, .ref a14, .ref a15, .int 0, .int 0, .ref a16, .int 0, .ref a17, .ref a18, .int 0, .int (-1), .ref a19, .ref a20, .ref a21, .int 0, .ref a22, .ref a23, .ref a24, .ref a25, .ref a26, .ref a27, .ref a28, .ref a29, .ref a30, .int 0, .int 0, .ref a31])), (a1, .inl (cI, 1560, .inl w0))]) (tk_S (As := [.int 0, .int 0, .int 0]) (rest := []) (n := 3) hx hb hml hown hU hN (cc_X12_isIn_0 l (dC, dI) cI cL cZ H.size ) wd_227 wd_228 wd_5 wd_229 (by decide +kernel) ⟨Nat.le_of_ble_eq_true rfl, Nat.le_of_ble_eq_true rfl⟩ hK hP hD [] (by decide) rfl rfl hl.1 rfl (Nat.le_of_ble_eq_true rfl) dX12_fits_6 ⟨Nat.le_of_ble_eq_true rfl, Nat.le_of_ble_eq_true rfl⟩) hP hD hS hA [] [0, 1] rfl rfl (by decide) (by decide) (fun r_4 w_5 H locs hw hP hD hS => ?_)
    obtain ⟨rfl, rfl⟩ := hw
    have hP : va_P (dC, dI) vwCl [(a0, .inr (12, [.ref a1, .ref a2, .ref a3, .int 0, .ref a4, .int 0, .int 0, .int 0, .int 0, .int 0, .int (-1), .int 0, .int 0, .int 0, .int 0, .ref a5, .ref a6, .ref a7, .ref a8, .ref a9, .ref a10, .ref a11, .ref a12, .int 0, .int 0, .int 0, .int 0, .int 0, .ref a13, .int 0, .ref a14, .ref a15, .int 0, .int 0, .ref a16, .int 0, .ref a17, .ref a18, .int 0, .int (-1), .ref a19, .ref a20, .ref a21, .int 0, .ref a22, .ref a23, .ref a24, .ref a25, .ref a26, .ref a27, .ref a28, .ref a29, .ref a30, .int 0, .int 0, .ref a31])), (a1, .inl (cI, 1560, .inl w0))] H := hP
    have hD : va_D A [(a0, .inr (12, [.ref a1, .ref a2, .ref a3, .int 0, .ref a4, .int 0, .int 0, .int 0, .int 0, .int 0, .int (-1), .int 0, .int 0, .int 0, .int 0, .ref a5, .ref a6, .ref a7, .ref a8, .ref a9, .ref a10, .ref a11, .ref a12, .int 0, .int 0, .int 0, .int 0, .int 0, .ref a13, .int 0, .ref a14, .ref a15, .int 0, .int 0, .ref a16, .int 0, .ref a17, .ref a18, .int 0, .int (-1), .ref a19, .ref a20, .ref a21, .int 0, .ref a22, .ref a23, .ref a24, .ref a25, .ref a26, .ref a27, .ref a28, .ref a29, .ref a30, .int 0, .int 0, .ref a31])), (a1, .inl (cI, 1560, .inl w0))] := hD
    refine lv_if_ne (tgt := 16) hx hb dX12_fits_9 (by decide) (fun _ => ?_) (fun c9 => absurd c9 (by decide)) 
    refine lv_aload_n hx hb dX12_fits_16 rfl (lv_at hl 0 rfl) ?_
    refine lv_iload_n hx hb dX12_fits_17 rfl (lv_at hl 1 rfl) ?_
    refine tk_ri (wr := []) (tk_V (As := [.int 0]) (rest := []) (n := 1) hx hb hml hown hU hN (cc_X12_firstWrong_0 l (dC, dI) cI cL cZ H.size a0 a1 a2 a3 a4 a5 a6 a7 a8 a9 a10 a11 a12 a13 a14 a15 a16 a17 a18 a19 a20 a21 a22 a23 a24 a25 a26 a27 a28 a29 a30 a31) wd_1424 wd_1425 wd_1426 wd_5 wd_1427 (by decide +kernel) ⟨Nat.le_of_ble_eq_true rfl, Nat.le_of_ble_eq_true rfl⟩ hK hP hD [0, 1] (by decide) rfl 0 12 rfl rfl rfl rfl hl.1 rfl (Nat.le_of_ble_eq_true rfl) dX12_fits_18 ⟨Nat.le_of_ble_eq_true rfl, Nat.le_of_ble_eq_true rfl⟩) hP hD hS hA [0, 1] [] rfl rfl (by decide) (by decide) (fun r_6 w_7 H locs hw hP hD hS => ?_)
    obtain ⟨rfl, rfl⟩ := hw
    have hP : va_P (dC, dI) vwCl [(a0, .inr (12, [.ref a1, .ref a2, .ref a3, .int 0, .ref a4, .int 0, .int 0, .int 0, .int 0, .int 0, .int (-1), .int 0, .int 0, .int 0, .int 0, .ref a5, .ref a6, .ref a7, .ref a8, .ref a9, .ref a10, .ref a11, .ref a12, .int 0, .int 0, .int 0, .int 0, .int 0, .ref a13, .int 0, .ref a14, .ref a15, .int 0, .int 0, .ref a16, .int 0, .ref a17, .ref a18, .int 0, .int (-1), .ref a19, .ref a20, .ref a21, .int 0, .ref a22, .ref a23, .ref a24, .ref a25, .ref a26, .ref a27, .ref a28, .ref a29, .ref a30, .int 0, .int 0, .ref a31])), (a1, .inl (cI, 1560, .inl w0))] H := hP
    have hD : va_D A [(a0, .inr (12, [.ref a1, .ref a2, .ref a3, .int 0, .ref a4, .int 0, .int 0, .int 0, .int 0, .int 0, .int (-1), .int 0, .int 0, .int 0, .int 0, .ref a5, .ref a6, .ref a7, .ref a8, .ref a9, .ref a10, .ref a11, .ref a12, .int 0, .int 0, .int 0, .int 0, .int 0, .ref a13, .int 0, .ref a14, .ref a15, .int 0, .int 0, .ref a16, .int 0, .ref a17, .ref a18, .int 0, .int (-1), .ref a19, .ref a20, .ref a21, .int 0, .ref a22, .ref a23, .ref a24, .ref a25, .ref a26, .ref a27, .ref a28, .ref a29, .ref a30, .int 0, .int 0, .ref a31])), (a1, .inl (cI, 1560, .inl w0))] := hD
    refine lv_iconst (v := (-1)) hx hb dX12_fits_21 (by decide) ?_
    refine lv_icmp_ne (tgt := 29) hx hb dX12_fits_22 (by decide) (fun c9 => absurd (by decide) c9) (fun _ => ?_)
    refine lv_iconst (v := 1) hx hb dX12_fits_25 (by decide) ?_
    refine lv_goto (tgt := 30) hx hb dX12_fits_26 (by decide) ?_
    have hP9 := hP.sub (ws' := []) [] rfl
    have hD9 := hD.sub (ws' := []) [] (by decide) rfl
    refine W.widen (k := 0) (n := 0) (Nat.le_of_ble_eq_true rfl) (Nat.le_of_ble_eq_true rfl) ?_
    exact W.iret (v := 1) hx hb hr (fun t ht hW => ⟨⟨1, [], rfl, ⟨by decide, rfl⟩, by rw [ht]; exact hP9, va_K.moved hW.alike hK, hD9⟩, hS.F ht⟩) hS.2.2 dX12_fits_30
  refine lv_iload_n hx hb dX12_fits_0 rfl (lv_at hl 1 rfl) ?_
  refine lv_iconst (v := 0) hx hb dX12_fits_1 (by decide) ?_
  refine lv_aload_n hx hb dX12_fits_2 rfl (lv_at hl 0 rfl) ?_
  refine tk_ri (wr := []) (tk_V (As := []) (rest := [.int 0, .int x0]) (n := 0) hx hb hml hown hU hN (cc_X12_allRules_0 l (dC, dI) cI cL cZ s.heap.size a0 a1 a2 a3 a4 a5 a6 a7 a8 a9 a10 a11 a12 a13 a14 a15 a16 a17 a18 a19 a20 a21 a22 a23 a24 a25 a26 a27 a28 a29 a30 a31) wd_686 wd_687 wd_688 wd_5 wd_689 (by decide +kernel) ⟨Nat.le_of_ble_eq_true rfl, Nat.le_of_ble_eq_true rfl⟩ hK hP hD [0, 1] (by decide) rfl 0 12 rfl rfl rfl rfl hl.1 rfl (Nat.le_of_ble_eq_true rfl) dX12_fits_3 ⟨Nat.le_of_ble_eq_true rfl, Nat.le_of_ble_eq_true rfl⟩) hP hD hS hA [0, 1] [] rfl rfl (by decide) (by decide) (fun r_8 w_9 H locs hw hP hD hS => ?_)
  obtain ⟨rfl, rfl⟩ := hw
  have hP : va_P (dC, dI) vwCl [(a0, .inr (12, [.ref a1, .ref a2, .ref a3, .int 0, .ref a4, .int 0, .int 0, .int 0, .int 0, .int 0, .int (-1), .int 0, .int 0, .int 0, .int 0, .ref a5, .ref a6, .ref a7, .ref a8, .ref a9, .ref a10, .ref a11, .ref a12, .int 0, .int 0, .int 0, .int 0, .int 0, .ref a13, .int 0, .ref a14, .ref a15, .int 0, .int 0, .ref a16, .int 0, .ref a17, .ref a18, .int 0, .int (-1), .ref a19, .ref a20, .ref a21, .int 0, .ref a22, .ref a23, .ref a24, .ref a25, .ref a26, .ref a27, .ref a28, .ref a29, .ref a30, .int 0, .int 0, .ref a31])), (a1, .inl (cI, 1560, .inl w0))] H := hP
  have hD : va_D A [(a0, .inr (12, [.ref a1, .ref a2, .ref a3, .int 0, .ref a4, .int 0, .int 0, .int 0, .int 0, .int 0, .int (-1), .int 0, .int 0, .int 0, .int 0, .ref a5, .ref a6, .ref a7, .ref a8, .ref a9, .ref a10, .ref a11, .ref a12, .int 0, .int 0, .int 0, .int 0, .int 0, .ref a13, .int 0, .ref a14, .ref a15, .int 0, .int 0, .ref a16, .int 0, .ref a17, .ref a18, .int 0, .int (-1), .ref a19, .ref a20, .ref a21, .int 0, .ref a22, .ref a23, .ref a24, .ref a25, .ref a26, .ref a27, .ref a28, .ref a29, .ref a30, .int 0, .int 0, .ref a31])), (a1, .inl (cI, 1560, .inl w0))] := hD
  refine tk_ri (wr := [(a0, .inr (12, [.ref a1, .ref a2, .ref a3, .int 0, .ref a4, .int 0, .int 0, .int 0, .int 0, .int 0, .int (-1), .int 0, .int 0, .int 0, .int 0, .ref a5, .ref a6, .ref a7, .ref a8, .ref a9, .ref a10, .ref a11, .ref a12, .int 0, .int 0, .int 0, .int 0, .int 0, .ref a13, .int 0, .ref a14, .ref a15, .int 0, .int 0, .ref a16, .int 0, .ref a17, .ref a18, .int 0, .int (-1), .ref a19, .ref a20, .ref a21, .int 0, .ref a22, .ref a23, .ref a24, .ref a25, .ref a26, .ref a27, .ref a28, .ref a29, .ref a30, .int 0, .int 0, .ref a31])), (a1, .inl (cI, 1560, .inl w0))]) (tk_S (As := [.int x0, .int 0, .int 0]) (rest := []) (n := 3) hx hb hml hown hU hN (cc_X12_isIn_1 l (dC, dI) cI cL cZ H.size x0) wd_227 wd_228 wd_5 wd_229 (by decide +kernel) ⟨Nat.le_of_ble_eq_true rfl, Nat.le_of_ble_eq_true rfl⟩ hK hP hD [] (by decide) rfl rfl hl.1 rfl (Nat.le_of_ble_eq_true rfl) dX12_fits_6 ⟨Nat.le_of_ble_eq_true rfl, Nat.le_of_ble_eq_true rfl⟩) hP hD hS hA [] [0, 1] rfl rfl (by decide) (by decide) (fun r_10 w_11 H locs hw hP hD hS => ?_)
  rcases hw with ⟨c_12, rfl, rfl⟩ | ⟨c_13, c_14, rfl, rfl⟩ | ⟨c_15, c_16, rfl, rfl⟩
  · skip
    have hP : va_P (dC, dI) vwCl [(a0, .inr (12, [.ref a1, .ref a2, .ref a3, .int 0, .ref a4, .int 0, .int 0, .int 0, .int 0, .int 0, .int (-1), .int 0, .int 0, .int 0, .int 0, .ref a5, .ref a6, .ref a7, .ref a8, .ref a9, .ref a10, .ref a11, .ref a12, .int 0, .int 0, .int 0, .int 0, .int 0, .ref a13, .int 0, .ref a14, .ref a15, .int 0, .int 0, .ref a16, .int 0, .ref a17, .ref a18, .int 0, .int (-1), .ref a19, .ref a20, .ref a21, .int 0, .ref a22, .ref a23, .ref a24, .ref a25, .ref a26, .ref a27, .ref a28, .ref a29, .ref a30, .int 0, .int 0, .ref a31])), (a1, .inl (cI, 1560, .inl w0))] H := hP
    have hD : va_D A [(a0, .inr (12, [.ref a1, .ref a2, .ref a3, .int 0, .ref a4, .int 0, .int 0, .int 0, .int 0, .int 0, .int (-1), .int 0, .int 0, .int 0, .int 0, .ref a5, .ref a6, .ref a7, .ref a8, .ref a9, .ref a10, .ref a11, .ref a12, .int 0, .int 0, .int 0, .int 0, .int 0, .ref a13, .int 0, .ref a14, .ref a15, .int 0, .int 0, .ref a16, .int 0, .ref a17, .ref a18, .int 0, .int (-1), .ref a19, .ref a20, .ref a21, .int 0, .ref a22, .ref a23, .ref a24, .ref a25, .ref a26, .ref a27, .ref a28, .ref a29, .ref a30, .int 0, .int 0, .ref a31])), (a1, .inl (cI, 1560, .inl w0))] := hD
    refine lv_if_ne (tgt := 16) hx hb dX12_fits_9 (by decide) (fun c9 => absurd (by decide) c9) (fun _ => ?_)
    refine lv_iconst (v := (-1)) hx hb dX12_fits_12 (by decide) ?_
    refine lv_goto (tgt := 30) hx hb dX12_fits_13 (by decide) ?_
    have hP9 := hP.sub (ws' := []) [] rfl
    have hD9 := hD.sub (ws' := []) [] (by decide) rfl
    refine W.widen (k := 0) (n := 0) (Nat.le_of_ble_eq_true rfl) (Nat.le_of_ble_eq_true rfl) ?_
    exact W.iret (v := (-1)) hx hb hr (fun t ht hW => ⟨⟨(-1), [], rfl, ⟨by simp [an_fits, c_1], rfl⟩, by rw [ht]; exact hP9, va_K.moved hW.alike hK, hD9⟩, hS.F ht⟩) hS.2.2 dX12_fits_30
  · skip
    have hP : va_P (dC, dI) vwCl [(a0, .inr (12, [.ref a1, .ref a2, .ref a3, .int 0, .ref a4, .int 0, .int 0, .int 0, .int 0, .int 0, .int (-1), .int 0, .int 0, .int 0, .int 0, .ref a5, .ref a6, .ref a7, .ref a8, .ref a9, .ref a10, .ref a11, .ref a12, .int 0, .int 0, .int 0, .int 0, .int 0, .ref a13, .int 0, .ref a14, .ref a15, .int 0, .int 0, .ref a16, .int 0, .ref a17, .ref a18, .int 0, .int (-1), .ref a19, .ref a20, .ref a21, .int 0, .ref a22, .ref a23, .ref a24, .ref a25, .ref a26, .ref a27, .ref a28, .ref a29, .ref a30, .int 0, .int 0, .ref a31])), (a1, .inl (cI, 1560, .inl w0))] H := hP
    have hD : va_D A [(a0, .inr (12, [.ref a1, .ref a2, .ref a3, .int 0, .ref a4, .int 0, .int 0, .int 0, .int 0, .int 0, .int (-1), .int 0, .int 0, .int 0, .int 0, .ref a5, .ref a6, .ref a7, .ref a8, .ref a9, .ref a10, .ref a11, .ref a12, .int 0, .int 0, .int 0, .int 0, .int 0, .ref a13, .int 0, .ref a14, .ref a15, .int 0, .int 0, .ref a16, .int 0, .ref a17, .ref a18, .int 0, .int (-1), .ref a19, .ref a20, .ref a21, .int 0, .ref a22, .ref a23, .ref a24, .ref a25, .ref a26, .ref a27, .ref a28, .ref a29, .ref a30, .int 0, .int 0, .ref a31])), (a1, .inl (cI, 1560, .inl w0))] := hD
    refine lv_if_ne (tgt := 16) hx hb dX12_fits_9 (by decide) (fun c9 => absurd (by decide) c9) (fun _ => ?_)
    refine lv_iconst (v := (-1)) hx hb dX12_fits_12 (by decide) ?_
    refine lv_goto (tgt := 30) hx hb dX12_fits_13 (by decide) ?_
    have hP9 := hP.sub (ws' := []) [] rfl
    have hD9 := hD.sub (ws' := []) [] (by decide) rfl
    refine W.widen (k := 0) (n := 0) (Nat.le_of_ble_eq_true rfl) (Nat.le_of_ble_eq_true rfl) ?_
    exact W.iret (v := (-1)) hx hb hr (fun t ht hW => ⟨⟨(-1), [], rfl, ⟨by simp [an_fits, c_1], rfl⟩, by rw [ht]; exact hP9, va_K.moved hW.alike hK, hD9⟩, hS.F ht⟩) hS.2.2 dX12_fits_30
  · skip
    exfalso
    simp only [Int32.lt_iff_toInt_lt, Int32.le_iff_toInt_le, ← Int32.toInt_inj, ti_0] at c_1 c_15 c_16
    omega
set_option maxHeartbeats 8000000 in
set_option maxRecDepth 100000 in
theorem op_X12_learn (l : Launch) (D : va_G) (cI cL cZ : ClassId) (sz : Nat) (a0 : Nat) (a1 : Nat) (a2 : Nat) (a3 : Nat) (a4 : Nat) (a5 : Nat) (a6 : Nat) (a7 : Nat) (a8 : Nat) (a9 : Nat) (a10 : Nat) (a11 : Nat) (a12 : Nat) (a13 : Nat) (a14 : Nat) (a15 : Nat) (a16 : Nat) (a17 : Nat) (a18 : Nat) (a19 : Nat) (a20 : Nat) (a21 : Nat) (a22 : Nat) (a23 : Nat) (a24 : Nat) (a25 : Nat) (a26 : Nat) (a27 : Nat) (a28 : Nat) (a29 : Nat) (a30 : Nat) (a31 : Nat) : mI l D cI cL cZ yX12_learn cX12_learn 3 (some .int) 1 22 0 0 [.ref a0] sz [(a0, .inr (12, [.ref a1, .ref a2, .ref a3, .int 0, .ref a4, .int 0, .int 0, .int 0, .int 0, .int 0, .int (-1), .int 0, .int 0, .int 0, .int 0, .ref a5, .ref a6, .ref a7, .ref a8, .ref a9, .ref a10, .ref a11, .ref a12, .int 0, .int 0, .int 0, .int 0, .int 0, .ref a13, .int 0, .ref a14, .ref a15, .int 0, .int 0, .ref a16, .int 0, .ref a17, .ref a18, .int 0, .int (-1), .ref a19, .ref a20, .ref a21, .int 0, .ref a22, .ref a23, .ref a24, .ref a25, .ref a26, .ref a27, .ref a28, .ref a29, .ref a30, .int 0, .int 0, .ref a31])), (a1, .inl (cI, 1560, .inl w0))] (fun (r : Int32) (w1 : va_W) => r = 0 ∧ w1 = ([] : va_W)) := by
  obtain ⟨dC, dI⟩ := D
  refine Met.ofW (cc := cX12_learn) (maxL := 3) (ret := (some .int)) (by decide) rfl ?_
  intro p e s m args below meth c s₁ B hml hv
  obtain ⟨rfl, hsz, hP, hK, hD0, hN⟩ := hv
  have hx := B.exec
  have hb := B.bytes
  have hr := B.returns
  have hU : ∀ w ∈ wsU, w.before _ s = true := fun w h => atoms_spec (ws := wU yX12_learn cX12_learn 3 (some .int)) B.pre w (List.mem_cons_of_mem _ h)
  have hown : s.vm.findClass RX12 = some m.cls := findClass_of_methodNamed B.named
  have hlocks := B.notSynchronized
  subst hsz
  have hD := hD0.self (sz := s.heap.size)
  generalize hAe : va_A [(a0, .inr (12, [.ref a1, .ref a2, .ref a3, .int 0, .ref a4, .int 0, .int 0, .int 0, .int 0, .int 0, .int (-1), .int 0, .int 0, .int 0, .int 0, .ref a5, .ref a6, .ref a7, .ref a8, .ref a9, .ref a10, .ref a11, .ref a12, .int 0, .int 0, .int 0, .int 0, .int 0, .ref a13, .int 0, .ref a14, .ref a15, .int 0, .int 0, .ref a16, .int 0, .ref a17, .ref a18, .int 0, .int (-1), .ref a19, .ref a20, .ref a21, .int 0, .ref a22, .ref a23, .ref a24, .ref a25, .ref a26, .ref a27, .ref a28, .ref a29, .ref a30, .int 0, .int 0, .ref a31])), (a1, .inl (cI, 1560, .inl w0))] s.heap.size = A at hD ⊢
  have hA : ∀ q : Nat, s.heap.size ≤ q → A q := fun q h => by rw [← hAe]; exact Or.inr h
  have hS : va_S A s.heap s.heap [] := va_S.rf
  have hP : va_P (dC, dI) vwCl [(a0, .inr (12, [.ref a1, .ref a2, .ref a3, .int 0, .ref a4, .int 0, .int 0, .int 0, .int 0, .int 0, .int (-1), .int 0, .int 0, .int 0, .int 0, .ref a5, .ref a6, .ref a7, .ref a8, .ref a9, .ref a10, .ref a11, .ref a12, .int 0, .int 0, .int 0, .int 0, .int 0, .ref a13, .int 0, .ref a14, .ref a15, .int 0, .int 0, .ref a16, .int 0, .ref a17, .ref a18, .int 0, .int (-1), .ref a19, .ref a20, .ref a21, .int 0, .ref a22, .ref a23, .ref a24, .ref a25, .ref a26, .ref a27, .ref a28, .ref a29, .ref a30, .int 0, .int 0, .ref a31])), (a1, .inl (cI, 1560, .inl w0))] s.heap := hP
  have hl := lv_entry ([.ref a0]) (n := 3) (Nat.le_of_ble_eq_true rfl)
  rw [lg_entry_eq]
  generalize (lg_sl ([.ref a0]) ++ List.replicate (3 - (lg_sl ([.ref a0])).length) Slot.unset).toArray = ls at hl ⊢
  have hl : lv_has ls 3 [(0, .ref a0)] := hl
  refine lv_iconst (v := (-1)) hx hb dX12_learn_0 (by decide) ?_
  refine lv_istore_n (lv' := [(1, .int (-1)), (0, .ref a0)]) hx hb dX12_learn_1 rfl hl (by decide) rfl (fun ls hl => ?_)
  refine lv_iconst (v := 0) hx hb dX12_learn_2 (by decide) ?_
  refine lv_istore_n (lv' := [(2, .int 0), (1, .int (-1)), (0, .ref a0)]) hx hb dX12_learn_3 rfl hl (by decide) rfl (fun ls hl => ?_)
  refine lv_iload_n hx hb dX12_learn_4 rfl (lv_at hl 0 rfl) ?_
  refine lv_aload_n hx hb dX12_learn_5 rfl (lv_at hl 2 rfl) ?_
  refine tk_ri (wr := []) (tk_V (As := []) (rest := [.int 0]) (n := 0) hx hb hml hown hU hN (cc_X12_allRules_0 l (dC, dI) cI cL cZ s.heap.size a0 a1 a2 a3 a4 a5 a6 a7 a8 a9 a10 a11 a12 a13 a14 a15 a16 a17 a18 a19 a20 a21 a22 a23 a24 a25 a26 a27 a28 a29 a30 a31) wd_686 wd_687 wd_688 wd_5 wd_689 (by decide +kernel) ⟨Nat.le_of_ble_eq_true rfl, Nat.le_of_ble_eq_true rfl⟩ hK hP hD [0, 1] (by decide) rfl 0 12 rfl rfl rfl rfl hl.1 rfl (Nat.le_of_ble_eq_true rfl) dX12_learn_6 ⟨Nat.le_of_ble_eq_true rfl, Nat.le_of_ble_eq_true rfl⟩) hP hD hS hA [0, 1] [] rfl rfl (by decide) (by decide) (fun r_1 w_2 H locs hw hP hD hS => ?_)
  obtain ⟨rfl, rfl⟩ := hw
  have hP : va_P (dC, dI) vwCl [(a0, .inr (12, [.ref a1, .ref a2, .ref a3, .int 0, .ref a4, .int 0, .int 0, .int 0, .int 0, .int 0, .int (-1), .int 0, .int 0, .int 0, .int 0, .ref a5, .ref a6, .ref a7, .ref a8, .ref a9, .ref a10, .ref a11, .ref a12, .int 0, .int 0, .int 0, .int 0, .int 0, .ref a13, .int 0, .ref a14, .ref a15, .int 0, .int 0, .ref a16, .int 0, .ref a17, .ref a18, .int 0, .int (-1), .ref a19, .ref a20, .ref a21, .int 0, .ref a22, .ref a23, .ref a24, .ref a25, .ref a26, .ref a27, .ref a28, .ref a29, .ref a30, .int 0, .int 0, .ref a31])), (a1, .inl (cI, 1560, .inl w0))] H := hP
  have hD : va_D A [(a0, .inr (12, [.ref a1, .ref a2, .ref a3, .int 0, .ref a4, .int 0, .int 0, .int 0, .int 0, .int 0, .int (-1), .int 0, .int 0, .int 0, .int 0, .ref a5, .ref a6, .ref a7, .ref a8, .ref a9, .ref a10, .ref a11, .ref a12, .int 0, .int 0, .int 0, .int 0, .int 0, .ref a13, .int 0, .ref a14, .ref a15, .int 0, .int 0, .ref a16, .int 0, .ref a17, .ref a18, .int 0, .int (-1), .ref a19, .ref a20, .ref a21, .int 0, .ref a22, .ref a23, .ref a24, .ref a25, .ref a26, .ref a27, .ref a28, .ref a29, .ref a30, .int 0, .int 0, .ref a31])), (a1, .inl (cI, 1560, .inl w0))] := hD
  refine lv_icmp_gt (tgt := 45) hx hb dX12_learn_9 (by decide) (fun c9 => absurd c9 (by decide)) (fun _ => ?_)
  refine lv_iload_n hx hb dX12_learn_12 rfl (lv_at hl 1 rfl) ?_
  refine lv_iconst (v := (-1)) hx hb dX12_learn_13 (by decide) ?_
  refine lv_icmp_eq (tgt := 28) hx hb dX12_learn_14 (by decide) (fun _ => ?_) (fun c9 => absurd (by decide) c9) 
  refine lv_aload_n hx hb dX12_learn_28 rfl (lv_at hl 2 rfl) ?_
  refine lv_iload_n hx hb dX12_learn_29 rfl (lv_at hl 0 rfl) ?_
  refine tk_ri (wr := []) (tk_V (As := [.int 0]) (rest := []) (n := 1) hx hb hml hown hU hN (cc_X12_firstWrong_0 l (dC, dI) cI cL cZ H.size a0 a1 a2 a3 a4 a5 a6 a7 a8 a9 a10 a11 a12 a13 a14 a15 a16 a17 a18 a19 a20 a21 a22 a23 a24 a25 a26 a27 a28 a29 a30 a31) wd_1424 wd_1425 wd_1426 wd_5 wd_1427 (by decide +kernel) ⟨Nat.le_of_ble_eq_true rfl, Nat.le_of_ble_eq_true rfl⟩ hK hP hD [0, 1] (by decide) rfl 0 12 rfl rfl rfl rfl hl.1 rfl (Nat.le_of_ble_eq_true rfl) dX12_learn_30 ⟨Nat.le_of_ble_eq_true rfl, Nat.le_of_ble_eq_true rfl⟩) hP hD hS hA [0, 1] [] rfl rfl (by decide) (by decide) (fun r_3 w_4 H locs hw hP hD hS => ?_)
  obtain ⟨rfl, rfl⟩ := hw
  have hP : va_P (dC, dI) vwCl [(a0, .inr (12, [.ref a1, .ref a2, .ref a3, .int 0, .ref a4, .int 0, .int 0, .int 0, .int 0, .int 0, .int (-1), .int 0, .int 0, .int 0, .int 0, .ref a5, .ref a6, .ref a7, .ref a8, .ref a9, .ref a10, .ref a11, .ref a12, .int 0, .int 0, .int 0, .int 0, .int 0, .ref a13, .int 0, .ref a14, .ref a15, .int 0, .int 0, .ref a16, .int 0, .ref a17, .ref a18, .int 0, .int (-1), .ref a19, .ref a20, .ref a21, .int 0, .ref a22, .ref a23, .ref a24, .ref a25, .ref a26, .ref a27, .ref a28, .ref a29, .ref a30, .int 0, .int 0, .ref a31])), (a1, .inl (cI, 1560, .inl w0))] H := hP
  have hD : va_D A [(a0, .inr (12, [.ref a1, .ref a2, .ref a3, .int 0, .ref a4, .int 0, .int 0, .int 0, .int 0, .int 0, .int (-1), .int 0, .int 0, .int 0, .int 0, .ref a5, .ref a6, .ref a7, .ref a8, .ref a9, .ref a10, .ref a11, .ref a12, .int 0, .int 0, .int 0, .int 0, .int 0, .ref a13, .int 0, .ref a14, .ref a15, .int 0, .int 0, .ref a16, .int 0, .ref a17, .ref a18, .int 0, .int (-1), .ref a19, .ref a20, .ref a21, .int 0, .ref a22, .ref a23, .ref a24, .ref a25, .ref a26, .ref a27, .ref a28, .ref a29, .ref a30, .int 0, .int 0, .ref a31])), (a1, .inl (cI, 1560, .inl w0))] := hD
  refine lv_iconst (v := (-1)) hx hb dX12_learn_33 (by decide) ?_
  refine lv_icmp_ne (tgt := 39) hx hb dX12_learn_34 (by decide) (fun c9 => absurd (by decide) c9) (fun _ => ?_)
  refine lv_iload_n hx hb dX12_learn_37 rfl (lv_at hl 0 rfl) ?_
  refine lv_istore_n (lv' := [(1, .int 0), (2, .int 0), (0, .ref a0)]) hx hb dX12_learn_38 rfl hl (by decide) rfl (fun ls hl => ?_)
  refine lv_iinc (v := 1) (lv' := [(2, .int 1), (1, .int 0), (0, .ref a0)]) hx hb dX12_learn_39 hl (k := 1) rfl (by decide) (by decide) rfl (fun ls hl => ?_)
  refine lv_goto (tgt := 4) hx hb dX12_learn_42 (by decide) ?_
  refine lv_iload_n hx hb dX12_learn_4 rfl (lv_at hl 0 rfl) ?_
  refine lv_aload_n hx hb dX12_learn_5 rfl (lv_at hl 2 rfl) ?_
  refine tk_ri (wr := []) (tk_V (As := []) (rest := [.int 1]) (n := 0) hx hb hml hown hU hN (cc_X12_allRules_0 l (dC, dI) cI cL cZ H.size a0 a1 a2 a3 a4 a5 a6 a7 a8 a9 a10 a11 a12 a13 a14 a15 a16 a17 a18 a19 a20 a21 a22 a23 a24 a25 a26 a27 a28 a29 a30 a31) wd_686 wd_687 wd_688 wd_5 wd_689 (by decide +kernel) ⟨Nat.le_of_ble_eq_true rfl, Nat.le_of_ble_eq_true rfl⟩ hK hP hD [0, 1] (by decide) rfl 0 12 rfl rfl rfl rfl hl.1 rfl (Nat.le_of_ble_eq_true rfl) dX12_learn_6 ⟨Nat.le_of_ble_eq_true rfl, Nat.le_of_ble_eq_true rfl⟩) hP hD hS hA [0, 1] [] rfl rfl (by decide) (by decide) (fun r_5 w_6 H locs hw hP hD hS => ?_)
  obtain ⟨rfl, rfl⟩ := hw
  have hP : va_P (dC, dI) vwCl [(a0, .inr (12, [.ref a1, .ref a2, .ref a3, .int 0, .ref a4, .int 0, .int 0, .int 0, .int 0, .int 0, .int (-1), .int 0, .int 0, .int 0, .int 0, .ref a5, .ref a6, .ref a7, .ref a8, .ref a9, .ref a10, .ref a11, .ref a12, .int 0, .int 0, .int 0, .int 0, .int 0, .ref a13, .int 0, .ref a14, .ref a15, .int 0, .int 0, .ref a16, .int 0, .ref a17, .ref a18, .int 0, .int (-1), .ref a19, .ref a20, .ref a21, .int 0, .ref a22, .ref a23, .ref a24, .ref a25, .ref a26, .ref a27, .ref a28, .ref a29, .ref a30, .int 0, .int 0, .ref a31])), (a1, .inl (cI, 1560, .inl w0))] H := hP
  have hD : va_D A [(a0, .inr (12, [.ref a1, .ref a2, .ref a3, .int 0, .ref a4, .int 0, .int 0, .int 0, .int 0, .int 0, .int (-1), .int 0, .int 0, .int 0, .int 0, .ref a5, .ref a6, .ref a7, .ref a8, .ref a9, .ref a10, .ref a11, .ref a12, .int 0, .int 0, .int 0, .int 0, .int 0, .ref a13, .int 0, .ref a14, .ref a15, .int 0, .int 0, .ref a16, .int 0, .ref a17, .ref a18, .int 0, .int (-1), .ref a19, .ref a20, .ref a21, .int 0, .ref a22, .ref a23, .ref a24, .ref a25, .ref a26, .ref a27, .ref a28, .ref a29, .ref a30, .int 0, .int 0, .ref a31])), (a1, .inl (cI, 1560, .inl w0))] := hD
  refine lv_icmp_gt (tgt := 45) hx hb dX12_learn_9 (by decide) (fun _ => ?_) (fun c9 => absurd (by decide) c9) 
  refine lv_iload_n hx hb dX12_learn_45 rfl (lv_at hl 1 rfl) ?_
  have hP9 := hP.sub (ws' := []) [] rfl
  have hD9 := hD.sub (ws' := []) [] (by decide) rfl
  refine W.widen (k := 0) (n := 0) (Nat.le_of_ble_eq_true rfl) (Nat.le_of_ble_eq_true rfl) ?_
  exact W.iret (v := 0) hx hb hr (fun t ht hW => ⟨⟨0, [], rfl, ⟨rfl, rfl⟩, by rw [ht]; exact hP9, va_K.moved hW.alike hK, hD9⟩, hS.F ht⟩) hS.2.2 dX12_learn_46
