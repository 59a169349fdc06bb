set_option maxHeartbeats 8000000 in
set_option maxRecDepth 100000 in
theorem cc_X12_isRule_0 (l : Launch) (D : va_G) (cI cL cZ : ClassId) (sz : Nat) (a0 : Nat) (x0 : Int32) (a1 : Nat) (a2 : Nat) (a3 : Nat) (a4 : Nat) (a5 : Nat) (a6 : Nat) (a7 : Nat) (a8 : Nat) (a9 : Nat) (a10 : Nat) (a11 : Nat) (a12 : Nat) (a13 : Nat) (a14 : Nat) (a15 : Nat) (a16 : Nat) (a17 : Nat) (a18 : Nat) (a19 : Nat) (a20 : Nat) (a21 : Nat) (a22 : Nat) (a23 : Nat) (a24 : Nat) (a25 : Nat) (a26 : Nat) (a27 : Nat) (a28 : Nat) (a29 : Nat) (a30 : Nat) (a31 : Nat) : mI l D cI cL cZ yX12_isRule cX12_isRule 2 (some .boolean) 1 22 0 0 [.ref a0, .int x0] sz [(a0, .inr (12, [.ref a1, .ref a2, .ref a3, .int 0, .ref a4, .int 0, .int 0, .int 0, .int 0, .int 0, .int (-1), .int 0, .int 0, .int 0, .int 0, .ref a5, .ref a6, .ref a7, .ref a8, .ref a9, .ref a10, .ref a11, .ref a12, .int 0, .int 0, .int 0, .int 0, .int 0, .ref a13, .int 0, .ref a14, .ref a15, .int 0, .int 0, .ref a16, .int 0, .ref a17, .ref a18, .int 0, .int (-1), .ref a19, .ref a20, .ref a21, .int 0, .ref a22, .ref a23, .ref a24, .ref a25, .ref a26, .ref a27, .ref a28, .ref a29, .ref a30, .int 0, .int 0, .ref a31])), (a1, .inl (cI, 1560, .inl w0))] (fun (r : Int32) (w1 : va_W) => r = 0 ∧ w1 = ([(a0, .inr (12, [.ref a1, .ref a2, .ref a3, .int 0, .ref a4, .int 0, .int 0, .int 0, .int 0, .int 0, .int (-1), .int 0, .int 0, .int 0, .int 0, .ref a5, .ref a6, .ref a7, .ref a8, .ref a9, .ref a10, .ref a11, .ref a12, .int 0, .int 0, .int 0, .int 0, .int 0, .ref a13, .int 0, .ref a14, .ref a15, .int 0, .int 0, .ref a16, .int 0, .ref a17, .ref a18, .int 0, .int (-1), .ref a19, .ref a20, .ref a21, .int 0, .ref a22, .ref a23, .ref a24, .ref a25, .ref a26, .ref a27, .ref a28, .ref a29, .ref a30, .int 0, .int 0, .ref a31])), (a1, .inl (cI, 1560, .inl w0))] : va_W)) := by
  obtain ⟨dC, dI⟩ := D
  refine Met.ofW (cc := cX12_isRule) (maxL := 2) (ret := (some .boolean)) (by decide) rfl ?_
  intro p e s m args below meth c s₁ B hml hv
  obtain ⟨rfl, hsz, hP, hK, hD0, hN⟩ := hv
  have hx := B.exec
  have hb := B.bytes
  have hr := B.returns
  have hU : ∀ w ∈ wsU, w.before _ s = true := fun w h => atoms_spec (ws := wU yX12_isRule cX12_isRule 2 (some .boolean)) B.pre w (List.mem_cons_of_mem _ h)
  have hown : s.vm.findClass RX12 = some m.cls := findClass_of_methodNamed B.named
  have hlocks := B.notSynchronized
  subst hsz
  have hD := hD0.self (sz := s.heap.size)
  generalize hAe : va_A [(a0, .inr (12, [.ref a1, .ref a2, .ref a3, .int 0, .ref a4, .int 0, .int 0, .int 0, .int 0, .int 0, .int (-1), .int 0, .int 0, .int 0, .int 0, .ref a5, .ref a6, .ref a7, .ref a8, .ref a9, .ref a10, .ref a11, .ref a12, .int 0, .int 0, .int 0, .int 0, .int 0, .ref a13, .int 0, .ref a14, .ref a15, .int 0, .int 0, .ref a16, .int 0, .ref a17, .ref a18, .int 0, .int (-1), .ref a19, .ref a20, .ref a21, .int 0, .ref a22, .ref a23, .ref a24, .ref a25, .ref a26, .ref a27, .ref a28, .ref a29, .ref a30, .int 0, .int 0, .ref a31])), (a1, .inl (cI, 1560, .inl w0))] s.heap.size = A at hD ⊢
  have hA : ∀ q : Nat, s.heap.size ≤ q → A q := fun q h => by rw [← hAe]; exact Or.inr h
  have hS : va_S A s.heap s.heap [] := va_S.rf
  have hP : va_P (dC, dI) vwCl [(a0, .inr (12, [.ref a1, .ref a2, .ref a3, .int 0, .ref a4, .int 0, .int 0, .int 0, .int 0, .int 0, .int (-1), .int 0, .int 0, .int 0, .int 0, .ref a5, .ref a6, .ref a7, .ref a8, .ref a9, .ref a10, .ref a11, .ref a12, .int 0, .int 0, .int 0, .int 0, .int 0, .ref a13, .int 0, .ref a14, .ref a15, .int 0, .int 0, .ref a16, .int 0, .ref a17, .ref a18, .int 0, .int (-1), .ref a19, .ref a20, .ref a21, .int 0, .ref a22, .ref a23, .ref a24, .ref a25, .ref a26, .ref a27, .ref a28, .ref a29, .ref a30, .int 0, .int 0, .ref a31])), (a1, .inl (cI, 1560, .inl w0))] s.heap := hP
  have hl := lv_entry ([.ref a0, .int x0]) (n := 2) (Nat.le_of_ble_eq_true rfl)
  rw [lg_entry_eq]
  generalize (lg_sl ([.ref a0, .int x0]) ++ List.replicate (2 - (lg_sl ([.ref a0, .int x0])).length) Slot.unset).toArray = ls at hl ⊢
  have hl : lv_has ls 2 [(0, .ref a0), (1, .int x0)] := hl
  refine lv_iload_n hx hb dX12_isRule_0 rfl (lv_at hl 1 rfl) ?_
  refine lv_iconst (v := 0) hx hb dX12_isRule_1 (by decide) ?_
  refine lv_aload_n hx hb dX12_isRule_2 rfl (lv_at hl 0 rfl) ?_
  refine va_get (D := (dC, dI)) (ci := 12) (v := .ref a1) (C := RX12) (T := TX12) (N := 56) hx hb hU inlX12 hown hK hP 0 rfl rfl 0 (by decide) (hU _ wd_169) (fun _ h9 => h9) rfl dX12_isRule_3 ?_
  refine lv_bipush (v := 17) hx hb dX12_isRule_6 (by decide) ?_
  refine va_iald hx hb hK hP 1 0 rfl rfl (vp_in_nI (n := 17) (by decide) (by decide)) dX12_isRule_8 ?_
  refine tk_topi (y := 0) (by decide) ?_
  refine lv_iconst (v := 1) hx hb dX12_isRule_9 (by decide) ?_
  refine lv_isub hx hb dX12_isRule_10 ?_
  refine tk_topi (y := (-1)) (by decide) ?_
  refine tk_ri (wr := [(a0, .inr (12, [.ref a1, .ref a2, .ref a3, .int 0, .ref a4, .int 0, .int 0, .int 0, .int 0, .int 0, .int (-1), .int 0, .int 0, .int 0, .int 0, .ref a5, .ref a6, .ref a7, .ref a8, .ref a9, .ref a10, .ref a11, .ref a12, .int 0, .int 0, .int 0, .int 0, .int 0, .ref a13, .int 0, .ref a14, .ref a15, .int 0, .int 0, .ref a16, .int 0, .ref a17, .ref a18, .int 0, .int (-1), .ref a19, .ref a20, .ref a21, .int 0, .ref a22, .ref a23, .ref a24, .ref a25, .ref a26, .ref a27, .ref a28, .ref a29, .ref a30, .int 0, .int 0, .ref a31])), (a1, .inl (cI, 1560, .inl w0))]) (tk_S (As := [.int x0, .int 0, .int (-1)]) (rest := []) (n := 3) hx hb hml hown hU hN (cc_X12_isIn_6 l (dC, dI) cI cL cZ s.heap.size x0) wd_227 wd_228 wd_5 wd_229 (by decide +kernel) ⟨Nat.le_of_ble_eq_true rfl, Nat.le_of_ble_eq_true rfl⟩ hK hP hD [] (by decide) rfl rfl hl.1 rfl (Nat.le_of_ble_eq_true rfl) dX12_isRule_11 ⟨Nat.le_of_ble_eq_true rfl, Nat.le_of_ble_eq_true rfl⟩) hP hD hS hA [] [0, 1] rfl rfl (by decide) (by decide) (fun r_1 w_2 H locs hw hP hD hS => ?_)
  obtain ⟨rfl, rfl⟩ := hw
  have hP : va_P (dC, dI) vwCl [(a0, .inr (12, [.ref a1, .ref a2, .ref a3, .int 0, .ref a4, .int 0, .int 0, .int 0, .int 0, .int 0, .int (-1), .int 0, .int 0, .int 0, .int 0, .ref a5, .ref a6, .ref a7, .ref a8, .ref a9, .ref a10, .ref a11, .ref a12, .int 0, .int 0, .int 0, .int 0, .int 0, .ref a13, .int 0, .ref a14, .ref a15, .int 0, .int 0, .ref a16, .int 0, .ref a17, .ref a18, .int 0, .int (-1), .ref a19, .ref a20, .ref a21, .int 0, .ref a22, .ref a23, .ref a24, .ref a25, .ref a26, .ref a27, .ref a28, .ref a29, .ref a30, .int 0, .int 0, .ref a31])), (a1, .inl (cI, 1560, .inl w0))] H := hP
  have hD : va_D A [(a0, .inr (12, [.ref a1, .ref a2, .ref a3, .int 0, .ref a4, .int 0, .int 0, .int 0, .int 0, .int 0, .int (-1), .int 0, .int 0, .int 0, .int 0, .ref a5, .ref a6, .ref a7, .ref a8, .ref a9, .ref a10, .ref a11, .ref a12, .int 0, .int 0, .int 0, .int 0, .int 0, .ref a13, .int 0, .ref a14, .ref a15, .int 0, .int 0, .ref a16, .int 0, .ref a17, .ref a18, .int 0, .int (-1), .ref a19, .ref a20, .ref a21, .int 0, .ref a22, .ref a23, .ref a24, .ref a25, .ref a26, .ref a27, .ref a28, .ref a29, .ref a30, .int 0, .int 0, .ref a31])), (a1, .inl (cI, 1560, .inl w0))] := hD
  have hP9 := hP.sub (ws' := [(a0, .inr (12, [.ref a1, .ref a2, .ref a3, .int 0, .ref a4, .int 0, .int 0, .int 0, .int 0, .int 0, .int (-1), .int 0, .int 0, .int 0, .int 0, .ref a5, .ref a6, .ref a7, .ref a8, .ref a9, .ref a10, .ref a11, .ref a12, .int 0, .int 0, .int 0, .int 0, .int 0, .ref a13, .int 0, .ref a14, .ref a15, .int 0, .int 0, .ref a16, .int 0, .ref a17, .ref a18, .int 0, .int (-1), .ref a19, .ref a20, .ref a21, .int 0, .ref a22, .ref a23, .ref a24, .ref a25, .ref a26, .ref a27, .ref a28, .ref a29, .ref a30, .int 0, .int 0, .ref a31])), (a1, .inl (cI, 1560, .inl w0))]) [0, 1] rfl
  have hD9 := hD.sub (ws' := [(a0, .inr (12, [.ref a1, .ref a2, .ref a3, .int 0, .ref a4, .int 0, .int 0, .int 0, .int 0, .int 0, .int (-1), .int 0, .int 0, .int 0, .int 0, .ref a5, .ref a6, .ref a7, .ref a8, .ref a9, .ref a10, .ref a11, .ref a12, .int 0, .int 0, .int 0, .int 0, .int 0, .ref a13, .int 0, .ref a14, .ref a15, .int 0, .int 0, .ref a16, .int 0, .ref a17, .ref a18, .int 0, .int (-1), .ref a19, .ref a20, .ref a21, .int 0, .ref a22, .ref a23, .ref a24, .ref a25, .ref a26, .ref a27, .ref a28, .ref a29, .ref a30, .int 0, .int 0, .ref a31])), (a1, .inl (cI, 1560, .inl w0))]) [0, 1] (by decide) rfl
  refine W.widen (k := 0) (n := 0) (Nat.le_of_ble_eq_true rfl) (Nat.le_of_ble_eq_true rfl) ?_
  exact W.zret (v := 0) (ty := .boolean) hx hb hr rfl (fun t ht hW => ⟨⟨0, [(a0, .inr (12, [.ref a1, .ref a2, .ref a3, .int 0, .ref a4, .int 0, .int 0, .int 0, .int 0, .int 0, .int (-1), .int 0, .int 0, .int 0, .int 0, .ref a5, .ref a6, .ref a7, .ref a8, .ref a9, .ref a10, .ref a11, .ref a12, .int 0, .int 0, .int 0, .int 0, .int 0, .ref a13, .int 0, .ref a14, .ref a15, .int 0, .int 0, .ref a16, .int 0, .ref a17, .ref a18, .int 0, .int (-1), .ref a19, .ref a20, .ref a21, .int 0, .ref a22, .ref a23, .ref a24, .ref a25, .ref a26, .ref a27, .ref a28, .ref a29, .ref a30, .int 0, .int 0, .ref a31])), (a1, .inl (cI, 1560, .inl w0))], rfl, ⟨rfl, rfl⟩, by rw [ht]; exact hP9, va_K.moved hW.alike hK, hD9⟩, hS.F ht⟩) hS.2.2 dX12_isRule_14
set_option maxHeartbeats 8000000 in
set_option maxRecDepth 100000 in
theorem op_X12_quarrel (l : Launch) (D : va_G) (cI cL cZ : ClassId) (sz : Nat) (a0 : Nat) (x0 : Int32) (x1 : Int32) (a1 : Nat) (a2 : Nat) (a3 : Nat) (a4 : Nat) (a5 : Nat) (a6 : Nat) (a7 : Nat) (a8 : Nat) (a9 : Nat) (a10 : Nat) (a11 : Nat) (a12 : Nat) (a13 : Nat) (a14 : Nat) (a15 : Nat) (a16 : Nat) (a17 : Nat) (a18 : Nat) (a19 : Nat) (a20 : Nat) (a21 : Nat) (a22 : Nat) (a23 : Nat) (a24 : Nat) (a25 : Nat) (a26 : Nat) (a27 : Nat) (a28 : Nat) (a29 : Nat) (a30 : Nat) (a31 : Nat) : mI l D cI cL cZ yX12_quarrel cX12_quarrel 8 (some .int) 2 43 0 0 [.ref a0, .int x0, .int x1] sz [(a0, .inr (12, [.ref a1, .ref a2, .ref a3, .int 0, .ref a4, .int 0, .int 0, .int 0, .int 0, .int 0, .int (-1), .int 0, .int 0, .int 0, .int 0, .ref a5, .ref a6, .ref a7, .ref a8, .ref a9, .ref a10, .ref a11, .ref a12, .int 0, .int 0, .int 0, .int 0, .int 0, .ref a13, .int 0, .ref a14, .ref a15, .int 0, .int 0, .ref a16, .int 0, .ref a17, .ref a18, .int 0, .int (-1), .ref a19, .ref a20, .ref a21, .int 0, .ref a22, .ref a23, .ref a24, .ref a25, .ref a26, .ref a27, .ref a28, .ref a29, .ref a30, .int 0, .int 0, .ref a31])), (a1, .inl (cI, 1560, .inl w0))] (fun (r : Int32) (w1 : va_W) => r = (-1) ∧ w1 = ([] : va_W)) := by
  obtain ⟨dC, dI⟩ := D
  refine Met.ofW (cc := cX12_quarrel) (maxL := 8) (ret := (some .int)) (by decide) rfl ?_
  intro p e s m args below meth c s₁ B hml hv
  obtain ⟨rfl, hsz, hP, hK, hD0, hN⟩ := hv
  have hx := B.exec
  have hb := B.bytes
  have hr := B.returns
  have hU : ∀ w ∈ wsU, w.before _ s = true := fun w h => atoms_spec (ws := wU yX12_quarrel cX12_quarrel 8 (some .int)) B.pre w (List.mem_cons_of_mem _ h)
  have hown : s.vm.findClass RX12 = some m.cls := findClass_of_methodNamed B.named
  have hlocks := B.notSynchronized
  subst hsz
  have hD := hD0.self (sz := s.heap.size)
  generalize hAe : va_A [(a0, .inr (12, [.ref a1, .ref a2, .ref a3, .int 0, .ref a4, .int 0, .int 0, .int 0, .int 0, .int 0, .int (-1), .int 0, .int 0, .int 0, .int 0, .ref a5, .ref a6, .ref a7, .ref a8, .ref a9, .ref a10, .ref a11, .ref a12, .int 0, .int 0, .int 0, .int 0, .int 0, .ref a13, .int 0, .ref a14, .ref a15, .int 0, .int 0, .ref a16, .int 0, .ref a17, .ref a18, .int 0, .int (-1), .ref a19, .ref a20, .ref a21, .int 0, .ref a22, .ref a23, .ref a24, .ref a25, .ref a26, .ref a27, .ref a28, .ref a29, .ref a30, .int 0, .int 0, .ref a31])), (a1, .inl (cI, 1560, .inl w0))] s.heap.size = A at hD ⊢
  have hA : ∀ q : Nat, s.heap.size ≤ q → A q := fun q h => by rw [← hAe]; exact Or.inr h
  have hS : va_S A s.heap s.heap [] := va_S.rf
  have hP : va_P (dC, dI) vwCl [(a0, .inr (12, [.ref a1, .ref a2, .ref a3, .int 0, .ref a4, .int 0, .int 0, .int 0, .int 0, .int 0, .int (-1), .int 0, .int 0, .int 0, .int 0, .ref a5, .ref a6, .ref a7, .ref a8, .ref a9, .ref a10, .ref a11, .ref a12, .int 0, .int 0, .int 0, .int 0, .int 0, .ref a13, .int 0, .ref a14, .ref a15, .int 0, .int 0, .ref a16, .int 0, .ref a17, .ref a18, .int 0, .int (-1), .ref a19, .ref a20, .ref a21, .int 0, .ref a22, .ref a23, .ref a24, .ref a25, .ref a26, .ref a27, .ref a28, .ref a29, .ref a30, .int 0, .int 0, .ref a31])), (a1, .inl (cI, 1560, .inl w0))] s.heap := hP
  have hl := lv_entry ([.ref a0, .int x0, .int x1]) (n := 8) (Nat.le_of_ble_eq_true rfl)
  rw [lg_entry_eq]
  generalize (lg_sl ([.ref a0, .int x0, .int x1]) ++ List.replicate (8 - (lg_sl ([.ref a0, .int x0, .int x1])).length) Slot.unset).toArray = ls at hl ⊢
  have hl : lv_has ls 8 [(0, .ref a0), (1, .int x0), (2, .int x1)] := hl
  refine lv_aload_n hx hb dX12_quarrel_0 rfl (lv_at hl 0 rfl) ?_
  refine lv_iload_n hx hb dX12_quarrel_1 rfl (lv_at hl 1 rfl) ?_
  refine tk_ri (wr := []) (tk_V (As := [.int x0]) (rest := []) (n := 1) hx hb hml hown hU hN (cc_X12_isRule_0 l (dC, dI) cI cL cZ s.heap.size a0 x0 a1 a2 a3 a4 a5 a6 a7 a8 a9 a10 a11 a12 a13 a14 a15 a16 a17 a18 a19 a20 a21 a22 a23 a24 a25 a26 a27 a28 a29 a30 a31) wd_1289 wd_1290 wd_1291 wd_5 wd_1292 (by decide +kernel) ⟨Nat.le_of_ble_eq_true rfl, Nat.le_of_ble_eq_true rfl⟩ hK hP hD [0, 1] (by decide) rfl 0 12 rfl rfl rfl rfl hl.1 rfl (Nat.le_of_ble_eq_true rfl) dX12_quarrel_2 ⟨Nat.le_of_ble_eq_true rfl, Nat.le_of_ble_eq_true rfl⟩) hP hD hS hA [0, 1] [] rfl rfl (by decide) (by decide) (fun r_1 w_2 H locs hw hP hD hS => ?_)
  obtain ⟨rfl, rfl⟩ := hw
  have hP : va_P (dC, dI) vwCl [(a0, .inr (12, [.ref a1, .ref a2, .ref a3, .int 0, .ref a4, .int 0, .int 0, .int 0, .int 0, .int 0, .int (-1), .int 0, .int 0, .int 0, .int 0, .ref a5, .ref a6, .ref a7, .ref a8, .ref a9, .ref a10, .ref a11, .ref a12, .int 0, .int 0, .int 0, .int 0, .int 0, .ref a13, .int 0, .ref a14, .ref a15, .int 0, .int 0, .ref a16, .int 0, .ref a17, .ref a18, .int 0, .int (-1), .ref a19, .ref a20, .ref a21, .int 0, .ref a22, .ref a23, .ref a24, .ref a25, .ref a26, .ref a27, .ref a28, .ref a29, .ref a30, .int 0, .int 0, .ref a31])), (a1, .inl (cI, 1560, .inl w0))] H := hP
  have hD : va_D A [(a0, .inr (12, [.ref a1, .ref a2, .ref a3, .int 0, .ref a4, .int 0, .int 0, .int 0, .int 0, .int 0, .int (-1), .int 0, .int 0, .int 0, .int 0, .ref a5, .ref a6, .ref a7, .ref a8, .ref a9, .ref a10, .ref a11, .ref a12, .int 0, .int 0, .int 0, .int 0, .int 0, .ref a13, .int 0, .ref a14, .ref a15, .int 0, .int 0, .ref a16, .int 0, .ref a17, .ref a18, .int 0, .int (-1), .ref a19, .ref a20, .ref a21, .int 0, .ref a22, .ref a23, .ref a24, .ref a25, .ref a26, .ref a27, .ref a28, .ref a29, .ref a30, .int 0, .int 0, .ref a31])), (a1, .inl (cI, 1560, .inl w0))] := hD
  refine lv_if_eq (tgt := 30) hx hb dX12_quarrel_5 (by decide) (fun _ => ?_) (fun c9 => absurd (by decide) c9) 
  refine lv_iconst (v := (-1)) hx hb dX12_quarrel_30 (by decide) ?_
  have hP9 := hP.sub (ws' := []) [] rfl
  have hD9 := hD.sub (ws' := []) [] (by decide) rfl
  refine W.widen (k := 0) (n := 0) (Nat.le_of_ble_eq_true rfl) (Nat.le_of_ble_eq_true rfl) ?_
  exact W.iret (v := (-1)) hx hb hr (fun t ht hW => ⟨⟨(-1), [], rfl, ⟨rfl, rfl⟩, by rw [ht]; exact hP9, va_K.moved hW.alike hK, hD9⟩, hS.F ht⟩) hS.2.2 dX12_quarrel_31
set_option maxHeartbeats 8000000 in
set_option maxRecDepth 100000 in
theorem cc_X12_isIn_12 (l : Launch) (D : va_G) (cI cL cZ : ClassId) (sz : Nat)  : mI l D cI cL cZ yX12_isIn cX12_isIn 3 (some .boolean) 0 0 0 0 [.int 1, .int 1, .int 3] sz [] (fun (r : Int32) (w1 : va_W) => r = 1 ∧ w1 = ([] : va_W)) := by
  obtain ⟨dC, dI⟩ := D
  refine Met.ofW (cc := cX12_isIn) (maxL := 3) (ret := (some .boolean)) (by decide) rfl ?_
  intro p e s m args below meth c s₁ B hml hv
  obtain ⟨rfl, hsz, hP, hK, hD0, hN⟩ := hv
  have hx := B.exec
  have hb := B.bytes
  have hr := B.returns
  have hU : ∀ w ∈ wsU, w.before _ s = true := fun w h => atoms_spec (ws := wU yX12_isIn cX12_isIn 3 (some .boolean)) B.pre w (List.mem_cons_of_mem _ h)
  have hown : s.vm.findClass RX12 = some m.cls := findClass_of_methodNamed B.named
  have hlocks := B.notSynchronized
  subst hsz
  have hD := hD0.self (sz := s.heap.size)
  generalize hAe : va_A [] s.heap.size = A at hD ⊢
  have hA : ∀ q : Nat, s.heap.size ≤ q → A q := fun q h => by rw [← hAe]; exact Or.inr h
  have hS : va_S A s.heap s.heap [] := va_S.rf
  have hP : va_P (dC, dI) vwCl [] s.heap := hP
  have hl := lv_entry ([.int 1, .int 1, .int 3]) (n := 3) (Nat.le_of_ble_eq_true rfl)
  rw [lg_entry_eq]
  generalize (lg_sl ([.int 1, .int 1, .int 3]) ++ List.replicate (3 - (lg_sl ([.int 1, .int 1, .int 3])).length) Slot.unset).toArray = ls at hl ⊢
  have hl : lv_has ls 3 [(0, .int 1), (1, .int 1), (2, .int 3)] := hl
  refine lv_iload_n hx hb dX12_isIn_0 rfl (lv_at hl 0 rfl) ?_
  refine lv_iload_n hx hb dX12_isIn_1 rfl (lv_at hl 1 rfl) ?_
  refine lv_icmp_lt (tgt := 14) hx hb dX12_isIn_2 (by decide) (fun c9 => absurd c9 (by decide)) (fun _ => ?_)
  refine lv_iload_n hx hb dX12_isIn_5 rfl (lv_at hl 0 rfl) ?_
  refine lv_iload_n hx hb dX12_isIn_6 rfl (lv_at hl 2 rfl) ?_
  refine lv_icmp_gt (tgt := 14) hx hb dX12_isIn_7 (by decide) (fun c9 => absurd c9 (by decide)) (fun _ => ?_)
  refine lv_iconst (v := 1) hx hb dX12_isIn_10 (by decide) ?_
  refine lv_goto (tgt := 15) hx hb dX12_isIn_11 (by decide) ?_
  have hP9 := hP.sub (ws' := []) [] rfl
  have hD9 := hD.sub (ws' := []) [] (by decide) rfl
  refine W.widen (k := 0) (n := 0) (Nat.le_of_ble_eq_true rfl) (Nat.le_of_ble_eq_true rfl) ?_
  exact W.zret (v := 1) (ty := .boolean) hx hb hr rfl (fun t ht hW => ⟨⟨1, [], rfl, ⟨rfl, rfl⟩, by rw [ht]; exact hP9, va_K.moved hW.alike hK, hD9⟩, hS.F ht⟩) hS.2.2 dX12_isIn_15
set_option maxHeartbeats 8000000 in
set_option maxRecDepth 100000 in
theorem cc_X12_partsOf_0 (l : Launch) (D : va_G) (cI cL cZ : ClassId) (sz : Nat) (a0 : Nat) (a1 : Nat) (a2 : Nat) (a3 : Nat) (a4 : Nat) (a5 : Nat) (a6 : Nat) (a7 : Nat) (a8 : Nat) (a9 : Nat) (a10 : Nat) (a11 : Nat) (a12 : Nat) (a13 : Nat) (a14 : Nat) (a15 : Nat) (a16 : Nat) (a17 : Nat) (a18 : Nat) (a19 : Nat) (a20 : Nat) (a21 : Nat) (a22 : Nat) (a23 : Nat) (a24 : Nat) (a25 : Nat) (a26 : Nat) (a27 : Nat) (a28 : Nat) (a29 : Nat) (a30 : Nat) (a31 : Nat) : mI l D cI cL cZ yX12_partsOf cX12_partsOf 6 (some .int) 1 24 0 0 [.ref a0, .int 0, .int 0, .int 1] sz [(a0, .inr (12, [.ref a1, .ref a2, .ref a3, .int 0, .ref a4, .int 0, .int 0, .int 0, .int 0, .int 0, .int (-1), .int 0, .int 0, .int 0, .int 0, .ref a5, .ref a6, .ref a7, .ref a8, .ref a9, .ref a10, .ref a11, .ref a12, .int 0, .int 0, .int 0, .int 0, .int 0, .ref a13, .int 0, .ref a14, .ref a15, .int 0, .int 0, .ref a16, .int 0, .ref a17, .ref a18, .int 0, .int (-1), .ref a19, .ref a20, .ref a21, .int 0, .ref a22, .ref a23, .ref a24, .ref a25, .ref a26, .ref a27, .ref a28, .ref a29, .ref a30, .int 0, .int 0, .ref a31])), (a1, .inl (cI, 1560, .inl w0))] (fun (r : Int32) (w1 : va_W) => r = (-1) ∧ w1 = ([(a0, .inr (12, [.ref a1, .ref a2, .ref a3, .int 0, .ref a4, .int 0, .int 0, .int 0, .int 0, .int 0, .int (-1), .int 0, .int 0, .int 0, .int 0, .ref a5, .ref a6, .ref a7, .ref a8, .ref a9, .ref a10, .ref a11, .ref a12, .int 0, .int 0, .int 0, .int 0, .int 0, .ref a13, .int 0, .ref a14, .ref a15, .int 0, .int 0, .ref a16, .int 0, .ref a17, .ref a18, .int 0, .int (-1), .ref a19, .ref a20, .ref a21, .int 0, .ref a22, .ref a23, .ref a24, .ref a25, .ref a26, .ref a27, .ref a28, .ref a29, .ref a30, .int 0, .int 0, .ref a31])), (a1, .inl (cI, 1560, .inl w0))] : va_W)) := by
  obtain ⟨dC, dI⟩ := D
  refine Met.ofW (cc := cX12_partsOf) (maxL := 6) (ret := (some .int)) (by decide) rfl ?_
  intro p e s m args below meth c s₁ B hml hv
  obtain ⟨rfl, hsz, hP, hK, hD0, hN⟩ := hv
  have hx := B.exec
  have hb := B.bytes
  have hr := B.returns
  have hU : ∀ w ∈ wsU, w.before _ s = true := fun w h => atoms_spec (ws := wU yX12_partsOf cX12_partsOf 6 (some .int)) B.pre w (List.mem_cons_of_mem _ h)
  have hown : s.vm.findClass RX12 = some m.cls := findClass_of_methodNamed B.named
  have hlocks := B.notSynchronized
  subst hsz
  have hD := hD0.self (sz := s.heap.size)
  generalize hAe : va_A [(a0, .inr (12, [.ref a1, .ref a2, .ref a3, .int 0, .ref a4, .int 0, .int 0, .int 0, .int 0, .int 0, .int (-1), .int 0, .int 0, .int 0, .int 0, .ref a5, .ref a6, .ref a7, .ref a8, .ref a9, .ref a10, .ref a11, .ref a12, .int 0, .int 0, .int 0, .int 0, .int 0, .ref a13, .int 0, .ref a14, .ref a15, .int 0, .int 0, .ref a16, .int 0, .ref a17, .ref a18, .int 0, .int (-1), .ref a19, .ref a20, .ref a21, .int 0, .ref a22, .ref a23, .ref a24, .ref a25, .ref a26, .ref a27, .ref a28, .ref a29, .ref a30, .int 0, .int 0, .ref a31])), (a1, .inl (cI, 1560, .inl w0))] s.heap.size = A at hD ⊢
  have hA : ∀ q : Nat, s.heap.size ≤ q → A q := fun q h => by rw [← hAe]; exact Or.inr h
  have hS : va_S A s.heap s.heap [] := va_S.rf
  have hP : va_P (dC, dI) vwCl [(a0, .inr (12, [.ref a1, .ref a2, .ref a3, .int 0, .ref a4, .int 0, .int 0, .int 0, .int 0, .int 0, .int (-1), .int 0, .int 0, .int 0, .int 0, .ref a5, .ref a6, .ref a7, .ref a8, .ref a9, .ref a10, .ref a11, .ref a12, .int 0, .int 0, .int 0, .int 0, .int 0, .ref a13, .int 0, .ref a14, .ref a15, .int 0, .int 0, .ref a16, .int 0, .ref a17, .ref a18, .int 0, .int (-1), .ref a19, .ref a20, .ref a21, .int 0, .ref a22, .ref a23, .ref a24, .ref a25, .ref a26, .ref a27, .ref a28, .ref a29, .ref a30, .int 0, .int 0, .ref a31])), (a1, .inl (cI, 1560, .inl w0))] s.heap := hP
  have hl := lv_entry ([.ref a0, .int 0, .int 0, .int 1]) (n := 6) (Nat.le_of_ble_eq_true rfl)
  rw [lg_entry_eq]
  generalize (lg_sl ([.ref a0, .int 0, .int 0, .int 1]) ++ List.replicate (6 - (lg_sl ([.ref a0, .int 0, .int 0, .int 1])).length) Slot.unset).toArray = ls at hl ⊢
  have hl : lv_has ls 6 [(0, .ref a0), (1, .int 0), (2, .int 0), (3, .int 1)] := hl
  refine lv_aload_n hx hb dX12_partsOf_0 rfl (lv_at hl 0 rfl) ?_
  refine lv_iload_n hx hb dX12_partsOf_1 rfl (lv_at hl 3 rfl) ?_
  refine tk_ri (wr := []) (tk_V (As := [.int 1]) (rest := []) (n := 1) hx hb hml hown hU hN (cc_X12_wordsUpTo_0 l (dC, dI) cI cL cZ s.heap.size a0 a1 a2 a3 a4 a5 a6 a7 a8 a9 a10 a11 a12 a13 a14 a15 a16 a17 a18 a19 a20 a21 a22 a23 a24 a25 a26 a27 a28 a29 a30 a31) wd_1169 wd_1170 wd_1171 wd_5 wd_1172 (by decide +kernel) ⟨Nat.le_of_ble_eq_true rfl, Nat.le_of_ble_eq_true rfl⟩ hK hP hD [0, 1] (by decide) rfl 0 12 rfl rfl rfl rfl hl.1 rfl (Nat.le_of_ble_eq_true rfl) dX12_partsOf_2 ⟨Nat.le_of_ble_eq_true rfl, Nat.le_of_ble_eq_true rfl⟩) hP hD hS hA [0, 1] [] rfl rfl (by decide) (by decide) (fun r_1 w_2 H locs hw hP hD hS => ?_)
  obtain ⟨rfl, rfl⟩ := hw
  have hP : va_P (dC, dI) vwCl [(a0, .inr (12, [.ref a1, .ref a2, .ref a3, .int 0, .ref a4, .int 0, .int 0, .int 0, .int 0, .int 0, .int (-1), .int 0, .int 0, .int 0, .int 0, .ref a5, .ref a6, .ref a7, .ref a8, .ref a9, .ref a10, .ref a11, .ref a12, .int 0, .int 0, .int 0, .int 0, .int 0, .ref a13, .int 0, .ref a14, .ref a15, .int 0, .int 0, .ref a16, .int 0, .ref a17, .ref a18, .int 0, .int (-1), .ref a19, .ref a20, .ref a21, .int 0, .ref a22, .ref a23, .ref a24, .ref a25, .ref a26, .ref a27, .ref a28, .ref a29, .ref a30, .int 0, .int 0, .ref a31])), (a1, .inl (cI, 1560, .inl w0))] H := hP
  have hD : va_D A [(a0, .inr (12, [.ref a1, .ref a2, .ref a3, .int 0, .ref a4, .int 0, .int 0, .int 0, .int 0, .int 0, .int (-1), .int 0, .int 0, .int 0, .int 0, .ref a5, .ref a6, .ref a7, .ref a8, .ref a9, .ref a10, .ref a11, .ref a12, .int 0, .int 0, .int 0, .int 0, .int 0, .ref a13, .int 0, .ref a14, .ref a15, .int 0, .int 0, .ref a16, .int 0, .ref a17, .ref a18, .int 0, .int (-1), .ref a19, .ref a20, .ref a21, .int 0, .ref a22, .ref a23, .ref a24, .ref a25, .ref a26, .ref a27, .ref a28, .ref a29, .ref a30, .int 0, .int 0, .ref a31])), (a1, .inl (cI, 1560, .inl w0))] := hD
  refine lv_istore (lv' := [(4, .int 0), (0, .ref a0), (1, .int 0), (2, .int 0), (3, .int 1)]) hx hb dX12_partsOf_5 hl (by decide) rfl (fun ls hl => ?_)
  refine lv_iconst (v := 0) hx hb dX12_partsOf_7 (by decide) ?_
  refine lv_istore (lv' := [(5, .int 0), (4, .int 0), (0, .ref a0), (1, .int 0), (2, .int 0), (3, .int 1)]) hx hb dX12_partsOf_8 hl (by decide) rfl (fun ls hl => ?_)
  refine lv_iload hx hb dX12_partsOf_10 (lv_at hl 0 rfl) ?_
  refine lv_iload hx hb dX12_partsOf_12 (lv_at hl 1 rfl) ?_
  refine lv_icmp_ge (tgt := 41) hx hb dX12_partsOf_14 (by decide) (fun _ => ?_) (fun c9 => absurd (by decide) c9) 
  refine lv_iconst (v := (-1)) hx hb dX12_partsOf_41 (by decide) ?_
  have hP9 := hP.sub (ws' := [(a0, .inr (12, [.ref a1, .ref a2, .ref a3, .int 0, .ref a4, .int 0, .int 0, .int 0, .int 0, .int 0, .int (-1), .int 0, .int 0, .int 0, .int 0, .ref a5, .ref a6, .ref a7, .ref a8, .ref a9, .ref a10, .ref a11, .ref a12, .int 0, .int 0, .int 0, .int 0, .int 0, .ref a13, .int 0, .ref a14, .ref a15, .int 0, .int 0, .ref a16, .int 0, .ref a17, .ref a18, .int 0, .int (-1), .ref a19, .ref a20, .ref a21, .int 0, .ref a22, .ref a23, .ref a24, .ref a25, .ref a26, .ref a27, .ref a28, .ref a29, .ref a30, .int 0, .int 0, .ref a31])), (a1, .inl (cI, 1560, .inl w0))]) [0, 1] rfl
  have hD9 := hD.sub (ws' := [(a0, .inr (12, [.ref a1, .ref a2, .ref a3, .int 0, .ref a4, .int 0, .int 0, .int 0, .int 0, .int 0, .int (-1), .int 0, .int 0, .int 0, .int 0, .ref a5, .ref a6, .ref a7, .ref a8, .ref a9, .ref a10, .ref a11, .ref a12, .int 0, .int 0, .int 0, .int 0, .int 0, .ref a13, .int 0, .ref a14, .ref a15, .int 0, .int 0, .ref a16, .int 0, .ref a17, .ref a18, .int 0, .int (-1), .ref a19, .ref a20, .ref a21, .int 0, .ref a22, .ref a23, .ref a24, .ref a25, .ref a26, .ref a27, .ref a28, .ref a29, .ref a30, .int 0, .int 0, .ref a31])), (a1, .inl (cI, 1560, .inl w0))]) [0, 1] (by decide) rfl
  refine W.widen (k := 0) (n := 0) (Nat.le_of_ble_eq_true rfl) (Nat.le_of_ble_eq_true rfl) ?_
  exact W.iret (v := (-1)) hx hb hr (fun t ht hW => ⟨⟨(-1), [(a0, .inr (12, [.ref a1, .ref a2, .ref a3, .int 0, .ref a4, .int 0, .int 0, .int 0, .int 0, .int 0, .int (-1), .int 0, .int 0, .int 0, .int 0, .ref a5, .ref a6, .ref a7, .ref a8, .ref a9, .ref a10, .ref a11, .ref a12, .int 0, .int 0, .int 0, .int 0, .int 0, .ref a13, .int 0, .ref a14, .ref a15, .int 0, .int 0, .ref a16, .int 0, .ref a17, .ref a18, .int 0, .int (-1), .ref a19, .ref a20, .ref a21, .int 0, .ref a22, .ref a23, .ref a24, .ref a25, .ref a26, .ref a27, .ref a28, .ref a29, .ref a30, .int 0, .int 0, .ref a31])), (a1, .inl (cI, 1560, .inl w0))], rfl, ⟨rfl, rfl⟩, by rw [ht]; exact hP9, va_K.moved hW.alike hK, hD9⟩, hS.F ht⟩) hS.2.2 dX12_partsOf_42
set_option maxHeartbeats 8000000 in
set_option maxRecDepth 100000 in
theorem cc_X12_isIn_13 (l : Launch) (D : va_G) (cI cL cZ : ClassId) (sz : Nat)  : mI l D cI cL cZ yX12_isIn cX12_isIn 3 (some .boolean) 0 0 0 0 [.int 2, .int 1, .int 3] sz [] (fun (r : Int32) (w1 : va_W) => r = 1 ∧ w1 = ([] : va_W)) := by
  obtain ⟨dC, dI⟩ := D
  refine Met.ofW (cc := cX12_isIn) (maxL := 3) (ret := (some .boolean)) (by decide) rfl ?_
  intro p e s m args below meth c s₁ B hml hv
  obtain ⟨rfl, hsz, hP, hK, hD0, hN⟩ := hv
  have hx := B.exec
  have hb := B.bytes
  have hr := B.returns
  have hU : ∀ w ∈ wsU, w.before _ s = true := fun w h => atoms_spec (ws := wU yX12_isIn cX12_isIn 3 (some .boolean)) B.pre w (List.mem_cons_of_mem _ h)
  have hown : s.vm.findClass RX12 = some m.cls := findClass_of_methodNamed B.named
  have hlocks := B.notSynchronized
  subst hsz
  have hD := hD0.self (sz := s.heap.size)
  generalize hAe : va_A [] s.heap.size = A at hD ⊢
  have hA : ∀ q : Nat, s.heap.size ≤ q → A q := fun q h => by rw [← hAe]; exact Or.inr h
  have hS : va_S A s.heap s.heap [] := va_S.rf
  have hP : va_P (dC, dI) vwCl [] s.heap := hP
  have hl := lv_entry ([.int 2, .int 1, .int 3]) (n := 3) (Nat.le_of_ble_eq_true rfl)
  rw [lg_entry_eq]
  generalize (lg_sl ([.int 2, .int 1, .int 3]) ++ List.replicate (3 - (lg_sl ([.int 2, .int 1, .int 3])).length) Slot.unset).toArray = ls at hl ⊢
  have hl : lv_has ls 3 [(0, .int 2), (1, .int 1), (2, .int 3)] := hl
  refine lv_iload_n hx hb dX12_isIn_0 rfl (lv_at hl 0 rfl) ?_
  refine lv_iload_n hx hb dX12_isIn_1 rfl (lv_at hl 1 rfl) ?_
  refine lv_icmp_lt (tgt := 14) hx hb dX12_isIn_2 (by decide) (fun c9 => absurd c9 (by decide)) (fun _ => ?_)
  refine lv_iload_n hx hb dX12_isIn_5 rfl (lv_at hl 0 rfl) ?_
  refine lv_iload_n hx hb dX12_isIn_6 rfl (lv_at hl 2 rfl) ?_
  refine lv_icmp_gt (tgt := 14) hx hb dX12_isIn_7 (by decide) (fun c9 => absurd c9 (by decide)) (fun _ => ?_)
  refine lv_iconst (v := 1) hx hb dX12_isIn_10 (by decide) ?_
  refine lv_goto (tgt := 15) hx hb dX12_isIn_11 (by decide) ?_
  have hP9 := hP.sub (ws' := []) [] rfl
  have hD9 := hD.sub (ws' := []) [] (by decide) rfl
  refine W.widen (k := 0) (n := 0) (Nat.le_of_ble_eq_true rfl) (Nat.le_of_ble_eq_true rfl) ?_
  exact W.zret (v := 1) (ty := .boolean) hx hb hr rfl (fun t ht hW => ⟨⟨1, [], rfl, ⟨rfl, rfl⟩, by rw [ht]; exact hP9, va_K.moved hW.alike hK, hD9⟩, hS.F ht⟩) hS.2.2 dX12_isIn_15
set_option maxHeartbeats 8000000 in
set_option maxRecDepth 100000 in
theorem cc_X12_partsOf_1 (l : Launch) (D : va_G) (cI cL cZ : ClassId) (sz : Nat) (a0 : Nat) (a1 : Nat) (a2 : Nat) (a3 : Nat) (a4 : Nat) (a5 : Nat) (a6 : Nat) (a7 : Nat) (a8 : Nat) (a9 : Nat) (a10 : Nat) (a11 : Nat) (a12 : Nat) (a13 : Nat) (a14 : Nat) (a15 : Nat) (a16 : Nat) (a17 : Nat) (a18 : Nat) (a19 : Nat) (a20 : Nat) (a21 : Nat) (a22 : Nat) (a23 : Nat) (a24 : Nat) (a25 : Nat) (a26 : Nat) (a27 : Nat) (a28 : Nat) (a29 : Nat) (a30 : Nat) (a31 : Nat) : mI l D cI cL cZ yX12_partsOf cX12_partsOf 6 (some .int) 1 24 0 0 [.ref a0, .int 0, .int 0, .int 2] sz [(a0, .inr (12, [.ref a1, .ref a2, .ref a3, .int 0, .ref a4, .int 0, .int 0, .int 0, .int 0, .int 0, .int (-1), .int 0, .int 0, .int 0, .int 0, .ref a5, .ref a6, .ref a7, .ref a8, .ref a9, .ref a10, .ref a11, .ref a12, .int 0, .int 0, .int 0, .int 0, .int 0, .ref a13, .int 0, .ref a14, .ref a15, .int 0, .int 0, .ref a16, .int 0, .ref a17, .ref a18, .int 0, .int (-1), .ref a19, .ref a20, .ref a21, .int 0, .ref a22, .ref a23, .ref a24, .ref a25, .ref a26, .ref a27, .ref a28, .ref a29, .ref a30, .int 0, .int 0, .ref a31])), (a1, .inl (cI, 1560, .inl w0))] (fun (r : Int32) (w1 : va_W) => r = (-1) ∧ w1 = ([(a0, .inr (12, [.ref a1, .ref a2, .ref a3, .int 0, .ref a4, .int 0, .int 0, .int 0, .int 0, .int 0, .int (-1), .int 0, .int 0, .int 0, .int 0, .ref a5, .ref a6, .ref a7, .ref a8, .ref a9, .ref a10, .ref a11, .ref a12, .int 0, .int 0, .int 0, .int 0, .int 0, .ref a13, .int 0, .ref a14, .ref a15, .int 0, .int 0, .ref a16, .int 0, .ref a17, .ref a18, .int 0, .int (-1), .ref a19, .ref a20, .ref a21, .int 0, .ref a22, .ref a23, .ref a24, .ref a25, .ref a26, .ref a27, .ref a28, .ref a29, .ref a30, .int 0, .int 0, .ref a31])), (a1, .inl (cI, 1560, .inl w0))] : va_W)) := by
  obtain ⟨dC, dI⟩ := D
  refine Met.ofW (cc := cX12_partsOf) (maxL := 6) (ret := (some .int)) (by decide) rfl ?_
  intro p e s m args below meth c s₁ B hml hv
  obtain ⟨rfl, hsz, hP, hK, hD0, hN⟩ := hv
  have hx := B.exec
  have hb := B.bytes
  have hr := B.returns
  have hU : ∀ w ∈ wsU, w.before _ s = true := fun w h => atoms_spec (ws := wU yX12_partsOf cX12_partsOf 6 (some .int)) B.pre w (List.mem_cons_of_mem _ h)
  have hown : s.vm.findClass RX12 = some m.cls := findClass_of_methodNamed B.named
  have hlocks := B.notSynchronized
  subst hsz
  have hD := hD0.self (sz := s.heap.size)
  generalize hAe : va_A [(a0, .inr (12, [.ref a1, .ref a2, .ref a3, .int 0, .ref a4, .int 0, .int 0, .int 0, .int 0, .int 0, .int (-1), .int 0, .int 0, .int 0, .int 0, .ref a5, .ref a6, .ref a7, .ref a8, .ref a9, .ref a10, .ref a11, .ref a12, .int 0, .int 0, .int 0, .int 0, .int 0, .ref a13, .int 0, .ref a14, .ref a15, .int 0, .int 0, .ref a16, .int 0, .ref a17, .ref a18, .int 0, .int (-1), .ref a19, .ref a20, .ref a21, .int 0, .ref a22, .ref a23, .ref a24, .ref a25, .ref a26, .ref a27, .ref a28, .ref a29, .ref a30, .int 0, .int 0, .ref a31])), (a1, .inl (cI, 1560, .inl w0))] s.heap.size = A at hD ⊢
  have hA : ∀ q : Nat, s.heap.size ≤ q → A q := fun q h => by rw [← hAe]; exact Or.inr h
  have hS : va_S A s.heap s.heap [] := va_S.rf
  have hP : va_P (dC, dI) vwCl [(a0, .inr (12, [.ref a1, .ref a2, .ref a3, .int 0, .ref a4, .int 0, .int 0, .int 0, .int 0, .int 0, .int (-1), .int 0, .int 0, .int 0, .int 0, .ref a5, .ref a6, .ref a7, .ref a8, .ref a9, .ref a10, .ref a11, .ref a12, .int 0, .int 0, .int 0, .int 0, .int 0, .ref a13, .int 0, .ref a14, .ref a15, .int 0, .int 0, .ref a16, .int 0, .ref a17, .ref a18, .int 0, .int (-1), .ref a19, .ref a20, .ref a21, .int 0, .ref a22, .ref a23, .ref a24, .ref a25, .ref a26, .ref a27, .ref a28, .ref a29, .ref a30, .int 0, .int 0, .ref a31])), (a1, .inl (cI, 1560, .inl w0))] s.heap := hP
  have hl := lv_entry ([.ref a0, .int 0, .int 0, .int 2]) (n := 6) (Nat.le_of_ble_eq_true rfl)
  rw [lg_entry_eq]
  generalize (lg_sl ([.ref a0, .int 0, .int 0, .int 2]) ++ List.replicate (6 - (lg_sl ([.ref a0, .int 0, .int 0, .int 2])).length) Slot.unset).toArray = ls at hl ⊢
  have hl : lv_has ls 6 [(0, .ref a0), (1, .int 0), (2, .int 0), (3, .int 2)] := hl
  refine lv_aload_n hx hb dX12_partsOf_0 rfl (lv_at hl 0 rfl) ?_
  refine lv_iload_n hx hb dX12_partsOf_1 rfl (lv_at hl 3 rfl) ?_
  refine tk_ri (wr := []) (tk_V (As := [.int 2]) (rest := []) (n := 1) hx hb hml hown hU hN (cc_X12_wordsUpTo_1 l (dC, dI) cI cL cZ s.heap.size a0 a1 a2 a3 a4 a5 a6 a7 a8 a9 a10 a11 a12 a13 a14 a15 a16 a17 a18 a19 a20 a21 a22 a23 a24 a25 a26 a27 a28 a29 a30 a31) wd_1169 wd_1170 wd_1171 wd_5 wd_1172 (by decide +kernel) ⟨Nat.le_of_ble_eq_true rfl, Nat.le_of_ble_eq_true rfl⟩ hK hP hD [0, 1] (by decide) rfl 0 12 rfl rfl rfl rfl hl.1 rfl (Nat.le_of_ble_eq_true rfl) dX12_partsOf_2 ⟨Nat.le_of_ble_eq_true rfl, Nat.le_of_ble_eq_true rfl⟩) hP hD hS hA [0, 1] [] rfl rfl (by decide) (by decide) (fun r_1 w_2 H locs hw hP hD hS => ?_)
  obtain ⟨rfl, rfl⟩ := hw
  have hP : va_P (dC, dI) vwCl [(a0, .inr (12, [.ref a1, .ref a2, .ref a3, .int 0, .ref a4, .int 0, .int 0, .int 0, .int 0, .int 0, .int (-1), .int 0, .int 0, .int 0, .int 0, .ref a5, .ref a6, .ref a7, .ref a8, .ref a9, .ref a10, .ref a11, .ref a12, .int 0, .int 0, .int 0, .int 0, .int 0, .ref a13, .int 0, .ref a14, .ref a15, .int 0, .int 0, .ref a16, .int 0, .ref a17, .ref a18, .int 0, .int (-1), .ref a19, .ref a20, .ref a21, .int 0, .ref a22, .ref a23, .ref a24, .ref a25, .ref a26, .ref a27, .ref a28, .ref a29, .ref a30, .int 0, .int 0, .ref a31])), (a1, .inl (cI, 1560, .inl w0))] H := hP
  have hD : va_D A [(a0, .inr (12, [.ref a1, .ref a2, .ref a3, .int 0, .ref a4, .int 0, .int 0, .int 0, .int 0, .int 0, .int (-1), .int 0, .int 0, .int 0, .int 0, .ref a5, .ref a6, .ref a7, .ref a8, .ref a9, .ref a10, .ref a11, .ref a12, .int 0, .int 0, .int 0, .int 0, .int 0, .ref a13, .int 0, .ref a14, .ref a15, .int 0, .int 0, .ref a16, .int 0, .ref a17, .ref a18, .int 0, .int (-1), .ref a19, .ref a20, .ref a21, .int 0, .ref a22, .ref a23, .ref a24, .ref a25, .ref a26, .ref a27, .ref a28, .ref a29, .ref a30, .int 0, .int 0, .ref a31])), (a1, .inl (cI, 1560, .inl w0))] := hD
  refine lv_istore (lv' := [(4, .int 0), (0, .ref a0), (1, .int 0), (2, .int 0), (3, .int 2)]) hx hb dX12_partsOf_5 hl (by decide) rfl (fun ls hl => ?_)
  refine lv_iconst (v := 0) hx hb dX12_partsOf_7 (by decide) ?_
  refine lv_istore (lv' := [(5, .int 0), (4, .int 0), (0, .ref a0), (1, .int 0), (2, .int 0), (3, .int 2)]) hx hb dX12_partsOf_8 hl (by decide) rfl (fun ls hl => ?_)
  refine lv_iload hx hb dX12_partsOf_10 (lv_at hl 0 rfl) ?_
  refine lv_iload hx hb dX12_partsOf_12 (lv_at hl 1 rfl) ?_
  refine lv_icmp_ge (tgt := 41) hx hb dX12_partsOf_14 (by decide) (fun _ => ?_) (fun c9 => absurd (by decide) c9) 
  refine lv_iconst (v := (-1)) hx hb dX12_partsOf_41 (by decide) ?_
  have hP9 := hP.sub (ws' := [(a0, .inr (12, [.ref a1, .ref a2, .ref a3, .int 0, .ref a4, .int 0, .int 0, .int 0, .int 0, .int 0, .int (-1), .int 0, .int 0, .int 0, .int 0, .ref a5, .ref a6, .ref a7, .ref a8, .ref a9, .ref a10, .ref a11, .ref a12, .int 0, .int 0, .int 0, .int 0, .int 0, .ref a13, .int 0, .ref a14, .ref a15, .int 0, .int 0, .ref a16, .int 0, .ref a17, .ref a18, .int 0, .int (-1), .ref a19, .ref a20, .ref a21, .int 0, .ref a22, .ref a23, .ref a24, .ref a25, .ref a26, .ref a27, .ref a28, .ref a29, .ref a30, .int 0, .int 0, .ref a31])), (a1, .inl (cI, 1560, .inl w0))]) [0, 1] rfl
  have hD9 := hD.sub (ws' := [(a0, .inr (12, [.ref a1, .ref a2, .ref a3, .int 0, .ref a4, .int 0, .int 0, .int 0, .int 0, .int 0, .int (-1), .int 0, .int 0, .int 0, .int 0, .ref a5, .ref a6, .ref a7, .ref a8, .ref a9, .ref a10, .ref a11, .ref a12, .int 0, .int 0, .int 0, .int 0, .int 0, .ref a13, .int 0, .ref a14, .ref a15, .int 0, .int 0, .ref a16, .int 0, .ref a17, .ref a18, .int 0, .int (-1), .ref a19, .ref a20, .ref a21, .int 0, .ref a22, .ref a23, .ref a24, .ref a25, .ref a26, .ref a27, .ref a28, .ref a29, .ref a30, .int 0, .int 0, .ref a31])), (a1, .inl (cI, 1560, .inl w0))]) [0, 1] (by decide) rfl
  refine W.widen (k := 0) (n := 0) (Nat.le_of_ble_eq_true rfl) (Nat.le_of_ble_eq_true rfl) ?_
  exact W.iret (v := (-1)) hx hb hr (fun t ht hW => ⟨⟨(-1), [(a0, .inr (12, [.ref a1, .ref a2, .ref a3, .int 0, .ref a4, .int 0, .int 0, .int 0, .int 0, .int 0, .int (-1), .int 0, .int 0, .int 0, .int 0, .ref a5, .ref a6, .ref a7, .ref a8, .ref a9, .ref a10, .ref a11, .ref a12, .int 0, .int 0, .int 0, .int 0, .int 0, .ref a13, .int 0, .ref a14, .ref a15, .int 0, .int 0, .ref a16, .int 0, .ref a17, .ref a18, .int 0, .int (-1), .ref a19, .ref a20, .ref a21, .int 0, .ref a22, .ref a23, .ref a24, .ref a25, .ref a26, .ref a27, .ref a28, .ref a29, .ref a30, .int 0, .int 0, .ref a31])), (a1, .inl (cI, 1560, .inl w0))], rfl, ⟨rfl, rfl⟩, by rw [ht]; exact hP9, va_K.moved hW.alike hK, hD9⟩, hS.F ht⟩) hS.2.2 dX12_partsOf_42
set_option maxHeartbeats 8000000 in
set_option maxRecDepth 100000 in
theorem cc_X12_isIn_14 (l : Launch) (D : va_G) (cI cL cZ : ClassId) (sz : Nat)  : mI l D cI cL cZ yX12_isIn cX12_isIn 3 (some .boolean) 0 0 0 0 [.int 3, .int 1, .int 3] sz [] (fun (r : Int32) (w1 : va_W) => r = 1 ∧ w1 = ([] : va_W)) := by
  obtain ⟨dC, dI⟩ := D
  refine Met.ofW (cc := cX12_isIn) (maxL := 3) (ret := (some .boolean)) (by decide) rfl ?_
  intro p e s m args below meth c s₁ B hml hv
  obtain ⟨rfl, hsz, hP, hK, hD0, hN⟩ := hv
  have hx := B.exec
  have hb := B.bytes
  have hr := B.returns
  have hU : ∀ w ∈ wsU, w.before _ s = true := fun w h => atoms_spec (ws := wU yX12_isIn cX12_isIn 3 (some .boolean)) B.pre w (List.mem_cons_of_mem _ h)
  have hown : s.vm.findClass RX12 = some m.cls := findClass_of_methodNamed B.named
  have hlocks := B.notSynchronized
  subst hsz
  have hD := hD0.self (sz := s.heap.size)
  generalize hAe : va_A [] s.heap.size = A at hD ⊢
  have hA : ∀ q : Nat, s.heap.size ≤ q → A q := fun q h => by rw [← hAe]; exact Or.inr h
  have hS : va_S A s.heap s.heap [] := va_S.rf
  have hP : va_P (dC, dI) vwCl [] s.heap := hP
  have hl := lv_entry ([.int 3, .int 1, .int 3]) (n := 3) (Nat.le_of_ble_eq_true rfl)
  rw [lg_entry_eq]
  generalize (lg_sl ([.int 3, .int 1, .int 3]) ++ List.replicate (3 - (lg_sl ([.int 3, .int 1, .int 3])).length) Slot.unset).toArray = ls at hl ⊢
  have hl : lv_has ls 3 [(0, .int 3), (1, .int 1), (2, .int 3)] := hl
  refine lv_iload_n hx hb dX12_isIn_0 rfl (lv_at hl 0 rfl) ?_
  refine lv_iload_n hx hb dX12_isIn_1 rfl (lv_at hl 1 rfl) ?_
  refine lv_icmp_lt (tgt := 14) hx hb dX12_isIn_2 (by decide) (fun c9 => absurd c9 (by decide)) (fun _ => ?_)
  refine lv_iload_n hx hb dX12_isIn_5 rfl (lv_at hl 0 rfl) ?_
  refine lv_iload_n hx hb dX12_isIn_6 rfl (lv_at hl 2 rfl) ?_
  refine lv_icmp_gt (tgt := 14) hx hb dX12_isIn_7 (by decide) (fun c9 => absurd c9 (by decide)) (fun _ => ?_)
  refine lv_iconst (v := 1) hx hb dX12_isIn_10 (by decide) ?_
  refine lv_goto (tgt := 15) hx hb dX12_isIn_11 (by decide) ?_
  have hP9 := hP.sub (ws' := []) [] rfl
  have hD9 := hD.sub (ws' := []) [] (by decide) rfl
  refine W.widen (k := 0) (n := 0) (Nat.le_of_ble_eq_true rfl) (Nat.le_of_ble_eq_true rfl) ?_
  exact W.zret (v := 1) (ty := .boolean) hx hb hr rfl (fun t ht hW => ⟨⟨1, [], rfl, ⟨rfl, rfl⟩, by rw [ht]; exact hP9, va_K.moved hW.alike hK, hD9⟩, hS.F ht⟩) hS.2.2 dX12_isIn_15
set_option maxHeartbeats 8000000 in
set_option maxRecDepth 100000 in
theorem cc_X12_wordsUpTo_2 (l : Launch) (D : va_G) (cI cL cZ : ClassId) (sz : Nat) (a0 : Nat) (a1 : Nat) (a2 : Nat) (a3 : Nat) (a4 : Nat) (a5 : Nat) (a6 : Nat) (a7 : Nat) (a8 : Nat) (a9 : Nat) (a10 : Nat) (a11 : Nat) (a12 : Nat) (a13 : Nat) (a14 : Nat) (a15 : Nat) (a16 : Nat) (a17 : Nat) (a18 : Nat) (a19 : Nat) (a20 : Nat) (a21 : Nat) (a22 : Nat) (a23 : Nat) (a24 : Nat) (a25 : Nat) (a26 : Nat) (a27 : Nat) (a28 : Nat) (a29 : Nat) (a30 : Nat) (a31 : Nat) : mI l D cI cL cZ yX12_wordsUpTo cX12_wordsUpTo 5 (some .int) 0 0 0 0 [.ref a0, .int 3] sz [(a0, .inr (12, [.ref a1, .ref a2, .ref a3, .int 0, .ref a4, .int 0, .int 0, .int 0, .int 0, .int 0, .int (-1), .int 0, .int 0, .int 0, .int 0, .ref a5, .ref a6, .ref a7, .ref a8, .ref a9, .ref a10, .ref a11, .ref a12, .int 0, .int 0, .int 0, .int 0, .int 0, .ref a13, .int 0, .ref a14, .ref a15, .int 0, .int 0, .ref a16, .int 0, .ref a17, .ref a18, .int 0, .int (-1), .ref a19, .ref a20, .ref a21, .int 0, .ref a22, .ref a23, .ref a24, .ref a25, .ref a26, .ref a27, .ref a28, .ref a29, .ref a30, .int 0, .int 0, .ref a31])), (a1, .inl (cI, 1560, .inl w0))] (fun (r : Int32) (w1 : va_W) => r = 0 ∧ w1 = ([(a0, .inr (12, [.ref a1, .ref a2, .ref a3, .int 0, .ref a4, .int 0, .int 0, .int 0, .int 0, .int 0, .int (-1), .int 0, .int 0, .int 0, .int 0, .ref a5, .ref a6, .ref a7, .ref a8, .ref a9, .ref a10, .ref a11, .ref a12, .int 0, .int 0, .int 0, .int 0, .int 0, .ref a13, .int 0, .ref a14, .ref a15, .int 0, .int 0, .ref a16, .int 0, .ref a17, .ref a18, .int 0, .int (-1), .ref a19, .ref a20, .ref a21, .int 0, .ref a22, .ref a23, .ref a24, .ref a25, .ref a26, .ref a27, .ref a28, .ref a29, .ref a30, .int 0, .int 0, .ref a31])), (a1, .inl (cI, 1560, .inl w0))] : va_W)) := by
  obtain ⟨dC, dI⟩ := D
  refine Met.ofW (cc := cX12_wordsUpTo) (maxL := 5) (ret := (some .int)) (by decide) rfl ?_
  intro p e s m args below meth c s₁ B hml hv
  obtain ⟨rfl, hsz, hP, hK, hD0, hN⟩ := hv
  have hx := B.exec
  have hb := B.bytes
  have hr := B.returns
  have hU : ∀ w ∈ wsU, w.before _ s = true := fun w h => atoms_spec (ws := wU yX12_wordsUpTo cX12_wordsUpTo 5 (some .int)) B.pre w (List.mem_cons_of_mem _ h)
  have hown : s.vm.findClass RX12 = some m.cls := findClass_of_methodNamed B.named
  have hlocks := B.notSynchronized
  subst hsz
  have hD := hD0.self (sz := s.heap.size)
  generalize hAe : va_A [(a0, .inr (12, [.ref a1, .ref a2, .ref a3, .int 0, .ref a4, .int 0, .int 0, .int 0, .int 0, .int 0, .int (-1), .int 0, .int 0, .int 0, .int 0, .ref a5, .ref a6, .ref a7, .ref a8, .ref a9, .ref a10, .ref a11, .ref a12, .int 0, .int 0, .int 0, .int 0, .int 0, .ref a13, .int 0, .ref a14, .ref a15, .int 0, .int 0, .ref a16, .int 0, .ref a17, .ref a18, .int 0, .int (-1), .ref a19, .ref a20, .ref a21, .int 0, .ref a22, .ref a23, .ref a24, .ref a25, .ref a26, .ref a27, .ref a28, .ref a29, .ref a30, .int 0, .int 0, .ref a31])), (a1, .inl (cI, 1560, .inl w0))] s.heap.size = A at hD ⊢
  have hA : ∀ q : Nat, s.heap.size ≤ q → A q := fun q h => by rw [← hAe]; exact Or.inr h
  have hS : va_S A s.heap s.heap [] := va_S.rf
  have hP : va_P (dC, dI) vwCl [(a0, .inr (12, [.ref a1, .ref a2, .ref a3, .int 0, .ref a4, .int 0, .int 0, .int 0, .int 0, .int 0, .int (-1), .int 0, .int 0, .int 0, .int 0, .ref a5, .ref a6, .ref a7, .ref a8, .ref a9, .ref a10, .ref a11, .ref a12, .int 0, .int 0, .int 0, .int 0, .int 0, .ref a13, .int 0, .ref a14, .ref a15, .int 0, .int 0, .ref a16, .int 0, .ref a17, .ref a18, .int 0, .int (-1), .ref a19, .ref a20, .ref a21, .int 0, .ref a22, .ref a23, .ref a24, .ref a25, .ref a26, .ref a27, .ref a28, .ref a29, .ref a30, .int 0, .int 0, .ref a31])), (a1, .inl (cI, 1560, .inl w0))] s.heap := hP
  have hl := lv_entry ([.ref a0, .int 3]) (n := 5) (Nat.le_of_ble_eq_true rfl)
  rw [lg_entry_eq]
  generalize (lg_sl ([.ref a0, .int 3]) ++ List.replicate (5 - (lg_sl ([.ref a0, .int 3])).length) Slot.unset).toArray = ls at hl ⊢
  have hl : lv_has ls 5 [(0, .ref a0), (1, .int 3)] := hl
  refine lv_iconst (v := 0) hx hb dX12_wordsUpTo_0 (by decide) ?_
  refine lv_istore_n (lv' := [(2, .int 0), (0, .ref a0), (1, .int 3)]) hx hb dX12_wordsUpTo_1 rfl hl (by decide) rfl (fun ls hl => ?_)
  refine lv_iconst (v := 1) hx hb dX12_wordsUpTo_2 (by decide) ?_
  refine lv_istore_n (lv' := [(3, .int 1), (2, .int 0), (0, .ref a0), (1, .int 3)]) hx hb dX12_wordsUpTo_3 rfl hl (by decide) rfl (fun ls hl => ?_)
  refine lv_iconst (v := 0) hx hb dX12_wordsUpTo_4 (by decide) ?_
  refine lv_istore (lv' := [(4, .int 0), (3, .int 1), (2, .int 0), (0, .ref a0), (1, .int 3)]) hx hb dX12_wordsUpTo_5 hl (by decide) rfl (fun ls hl => ?_)
  refine lv_iload hx hb dX12_wordsUpTo_7 (lv_at hl 0 rfl) ?_
  refine lv_iload_n hx hb dX12_wordsUpTo_9 rfl (lv_at hl 4 rfl) ?_
  refine lv_icmp_ge (tgt := 32) hx hb dX12_wordsUpTo_10 (by decide) (fun c9 => absurd c9 (by decide)) (fun _ => ?_)
  refine lv_iload_n hx hb dX12_wordsUpTo_13 rfl (lv_at hl 1 rfl) ?_
  refine lv_aload_n hx hb dX12_wordsUpTo_14 rfl (lv_at hl 3 rfl) ?_
  refine va_get (D := (dC, dI)) (ci := 12) (v := .ref a1) (C := RX12) (T := TX12) (N := 56) hx hb hU inlX12 hown hK hP 0 rfl rfl 0 (by decide) (hU _ wd_169) (fun _ h9 => h9) rfl dX12_wordsUpTo_15 ?_
  refine lv_iconst (v := 0) hx hb dX12_wordsUpTo_18 (by decide) ?_
  refine va_iald hx hb hK hP 1 0 rfl rfl (vp_in_nI (n := 0) (by decide) (by decide)) dX12_wordsUpTo_19 ?_
  refine tk_topi (y := 0) (by decide) ?_
  refine lv_imul hx hb dX12_wordsUpTo_20 ?_
  refine tk_topi (y := 0) (by decide) ?_
  refine lv_istore_n (lv' := [(3, .int 0), (4, .int 0), (2, .int 0), (0, .ref a0), (1, .int 3)]) hx hb dX12_wordsUpTo_21 rfl hl (by decide) rfl (fun ls hl => ?_)
  refine lv_iload_n hx hb dX12_wordsUpTo_22 rfl (lv_at hl 2 rfl) ?_
  refine lv_iload_n hx hb dX12_wordsUpTo_23 rfl (lv_at hl 0 rfl) ?_
  refine lv_iadd hx hb dX12_wordsUpTo_24 ?_
  refine tk_topi (y := 0) (by decide) ?_
  refine lv_istore_n (lv' := [(2, .int 0), (3, .int 0), (4, .int 0), (0, .ref a0), (1, .int 3)]) hx hb dX12_wordsUpTo_25 rfl hl (by decide) rfl (fun ls hl => ?_)
  refine lv_iinc (v := 1) (lv' := [(4, .int 1), (2, .int 0), (3, .int 0), (0, .ref a0), (1, .int 3)]) hx hb dX12_wordsUpTo_26 hl (k := 2) rfl (by decide) (by decide) rfl (fun ls hl => ?_)
  refine lv_goto (tgt := 7) hx hb dX12_wordsUpTo_29 (by decide) ?_
  refine lv_iload hx hb dX12_wordsUpTo_7 (lv_at hl 0 rfl) ?_
  refine lv_iload_n hx hb dX12_wordsUpTo_9 rfl (lv_at hl 4 rfl) ?_
  refine lv_icmp_ge (tgt := 32) hx hb dX12_wordsUpTo_10 (by decide) (fun c9 => absurd c9 (by decide)) (fun _ => ?_)
  refine lv_iload_n hx hb dX12_wordsUpTo_13 rfl (lv_at hl 2 rfl) ?_
  refine lv_aload_n hx hb dX12_wordsUpTo_14 rfl (lv_at hl 3 rfl) ?_
  refine va_get (D := (dC, dI)) (ci := 12) (v := .ref a1) (C := RX12) (T := TX12) (N := 56) hx hb hU inlX12 hown hK hP 0 rfl rfl 0 (by decide) (hU _ wd_169) (fun _ h9 => h9) rfl dX12_wordsUpTo_15 ?_
  refine lv_iconst (v := 0) hx hb dX12_wordsUpTo_18 (by decide) ?_
  refine va_iald hx hb hK hP 1 0 rfl rfl (vp_in_nI (n := 0) (by decide) (by decide)) dX12_wordsUpTo_19 ?_
  refine tk_topi (y := 0) (by decide) ?_
  refine lv_imul hx hb dX12_wordsUpTo_20 ?_
  refine tk_topi (y := 0) (by decide) ?_
  refine lv_istore_n (lv' := [(3, .int 0), (4, .int 1), (2, .int 0), (0, .ref a0), (1, .int 3)]) hx hb dX12_wordsUpTo_21 rfl hl (by decide) rfl (fun ls hl => ?_)
  refine lv_iload_n hx hb dX12_wordsUpTo_22 rfl (lv_at hl 2 rfl) ?_
  refine lv_iload_n hx hb dX12_wordsUpTo_23 rfl (lv_at hl 0 rfl) ?_
  refine lv_iadd hx hb dX12_wordsUpTo_24 ?_
  refine tk_topi (y := 0) (by decide) ?_
  refine lv_istore_n (lv' := [(2, .int 0), (3, .int 0), (4, .int 1), (0, .ref a0), (1, .int 3)]) hx hb dX12_wordsUpTo_25 rfl hl (by decide) rfl (fun ls hl => ?_)
  refine lv_iinc (v := 2) (lv' := [(4, .int 2), (2, .int 0), (3, .int 0), (0, .ref a0), (1, .int 3)]) hx hb dX12_wordsUpTo_26 hl (k := 2) rfl (by decide) (by decide) rfl (fun ls hl => ?_)
  refine lv_goto (tgt := 7) hx hb dX12_wordsUpTo_29 (by decide) ?_
  refine lv_iload hx hb dX12_wordsUpTo_7 (lv_at hl 0 rfl) ?_
  refine lv_iload_n hx hb dX12_wordsUpTo_9 rfl (lv_at hl 4 rfl) ?_
  refine lv_icmp_ge (tgt := 32) hx hb dX12_wordsUpTo_10 (by decide) (fun c9 => absurd c9 (by decide)) (fun _ => ?_)
  refine lv_iload_n hx hb dX12_wordsUpTo_13 rfl (lv_at hl 2 rfl) ?_
  refine lv_aload_n hx hb dX12_wordsUpTo_14 rfl (lv_at hl 3 rfl) ?_
  refine va_get (D := (dC, dI)) (ci := 12) (v := .ref a1) (C := RX12) (T := TX12) (N := 56) hx hb hU inlX12 hown hK hP 0 rfl rfl 0 (by decide) (hU _ wd_169) (fun _ h9 => h9) rfl dX12_wordsUpTo_15 ?_
  refine lv_iconst (v := 0) hx hb dX12_wordsUpTo_18 (by decide) ?_
  refine va_iald hx hb hK hP 1 0 rfl rfl (vp_in_nI (n := 0) (by decide) (by decide)) dX12_wordsUpTo_19 ?_
  refine tk_topi (y := 0) (by decide) ?_
  refine lv_imul hx hb dX12_wordsUpTo_20 ?_
  refine tk_topi (y := 0) (by decide) ?_
  refine lv_istore_n (lv' := [(3, .int 0), (4, .int 2), (2, .int 0), (0, .ref a0), (1, .int 3)]) hx hb dX12_wordsUpTo_21 rfl hl (by decide) rfl (fun ls hl => ?_)
  refine lv_iload_n hx hb dX12_wordsUpTo_22 rfl (lv_at hl 2 rfl) ?_
  refine lv_iload_n hx hb dX12_wordsUpTo_23 rfl (lv_at hl 0 rfl) ?_
  refine lv_iadd hx hb dX12_wordsUpTo_24 ?_
  refine tk_topi (y := 0) (by decide) ?_
  refine lv_istore_n (lv' := [(2, .int 0), (3, .int 0), (4, .int 2), (0, .ref a0), (1, .int 3)]) hx hb dX12_wordsUpTo_25 rfl hl (by decide) rfl (fun ls hl => ?_)
  refine lv_iinc (v := 3) (lv' := [(4, .int 3), (2, .int 0), (3, .int 0), (0, .ref a0), (1, .int 3)]) hx hb dX12_wordsUpTo_26 hl (k := 2) rfl (by decide) (by decide) rfl (fun ls hl => ?_)
  refine lv_goto (tgt := 7) hx hb dX12_wordsUpTo_29 (by decide) ?_
  refine lv_iload hx hb dX12_wordsUpTo_7 (lv_at hl 0 rfl) ?_
  refine lv_iload_n hx hb dX12_wordsUpTo_9 rfl (lv_at hl 4 rfl) ?_
  refine lv_icmp_ge (tgt := 32) hx hb dX12_wordsUpTo_10 (by decide) (fun _ => ?_) (fun c9 => absurd (by decide) c9) 
  refine lv_iload_n hx hb dX12_wordsUpTo_32 rfl (lv_at hl 1 rfl) ?_
  have hP9 := hP.sub (ws' := [(a0, .inr (12, [.ref a1, .ref a2, .ref a3, .int 0, .ref a4, .int 0, .int 0, .int 0, .int 0, .int 0, .int (-1), .int 0, .int 0, .int 0, .int 0, .ref a5, .ref a6, .ref a7, .ref a8, .ref a9, .ref a10, .ref a11, .ref a12, .int 0, .int 0, .int 0, .int 0, .int 0, .ref a13, .int 0, .ref a14, .ref a15, .int 0, .int 0, .ref a16, .int 0, .ref a17, .ref a18, .int 0, .int (-1), .ref a19, .ref a20, .ref a21, .int 0, .ref a22, .ref a23, .ref a24, .ref a25, .ref a26, .ref a27, .ref a28, .ref a29, .ref a30, .int 0, .int 0, .ref a31])), (a1, .inl (cI, 1560, .inl w0))]) [0, 1] rfl
  have hD9 := hD.sub (ws' := [(a0, .inr (12, [.ref a1, .ref a2, .ref a3, .int 0, .ref a4, .int 0, .int 0, .int 0, .int 0, .int 0, .int (-1), .int 0, .int 0, .int 0, .int 0, .ref a5, .ref a6, .ref a7, .ref a8, .ref a9, .ref a10, .ref a11, .ref a12, .int 0, .int 0, .int 0, .int 0, .int 0, .ref a13, .int 0, .ref a14, .ref a15, .int 0, .int 0, .ref a16, .int 0, .ref a17, .ref a18, .int 0, .int (-1), .ref a19, .ref a20, .ref a21, .int 0, .ref a22, .ref a23, .ref a24, .ref a25, .ref a26, .ref a27, .ref a28, .ref a29, .ref a30, .int 0, .int 0, .ref a31])), (a1, .inl (cI, 1560, .inl w0))]) [0, 1] (by decide) rfl
  refine W.widen (k := 0) (n := 0) (Nat.le_of_ble_eq_true rfl) (Nat.le_of_ble_eq_true rfl) ?_
  exact W.iret (v := 0) hx hb hr (fun t ht hW => ⟨⟨0, [(a0, .inr (12, [.ref a1, .ref a2, .ref a3, .int 0, .ref a4, .int 0, .int 0, .int 0, .int 0, .int 0, .int (-1), .int 0, .int 0, .int 0, .int 0, .ref a5, .ref a6, .ref a7, .ref a8, .ref a9, .ref a10, .ref a11, .ref a12, .int 0, .int 0, .int 0, .int 0, .int 0, .ref a13, .int 0, .ref a14, .ref a15, .int 0, .int 0, .ref a16, .int 0, .ref a17, .ref a18, .int 0, .int (-1), .ref a19, .ref a20, .ref a21, .int 0, .ref a22, .ref a23, .ref a24, .ref a25, .ref a26, .ref a27, .ref a28, .ref a29, .ref a30, .int 0, .int 0, .ref a31])), (a1, .inl (cI, 1560, .inl w0))], rfl, ⟨rfl, rfl⟩, by rw [ht]; exact hP9, va_K.moved hW.alike hK, hD9⟩, hS.F ht⟩) hS.2.2 dX12_wordsUpTo_33
set_option maxHeartbeats 8000000 in
set_option maxRecDepth 100000 in
theorem cc_X12_partsOf_2 (l : Launch) (D : va_G) (cI cL cZ : ClassId) (sz : Nat) (a0 : Nat) (a1 : Nat) (a2 : Nat) (a3 : Nat) (a4 : Nat) (a5 : Nat) (a6 : Nat) (a7 : Nat) (a8 : Nat) (a9 : Nat) (a10 : Nat) (a11 : Nat) (a12 : Nat) (a13 : Nat) (a14 : Nat) (a15 : Nat) (a16 : Nat) (a17 : Nat) (a18 : Nat) (a19 : Nat) (a20 : Nat) (a21 : Nat) (a22 : Nat) (a23 : Nat) (a24 : Nat) (a25 : Nat) (a26 : Nat) (a27 : Nat) (a28 : Nat) (a29 : Nat) (a30 : Nat) (a31 : Nat) : mI l D cI cL cZ yX12_partsOf cX12_partsOf 6 (some .int) 1 24 0 0 [.ref a0, .int 0, .int 0, .int 3] sz [(a0, .inr (12, [.ref a1, .ref a2, .ref a3, .int 0, .ref a4, .int 0, .int 0, .int 0, .int 0, .int 0, .int (-1), .int 0, .int 0, .int 0, .int 0, .ref a5, .ref a6, .ref a7, .ref a8, .ref a9, .ref a10, .ref a11, .ref a12, .int 0, .int 0, .int 0, .int 0, .int 0, .ref a13, .int 0, .ref a14, .ref a15, .int 0, .int 0, .ref a16, .int 0, .ref a17, .ref a18, .int 0, .int (-1), .ref a19, .ref a20, .ref a21, .int 0, .ref a22, .ref a23, .ref a24, .ref a25, .ref a26, .ref a27, .ref a28, .ref a29, .ref a30, .int 0, .int 0, .ref a31])), (a1, .inl (cI, 1560, .inl w0))] (fun (r : Int32) (w1 : va_W) => r = (-1) ∧ w1 = ([(a0, .inr (12, [.ref a1, .ref a2, .ref a3, .int 0, .ref a4, .int 0, .int 0, .int 0, .int 0, .int 0, .int (-1), .int 0, .int 0, .int 0, .int 0, .ref a5, .ref a6, .ref a7, .ref a8, .ref a9, .ref a10, .ref a11, .ref a12, .int 0, .int 0, .int 0, .int 0, .int 0, .ref a13, .int 0, .ref a14, .ref a15, .int 0, .int 0, .ref a16, .int 0, .ref a17, .ref a18, .int 0, .int (-1), .ref a19, .ref a20, .ref a21, .int 0, .ref a22, .ref a23, .ref a24, .ref a25, .ref a26, .ref a27, .ref a28, .ref a29, .ref a30, .int 0, .int 0, .ref a31])), (a1, .inl (cI, 1560, .inl w0))] : va_W)) := by
  obtain ⟨dC, dI⟩ := D
  refine Met.ofW (cc := cX12_partsOf) (maxL := 6) (ret := (some .int)) (by decide) rfl ?_
  intro p e s m args below meth c s₁ B hml hv
  obtain ⟨rfl, hsz, hP, hK, hD0, hN⟩ := hv
  have hx := B.exec
  have hb := B.bytes
  have hr := B.returns
  have hU : ∀ w ∈ wsU, w.before _ s = true := fun w h => atoms_spec (ws := wU yX12_partsOf cX12_partsOf 6 (some .int)) B.pre w (List.mem_cons_of_mem _ h)
  have hown : s.vm.findClass RX12 = some m.cls := findClass_of_methodNamed B.named
  have hlocks := B.notSynchronized
  subst hsz
  have hD := hD0.self (sz := s.heap.size)
  generalize hAe : va_A [(a0, .inr (12, [.ref a1, .ref a2, .ref a3, .int 0, .ref a4, .int 0, .int 0, .int 0, .int 0, .int 0, .int (-1), .int 0, .int 0, .int 0, .int 0, .ref a5, .ref a6, .ref a7, .ref a8, .ref a9, .ref a10, .ref a11, .ref a12, .int 0, .int 0, .int 0, .int 0, .int 0, .ref a13, .int 0, .ref a14, .ref a15, .int 0, .int 0, .ref a16, .int 0, .ref a17, .ref a18, .int 0, .int (-1), .ref a19, .ref a20, .ref a21, .int 0, .ref a22, .ref a23, .ref a24, .ref a25, .ref a26, .ref a27, .ref a28, .ref a29, .ref a30, .int 0, .int 0, .ref a31])), (a1, .inl (cI, 1560, .inl w0))] s.heap.size = A at hD ⊢
  have hA : ∀ q : Nat, s.heap.size ≤ q → A q := fun q h => by rw [← hAe]; exact Or.inr h
  have hS : va_S A s.heap s.heap [] := va_S.rf
  have hP : va_P (dC, dI) vwCl [(a0, .inr (12, [.ref a1, .ref a2, .ref a3, .int 0, .ref a4, .int 0, .int 0, .int 0, .int 0, .int 0, .int (-1), .int 0, .int 0, .int 0, .int 0, .ref a5, .ref a6, .ref a7, .ref a8, .ref a9, .ref a10, .ref a11, .ref a12, .int 0, .int 0, .int 0, .int 0, .int 0, .ref a13, .int 0, .ref a14, .ref a15, .int 0, .int 0, .ref a16, .int 0, .ref a17, .ref a18, .int 0, .int (-1), .ref a19, .ref a20, .ref a21, .int 0, .ref a22, .ref a23, .ref a24, .ref a25, .ref a26, .ref a27, .ref a28, .ref a29, .ref a30, .int 0, .int 0, .ref a31])), (a1, .inl (cI, 1560, .inl w0))] s.heap := hP
  have hl := lv_entry ([.ref a0, .int 0, .int 0, .int 3]) (n := 6) (Nat.le_of_ble_eq_true rfl)
  rw [lg_entry_eq]
  generalize (lg_sl ([.ref a0, .int 0, .int 0, .int 3]) ++ List.replicate (6 - (lg_sl ([.ref a0, .int 0, .int 0, .int 3])).length) Slot.unset).toArray = ls at hl ⊢
  have hl : lv_has ls 6 [(0, .ref a0), (1, .int 0), (2, .int 0), (3, .int 3)] := hl
  refine lv_aload_n hx hb dX12_partsOf_0 rfl (lv_at hl 0 rfl) ?_
  refine lv_iload_n hx hb dX12_partsOf_1 rfl (lv_at hl 3 rfl) ?_
  refine tk_ri (wr := []) (tk_V (As := [.int 3]) (rest := []) (n := 1) hx hb hml hown hU hN (cc_X12_wordsUpTo_2 l (dC, dI) cI cL cZ s.heap.size a0 a1 a2 a3 a4 a5 a6 a7 a8 a9 a10 a11 a12 a13 a14 a15 a16 a17 a18 a19 a20 a21 a22 a23 a24 a25 a26 a27 a28 a29 a30 a31) wd_1169 wd_1170 wd_1171 wd_5 wd_1172 (by decide +kernel) ⟨Nat.le_of_ble_eq_true rfl, Nat.le_of_ble_eq_true rfl⟩ hK hP hD [0, 1] (by decide) rfl 0 12 rfl rfl rfl rfl hl.1 rfl (Nat.le_of_ble_eq_true rfl) dX12_partsOf_2 ⟨Nat.le_of_ble_eq_true rfl, Nat.le_of_ble_eq_true rfl⟩) hP hD hS hA [0, 1] [] rfl rfl (by decide) (by decide) (fun r_1 w_2 H locs hw hP hD hS => ?_)
  obtain ⟨rfl, rfl⟩ := hw
  have hP : va_P (dC, dI) vwCl [(a0, .inr (12, [.ref a1, .ref a2, .ref a3, .int 0, .ref a4, .int 0, .int 0, .int 0, .int 0, .int 0, .int (-1), .int 0, .int 0, .int 0, .int 0, .ref a5, .ref a6, .ref a7, .ref a8, .ref a9, .ref a10, .ref a11, .ref a12, .int 0, .int 0, .int 0, .int 0, .int 0, .ref a13, .int 0, .ref a14, .ref a15, .int 0, .int 0, .ref a16, .int 0, .ref a17, .ref a18, .int 0, .int (-1), .ref a19, .ref a20, .ref a21, .int 0, .ref a22, .ref a23, .ref a24, .ref a25, .ref a26, .ref a27, .ref a28, .ref a29, .ref a30, .int 0, .int 0, .ref a31])), (a1, .inl (cI, 1560, .inl w0))] H := hP
  have hD : va_D A [(a0, .inr (12, [.ref a1, .ref a2, .ref a3, .int 0, .ref a4, .int 0, .int 0, .int 0, .int 0, .int 0, .int (-1), .int 0, .int 0, .int 0, .int 0, .ref a5, .ref a6, .ref a7, .ref a8, .ref a9, .ref a10, .ref a11, .ref a12, .int 0, .int 0, .int 0, .int 0, .int 0, .ref a13, .int 0, .ref a14, .ref a15, .int 0, .int 0, .ref a16, .int 0, .ref a17, .ref a18, .int 0, .int (-1), .ref a19, .ref a20, .ref a21, .int 0, .ref a22, .ref a23, .ref a24, .ref a25, .ref a26, .ref a27, .ref a28, .ref a29, .ref a30, .int 0, .int 0, .ref a31])), (a1, .inl (cI, 1560, .inl w0))] := hD
  refine lv_istore (lv' := [(4, .int 0), (0, .ref a0), (1, .int 0), (2, .int 0), (3, .int 3)]) hx hb dX12_partsOf_5 hl (by decide) rfl (fun ls hl => ?_)
  refine lv_iconst (v := 0) hx hb dX12_partsOf_7 (by decide) ?_
  refine lv_istore (lv' := [(5, .int 0), (4, .int 0), (0, .ref a0), (1, .int 0), (2, .int 0), (3, .int 3)]) hx hb dX12_partsOf_8 hl (by decide) rfl (fun ls hl => ?_)
  refine lv_iload hx hb dX12_partsOf_10 (lv_at hl 0 rfl) ?_
  refine lv_iload hx hb dX12_partsOf_12 (lv_at hl 1 rfl) ?_
  refine lv_icmp_ge (tgt := 41) hx hb dX12_partsOf_14 (by decide) (fun _ => ?_) (fun c9 => absurd (by decide) c9) 
  refine lv_iconst (v := (-1)) hx hb dX12_partsOf_41 (by decide) ?_
  have hP9 := hP.sub (ws' := [(a0, .inr (12, [.ref a1, .ref a2, .ref a3, .int 0, .ref a4, .int 0, .int 0, .int 0, .int 0, .int 0, .int (-1), .int 0, .int 0, .int 0, .int 0, .ref a5, .ref a6, .ref a7, .ref a8, .ref a9, .ref a10, .ref a11, .ref a12, .int 0, .int 0, .int 0, .int 0, .int 0, .ref a13, .int 0, .ref a14, .ref a15, .int 0, .int 0, .ref a16, .int 0, .ref a17, .ref a18, .int 0, .int (-1), .ref a19, .ref a20, .ref a21, .int 0, .ref a22, .ref a23, .ref a24, .ref a25, .ref a26, .ref a27, .ref a28, .ref a29, .ref a30, .int 0, .int 0, .ref a31])), (a1, .inl (cI, 1560, .inl w0))]) [0, 1] rfl
  have hD9 := hD.sub (ws' := [(a0, .inr (12, [.ref a1, .ref a2, .ref a3, .int 0, .ref a4, .int 0, .int 0, .int 0, .int 0, .int 0, .int (-1), .int 0, .int 0, .int 0, .int 0, .ref a5, .ref a6, .ref a7, .ref a8, .ref a9, .ref a10, .ref a11, .ref a12, .int 0, .int 0, .int 0, .int 0, .int 0, .ref a13, .int 0, .ref a14, .ref a15, .int 0, .int 0, .ref a16, .int 0, .ref a17, .ref a18, .int 0, .int (-1), .ref a19, .ref a20, .ref a21, .int 0, .ref a22, .ref a23, .ref a24, .ref a25, .ref a26, .ref a27, .ref a28, .ref a29, .ref a30, .int 0, .int 0, .ref a31])), (a1, .inl (cI, 1560, .inl w0))]) [0, 1] (by decide) rfl
  refine W.widen (k := 0) (n := 0) (Nat.le_of_ble_eq_true rfl) (Nat.le_of_ble_eq_true rfl) ?_
  exact W.iret (v := (-1)) hx hb hr (fun t ht hW => ⟨⟨(-1), [(a0, .inr (12, [.ref a1, .ref a2, .ref a3, .int 0, .ref a4, .int 0, .int 0, .int 0, .int 0, .int 0, .int (-1), .int 0, .int 0, .int 0, .int 0, .ref a5, .ref a6, .ref a7, .ref a8, .ref a9, .ref a10, .ref a11, .ref a12, .int 0, .int 0, .int 0, .int 0, .int 0, .ref a13, .int 0, .ref a14, .ref a15, .int 0, .int 0, .ref a16, .int 0, .ref a17, .ref a18, .int 0, .int (-1), .ref a19, .ref a20, .ref a21, .int 0, .ref a22, .ref a23, .ref a24, .ref a25, .ref a26, .ref a27, .ref a28, .ref a29, .ref a30, .int 0, .int 0, .ref a31])), (a1, .inl (cI, 1560, .inl w0))], rfl, ⟨rfl, rfl⟩, by rw [ht]; exact hP9, va_K.moved hW.alike hK, hD9⟩, hS.F ht⟩) hS.2.2 dX12_partsOf_42
set_option maxHeartbeats 8000000 in
set_option maxRecDepth 100000 in
theorem cc_X12_isIn_15 (l : Launch) (D : va_G) (cI cL cZ : ClassId) (sz : Nat) (x0 : Int32) : mI l D cI cL cZ yX12_isIn cX12_isIn 3 (some .boolean) 0 0 0 0 [.int x0, .int 1, .int 3] sz [] (fun (r : Int32) (w1 : va_W) => (x0 < 1 ∧ r = 0 ∧ w1 = ([] : va_W)) ∨ (¬ x0 < 1 ∧ 3 < x0 ∧ r = 0 ∧ w1 = ([] : va_W)) ∨ (¬ x0 < 1 ∧ ¬ 3 < x0 ∧ r = 1 ∧ w1 = ([] : va_W))) := by
  obtain ⟨dC, dI⟩ := D
  refine Met.ofW (cc := cX12_isIn) (maxL := 3) (ret := (some .boolean)) (by decide) rfl ?_
  intro p e s m args below meth c s₁ B hml hv
  obtain ⟨rfl, hsz, hP, hK, hD0, hN⟩ := hv
  have hx := B.exec
  have hb := B.bytes
  have hr := B.returns
  have hU : ∀ w ∈ wsU, w.before _ s = true := fun w h => atoms_spec (ws := wU yX12_isIn cX12_isIn 3 (some .boolean)) B.pre w (List.mem_cons_of_mem _ h)
  have hown : s.vm.findClass RX12 = some m.cls := findClass_of_methodNamed B.named
  have hlocks := B.notSynchronized
  subst hsz
  have hD := hD0.self (sz := s.heap.size)
  generalize hAe : va_A [] s.heap.size = A at hD ⊢
  have hA : ∀ q : Nat, s.heap.size ≤ q → A q := fun q h => by rw [← hAe]; exact Or.inr h
  have hS : va_S A s.heap s.heap [] := va_S.rf
  have hP : va_P (dC, dI) vwCl [] s.heap := hP
  have hl := lv_entry ([.int x0, .int 1, .int 3]) (n := 3) (Nat.le_of_ble_eq_true rfl)
  rw [lg_entry_eq]
  generalize (lg_sl ([.int x0, .int 1, .int 3]) ++ List.replicate (3 - (lg_sl ([.int x0, .int 1, .int 3])).length) Slot.unset).toArray = ls at hl ⊢
  have hl : lv_has ls 3 [(0, .int x0), (1, .int 1), (2, .int 3)] := hl
  refine lv_iload_n hx hb dX12_isIn_0 rfl (lv_at hl 0 rfl) ?_
  refine lv_iload_n hx hb dX12_isIn_1 rfl (lv_at hl 1 rfl) ?_
  refine lv_icmp_lt (tgt := 14) hx hb dX12_isIn_2 (by decide) (fun c_1 => ?_) (fun c_1 => ?_)
  · skip
    refine lv_iconst (v := 0) hx hb dX12_isIn_14 (by decide) ?_
    have hP9 := hP.sub (ws' := []) [] rfl
    have hD9 := hD.sub (ws' := []) [] (by decide) rfl
    refine W.widen (k := 0) (n := 0) (Nat.le_of_ble_eq_true rfl) (Nat.le_of_ble_eq_true rfl) ?_
    exact W.zret (v := 0) (ty := .boolean) hx hb hr rfl (fun t ht hW => ⟨⟨0, [], rfl, Or.inl ⟨c_1, rfl, rfl⟩, by rw [ht]; exact hP9, va_K.moved hW.alike hK, hD9⟩, hS.F ht⟩) hS.2.2 dX12_isIn_15
  · skip
    refine lv_iload_n hx hb dX12_isIn_5 rfl (lv_at hl 0 rfl) ?_
    refine lv_iload_n hx hb dX12_isIn_6 rfl (lv_at hl 2 rfl) ?_
    refine lv_icmp_gt (tgt := 14) hx hb dX12_isIn_7 (by decide) (fun c_2 => ?_) (fun c_2 => ?_)
    · skip
      refine lv_iconst (v := 0) hx hb dX12_isIn_14 (by decide) ?_
      have hP9 := hP.sub (ws' := []) [] rfl
      have hD9 := hD.sub (ws' := []) [] (by decide) rfl
      refine W.widen (k := 0) (n := 0) (Nat.le_of_ble_eq_true rfl) (Nat.le_of_ble_eq_true rfl) ?_
      exact W.zret (v := 0) (ty := .boolean) hx hb hr rfl (fun t ht hW => ⟨⟨0, [], rfl, Or.inr (Or.inl ⟨c_1, c_2, rfl, rfl⟩), by rw [ht]; exact hP9, va_K.moved hW.alike hK, hD9⟩, hS.F ht⟩) hS.2.2 dX12_isIn_15
    · skip
      refine lv_iconst (v := 1) hx hb dX12_isIn_10 (by decide) ?_
      refine lv_goto (tgt := 15) hx hb dX12_isIn_11 (by decide) ?_
      have hP9 := hP.sub (ws' := []) [] rfl
      have hD9 := hD.sub (ws' := []) [] (by decide) rfl
      refine W.widen (k := 0) (n := 0) (Nat.le_of_ble_eq_true rfl) (Nat.le_of_ble_eq_true rfl) ?_
      exact W.zret (v := 1) (ty := .boolean) hx hb hr rfl (fun t ht hW => ⟨⟨1, [], rfl, Or.inr (Or.inr (⟨c_1, c_2, rfl, rfl⟩)), by rw [ht]; exact hP9, va_K.moved hW.alike hK, hD9⟩, hS.F ht⟩) hS.2.2 dX12_isIn_15
set_option maxHeartbeats 8000000 in
set_option maxRecDepth 100000 in
theorem op_X12_parts (l : Launch) (D : va_G) (cI cL cZ : ClassId) (sz : Nat) (a0 : Nat) (x0 : Int32) (x1 : Int32) (x2 : Int32) (a1 : Nat) (a2 : Nat) (a3 : Nat) (a4 : Nat) (a5 : Nat) (a6 : Nat) (a7 : Nat) (a8 : Nat) (a9 : Nat) (a10 : Nat) (a11 : Nat) (a12 : Nat) (a13 : Nat) (a14 : Nat) (a15 : Nat) (a16 : Nat) (a17 : Nat) (a18 : Nat) (a19 : Nat) (a20 : Nat) (a21 : Nat) (a22 : Nat) (a23 : Nat) (a24 : Nat) (a25 : Nat) (a26 : Nat) (a27 : Nat) (a28 : Nat) (a29 : Nat) (a30 : Nat) (a31 : Nat) : mI l D cI cL cZ yX12_parts cX12_parts 4 (some .int) 2 49 0 0 [.ref a0, .int x0, .int x1, .int x2] sz [(a0, .inr (12, [.ref a1, .ref a2, .ref a3, .int 0, .ref a4, .int 0, .int 0, .int 0, .int 0, .int 0, .int (-1), .int 0, .int 0, .int 0, .int 0, .ref a5, .ref a6, .ref a7, .ref a8, .ref a9, .ref a10, .ref a11, .ref a12, .int 0, .int 0, .int 0, .int 0, .int 0, .ref a13, .int 0, .ref a14, .ref a15, .int 0, .int 0, .ref a16, .int 0, .ref a17, .ref a18, .int 0, .int (-1), .ref a19, .ref a20, .ref a21, .int 0, .ref a22, .ref a23, .ref a24, .ref a25, .ref a26, .ref a27, .ref a28, .ref a29, .ref a30, .int 0, .int 0, .ref a31])), (a1, .inl (cI, 1560, .inl w0))] (fun (r : Int32) (w1 : va_W) => r = (an_parts x0 x1 x2) ∧ w1 = ([] : va_W)) := by
  obtain ⟨dC, dI⟩ := D
  refine Met.ofW (cc := cX12_parts) (maxL := 4) (ret := (some .int)) (by decide) rfl ?_
  intro p e s m args below meth c s₁ B hml hv
  obtain ⟨rfl, hsz, hP, hK, hD0, hN⟩ := hv
  have hx := B.exec
  have hb := B.bytes
  have hr := B.returns
  have hU : ∀ w ∈ wsU, w.before _ s = true := fun w h => atoms_spec (ws := wU yX12_parts cX12_parts 4 (some .int)) B.pre w (List.mem_cons_of_mem _ h)
  have hown : s.vm.findClass RX12 = some m.cls := findClass_of_methodNamed B.named
  have hlocks := B.notSynchronized
  subst hsz
  have hD := hD0.self (sz := s.heap.size)
  generalize hAe : va_A [(a0, .inr (12, [.ref a1, .ref a2, .ref a3, .int 0, .ref a4, .int 0, .int 0, .int 0, .int 0, .int 0, .int (-1), .int 0, .int 0, .int 0, .int 0, .ref a5, .ref a6, .ref a7, .ref a8, .ref a9, .ref a10, .ref a11, .ref a12, .int 0, .int 0, .int 0, .int 0, .int 0, .ref a13, .int 0, .ref a14, .ref a15, .int 0, .int 0, .ref a16, .int 0, .ref a17, .ref a18, .int 0, .int (-1), .ref a19, .ref a20, .ref a21, .int 0, .ref a22, .ref a23, .ref a24, .ref a25, .ref a26, .ref a27, .ref a28, .ref a29, .ref a30, .int 0, .int 0, .ref a31])), (a1, .inl (cI, 1560, .inl w0))] s.heap.size = A at hD ⊢
  have hA : ∀ q : Nat, s.heap.size ≤ q → A q := fun q h => by rw [← hAe]; exact Or.inr h
  have hS : va_S A s.heap s.heap [] := va_S.rf
  have hP : va_P (dC, dI) vwCl [(a0, .inr (12, [.ref a1, .ref a2, .ref a3, .int 0, .ref a4, .int 0, .int 0, .int 0, .int 0, .int 0, .int (-1), .int 0, .int 0, .int 0, .int 0, .ref a5, .ref a6, .ref a7, .ref a8, .ref a9, .ref a10, .ref a11, .ref a12, .int 0, .int 0, .int 0, .int 0, .int 0, .ref a13, .int 0, .ref a14, .ref a15, .int 0, .int 0, .ref a16, .int 0, .ref a17, .ref a18, .int 0, .int (-1), .ref a19, .ref a20, .ref a21, .int 0, .ref a22, .ref a23, .ref a24, .ref a25, .ref a26, .ref a27, .ref a28, .ref a29, .ref a30, .int 0, .int 0, .ref a31])), (a1, .inl (cI, 1560, .inl w0))] s.heap := hP
  have hl := lv_entry ([.ref a0, .int x0, .int x1, .int x2]) (n := 4) (Nat.le_of_ble_eq_true rfl)
  rw [lg_entry_eq]
  generalize (lg_sl ([.ref a0, .int x0, .int x1, .int x2]) ++ List.replicate (4 - (lg_sl ([.ref a0, .int x0, .int x1, .int x2])).length) Slot.unset).toArray = ls at hl ⊢
  have hl : lv_has ls 4 [(0, .ref a0), (1, .int x0), (2, .int x1), (3, .int x2)] := hl
  by_cases c_1 : x0 = 0
  · subst c_1
    by_cases c_2 : x1 = 0
    · subst c_2
      by_cases c_3 : x2 = 1
      · subst c_3
        refine lv_iload_n hx hb dX12_parts_0 rfl (lv_at hl 1 rfl) ?_
        refine lv_iconst (v := 0) hx hb dX12_parts_1 (by decide) ?_
        refine lv_aload_n hx hb dX12_parts_2 rfl (lv_at hl 0 rfl) ?_
        refine tk_ri (wr := []) (tk_V (As := []) (rest := [.int 0, .int 0]) (n := 0) hx hb hml hown hU hN (cc_X12_allRules_0 l (dC, dI) cI cL cZ s.heap.size a0 a1 a2 a3 a4 a5 a6 a7 a8 a9 a10 a11 a12 a13 a14 a15 a16 a17 a18 a19 a20 a21 a22 a23 a24 a25 a26 a27 a28 a29 a30 a31) wd_686 wd_687 wd_688 wd_5 wd_689 (by decide +kernel) ⟨Nat.le_of_ble_eq_true rfl, Nat.le_of_ble_eq_true rfl⟩ hK hP hD [0, 1] (by decide) rfl 0 12 rfl rfl rfl rfl hl.1 rfl (Nat.le_of_ble_eq_true rfl) dX12_parts_3 ⟨Nat.le_of_ble_eq_true rfl, Nat.le_of_ble_eq_true rfl⟩) hP hD hS hA [0, 1] [] rfl rfl (by decide) (by decide) (fun r_4 w_5 H locs hw hP hD hS => ?_)
        obtain ⟨rfl, rfl⟩ := hw
        have hP : va_P (dC, dI) vwCl [(a0, .inr (12, [.ref a1, .ref a2, .ref a3, .int 0, .ref a4, .int 0, .int 0, .int 0, .int 0, .int 0, .int (-1), .int 0, .int 0, .int 0, .int 0, .ref a5, .ref a6, .ref a7, .ref a8, .ref a9, .ref a10, .ref a11, .ref a12, .int 0, .int 0, .int 0, .int 0, .int 0, .ref a13, .int 0, .ref a14, .ref a15, .int 0, .int 0, .ref a16, .int 0, .ref a17, .ref a18, .int 0, .int (-1), .ref a19, .ref a20, .ref a21, .int 0, .ref a22, .ref a23, .ref a24, .ref a25, .ref a26, .ref a27, .ref a28, .ref a29, .ref a30, .int 0, .int 0, .ref a31])), (a1, .inl (cI, 1560, .inl w0))] H := hP
        have hD : va_D A [(a0, .inr (12, [.ref a1, .ref a2, .ref a3, .int 0, .ref a4, .int 0, .int 0, .int 0, .int 0, .int 0, .int (-1), .int 0, .int 0, .int 0, .int 0, .ref a5, .ref a6, .ref a7, .ref a8, .ref a9, .ref a10, .ref a11, .ref a12, .int 0, .int 0, .int 0, .int 0, .int 0, .ref a13, .int 0, .ref a14, .ref a15, .int 0, .int 0, .ref a16, .int 0, .ref a17, .ref a18, .int 0, .int (-1), .ref a19, .ref a20, .ref a21, .int 0, .ref a22, .ref a23, .ref a24, .ref a25, .ref a26, .ref a27, .ref a28, .ref a29, .ref a30, .int 0, .int 0, .ref a31])), (a1, .inl (cI, 1560, .inl w0))] := hD
        refine tk_ri (wr := [(a0, .inr (12, [.ref a1, .ref a2, .ref a3, .int 0, .ref a4, .int 0, .int 0, .int 0, .int 0, .int 0, .int (-1), .int 0, .int 0, .int 0, .int 0, .ref a5, .ref a6, .ref a7, .ref a8, .ref a9, .ref a10, .ref a11, .ref a12, .int 0, .int 0, .int 0, .int 0, .int 0, .ref a13, .int 0, .ref a14, .ref a15, .int 0, .int 0, .ref a16, .int 0, .ref a17, .ref a18, .int 0, .int (-1), .ref a19, .ref a20, .ref a21, .int 0, .ref a22, .ref a23, .ref a24, .ref a25, .ref a26, .ref a27, .ref a28, .ref a29, .ref a30, .int 0, .int 0, .ref a31])), (a1, .inl (cI, 1560, .inl w0))]) (tk_S (As := [.int 0, .int 0, .int 0]) (rest := []) (n := 3) hx hb hml hown hU hN (cc_X12_isIn_0 l (dC, dI) cI cL cZ H.size ) wd_227 wd_228 wd_5 wd_229 (by decide +kernel) ⟨Nat.le_of_ble_eq_true rfl, Nat.le_of_ble_eq_true rfl⟩ hK hP hD [] (by decide) rfl rfl hl.1 rfl (Nat.le_of_ble_eq_true rfl) dX12_parts_6 ⟨Nat.le_of_ble_eq_true rfl, Nat.le_of_ble_eq_true rfl⟩) hP hD hS hA [] [0, 1] rfl rfl (by decide) (by decide) (fun r_6 w_7 H locs hw hP hD hS => ?_)
        obtain ⟨rfl, rfl⟩ := hw
        have hP : va_P (dC, dI) vwCl [(a0, .inr (12, [.ref a1, .ref a2, .ref a3, .int 0, .ref a4, .int 0, .int 0, .int 0, .int 0, .int 0, .int (-1), .int 0, .int 0, .int 0, .int 0, .ref a5, .ref a6, .ref a7, .ref a8, .ref a9, .ref a10, .ref a11, .ref a12, .int 0, .int 0, .int 0, .int 0, .int 0, .ref a13, .int 0, .ref a14, .ref a15, .int 0, .int 0, .ref a16, .int 0, .ref a17, .ref a18, .int 0, .int (-1), .ref a19, .ref a20, .ref a21, .int 0, .ref a22, .ref a23, .ref a24, .ref a25, .ref a26, .ref a27, .ref a28, .ref a29, .ref a30, .int 0, .int 0, .ref a31])), (a1, .inl (cI, 1560, .inl w0))] H := hP
        have hD : va_D A [(a0, .inr (12, [.ref a1, .ref a2, .ref a3, .int 0, .ref a4, .int 0, .int 0, .int 0, .int 0, .int 0, .int (-1), .int 0, .int 0, .int 0, .int 0, .ref a5, .ref a6, .ref a7, .ref a8, .ref a9, .ref a10, .ref a11, .ref a12, .int 0, .int 0, .int 0, .int 0, .int 0, .ref a13, .int 0, .ref a14, .ref a15, .int 0, .int 0, .ref a16, .int 0, .ref a17, .ref a18, .int 0, .int (-1), .ref a19, .ref a20, .ref a21, .int 0, .ref a22, .ref a23, .ref a24, .ref a25, .ref a26, .ref a27, .ref a28, .ref a29, .ref a30, .int 0, .int 0, .ref a31])), (a1, .inl (cI, 1560, .inl w0))] := hD
        refine lv_if_eq (tgt := 33) hx hb dX12_parts_9 (by decide) (fun c9 => absurd c9 (by decide)) (fun _ => ?_)
        refine lv_iload_n hx hb dX12_parts_12 rfl (lv_at hl 2 rfl) ?_
        refine lv_iconst (v := 0) hx hb dX12_parts_13 (by decide) ?_
        refine lv_aload_n hx hb dX12_parts_14 rfl (lv_at hl 0 rfl) ?_
        refine tk_ri (wr := []) (tk_V (As := []) (rest := [.int 0, .int 0]) (n := 0) hx hb hml hown hU hN (cc_X12_allRules_0 l (dC, dI) cI cL cZ H.size a0 a1 a2 a3 a4 a5 a6 a7 a8 a9 a10 a11 a12 a13 a14 a15 a16 a17 a18 a19 a20 a21 a22 a23 a24 a25 a26 a27 a28 a29 a30 a31) wd_686 wd_687 wd_688 wd_5 wd_689 (by decide +kernel) ⟨Nat.le_of_ble_eq_true rfl, Nat.le_of_ble_eq_true rfl⟩ hK hP hD [0, 1] (by decide) rfl 0 12 rfl rfl rfl rfl hl.1 rfl (Nat.le_of_ble_eq_true rfl) dX12_parts_15 ⟨Nat.le_of_ble_eq_true rfl, Nat.le_of_ble_eq_true rfl⟩) hP hD hS hA [0, 1] [] rfl rfl (by decide) (by decide) (fun r_8 w_9 H locs hw hP hD hS => ?_)
        obtain ⟨rfl, rfl⟩ := hw
        have hP : va_P (dC, dI) vwCl [(a0, .inr (12, [.ref a1, .ref a2, .ref a3, .int 0, .ref a4, .int 0, .int 0, .int 0, .int 0, .int 0, .int (-1), .int 0, .int 0, .int 0, .int 0, .ref a5, .ref a6, .ref a7, .ref a8, .ref a9, .ref a10, .ref a11, .ref a12, .int 0, .int 0, .int 0, .int 0, .int 0, .ref a13, .int 0, .ref a14, .ref a15, .int 0, .int 0, .ref a16, .int 0, .ref a17, .ref a18, .int 0, .int (-1), .ref a19, .ref a20, .ref a21, .int 0, .ref a22, .ref a23, .ref a24, .ref a25, .ref a26, .ref a27, .ref a28, .ref a29, .ref a30, .int 0, .int 0, .ref a31])), (a1, .inl (cI, 1560, .inl w0))] H := hP
        have hD : va_D A [(a0, .inr (12, [.ref a1, .ref a2, .ref a3, .int 0, .ref a4, .int 0, .int 0, .int 0, .int 0, .int 0, .int (-1), .int 0, .int 0, .int 0, .int 0, .ref a5, .ref a6, .ref a7, .ref a8, .ref a9, .ref a10, .ref a11, .ref a12, .int 0, .int 0, .int 0, .int 0, .int 0, .ref a13, .int 0, .ref a14, .ref a15, .int 0, .int 0, .ref a16, .int 0, .ref a17, .ref a18, .int 0, .int (-1), .ref a19, .ref a20, .ref a21, .int 0, .ref a22, .ref a23, .ref a24, .ref a25, .ref a26, .ref a27, .ref a28, .ref a29, .ref a30, .int 0, .int 0, .ref a31])), (a1, .inl (cI, 1560, .inl w0))] := hD
        refine tk_ri (wr := [(a0, .inr (12, [.ref a1, .ref a2, .ref a3, .int 0, .ref a4, .int 0, .int 0, .int 0, .int 0, .int 0, .int (-1), .int 0, .int 0, .int 0, .int 0, .ref a5, .ref a6, .ref a7, .ref a8, .ref a9, .ref a10, .ref a11, .ref a12, .int 0, .int 0, .int 0, .int 0, .int 0, .ref a13, .int 0, .ref a14, .ref a15, .int 0, .int 0, .ref a16, .int 0, .ref a17, .ref a18, .int 0, .int (-1), .ref a19, .ref a20, .ref a21, .int 0, .ref a22, .ref a23, .ref a24, .ref a25, .ref a26, .ref a27, .ref a28, .ref a29, .ref a30, .int 0, .int 0, .ref a31])), (a1, .inl (cI, 1560, .inl w0))]) (tk_S (As := [.int 0, .int 0, .int 0]) (rest := []) (n := 3) hx hb hml hown hU hN (cc_X12_isIn_0 l (dC, dI) cI cL cZ H.size ) wd_227 wd_228 wd_5 wd_229 (by decide +kernel) ⟨Nat.le_of_ble_eq_true rfl, Nat.le_of_ble_eq_true rfl⟩ hK hP hD [] (by decide) rfl rfl hl.1 rfl (Nat.le_of_ble_eq_true rfl) dX12_parts_18 ⟨Nat.le_of_ble_eq_true rfl, Nat.le_of_ble_eq_true rfl⟩) hP hD hS hA [] [0, 1] rfl rfl (by decide) (by decide) (fun r_10 w_11 H locs hw hP hD hS => ?_)
        obtain ⟨rfl, rfl⟩ := hw
        have hP : va_P (dC, dI) vwCl [(a0, .inr (12, [.ref a1, .ref a2, .ref a3, .int 0, .ref a4, .int 0, .int 0, .int 0, .int 0, .int 0, .int (-1), .int 0, .int 0, .int 0, .int 0, .ref a5, .ref a6, .ref a7, .ref a8, .ref a9, .ref a10, .ref a11, .ref a12, .int 0, .int 0, .int 0, .int 0, .int 0, .ref a13, .int 0, .ref a14, .ref a15, .int 0, .int 0, .ref a16, .int 0, .ref a17, .ref a18, .int 0, .int (-1), .ref a19, .ref a20, .ref a21, .int 0, .ref a22, .ref a23, .ref a24, .ref a25, .ref a26, .ref a27, .ref a28, .ref a29, .ref a30, .int 0, .int 0, .ref a31])), (a1, .inl (cI, 1560, .inl w0))] H := hP
        have hD : va_D A [(a0, .inr (12, [.ref a1, .ref a2, .ref a3, .int 0, .ref a4, .int 0, .int 0, .int 0, .int 0, .int 0, .int (-1), .int 0, .int 0, .int 0, .int 0, .ref a5, .ref a6, .ref a7, .ref a8, .ref a9, .ref a10, .ref a11, .ref a12, .int 0, .int 0, .int 0, .int 0, .int 0, .ref a13, .int 0, .ref a14, .ref a15, .int 0, .int 0, .ref a16, .int 0, .ref a17, .ref a18, .int 0, .int (-1), .ref a19, .ref a20, .ref a21, .int 0, .ref a22, .ref a23, .ref a24, .ref a25, .ref a26, .ref a27, .ref a28, .ref a29, .ref a30, .int 0, .int 0, .ref a31])), (a1, .inl (cI, 1560, .inl w0))] := hD
        refine lv_if_eq (tgt := 33) hx hb dX12_parts_21 (by decide) (fun c9 => absurd c9 (by decide)) (fun _ => ?_)
        refine lv_iload_n hx hb dX12_parts_24 rfl (lv_at hl 3 rfl) ?_
        refine lv_iconst (v := 1) hx hb dX12_parts_25 (by decide) ?_
        refine lv_iconst (v := 3) hx hb dX12_parts_26 (by decide) ?_
        refine tk_ri (wr := [(a0, .inr (12, [.ref a1, .ref a2, .ref a3, .int 0, .ref a4, .int 0, .int 0, .int 0, .int 0, .int 0, .int (-1), .int 0, .int 0, .int 0, .int 0, .ref a5, .ref a6, .ref a7, .ref a8, .ref a9, .ref a10, .ref a11, .ref a12, .int 0, .int 0, .int 0, .int 0, .int 0, .ref a13, .int 0, .ref a14, .ref a15, .int 0, .int 0, .ref a16, .int 0, .ref a17, .ref a18, .int 0, .int (-1), .ref a19, .ref a20, .ref a21, .int 0, .ref a22, .ref a23, .ref a24, .ref a25, .ref a26, .ref a27, .ref a28, .ref a29, .ref a30, .int 0, .int 0, .ref a31])), (a1, .inl (cI, 1560, .inl w0))]) (tk_S (As := [.int 1, .int 1, .int 3]) (rest := []) (n := 3) hx hb hml hown hU hN (cc_X12_isIn_12 l (dC, dI) cI cL cZ H.size ) wd_227 wd_228 wd_5 wd_229 (by decide +kernel) ⟨Nat.le_of_ble_eq_true rfl, Nat.le_of_ble_eq_true rfl⟩ hK hP hD [] (by decide) rfl rfl hl.1 rfl (Nat.le_of_ble_eq_true rfl) dX12_parts_27 ⟨Nat.le_of_ble_eq_true rfl, Nat.le_of_ble_eq_true rfl⟩) hP hD hS hA [] [0, 1] rfl rfl (by decide) (by decide) (fun r_12 w_13 H locs hw hP hD hS => ?_)
        obtain ⟨rfl, rfl⟩ := hw
        have hP : va_P (dC, dI) vwCl [(a0, .inr (12, [.ref a1, .ref a2, .ref a3, .int 0, .ref a4, .int 0, .int 0, .int 0, .int 0, .int 0, .int (-1), .int 0, .int 0, .int 0, .int 0, .ref a5, .ref a6, .ref a7, .ref a8, .ref a9, .ref a10, .ref a11, .ref a12, .int 0, .int 0, .int 0, .int 0, .int 0, .ref a13, .int 0, .ref a14, .ref a15, .int 0, .int 0, .ref a16, .int 0, .ref a17, .ref a18, .int 0, .int (-1), .ref a19, .ref a20, .ref a21, .int 0, .ref a22, .ref a23, .ref a24, .ref a25, .ref a26, .ref a27, .ref a28, .ref a29, .ref a30, .int 0, .int 0, .ref a31])), (a1, .inl (cI, 1560, .inl w0))] H := hP
        have hD : va_D A [(a0, .inr (12, [.ref a1, .ref a2, .ref a3, .int 0, .ref a4, .int 0, .int 0, .int 0, .int 0, .int 0, .int (-1), .int 0, .int 0, .int 0, .int 0, .ref a5, .ref a6, .ref a7, .ref a8, .ref a9, .ref a10, .ref a11, .ref a12, .int 0, .int 0, .int 0, .int 0, .int 0, .ref a13, .int 0, .ref a14, .ref a15, .int 0, .int 0, .ref a16, .int 0, .ref a17, .ref a18, .int 0, .int (-1), .ref a19, .ref a20, .ref a21, .int 0, .ref a22, .ref a23, .ref a24, .ref a25, .ref a26, .ref a27, .ref a28, .ref a29, .ref a30, .int 0, .int 0, .ref a31])), (a1, .inl (cI, 1560, .inl w0))] := hD
        refine lv_if_ne (tgt := 36) hx hb dX12_parts_30 (by decide) (fun _ => ?_) (fun c9 => absurd c9 (by decide)) 
        refine lv_aload_n hx hb dX12_parts_36 rfl (lv_at hl 0 rfl) ?_
        refine lv_iload_n hx hb dX12_parts_37 rfl (lv_at hl 1 rfl) ?_
        refine lv_iload_n hx hb dX12_parts_38 rfl (lv_at hl 2 rfl) ?_
        refine lv_iload_n hx hb dX12_parts_39 rfl (lv_at hl 3 rfl) ?_
        refine tk_ri (wr := []) (tk_V (As := [.int 0, .int 0, .int 1]) (rest := []) (n := 3) hx hb hml hown hU hN (cc_X12_partsOf_0 l (dC, dI) cI cL cZ H.size a0 a1 a2 a3 a4 a5 a6 a7 a8 a9 a10 a11 a12 a13 a14 a15 a16 a17 a18 a19 a20 a21 a22 a23 a24 a25 a26 a27 a28 a29 a30 a31) wd_1334 wd_1335 wd_1336 wd_5 wd_1337 (by decide +kernel) ⟨Nat.le_of_ble_eq_true rfl, Nat.le_of_ble_eq_true rfl⟩ hK hP hD [0, 1] (by decide) rfl 0 12 rfl rfl rfl rfl hl.1 rfl (Nat.le_of_ble_eq_true rfl) dX12_parts_40 ⟨Nat.le_of_ble_eq_true rfl, Nat.le_of_ble_eq_true rfl⟩) hP hD hS hA [0, 1] [] rfl rfl (by decide) (by decide) (fun r_14 w_15 H locs hw hP hD hS => ?_)
        obtain ⟨rfl, rfl⟩ := hw
        have hP : va_P (dC, dI) vwCl [(a0, .inr (12, [.ref a1, .ref a2, .ref a3, .int 0, .ref a4, .int 0, .int 0, .int 0, .int 0, .int 0, .int (-1), .int 0, .int 0, .int 0, .int 0, .ref a5, .ref a6, .ref a7, .ref a8, .ref a9, .ref a10, .ref a11, .ref a12, .int 0, .int 0, .int 0, .int 0, .int 0, .ref a13, .int 0, .ref a14, .ref a15, .int 0, .int 0, .ref a16, .int 0, .ref a17, .ref a18, .int 0, .int (-1), .ref a19, .ref a20, .ref a21, .int 0, .ref a22, .ref a23, .ref a24, .ref a25, .ref a26, .ref a27, .ref a28, .ref a29, .ref a30, .int 0, .int 0, .ref a31])), (a1, .inl (cI, 1560, .inl w0))] H := hP
        have hD : va_D A [(a0, .inr (12, [.ref a1, .ref a2, .ref a3, .int 0, .ref a4, .int 0, .int 0, .int 0, .int 0, .int 0, .int (-1), .int 0, .int 0, .int 0, .int 0, .ref a5, .ref a6, .ref a7, .ref a8, .ref a9, .ref a10, .ref a11, .ref a12, .int 0, .int 0, .int 0, .int 0, .int 0, .ref a13, .int 0, .ref a14, .ref a15, .int 0, .int 0, .ref a16, .int 0, .ref a17, .ref a18, .int 0, .int (-1), .ref a19, .ref a20, .ref a21, .int 0, .ref a22, .ref a23, .ref a24, .ref a25, .ref a26, .ref a27, .ref a28, .ref a29, .ref a30, .int 0, .int 0, .ref a31])), (a1, .inl (cI, 1560, .inl w0))] := hD
        have hP9 := hP.sub (ws' := []) [] rfl
        have hD9 := hD.sub (ws' := []) [] (by decide) rfl
        refine W.widen (k := 0) (n := 0) (Nat.le_of_ble_eq_true rfl) (Nat.le_of_ble_eq_true rfl) ?_
        exact W.iret (v := (-1)) hx hb hr (fun t ht hW => ⟨⟨(-1), [], rfl, ⟨by decide, rfl⟩, by rw [ht]; exact hP9, va_K.moved hW.alike hK, hD9⟩, hS.F ht⟩) hS.2.2 dX12_parts_43
      by_cases c_16 : x2 = 2
      · subst c_16
        refine lv_iload_n hx hb dX12_parts_0 rfl (lv_at hl 1 rfl) ?_
        refine lv_iconst (v := 0) hx hb dX12_parts_1 (by decide) ?_
        refine lv_aload_n hx hb dX12_parts_2 rfl (lv_at hl 0 rfl) ?_
        refine tk_ri (wr := []) (tk_V (As := []) (rest := [.int 0, .int 0]) (n := 0) hx hb hml hown hU hN (cc_X12_allRules_0 l (dC, dI) cI cL cZ s.heap.size a0 a1 a2 a3 a4 a5 a6 a7 a8 a9 a10 a11 a12 a13 a14 a15 a16 a17 a18 a19 a20 a21 a22 a23 a24 a25 a26 a27 a28 a29 a30 a31) wd_686 wd_687 wd_688 wd_5 wd_689 (by decide +kernel) ⟨Nat.le_of_ble_eq_true rfl, Nat.le_of_ble_eq_true rfl⟩ hK hP hD [0, 1] (by decide) rfl 0 12 rfl rfl rfl rfl hl.1 rfl (Nat.le_of_ble_eq_true rfl) dX12_parts_3 ⟨Nat.le_of_ble_eq_true rfl, Nat.le_of_ble_eq_true rfl⟩) hP hD hS hA [0, 1] [] rfl rfl (by decide) (by decide) (fun r_17 w_18 H locs hw hP hD hS => ?_)
        obtain ⟨rfl, rfl⟩ := hw
        have hP : va_P (dC, dI) vwCl [(a0, .inr (12, [.ref a1, .ref a2, .ref a3, .int 0, .ref a4, .int 0, .int 0, .int 0, .int 0, .int 0, .int (-1), .int 0, .int 0, .int 0, .int 0, .ref a5, .ref a6, .ref a7, .ref a8, .ref a9, .ref a10, .ref a11, .ref a12, .int 0, .int 0, .int 0, .int 0, .int 0, .ref a13, .int 0, .ref a14, .ref a15, .int 0, .int 0, .ref a16, .int 0, .ref a17, .ref a18, .int 0, .int (-1), .ref a19, .ref a20, .ref a21, .int 0, .ref a22, .ref a23, .ref a24, .ref a25, .ref a26, .ref a27, .ref a28, .ref a29, .ref a30, .int 0, .int 0, .ref a31])), (a1, .inl (cI, 1560, .inl w0))] H := hP
        have hD : va_D A [(a0, .inr (12, [.ref a1, .ref a2, .ref a3, .int 0, .ref a4, .int 0, .int 0, .int 0, .int 0, .int 0, .int (-1), .int 0, .int 0, .int 0, .int 0, .ref a5, .ref a6, .ref a7, .ref a8, .ref a9, .ref a10, .ref a11, .ref a12, .int 0, .int 0, .int 0, .int 0, .int 0, .ref a13, .int 0, .ref a14, .ref a15, .int 0, .int 0, .ref a16, .int 0, .ref a17, .ref a18, .int 0, .int (-1), .ref a19, .ref a20, .ref a21, .int 0, .ref a22, .ref a23, .ref a24, .ref a25, .ref a26, .ref a27, .ref a28, .ref a29, .ref a30, .int 0, .int 0, .ref a31])), (a1, .inl (cI, 1560, .inl w0))] := hD
        refine tk_ri (wr := [(a0, .inr (12, [.ref a1, .ref a2, .ref a3, .int 0, .ref a4, .int 0, .int 0, .int 0, .int 0, .int 0, .int (-1), .int 0, .int 0, .int 0, .int 0, .ref a5, .ref a6, .ref a7, .ref a8, .ref a9, .ref a10, .ref a11, .ref a12, .int 0, .int 0, .int 0, .int 0, .int 0, .ref a13, .int 0, .ref a14, .ref a15, .int 0, .int 0, .ref a16, .int 0, .ref a17, .ref a18, .int 0, .int (-1), .ref a19, .ref a20, .ref a21, .int 0, .ref a22, .ref a23, .ref a24, .ref a25, .ref a26, .ref a27, .ref a28, .ref a29, .ref a30, .int 0, .int 0, .ref a31])), (a1, .inl (cI, 1560, .inl w0))]) (tk_S (As := [.int 0, .int 0, .int 0]) (rest := []) (n := 3) hx hb hml hown hU hN (cc_X12_isIn_0 l (dC, dI) cI cL cZ H.size ) wd_227 wd_228 wd_5 wd_229 (by decide +kernel) ⟨Nat.le_of_ble_eq_true rfl, Nat.le_of_ble_eq_true rfl⟩ hK hP hD [] (by decide) rfl rfl hl.1 rfl (Nat.le_of_ble_eq_true rfl) dX12_parts_6 ⟨Nat.le_of_ble_eq_true rfl, Nat.le_of_ble_eq_true rfl⟩) hP hD hS hA [] [0, 1] rfl rfl (by decide) (by decide) (fun r_19 w_20 H locs hw hP hD hS => ?_)
        obtain ⟨rfl, rfl⟩ := hw
        have hP : va_P (dC, dI) vwCl [(a0, .inr (12, [.ref a1, .ref a2, .ref a3, .int 0, .ref a4, .int 0, .int 0, .int 0, .int 0, .int 0, .int (-1), .int 0, .int 0, .int 0, .int 0, .ref a5, .ref a6, .ref a7, .ref a8, .ref a9, .ref a10, .ref a11, .ref a12, .int 0, .int 0, .int 0, .int 0, .int 0, .ref a13, .int 0, .ref a14, .ref a15, .int 0, .int 0, .ref a16, .int 0, .ref a17, .ref a18, .int 0, .int (-1), .ref a19, .ref a20, .ref a21, .int 0, .ref a22, .ref a23, .ref a24, .ref a25, .ref a26, .ref a27, .ref a28, .ref a29, .ref a30, .int 0, .int 0, .ref a31])), (a1, .inl (cI, 1560, .inl w0))] H := hP
        have hD : va_D A [(a0, .inr (12, [.ref a1, .ref a2, .ref a3, .int 0, .ref a4, .int 0, .int 0, .int 0, .int 0, .int 0, .int (-1), .int 0, .int 0, .int 0, .int 0, .ref a5, .ref a6, .ref a7, .ref a8, .ref a9, .ref a10, .ref a11, .ref a12, .int 0, .int 0, .int 0, .int 0, .int 0, .ref a13, .int 0, .ref a14, .ref a15, .int 0, .int 0, .ref a16, .int 0, .ref a17, .ref a18, .int 0, .int (-1), .ref a19, .ref a20, .ref a21, .int 0, .ref a22, .ref a23, .ref a24, .ref a25, .ref a26, .ref a27, .ref a28, .ref a29, .ref a30, .int 0, .int 0, .ref a31])), (a1, .inl (cI, 1560, .inl w0))] := hD
        refine lv_if_eq (tgt := 33) hx hb dX12_parts_9 (by decide) (fun c9 => absurd c9 (by decide)) (fun _ => ?_)
        refine lv_iload_n hx hb dX12_parts_12 rfl (lv_at hl 2 rfl) ?_
        refine lv_iconst (v := 0) hx hb dX12_parts_13 (by decide) ?_
        refine lv_aload_n hx hb dX12_parts_14 rfl (lv_at hl 0 rfl) ?_
        refine tk_ri (wr := []) (tk_V (As := []) (rest := [.int 0, .int 0]) (n := 0) hx hb hml hown hU hN (cc_X12_allRules_0 l (dC, dI) cI cL cZ H.size a0 a1 a2 a3 a4 a5 a6 a7 a8 a9 a10 a11 a12 a13 a14 a15 a16 a17 a18 a19 a20 a21 a22 a23 a24 a25 a26 a27 a28 a29 a30 a31) wd_686 wd_687 wd_688 wd_5 wd_689 (by decide +kernel) ⟨Nat.le_of_ble_eq_true rfl, Nat.le_of_ble_eq_true rfl⟩ hK hP hD [0, 1] (by decide) rfl 0 12 rfl rfl rfl rfl hl.1 rfl (Nat.le_of_ble_eq_true rfl) dX12_parts_15 ⟨Nat.le_of_ble_eq_true rfl, Nat.le_of_ble_eq_true rfl⟩) hP hD hS hA [0, 1] [] rfl rfl (by decide) (by decide) (fun r_21 w_22 H locs hw hP hD hS => ?_)
        obtain ⟨rfl, rfl⟩ := hw
        have hP : va_P (dC, dI) vwCl [(a0, .inr (12, [.ref a1, .ref a2, .ref a3, .int 0, .ref a4, .int 0, .int 0, .int 0, .int 0, .int 0, .int (-1), .int 0, .int 0, .int 0, .int 0, .ref a5, .ref a6, .ref a7, .ref a8, .ref a9, .ref a10, .ref a11, .ref a12, .int 0, .int 0, .int 0, .int 0, .int 0, .ref a13, .int 0, .ref a14, .ref a15, .int 0, .int 0, .ref a16, .int 0, .ref a17, .ref a18, .int 0, .int (-1), .ref a19, .ref a20, .ref a21, .int 0, .ref a22, .ref a23, .ref a24, .ref a25, .ref a26, .ref a27, .ref a28, .ref a29, .ref a30, .int 0, .int 0, .ref a31])), (a1, .inl (cI, 1560, .inl w0))] H := hP
        have hD : va_D A [(a0, .inr (12, [.ref a1, .ref a2, .ref a3, .int 0, .ref a4, .int 0, .int 0, .int 0, .int 0, .int 0, .int (-1), .int 0, .int 0, .int 0, .int 0, .ref a5, .ref a6, .ref a7, .ref a8, .ref a9, .ref a10, .ref a11, .ref a12, .int 0, .int 0, .int 0, .int 0, .int 0, .ref a13, .int 0, .ref a14, .ref a15, .int 0, .int 0, .ref a16, .int 0, .ref a17, .ref a18, .int 0, .int (-1), .ref a19, .ref a20, .ref a21, .int 0, .ref a22, .ref a23, .ref a24, .ref a25, .ref a26, .ref a27, .ref a28, .ref a29, .ref a30, .int 0, .int 0, .ref a31])), (a1, .inl (cI, 1560, .inl w0))] := hD
        refine tk_ri (wr := [(a0, .inr (12, [.ref a1, .ref a2, .ref a3, .int 0, .ref a4, .int 0, .int 0, .int 0, .int 0, .int 0, .int (-1), .int 0, .int 0, .int 0, .int 0, .ref a5, .ref a6, .ref a7, .ref a8, .ref a9, .ref a10, .ref a11, .ref a12, .int 0, .int 0, .int 0, .int 0, .int 0, .ref a13, .int 0, .ref a14, .ref a15, .int 0, .int 0, .ref a16, .int 0, .ref a17, .ref a18, .int 0, .int (-1), .ref a19, .ref a20, .ref a21, .int 0, .ref a22, .ref a23, .ref a24, .ref a25, .ref a26, .ref a27, .ref a28, .ref a29, .ref a30, .int 0, .int 0, .ref a31])), (a1, .inl (cI, 1560, .inl w0))]) (tk_S (As := [.int 0, .int 0, .int 0]) (rest := []) (n := 3) hx hb hml hown hU hN (cc_X12_isIn_0 l (dC, dI) cI cL cZ H.size ) wd_227 wd_228 wd_5 wd_229 (by decide +kernel) ⟨Nat.le_of_ble_eq_true rfl, Nat.le_of_ble_eq_true rfl⟩ hK hP hD [] (by decide) rfl rfl hl.1 rfl (Nat.le_of_ble_eq_true rfl) dX12_parts_18 ⟨Nat.le_of_ble_eq_true rfl, Nat.le_of_ble_eq_true rfl⟩) hP hD hS hA [] [0, 1] rfl rfl (by decide) (by decide) (fun r_23 w_24 H locs hw hP hD hS => ?_)
        obtain ⟨rfl, rfl⟩ := hw
        have hP : va_P (dC, dI) vwCl [(a0, .inr (12, [.ref a1, .ref a2, .ref a3, .int 0, .ref a4, .int 0, .int 0, .int 0, .int 0, .int 0, .int (-1), .int 0, .int 0, .int 0, .int 0, .ref a5, .ref a6, .ref a7, .ref a8, .ref a9, .ref a10, .ref a11, .ref a12, .int 0, .int 0, .int 0, .int 0, .int 0, .ref a13, .int 0, .ref a14, .ref a15, .int 0, .int 0, .ref a16, .int 0, .ref a17, .ref a18, .int 0, .int (-1), .ref a19, .ref a20, .ref a21, .int 0, .ref a22, .ref a23, .ref a24, .ref a25, .ref a26, .ref a27, .ref a28, .ref a29, .ref a30, .int 0, .int 0, .ref a31])), (a1, .inl (cI, 1560, .inl w0))] H := hP
        have hD : va_D A [(a0, .inr (12, [.ref a1, .ref a2, .ref a3, .int 0, .ref a4, .int 0, .int 0, .int 0, .int 0, .int 0, .int (-1), .int 0, .int 0, .int 0, .int 0, .ref a5, .ref a6, .ref a7, .ref a8, .ref a9, .ref a10, .ref a11, .ref a12, .int 0, .int 0, .int 0, .int 0, .int 0, .ref a13, .int 0, .ref a14, .ref a15, .int 0, .int 0, .ref a16, .int 0, .ref a17, .ref a18, .int 0, .int (-1), .ref a19, .ref a20, .ref a21, .int 0, .ref a22, .ref a23, .ref a24, .ref a25, .ref a26, .ref a27, .ref a28, .ref a29, .ref a30, .int 0, .int 0, .ref a31])), (a1, .inl (cI, 1560, .inl w0))] := hD
        refine lv_if_eq (tgt := 33) hx hb dX12_parts_21 (by decide) (fun c9 => absurd c9 (by decide)) (fun _ => ?_)
        refine lv_iload_n hx hb dX12_parts_24 rfl (lv_at hl 3 rfl) ?_
        refine lv_iconst (v := 1) hx hb dX12_parts_25 (by decide) ?_
        refine lv_iconst (v := 3) hx hb dX12_parts_26 (by decide) ?_
        refine tk_ri (wr := [(a0, .inr (12, [.ref a1, .ref a2, .ref a3, .int 0, .ref a4, .int 0, .int 0, .int 0, .int 0, .int 0, .int (-1), .int 0, .int 0, .int 0, .int 0, .ref a5, .ref a6, .ref a7, .ref a8, .ref a9, .ref a10, .ref a11, .ref a12, .int 0, .int 0, .int 0, .int 0, .int 0, .ref a13, .int 0, .ref a14, .ref a15, .int 0, .int 0, .ref a16, .int 0, .ref a17, .ref a18, .int 0, .int (-1), .ref a19, .ref a20, .ref a21, .int 0, .ref a22, .ref a23, .ref a24, .ref a25, .ref a26, .ref a27, .ref a28, .ref a29, .ref a30, .int 0, .int 0, .ref a31])), (a1, .inl (cI, 1560, .inl w0))]) (tk_S (As := [.int 2, .int 1, .int 3]) (rest := []) (n := 3) hx hb hml hown hU hN (cc_X12_isIn_13 l (dC, dI) cI cL cZ H.size ) wd_227 wd_228 wd_5 wd_229 (by decide +kernel) ⟨Nat.le_of_ble_eq_true rfl, Nat.le_of_ble_eq_true rfl⟩ hK hP hD [] (by decide) rfl rfl hl.1 rfl (Nat.le_of_ble_eq_true rfl) dX12_parts_27 ⟨Nat.le_of_ble_eq_true rfl, Nat.le_of_ble_eq_true rfl⟩) hP hD hS hA [] [0, 1] rfl rfl (by decide) (by decide) (fun r_25 w_26 H locs hw hP hD hS => ?_)
        obtain ⟨rfl, rfl⟩ := hw
        have hP : va_P (dC, dI) vwCl [(a0, .inr (12, [.ref a1, .ref a2, .ref a3, .int 0, .ref a4, .int 0, .int 0, .int 0, .int 0, .int 0, .int (-1), .int 0, .int 0, .int 0, .int 0, .ref a5, .ref a6, .ref a7, .ref a8, .ref a9, .ref a10, .ref a11, .ref a12, .int 0, .int 0, .int 0, .int 0, .int 0, .ref a13, .int 0, .ref a14, .ref a15, .int 0, .int 0, .ref a16, .int 0, .ref a17, .ref a18, .int 0, .int (-1), .ref a19, .ref a20, .ref a21, .int 0, .ref a22, .ref a23, .ref a24, .ref a25, .ref a26, .ref a27, .ref a28, .ref a29, .ref a30, .int 0, .int 0, .ref a31])), (a1, .inl (cI, 1560, .inl w0))] H := hP
        have hD : va_D A [(a0, .inr (12, [.ref a1, .ref a2, .ref a3, .int 0, .ref a4, .int 0, .int 0, .int 0, .int 0, .int 0, .int (-1), .int 0, .int 0, .int 0, .int 0, .ref a5, .ref a6, .ref a7, .ref a8, .ref a9, .ref a10, .ref a11, .ref a12, .int 0, .int 0, .int 0, .int 0, .int 0, .ref a13, .int 0, .ref a14, .ref a15, .int 0, .int 0, .ref a16, .int 0, .ref a17, .ref a18, .int 0, .int (-1), .ref a19, .ref a20, .ref a21, .int 0, .ref a22, .ref a23, .ref a24, .ref a25, .ref a26, .ref a27, .ref a28, .ref a29, .ref a30, .int 0, .int 0, .ref a31])), (a1, .inl (cI, 1560, .inl w0))] := hD
        refine lv_if_ne (tgt := 36) hx hb dX12_parts_30 (by decide) (fun _ => ?_) (fun c9 => absurd c9 (by decide)) 
        refine lv_aload_n hx hb dX12_parts_36 rfl (lv_at hl 0 rfl) ?_
        refine lv_iload_n hx hb dX12_parts_37 rfl (lv_at hl 1 rfl) ?_
        refine lv_iload_n hx hb dX12_parts_38 rfl (lv_at hl 2 rfl) ?_
        refine lv_iload_n hx hb dX12_parts_39 rfl (lv_at hl 3 rfl) ?_
        refine tk_ri (wr := []) (tk_V (As := [.int 0, .int 0, .int 2]) (rest := []) (n := 3) hx hb hml hown hU hN (cc_X12_partsOf_1 l (dC, dI) cI cL cZ H.size a0 a1 a2 a3 a4 a5 a6 a7 a8 a9 a10 a11 a12 a13 a14 a15 a16 a17 a18 a19 a20 a21 a22 a23 a24 a25 a26 a27 a28 a29 a30 a31) wd_1334 wd_1335 wd_1336 wd_5 wd_1337 (by decide +kernel) ⟨Nat.le_of_ble_eq_true rfl, Nat.le_of_ble_eq_true rfl⟩ hK hP hD [0, 1] (by decide) rfl 0 12 rfl rfl rfl rfl hl.1 rfl (Nat.le_of_ble_eq_true rfl) dX12_parts_40 ⟨Nat.le_of_ble_eq_true rfl, Nat.le_of_ble_eq_true rfl⟩) hP hD hS hA [0, 1] [] rfl rfl (by decide) (by decide) (fun r_27 w_28 H locs hw hP hD hS => ?_)
        obtain ⟨rfl, rfl⟩ := hw
        have hP : va_P (dC, dI) vwCl [(a0, .inr (12, [.ref a1, .ref a2, .ref a3, .int 0, .ref a4, .int 0, .int 0, .int 0, .int 0, .int 0, .int (-1), .int 0, .int 0, .int 0, .int 0, .ref a5, .ref a6, .ref a7, .ref a8, .ref a9, .ref a10, .ref a11, .ref a12, .int 0, .int 0, .int 0, .int 0, .int 0, .ref a13, .int 0, .ref a14, .ref a15, .int 0, .int 0, .ref a16, .int 0, .ref a17, .ref a18, .int 0, .int (-1), .ref a19, .ref a20, .ref a21, .int 0, .ref a22, .ref a23, .ref a24, .ref a25, .ref a26, .ref a27, .ref a28, .ref a29, .ref a30, .int 0, .int 0, .ref a31])), (a1, .inl (cI, 1560, .inl w0))] H := hP
        have hD : va_D A [(a0, .inr (12, [.ref a1, .ref a2, .ref a3, .int 0, .ref a4, .int 0, .int 0, .int 0, .int 0, .int 0, .int (-1), .int 0, .int 0, .int 0, .int 0, .ref a5, .ref a6, .ref a7, .ref a8, .ref a9, .ref a10, .ref a11, .ref a12, .int 0, .int 0, .int 0, .int 0, .int 0, .ref a13, .int 0, .ref a14, .ref a15, .int 0, .int 0, .ref a16, .int 0, .ref a17, .ref a18, .int 0, .int (-1), .ref a19, .ref a20, .ref a21, .int 0, .ref a22, .ref a23, .ref a24, .ref a25, .ref a26, .ref a27, .ref a28, .ref a29, .ref a30, .int 0, .int 0, .ref a31])), (a1, .inl (cI, 1560, .inl w0))] := hD
        have hP9 := hP.sub (ws' := []) [] rfl
        have hD9 := hD.sub (ws' := []) [] (by decide) rfl
        refine W.widen (k := 0) (n := 0) (Nat.le_of_ble_eq_true rfl) (Nat.le_of_ble_eq_true rfl) ?_
        exact W.iret (v := (-1)) hx hb hr (fun t ht hW => ⟨⟨(-1), [], rfl, ⟨by decide, rfl⟩, by rw [ht]; exact hP9, va_K.moved hW.alike hK, hD9⟩, hS.F ht⟩) hS.2.2 dX12_parts_43
      by_cases c_29 : x2 = 3
      · subst c_29
        refine lv_iload_n hx hb dX12_parts_0 rfl (lv_at hl 1 rfl) ?_
        refine lv_iconst (v := 0) hx hb dX12_parts_1 (by decide) ?_
        refine lv_aload_n hx hb dX12_parts_2 rfl (lv_at hl 0 rfl) ?_
        refine tk_ri (wr := []) (tk_V (As := []) (rest := [.int 0, .int 0]) (n := 0) hx hb hml hown hU hN (cc_X12_allRules_0 l (dC, dI) cI cL cZ s.heap.size a0 a1 a2 a3 a4 a5 a6 a7 a8 a9 a10 a11 a12 a13 a14 a15 a16 a17 a18 a19 a20 a21 a22 a23 a24 a25 a26 a27 a28 a29 a30 a31) wd_686 wd_687 wd_688 wd_5 wd_689 (by decide +kernel) ⟨Nat.le_of_ble_eq_true rfl, Nat.le_of_ble_eq_true rfl⟩ hK hP hD [0, 1] (by decide) rfl 0 12 rfl rfl rfl rfl hl.1 rfl (Nat.le_of_ble_eq_true rfl) dX12_parts_3 ⟨Nat.le_of_ble_eq_true rfl, Nat.le_of_ble_eq_true rfl⟩) hP hD hS hA [0, 1] [] rfl rfl (by decide) (by decide) (fun r_30 w_31 H locs hw hP hD hS => ?_)
        obtain ⟨rfl, rfl⟩ := hw
        have hP : va_P (dC, dI) vwCl [(a0, .inr (12, [.ref a1, .ref a2, .ref a3, .int 0, .ref a4, .int 0, .int 0, .int 0, .int 0, .int 0, .int (-1), .int 0, .int 0, .int 0, .int 0, .ref a5, .ref a6, .ref a7, .ref a8, .ref a9, .ref a10, .ref a11, .ref a12, .int 0, .int 0, .int 0, .int 0, .int 0, .ref a13, .int 0, .ref a14, .ref a15, .int 0, .int 0, .ref a16, .int 0, .ref a17, .ref a18, .int 0, .int (-1), .ref a19, .ref a20, .ref a21, .int 0, .ref a22, .ref a23, .ref a24, .ref a25, .ref a26, .ref a27, .ref a28, .ref a29, .ref a30, .int 0, .int 0, .ref a31])), (a1, .inl (cI, 1560, .inl w0))] H := hP
        have hD : va_D A [(a0, .inr (12, [.ref a1, .ref a2, .ref a3, .int 0, .ref a4, .int 0, .int 0, .int 0, .int 0, .int 0, .int (-1), .int 0, .int 0, .int 0, .int 0, .ref a5, .ref a6, .ref a7, .ref a8, .ref a9, .ref a10, .ref a11, .ref a12, .int 0, .int 0, .int 0, .int 0, .int 0, .ref a13, .int 0, .ref a14, .ref a15, .int 0, .int 0, .ref a16, .int 0, .ref a17, .ref a18, .int 0, .int (-1), .ref a19, .ref a20, .ref a21, .int 0, .ref a22, .ref a23, .ref a24, .ref a25, .ref a26, .ref a27, .ref a28, .ref a29, .ref a30, .int 0, .int 0, .ref a31])), (a1, .inl (cI, 1560, .inl w0))] := hD
        refine tk_ri (wr := [(a0, .inr (12, [.ref a1, .ref a2, .ref a3, .int 0, .ref a4, .int 0, .int 0, .int 0, .int 0, .int 0, .int (-1), .int 0, .int 0, .int 0, .int 0, .ref a5, .ref a6, .ref a7, .ref a8, .ref a9, .ref a10, .ref a11, .ref a12, .int 0, .int 0, .int 0, .int 0, .int 0, .ref a13, .int 0, .ref a14, .ref a15, .int 0, .int 0, .ref a16, .int 0, .ref a17, .ref a18, .int 0, .int (-1), .ref a19, .ref a20, .ref a21, .int 0, .ref a22, .ref a23, .ref a24, .ref a25, .ref a26, .ref a27, .ref a28, .ref a29, .ref a30, .int 0, .int 0, .ref a31])), (a1, .inl (cI, 1560, .inl w0))]) (tk_S (As := [.int 0, .int 0, .int 0]) (rest := []) (n := 3) hx hb hml hown hU hN (cc_X12_isIn_0 l (dC, dI) cI cL cZ H.size ) wd_227 wd_228 wd_5 wd_229 (by decide +kernel) ⟨Nat.le_of_ble_eq_true rfl, Nat.le_of_ble_eq_true rfl⟩ hK hP hD [] (by decide) rfl rfl hl.1 rfl (Nat.le_of_ble_eq_true rfl) dX12_parts_6 ⟨Nat.le_of_ble_eq_true rfl, Nat.le_of_ble_eq_true rfl⟩) hP hD hS hA [] [0, 1] rfl rfl (by decide) (by decide) (fun r_32 w_33 H locs hw hP hD hS => ?_)
        obtain ⟨rfl, rfl⟩ := hw
        have hP : va_P (dC, dI) vwCl [(a0, .inr (12, [.ref a1, .ref a2, .ref a3, .int 0, .ref a4, .int 0, .int 0, .int 0, .int 0, .int 0, .int (-1), .int 0, .int 0, .int 0, .int 0, .ref a5, .ref a6, .ref a7, .ref a8, .ref a9, .ref a10, .ref a11, .ref a12, .int 0, .int 0, .int 0, .int 0, .int 0, .ref a13, .int 0, .ref a14, .ref a15, .int 0, .int 0, .ref a16, .int 0, .ref a17, .ref a18, .int 0, .int (-1), .ref a19, .ref a20, .ref a21, .int 0, .ref a22, .ref a23, .ref a24, .ref a25, .ref a26, .ref a27, .ref a28, .ref a29, .ref a30, .int 0, .int 0, .ref a31])), (a1, .inl (cI, 1560, .inl w0))] H := hP
        have hD : va_D A [(a0, .inr (12, [.ref a1, .ref a2, .ref a3, .int 0, .ref a4, .int 0, .int 0, .int 0, .int 0, .int 0, .int (-1), .int 0, .int 0, .int 0, .int 0, .ref a5, .ref a6, .ref a7, .ref a8, .ref a9, .ref a10, .ref a11, .ref a12, .int 0, .int 0, .int 0, .int 0, .int 0, .ref a13, .int 0, .ref a14, .ref a15, .int 0, .int 0, .ref a16, .int 0, .ref a17, .ref a18, .int 0, .int (-1), .ref a19, .ref a20, .ref a21, .int 0, .ref a22, .ref a23, .ref a24, .ref a25, .ref a26, .ref a27, .ref a28, .ref a29, .ref a30, .int 0, .int 0, .ref a31])), (a1, .inl (cI, 1560, .inl w0))] := hD
        refine lv_if_eq (tgt := 33) hx hb dX12_parts_9 (by decide) (fun c9 => absurd c9 (by decide)) (fun _ => ?_)
        refine lv_iload_n hx hb dX12_parts_12 rfl (lv_at hl 2 rfl) ?_
        refine lv_iconst (v := 0) hx hb dX12_parts_13 (by decide) ?_
        refine lv_aload_n hx hb dX12_parts_14 rfl (lv_at hl 0 rfl) ?_
        refine tk_ri (wr := []) (tk_V (As := []) (rest := [.int 0, .int 0]) (n := 0) hx hb hml hown hU hN (cc_X12_allRules_0 l (dC, dI) cI cL cZ H.size a0 a1 a2 a3 a4 a5 a6 a7 a8 a9 a10 a11 a12 a13 a14 a15 a16 a17 a18 a19 a20 a21 a22 a23 a24 a25 a26 a27 a28 a29 a30 a31) wd_686 wd_687 wd_688 wd_5 wd_689 (by decide +kernel) ⟨Nat.le_of_ble_eq_true rfl, Nat.le_of_ble_eq_true rfl⟩ hK hP hD [0, 1] (by decide) rfl 0 12 rfl rfl rfl rfl hl.1 rfl (Nat.le_of_ble_eq_true rfl) dX12_parts_15 ⟨Nat.le_of_ble_eq_true rfl, Nat.le_of_ble_eq_true rfl⟩) hP hD hS hA [0, 1] [] rfl rfl (by decide) (by decide) (fun r_34 w_35 H locs hw hP hD hS => ?_)
        obtain ⟨rfl, rfl⟩ := hw
        have hP : va_P (dC, dI) vwCl [(a0, .inr (12, [.ref a1, .ref a2, .ref a3, .int 0, .ref a4, .int 0, .int 0, .int 0, .int 0, .int 0, .int (-1), .int 0, .int 0, .int 0, .int 0, .ref a5, .ref a6, .ref a7, .ref a8, .ref a9, .ref a10, .ref a11, .ref a12, .int 0, .int 0, .int 0, .int 0, .int 0, .ref a13, .int 0, .ref a14, .ref a15, .int 0, .int 0, .ref a16, .int 0, .ref a17, .ref a18, .int 0, .int (-1), .ref a19, .ref a20, .ref a21, .int 0, .ref a22, .ref a23, .ref a24, .ref a25, .ref a26, .ref a27, .ref a28, .ref a29, .ref a30, .int 0, .int 0, .ref a31])), (a1, .inl (cI, 1560, .inl w0))] H := hP
        have hD : va_D A [(a0, .inr (12, [.ref a1, .ref a2, .ref a3, .int 0, .ref a4, .int 0, .int 0, .int 0, .int 0, .int 0, .int (-1), .int 0, .int 0, .int 0, .int 0, .ref a5, .ref a6, .ref a7, .ref a8, .ref a9, .ref a10, .ref a11, .ref a12, .int 0, .int 0, .int 0, .int 0, .int 0, .ref a13, .int 0, .ref a14, .ref a15, .int 0, .int 0, .ref a16, .int 0, .ref a17, .ref a18, .int 0, .int (-1), .ref a19, .ref a20, .ref a21, .int 0, .ref a22, .ref a23, .ref a24, .ref a25, .ref a26, .ref a27, .ref a28, .ref a29, .ref a30, .int 0, .int 0, .ref a31])), (a1, .inl (cI, 1560, .inl w0))] := hD
        refine tk_ri (wr := [(a0, .inr (12, [.ref a1, .ref a2, .ref a3, .int 0, .ref a4, .int 0, .int 0, .int 0, .int 0, .int 0, .int (-1), .int 0, .int 0, .int 0, .int 0, .ref a5, .ref a6, .ref a7, .ref a8, .ref a9, .ref a10, .ref a11, .ref a12, .int 0, .int 0, .int 0, .int 0, .int 0, .ref a13, .int 0, .ref a14, .ref a15, .int 0, .int 0, .ref a16, .int 0, .ref a17, .ref a18, .int 0, .int (-1), .ref a19, .ref a20, .ref a21, .int 0, .ref a22, .ref a23, .ref a24, .ref a25, .ref a26, .ref a27, .ref a28, .ref a29, .ref a30, .int 0, .int 0, .ref a31])), (a1, .inl (cI, 1560, .inl w0))]) (tk_S (As := [.int 0, .int 0, .int 0]) (rest := []) (n := 3) hx hb hml hown hU hN (cc_X12_isIn_0 l (dC, dI) cI cL cZ H.size ) wd_227 wd_228 wd_5 wd_229 (by decide +kernel) ⟨Nat.le_of_ble_eq_true rfl, Nat.le_of_ble_eq_true rfl⟩ hK hP hD [] (by decide) rfl rfl hl.1 rfl (Nat.le_of_ble_eq_true rfl) dX12_parts_18 ⟨Nat.le_of_ble_eq_true rfl, Nat.le_of_ble_eq_true rfl⟩) hP hD hS hA [] [0, 1] rfl rfl (by decide) (by decide) (fun r_36 w_37 H locs hw hP hD hS => ?_)
        obtain ⟨rfl, rfl⟩ := hw
        have hP : va_P (dC, dI) vwCl [(a0, .inr (12, [.ref a1, .ref a2, .ref a3, .int 0, .ref a4, .int 0, .int 0, .int 0, .int 0, .int 0, .int (-1), .int 0, .int 0, .int 0, .int 0, .ref a5, .ref a6, .ref a7, .ref a8, .ref a9, .ref a10, .ref a11, .ref a12, .int 0, .int 0, .int 0, .int 0, .int 0, .ref a13, .int 0, .ref a14, .ref a15, .int 0, .int 0, .ref a16, .int 0, .ref a17, .ref a18, .int 0, .int (-1), .ref a19, .ref a20, .ref a21, .int 0, .ref a22, .ref a23, .ref a24, .ref a25, .ref a26, .ref a27, .ref a28, .ref a29, .ref a30, .int 0, .int 0, .ref a31])), (a1, .inl (cI, 1560, .inl w0))] H := hP
        have hD : va_D A [(a0, .inr (12, [.ref a1, .ref a2, .ref a3, .int 0, .ref a4, .int 0, .int 0, .int 0, .int 0, .int 0, .int (-1), .int 0, .int 0, .int 0, .int 0, .ref a5, .ref a6, .ref a7, .ref a8, .ref a9, .ref a10, .ref a11, .ref a12, .int 0, .int 0, .int 0, .int 0, .int 0, .ref a13, .int 0, .ref a14, .ref a15, .int 0, .int 0, .ref a16, .int 0, .ref a17, .ref a18, .int 0, .int (-1), .ref a19, .ref a20, .ref a21, .int 0, .ref a22, .ref a23, .ref a24, .ref a25, .ref a26, .ref a27, .ref a28, .ref a29, .ref a30, .int 0, .int 0, .ref a31])), (a1, .inl (cI, 1560, .inl w0))] := hD
        refine lv_if_eq (tgt := 33) hx hb dX12_parts_21 (by decide) (fun c9 => absurd c9 (by decide)) (fun _ => ?_)
        refine lv_iload_n hx hb dX12_parts_24 rfl (lv_at hl 3 rfl) ?_
        refine lv_iconst (v := 1) hx hb dX12_parts_25 (by decide) ?_
        refine lv_iconst (v := 3) hx hb dX12_parts_26 (by decide) ?_
        refine tk_ri (wr := [(a0, .inr (12, [.ref a1, .ref a2, .ref a3, .int 0, .ref a4, .int 0, .int 0, .int 0, .int 0, .int 0, .int (-1), .int 0, .int 0, .int 0, .int 0, .ref a5, .ref a6, .ref a7, .ref a8, .ref a9, .ref a10, .ref a11, .ref a12, .int 0, .int 0, .int 0, .int 0, .int 0, .ref a13, .int 0, .ref a14, .ref a15, .int 0, .int 0, .ref a16, .int 0, .ref a17, .ref a18, .int 0, .int (-1), .ref a19, .ref a20, .ref a21, .int 0, .ref a22, .ref a23, .ref a24, .ref a25, .ref a26, .ref a27, .ref a28, .ref a29, .ref a30, .int 0, .int 0, .ref a31])), (a1, .inl (cI, 1560, .inl w0))]) (tk_S (As := [.int 3, .int 1, .int 3]) (rest := []) (n := 3) hx hb hml hown hU hN (cc_X12_isIn_14 l (dC, dI) cI cL cZ H.size ) wd_227 wd_228 wd_5 wd_229 (by decide +kernel) ⟨Nat.le_of_ble_eq_true rfl, Nat.le_of_ble_eq_true rfl⟩ hK hP hD [] (by decide) rfl rfl hl.1 rfl (Nat.le_of_ble_eq_true rfl) dX12_parts_27 ⟨Nat.le_of_ble_eq_true rfl, Nat.le_of_ble_eq_true rfl⟩) hP hD hS hA [] [0, 1] rfl rfl (by decide) (by decide) (fun r_38 w_39 H locs hw hP hD hS => ?_)
        obtain ⟨rfl, rfl⟩ := hw
        have hP : va_P (dC, dI) vwCl [(a0, .inr (12, [.ref a1, .ref a2, .ref a3, .int 0, .ref a4, .int 0, .int 0, .int 0, .int 0, .int 0, .int (-1), .int 0, .int 0, .int 0, .int 0, .ref a5, .ref a6, .ref a7, .ref a8, .ref a9, .ref a10, .ref a11, .ref a12, .int 0, .int 0, .int 0, .int 0, .int 0, .ref a13, .int 0, .ref a14, .ref a15, .int 0, .int 0, .ref a16, .int 0, .ref a17, .ref a18, .int 0, .int (-1), .ref a19, .ref a20, .ref a21, .int 0, .ref a22, .ref a23, .ref a24, .ref a25, .ref a26, .ref a27, .ref a28, .ref a29, .ref a30, .int 0, .int 0, .ref a31])), (a1, .inl (cI, 1560, .inl w0))] H := hP
        have hD : va_D A [(a0, .inr (12, [.ref a1, .ref a2, .ref a3, .int 0, .ref a4, .int 0, .int 0, .int 0, .int 0, .int 0, .int (-1), .int 0, .int 0, .int 0, .int 0, .ref a5, .ref a6, .ref a7, .ref a8, .ref a9, .ref a10, .ref a11, .ref a12, .int 0, .int 0, .int 0, .int 0, .int 0, .ref a13, .int 0, .ref a14, .ref a15, .int 0, .int 0, .ref a16, .int 0, .ref a17, .ref a18, .int 0, .int (-1), .ref a19, .ref a20, .ref a21, .int 0, .ref a22, .ref a23, .ref a24, .ref a25, .ref a26, .ref a27, .ref a28, .ref a29, .ref a30, .int 0, .int 0, .ref a31])), (a1, .inl (cI, 1560, .inl w0))] := hD
        refine lv_if_ne (tgt := 36) hx hb dX12_parts_30 (by decide) (fun _ => ?_) (fun c9 => absurd c9 (by decide)) 
        refine lv_aload_n hx hb dX12_parts_36 rfl (lv_at hl 0 rfl) ?_
        refine lv_iload_n hx hb dX12_parts_37 rfl (lv_at hl 1 rfl) ?_
        refine lv_iload_n hx hb dX12_parts_38 rfl (lv_at hl 2 rfl) ?_
        refine lv_iload_n hx hb dX12_parts_39 rfl (lv_at hl 3 rfl) ?_
        refine tk_ri (wr := []) (tk_V (As := [.int 0, .int 0, .int 3]) (rest := []) (n := 3) hx hb hml hown hU hN (cc_X12_partsOf_2 l (dC, dI) cI cL cZ H.size a0 a1 a2 a3 a4 a5 a6 a7 a8 a9 a10 a11 a12 a13 a14 a15 a16 a17 a18 a19 a20 a21 a22 a23 a24 a25 a26 a27 a28 a29 a30 a31) wd_1334 wd_1335 wd_1336 wd_5 wd_1337 (by decide +kernel) ⟨Nat.le_of_ble_eq_true rfl, Nat.le_of_ble_eq_true rfl⟩ hK hP hD [0, 1] (by decide) rfl 0 12 rfl rfl rfl rfl hl.1 rfl (Nat.le_of_ble_eq_true rfl) dX12_parts_40 ⟨Nat.le_of_ble_eq_true rfl, Nat.le_of_ble_eq_true rfl⟩) hP hD hS hA [0, 1] [] rfl rfl (by decide) (by decide) (fun r_40 w_41 H locs hw hP hD hS => ?_)
        obtain ⟨rfl, rfl⟩ := hw
        have hP : va_P (dC, dI) vwCl [(a0, .inr (12, [.ref a1, .ref a2, .ref a3, .int 0, .ref a4, .int 0, .int 0, .int 0, .int 0, .int 0, .int (-1), .int 0, .int 0, .int 0, .int 0, .ref a5, .ref a6, .ref a7, .ref a8, .ref a9, .ref a10, .ref a11, .ref a12, .int 0, .int 0, .int 0, .int 0, .int 0, .ref a13, .int 0, .ref a14, .ref a15, .int 0, .int 0, .ref a16, .int 0, .ref a17, .ref a18, .int 0, .int (-1), .ref a19, .ref a20, .ref a21, .int 0, .ref a22, .ref a23, .ref a24, .ref a25, .ref a26, .ref a27, .ref a28, .ref a29, .ref a30, .int 0, .int 0, .ref a31])), (a1, .inl (cI, 1560, .inl w0))] H := hP
        have hD : va_D A [(a0, .inr (12, [.ref a1, .ref a2, .ref a3, .int 0, .ref a4, .int 0, .int 0, .int 0, .int 0, .int 0, .int (-1), .int 0, .int 0, .int 0, .int 0, .ref a5, .ref a6, .ref a7, .ref a8, .ref a9, .ref a10, .ref a11, .ref a12, .int 0, .int 0, .int 0, .int 0, .int 0, .ref a13, .int 0, .ref a14, .ref a15, .int 0, .int 0, .ref a16, .int 0, .ref a17, .ref a18, .int 0, .int (-1), .ref a19, .ref a20, .ref a21, .int 0, .ref a22, .ref a23, .ref a24, .ref a25, .ref a26, .ref a27, .ref a28, .ref a29, .ref a30, .int 0, .int 0, .ref a31])), (a1, .inl (cI, 1560, .inl w0))] := hD
        have hP9 := hP.sub (ws' := []) [] rfl
        have hD9 := hD.sub (ws' := []) [] (by decide) rfl
        refine W.widen (k := 0) (n := 0) (Nat.le_of_ble_eq_true rfl) (Nat.le_of_ble_eq_true rfl) ?_
        exact W.iret (v := (-1)) hx hb hr (fun t ht hW => ⟨⟨(-1), [], rfl, ⟨by decide, rfl⟩, by rw [ht]; exact hP9, va_K.moved hW.alike hK, hD9⟩, hS.F ht⟩) hS.2.2 dX12_parts_43
      refine lv_iload_n hx hb dX12_parts_0 rfl (lv_at hl 1 rfl) ?_
      refine lv_iconst (v := 0) hx hb dX12_parts_1 (by decide) ?_
      refine lv_aload_n hx hb dX12_parts_2 rfl (lv_at hl 0 rfl) ?_
      refine tk_ri (wr := []) (tk_V (As := []) (rest := [.int 0, .int 0]) (n := 0) hx hb hml hown hU hN (cc_X12_allRules_0 l (dC, dI) cI cL cZ s.heap.size a0 a1 a2 a3 a4 a5 a6 a7 a8 a9 a10 a11 a12 a13 a14 a15 a16 a17 a18 a19 a20 a21 a22 a23 a24 a25 a26 a27 a28 a29 a30 a31) wd_686 wd_687 wd_688 wd_5 wd_689 (by decide +kernel) ⟨Nat.le_of_ble_eq_true rfl, Nat.le_of_ble_eq_true rfl⟩ hK hP hD [0, 1] (by decide) rfl 0 12 rfl rfl rfl rfl hl.1 rfl (Nat.le_of_ble_eq_true rfl) dX12_parts_3 ⟨Nat.le_of_ble_eq_true rfl, Nat.le_of_ble_eq_true rfl⟩) hP hD hS hA [0, 1] [] rfl rfl (by decide) (by decide) (fun r_42 w_43 H locs hw hP hD hS => ?_)
      obtain ⟨rfl, rfl⟩ := hw
      have hP : va_P (dC, dI) vwCl [(a0, .inr (12, [.ref a1, .ref a2, .ref a3, .int 0, .ref a4, .int 0, .int 0, .int 0, .int 0, .int 0, .int (-1), .int 0, .int 0, .int 0, .int 0, .ref a5, .ref a6, .ref a7, .ref a8, .ref a9, .ref a10, .ref a11, .ref a12, .int 0, .int 0, .int 0, .int 0, .int 0, .ref a13, .int 0, .ref a14, .ref a15, .int 0, .int 0, .ref a16, .int 0, .ref a17, .ref a18, .int 0, .int (-1), .ref a19, .ref a20, .ref a21, .int 0, .ref a22, .ref a23, .ref a24, .ref a25, .ref a26, .ref a27, .ref a28, .ref a29, .ref a30, .int 0, .int 0, .ref a31])), (a1, .inl (cI, 1560, .inl w0))] H := hP
      have hD : va_D A [(a0, .inr (12, [.ref a1, .ref a2, .ref a3, .int 0, .ref a4, .int 0, .int 0, .int 0, .int 0, .int 0, .int (-1), .int 0, .int 0, .int 0, .int 0, .ref a5, .ref a6, .ref a7, .ref a8, .ref a9, .ref a10, .ref a11, .ref a12, .int 0, .int 0, .int 0, .int 0, .int 0, .ref a13, .int 0, .ref a14, .ref a15, .int 0, .int 0, .ref a16, .int 0, .ref a17, .ref a18, .int 0, .int (-1), .ref a19, .ref a20, .ref a21, .int 0, .ref a22, .ref a23, .ref a24, .ref a25, .ref a26, .ref a27, .ref a28, .ref a29, .ref a30, .int 0, .int 0, .ref a31])), (a1, .inl (cI, 1560, .inl w0))] := hD
      refine tk_ri (wr := [(a0, .inr (12, [.ref a1, .ref a2, .ref a3, .int 0, .ref a4, .int 0, .int 0, .int 0, .int 0, .int 0, .int (-1), .int 0, .int 0, .int 0, .int 0, .ref a5, .ref a6, .ref a7, .ref a8, .ref a9, .ref a10, .ref a11, .ref a12, .int 0, .int 0, .int 0, .int 0, .int 0, .ref a13, .int 0, .ref a14, .ref a15, .int 0, .int 0, .ref a16, .int 0, .ref a17, .ref a18, .int 0, .int (-1), .ref a19, .ref a20, .ref a21, .int 0, .ref a22, .ref a23, .ref a24, .ref a25, .ref a26, .ref a27, .ref a28, .ref a29, .ref a30, .int 0, .int 0, .ref a31])), (a1, .inl (cI, 1560, .inl w0))]) (tk_S (As := [.int 0, .int 0, .int 0]) (rest := []) (n := 3) hx hb hml hown hU hN (cc_X12_isIn_0 l (dC, dI) cI cL cZ H.size ) wd_227 wd_228 wd_5 wd_229 (by decide +kernel) ⟨Nat.le_of_ble_eq_true rfl, Nat.le_of_ble_eq_true rfl⟩ hK hP hD [] (by decide) rfl rfl hl.1 rfl (Nat.le_of_ble_eq_true rfl) dX12_parts_6 ⟨Nat.le_of_ble_eq_true rfl, Nat.le_of_ble_eq_true rfl⟩) hP hD hS hA [] [0, 1] rfl rfl (by decide) (by decide) (fun r_44 w_45 H locs hw hP hD hS => ?_)
      obtain ⟨rfl, rfl⟩ := hw
      have hP : va_P (dC, dI) vwCl [(a0, .inr (12, [.ref a1, .ref a2, .ref a3, .int 0, .ref a4, .int 0, .int 0, .int 0, .int 0, .int 0, .int (-1), .int 0, .int 0, .int 0, .int 0, .ref a5, .ref a6, .ref a7, .ref a8, .ref a9, .ref a10, .ref a11, .ref a12, .int 0, .int 0, .int 0, .int 0, .int 0, .ref a13, .int 0, .ref a14, .ref a15, .int 0, .int 0, .ref a16, .int 0, .ref a17, .ref a18, .int 0, .int (-1), .ref a19, .ref a20, .ref a21, .int 0, .ref a22, .ref a23, .ref a24, .ref a25, .ref a26, .ref a27, .ref a28, .ref a29, .ref a30, .int 0, .int 0, .ref a31])), (a1, .inl (cI, 1560, .inl w0))] H := hP
      have hD : va_D A [(a0, .inr (12, [.ref a1, .ref a2, .ref a3, .int 0, .ref a4, .int 0, .int 0, .int 0, .int 0, .int 0, .int (-1), .int 0, .int 0, .int 0, .int 0, .ref a5, .ref a6, .ref a7, .ref a8, .ref a9, .ref a10, .ref a11, .ref a12, .int 0, .int 0, .int 0, .int 0, .int 0, .ref a13, .int 0, .ref a14, .ref a15, .int 0, .int 0, .ref a16, .int 0, .ref a17, .ref a18, .int 0, .int (-1), .ref a19, .ref a20, .ref a21, .int 0, .ref a22, .ref a23, .ref a24, .ref a25, .ref a26, .ref a27, .ref a28, .ref a29, .ref a30, .int 0, .int 0, .ref a31])), (a1, .inl (cI, 1560, .inl w0))] := hD
      refine lv_if_eq (tgt := 33) hx hb dX12_parts_9 (by decide) (fun c9 => absurd c9 (by decide)) (fun _ => ?_)
      refine lv_iload_n hx hb dX12_parts_12 rfl (lv_at hl 2 rfl) ?_
      refine lv_iconst (v := 0) hx hb dX12_parts_13 (by decide) ?_
      refine lv_aload_n hx hb dX12_parts_14 rfl (lv_at hl 0 rfl) ?_
      refine tk_ri (wr := []) (tk_V (As := []) (rest := [.int 0, .int 0]) (n := 0) hx hb hml hown hU hN (cc_X12_allRules_0 l (dC, dI) cI cL cZ H.size a0 a1 a2 a3 a4 a5 a6 a7 a8 a9 a10 a11 a12 a13 a14 a15 a16 a17 a18 a19 a20 a21 a22 a23 a24 a25 a26 a27 a28 a29 a30 a31) wd_686 wd_687 wd_688 wd_5 wd_689 (by decide +kernel) ⟨Nat.le_of_ble_eq_true rfl, Nat.le_of_ble_eq_true rfl⟩ hK hP hD [0, 1] (by decide) rfl 0 12 rfl rfl rfl rfl hl.1 rfl (Nat.le_of_ble_eq_true rfl) dX12_parts_15 ⟨Nat.le_of_ble_eq_true rfl, Nat.le_of_ble_eq_true rfl⟩) hP hD hS hA [0, 1] [] rfl rfl (by decide) (by decide) (fun r_46 w_47 H locs hw hP hD hS => ?_)
      obtain ⟨rfl, rfl⟩ := hw
      have hP : va_P (dC, dI) vwCl [(a0, .inr (12, [.ref a1, .ref a2, .ref a3, .int 0, .ref a4, .int 0, .int 0, .int 0, .int 0, .int 0, .int (-1), .int 0, .int 0, .int 0, .int 0, .ref a5, .ref a6, .ref a7, .ref a8, .ref a9, .ref a10, .ref a11, .ref a12, .int 0, .int 0, .int 0, .int 0, .int 0, .ref a13, .int 0, .ref a14, .ref a15, .int 0, .int 0, .ref a16, .int 0, .ref a17, .ref a18, .int 0, .int (-1), .ref a19, .ref a20, .ref a21, .int 0, .ref a22, .ref a23, .ref a24, .ref a25, .ref a26, .ref a27, .ref a28, .ref a29, .ref a30, .int 0, .int 0, .ref a31])), (a1, .inl (cI, 1560, .inl w0))] H := hP
      have hD : va_D A [(a0, .inr (12, [.ref a1, .ref a2, .ref a3, .int 0, .ref a4, .int 0, .int 0, .int 0, .int 0, .int 0, .int (-1), .int 0, .int 0, .int 0, .int 0, .ref a5, .ref a6, .ref a7, .ref a8, .ref a9, .ref a10, .ref a11, .ref a12, .int 0, .int 0, .int 0, .int 0, .int 0, .ref a13, .int 0, .ref a14, .ref a15, .int 0, .int 0, .ref a16, .int 0, .ref a17, .ref a18, .int 0, .int (-1), .ref a19, .ref a20, .ref a21, .int 0, .ref a22, .ref a23, .ref a24, .ref a25, .ref a26, .ref a27, .ref a28, .ref a29, .ref a30, .int 0, .int 0, .ref a31])), (a1, .inl (cI, 1560, .inl w0))] := hD
      refine tk_ri (wr := [(a0, .inr (12, [.ref a1, .ref a2, .ref a3, .int 0, .ref a4, .int 0, .int 0, .int 0, .int 0, .int 0, .int (-1), .int 0, .int 0, .int 0, .int 0, .ref a5, .ref a6, .ref a7, .ref a8, .ref a9, .ref a10, .ref a11, .ref a12, .int 0, .int 0, .int 0, .int 0, .int 0, .ref a13, .int 0, .ref a14, .ref a15, .int 0, .int 0, .ref a16, .int 0, .ref a17, .ref a18, .int 0, .int (-1), .ref a19, .ref a20, .ref a21, .int 0, .ref a22, .ref a23, .ref a24, .ref a25, .ref a26, .ref a27, .ref a28, .ref a29, .ref a30, .int 0, .int 0, .ref a31])), (a1, .inl (cI, 1560, .inl w0))]) (tk_S (As := [.int 0, .int 0, .int 0]) (rest := []) (n := 3) hx hb hml hown hU hN (cc_X12_isIn_0 l (dC, dI) cI cL cZ H.size ) wd_227 wd_228 wd_5 wd_229 (by decide +kernel) ⟨Nat.le_of_ble_eq_true rfl, Nat.le_of_ble_eq_true rfl⟩ hK hP hD [] (by decide) rfl rfl hl.1 rfl (Nat.le_of_ble_eq_true rfl) dX12_parts_18 ⟨Nat.le_of_ble_eq_true rfl, Nat.le_of_ble_eq_true rfl⟩) hP hD hS hA [] [0, 1] rfl rfl (by decide) (by decide) (fun r_48 w_49 H locs hw hP hD hS => ?_)
      obtain ⟨rfl, rfl⟩ := hw
      have hP : va_P (dC, dI) vwCl [(a0, .inr (12, [.ref a1, .ref a2, .ref a3, .int 0, .ref a4, .int 0, .int 0, .int 0, .int 0, .int 0, .int (-1), .int 0, .int 0, .int 0, .int 0, .ref a5, .ref a6, .ref a7, .ref a8, .ref a9, .ref a10, .ref a11, .ref a12, .int 0, .int 0, .int 0, .int 0, .int 0, .ref a13, .int 0, .ref a14, .ref a15, .int 0, .int 0, .ref a16, .int 0, .ref a17, .ref a18, .int 0, .int (-1), .ref a19, .ref a20, .ref a21, .int 0, .ref a22, .ref a23, .ref a24, .ref a25, .ref a26, .ref a27, .ref a28, .ref a29, .ref a30, .int 0, .int 0, .ref a31])), (a1, .inl (cI, 1560, .inl w0))] H := hP
      have hD : va_D A [(a0, .inr (12, [.ref a1, .ref a2, .ref a3, .int 0, .ref a4, .int 0, .int 0, .int 0, .int 0, .int 0, .int (-1), .int 0, .int 0, .int 0, .int 0, .ref a5, .ref a6, .ref a7, .ref a8, .ref a9, .ref a10, .ref a11, .ref a12, .int 0, .int 0, .int 0, .int 0, .int 0, .ref a13, .int 0, .ref a14, .ref a15, .int 0, .int 0, .ref a16, .int 0, .ref a17, .ref a18, .int 0, .int (-1), .ref a19, .ref a20, .ref a21, .int 0, .ref a22, .ref a23, .ref a24, .ref a25, .ref a26, .ref a27, .ref a28, .ref a29, .ref a30, .int 0, .int 0, .ref a31])), (a1, .inl (cI, 1560, .inl w0))] := hD
      refine lv_if_eq (tgt := 33) hx hb dX12_parts_21 (by decide) (fun c9 => absurd c9 (by decide)) (fun _ => ?_)
      refine lv_iload_n hx hb dX12_parts_24 rfl (lv_at hl 3 rfl) ?_
      refine lv_iconst (v := 1) hx hb dX12_parts_25 (by decide) ?_
      refine lv_iconst (v := 3) hx hb dX12_parts_26 (by decide) ?_
      refine tk_ri (wr := [(a0, .inr (12, [.ref a1, .ref a2, .ref a3, .int 0, .ref a4, .int 0, .int 0, .int 0, .int 0, .int 0, .int (-1), .int 0, .int 0, .int 0, .int 0, .ref a5, .ref a6, .ref a7, .ref a8, .ref a9, .ref a10, .ref a11, .ref a12, .int 0, .int 0, .int 0, .int 0, .int 0, .ref a13, .int 0, .ref a14, .ref a15, .int 0, .int 0, .ref a16, .int 0, .ref a17, .ref a18, .int 0, .int (-1), .ref a19, .ref a20, .ref a21, .int 0, .ref a22, .ref a23, .ref a24, .ref a25, .ref a26, .ref a27, .ref a28, .ref a29, .ref a30, .int 0, .int 0, .ref a31])), (a1, .inl (cI, 1560, .inl w0))]) (tk_S (As := [.int x2, .int 1, .int 3]) (rest := []) (n := 3) hx hb hml hown hU hN (cc_X12_isIn_15 l (dC, dI) cI cL cZ H.size x2) wd_227 wd_228 wd_5 wd_229 (by decide +kernel) ⟨Nat.le_of_ble_eq_true rfl, Nat.le_of_ble_eq_true rfl⟩ hK hP hD [] (by decide) rfl rfl hl.1 rfl (Nat.le_of_ble_eq_true rfl) dX12_parts_27 ⟨Nat.le_of_ble_eq_true rfl, Nat.le_of_ble_eq_true rfl⟩) hP hD hS hA [] [0, 1] rfl rfl (by decide) (by decide) (fun r_50 w_51 H locs hw hP hD hS => ?_)
      rcases hw with ⟨c_52, rfl, rfl⟩ | ⟨c_53, c_54, rfl, rfl⟩ | ⟨c_55, c_56, rfl, rfl⟩
      · skip
        have hP : va_P (dC, dI) vwCl [(a0, .inr (12, [.ref a1, .ref a2, .ref a3, .int 0, .ref a4, .int 0, .int 0, .int 0, .int 0, .int 0, .int (-1), .int 0, .int 0, .int 0, .int 0, .ref a5, .ref a6, .ref a7, .ref a8, .ref a9, .ref a10, .ref a11, .ref a12, .int 0, .int 0, .int 0, .int 0, .int 0, .ref a13, .int 0, .ref a14, .ref a15, .int 0, .int 0, .ref a16, .int 0, .ref a17, .ref a18, .int 0, .int (-1), .ref a19, .ref a20, .ref a21, .int 0, .ref a22, .ref a23, .ref a24, .ref a25, .ref a26, .ref a27, .ref a28, .ref a29, .ref a30, .int 0, .int 0, .ref a31])), (a1, .inl (cI, 1560, .inl w0))] H := hP
        have hD : va_D A [(a0, .inr (12, [.ref a1, .ref a2, .ref a3, .int 0, .ref a4, .int 0, .int 0, .int 0, .int 0, .int 0, .int (-1), .int 0, .int 0, .int 0, .int 0, .ref a5, .ref a6, .ref a7, .ref a8, .ref a9, .ref a10, .ref a11, .ref a12, .int 0, .int 0, .int 0, .int 0, .int 0, .ref a13, .int 0, .ref a14, .ref a15, .int 0, .int 0, .ref a16, .int 0, .ref a17, .ref a18, .int 0, .int (-1), .ref a19, .ref a20, .ref a21, .int 0, .ref a22, .ref a23, .ref a24, .ref a25, .ref a26, .ref a27, .ref a28, .ref a29, .ref a30, .int 0, .int 0, .ref a31])), (a1, .inl (cI, 1560, .inl w0))] := hD
        refine lv_if_ne (tgt := 36) hx hb dX12_parts_30 (by decide) (fun c9 => absurd (by decide) c9) (fun _ => ?_)
        refine lv_bipush (v := (-2)) hx hb dX12_parts_33 (by decide) ?_
        have hP9 := hP.sub (ws' := []) [] rfl
        have hD9 := hD.sub (ws' := []) [] (by decide) rfl
        refine W.widen (k := 0) (n := 0) (Nat.le_of_ble_eq_true rfl) (Nat.le_of_ble_eq_true rfl) ?_
        exact W.iret (v := (-2)) hx hb hr (fun t ht hW => ⟨⟨(-2), [], rfl, ⟨by simp [an_parts, c_3, c_16, c_29], rfl⟩, by rw [ht]; exact hP9, va_K.moved hW.alike hK, hD9⟩, hS.F ht⟩) hS.2.2 dX12_parts_35
      · skip
        have hP : va_P (dC, dI) vwCl [(a0, .inr (12, [.ref a1, .ref a2, .ref a3, .int 0, .ref a4, .int 0, .int 0, .int 0, .int 0, .int 0, .int (-1), .int 0, .int 0, .int 0, .int 0, .ref a5, .ref a6, .ref a7, .ref a8, .ref a9, .ref a10, .ref a11, .ref a12, .int 0, .int 0, .int 0, .int 0, .int 0, .ref a13, .int 0, .ref a14, .ref a15, .int 0, .int 0, .ref a16, .int 0, .ref a17, .ref a18, .int 0, .int (-1), .ref a19, .ref a20, .ref a21, .int 0, .ref a22, .ref a23, .ref a24, .ref a25, .ref a26, .ref a27, .ref a28, .ref a29, .ref a30, .int 0, .int 0, .ref a31])), (a1, .inl (cI, 1560, .inl w0))] H := hP
        have hD : va_D A [(a0, .inr (12, [.ref a1, .ref a2, .ref a3, .int 0, .ref a4, .int 0, .int 0, .int 0, .int 0, .int 0, .int (-1), .int 0, .int 0, .int 0, .int 0, .ref a5, .ref a6, .ref a7, .ref a8, .ref a9, .ref a10, .ref a11, .ref a12, .int 0, .int 0, .int 0, .int 0, .int 0, .ref a13, .int 0, .ref a14, .ref a15, .int 0, .int 0, .ref a16, .int 0, .ref a17, .ref a18, .int 0, .int (-1), .ref a19, .ref a20, .ref a21, .int 0, .ref a22, .ref a23, .ref a24, .ref a25, .ref a26, .ref a27, .ref a28, .ref a29, .ref a30, .int 0, .int 0, .ref a31])), (a1, .inl (cI, 1560, .inl w0))] := hD
        refine lv_if_ne (tgt := 36) hx hb dX12_parts_30 (by decide) (fun c9 => absurd (by decide) c9) (fun _ => ?_)
        refine lv_bipush (v := (-2)) hx hb dX12_parts_33 (by decide) ?_
        have hP9 := hP.sub (ws' := []) [] rfl
        have hD9 := hD.sub (ws' := []) [] (by decide) rfl
        refine W.widen (k := 0) (n := 0) (Nat.le_of_ble_eq_true rfl) (Nat.le_of_ble_eq_true rfl) ?_
        exact W.iret (v := (-2)) hx hb hr (fun t ht hW => ⟨⟨(-2), [], rfl, ⟨by simp [an_parts, c_3, c_16, c_29], rfl⟩, by rw [ht]; exact hP9, va_K.moved hW.alike hK, hD9⟩, hS.F ht⟩) hS.2.2 dX12_parts_35
      · skip
        exfalso
        simp only [Int32.lt_iff_toInt_lt, Int32.le_iff_toInt_le, ← Int32.toInt_inj, ti_0, ti_1, ti_2, ti_3] at c_3 c_16 c_29 c_55 c_56
        omega
    refine lv_iload_n hx hb dX12_parts_0 rfl (lv_at hl 1 rfl) ?_
    refine lv_iconst (v := 0) hx hb dX12_parts_1 (by decide) ?_
    refine lv_aload_n hx hb dX12_parts_2 rfl (lv_at hl 0 rfl) ?_
    refine tk_ri (wr := []) (tk_V (As := []) (rest := [.int 0, .int 0]) (n := 0) hx hb hml hown hU hN (cc_X12_allRules_0 l (dC, dI) cI cL cZ s.heap.size a0 a1 a2 a3 a4 a5 a6 a7 a8 a9 a10 a11 a12 a13 a14 a15 a16 a17 a18 a19 a20 a21 a22 a23 a24 a25 a26 a27 a28 a29 a30 a31) wd_686 wd_687 wd_688 wd_5 wd_689 (by decide +kernel) ⟨Nat.le_of_ble_eq_true rfl, Nat.le_of_ble_eq_true rfl⟩ hK hP hD [0, 1] (by decide) rfl 0 12 rfl rfl rfl rfl hl.1 rfl (Nat.le_of_ble_eq_true rfl) dX12_parts_3 ⟨Nat.le_of_ble_eq_true rfl, Nat.le_of_ble_eq_true rfl⟩) hP hD hS hA [0, 1] [] rfl rfl (by decide) (by decide) (fun r_57 w_58 H locs hw hP hD hS => ?_)
    obtain ⟨rfl, rfl⟩ := hw
    have hP : va_P (dC, dI) vwCl [(a0, .inr (12, [.ref a1, .ref a2, .ref a3, .int 0, .ref a4, .int 0, .int 0, .int 0, .int 0, .int 0, .int (-1), .int 0, .int 0, .int 0, .int 0, .ref a5, .ref a6, .ref a7, .ref a8, .ref a9, .ref a10, .ref a11, .ref a12, .int 0, .int 0, .int 0, .int 0, .int 0, .ref a13, .int 0, .ref a14, .ref a15, .int 0, .int 0, .ref a16, .int 0, .ref a17, .ref a18, .int 0, .int (-1), .ref a19, .ref a20, .ref a21, .int 0, .ref a22, .ref a23, .ref a24, .ref a25, .ref a26, .ref a27, .ref a28, .ref a29, .ref a30, .int 0, .int 0, .ref a31])), (a1, .inl (cI, 1560, .inl w0))] H := hP
    have hD : va_D A [(a0, .inr (12, [.ref a1, .ref a2, .ref a3, .int 0, .ref a4, .int 0, .int 0, .int 0, .int 0, .int 0, .int (-1), .int 0, .int 0, .int 0, .int 0, .ref a5, .ref a6, .ref a7, .ref a8, .ref a9, .ref a10, .ref a11, .ref a12, .int 0, .int 0, .int 0, .int 0, .int 0, .ref a13, .int 0, .ref a14, .ref a15, .int 0, .int 0, .ref a16, .int 0, .ref a17, .ref a18, .int 0, .int (-1), .ref a19, .ref a20, .ref a21, .int 0, .ref a22, .ref a23, .ref a24, .ref a25, .ref a26, .ref a27, .ref a28, .ref a29, .ref a30, .int 0, .int 0, .ref a31])), (a1, .inl (cI, 1560, .inl w0))] := hD
    refine tk_ri (wr := [(a0, .inr (12, [.ref a1, .ref a2, .ref a3, .int 0, .ref a4, .int 0, .int 0, .int 0, .int 0, .int 0, .int (-1), .int 0, .int 0, .int 0, .int 0, .ref a5, .ref a6, .ref a7, .ref a8, .ref a9, .ref a10, .ref a11, .ref a12, .int 0, .int 0, .int 0, .int 0, .int 0, .ref a13, .int 0, .ref a14, .ref a15, .int 0, .int 0, .ref a16, .int 0, .ref a17, .ref a18, .int 0, .int (-1), .ref a19, .ref a20, .ref a21, .int 0, .ref a22, .ref a23, .ref a24, .ref a25, .ref a26, .ref a27, .ref a28, .ref a29, .ref a30, .int 0, .int 0, .ref a31])), (a1, .inl (cI, 1560, .inl w0))]) (tk_S (As := [.int 0, .int 0, .int 0]) (rest := []) (n := 3) hx hb hml hown hU hN (cc_X12_isIn_0 l (dC, dI) cI cL cZ H.size ) wd_227 wd_228 wd_5 wd_229 (by decide +kernel) ⟨Nat.le_of_ble_eq_true rfl, Nat.le_of_ble_eq_true rfl⟩ hK hP hD [] (by decide) rfl rfl hl.1 rfl (Nat.le_of_ble_eq_true rfl) dX12_parts_6 ⟨Nat.le_of_ble_eq_true rfl, Nat.le_of_ble_eq_true rfl⟩) hP hD hS hA [] [0, 1] rfl rfl (by decide) (by decide) (fun r_59 w_60 H locs hw hP hD hS => ?_)
    obtain ⟨rfl, rfl⟩ := hw
    have hP : va_P (dC, dI) vwCl [(a0, .inr (12, [.ref a1, .ref a2, .ref a3, .int 0, .ref a4, .int 0, .int 0, .int 0, .int 0, .int 0, .int (-1), .int 0, .int 0, .int 0, .int 0, .ref a5, .ref a6, .ref a7, .ref a8, .ref a9, .ref a10, .ref a11, .ref a12, .int 0, .int 0, .int 0, .int 0, .int 0, .ref a13, .int 0, .ref a14, .ref a15, .int 0, .int 0, .ref a16, .int 0, .ref a17, .ref a18, .int 0, .int (-1), .ref a19, .ref a20, .ref a21, .int 0, .ref a22, .ref a23, .ref a24, .ref a25, .ref a26, .ref a27, .ref a28, .ref a29, .ref a30, .int 0, .int 0, .ref a31])), (a1, .inl (cI, 1560, .inl w0))] H := hP
    have hD : va_D A [(a0, .inr (12, [.ref a1, .ref a2, .ref a3, .int 0, .ref a4, .int 0, .int 0, .int 0, .int 0, .int 0, .int (-1), .int 0, .int 0, .int 0, .int 0, .ref a5, .ref a6, .ref a7, .ref a8, .ref a9, .ref a10, .ref a11, .ref a12, .int 0, .int 0, .int 0, .int 0, .int 0, .ref a13, .int 0, .ref a14, .ref a15, .int 0, .int 0, .ref a16, .int 0, .ref a17, .ref a18, .int 0, .int (-1), .ref a19, .ref a20, .ref a21, .int 0, .ref a22, .ref a23, .ref a24, .ref a25, .ref a26, .ref a27, .ref a28, .ref a29, .ref a30, .int 0, .int 0, .ref a31])), (a1, .inl (cI, 1560, .inl w0))] := hD
    refine lv_if_eq (tgt := 33) hx hb dX12_parts_9 (by decide) (fun c9 => absurd c9 (by decide)) (fun _ => ?_)
    refine lv_iload_n hx hb dX12_parts_12 rfl (lv_at hl 2 rfl) ?_
    refine lv_iconst (v := 0) hx hb dX12_parts_13 (by decide) ?_
    refine lv_aload_n hx hb dX12_parts_14 rfl (lv_at hl 0 rfl) ?_
    refine tk_ri (wr := []) (tk_V (As := []) (rest := [.int 0, .int x1]) (n := 0) hx hb hml hown hU hN (cc_X12_allRules_0 l (dC, dI) cI cL cZ H.size a0 a1 a2 a3 a4 a5 a6 a7 a8 a9 a10 a11 a12 a13 a14 a15 a16 a17 a18 a19 a20 a21 a22 a23 a24 a25 a26 a27 a28 a29 a30 a31) wd_686 wd_687 wd_688 wd_5 wd_689 (by decide +kernel) ⟨Nat.le_of_ble_eq_true rfl, Nat.le_of_ble_eq_true rfl⟩ hK hP hD [0, 1] (by decide) rfl 0 12 rfl rfl rfl rfl hl.1 rfl (Nat.le_of_ble_eq_true rfl) dX12_parts_15 ⟨Nat.le_of_ble_eq_true rfl, Nat.le_of_ble_eq_true rfl⟩) hP hD hS hA [0, 1] [] rfl rfl (by decide) (by decide) (fun r_61 w_62 H locs hw hP hD hS => ?_)
    obtain ⟨rfl, rfl⟩ := hw
    have hP : va_P (dC, dI) vwCl [(a0, .inr (12, [.ref a1, .ref a2, .ref a3, .int 0, .ref a4, .int 0, .int 0, .int 0, .int 0, .int 0, .int (-1), .int 0, .int 0, .int 0, .int 0, .ref a5, .ref a6, .ref a7, .ref a8, .ref a9, .ref a10, .ref a11, .ref a12, .int 0, .int 0, .int 0, .int 0, .int 0, .ref a13, .int 0, .ref a14, .ref a15, .int 0, .int 0, .ref a16, .int 0, .ref a17, .ref a18, .int 0, .int (-1), .ref a19, .ref a20, .ref a21, .int 0, .ref a22, .ref a23, .ref a24, .ref a25, .ref a26, .ref a27, .ref a28, .ref a29, .ref a30, .int 0, .int 0, .ref a31])), (a1, .inl (cI, 1560, .inl w0))] H := hP
    have hD : va_D A [(a0, .inr (12, [.ref a1, .ref a2, .ref a3, .int 0, .ref a4, .int 0, .int 0, .int 0, .int 0, .int 0, .int (-1), .int 0, .int 0, .int 0, .int 0, .ref a5, .ref a6, .ref a7, .ref a8, .ref a9, .ref a10, .ref a11, .ref a12, .int 0, .int 0, .int 0, .int 0, .int 0, .ref a13, .int 0, .ref a14, .ref a15, .int 0, .int 0, .ref a16, .int 0, .ref a17, .ref a18, .int 0, .int (-1), .ref a19, .ref a20, .ref a21, .int 0, .ref a22, .ref a23, .ref a24, .ref a25, .ref a26, .ref a27, .ref a28, .ref a29, .ref a30, .int 0, .int 0, .ref a31])), (a1, .inl (cI, 1560, .inl w0))] := hD
    refine tk_ri (wr := [(a0, .inr (12, [.ref a1, .ref a2, .ref a3, .int 0, .ref a4, .int 0, .int 0, .int 0, .int 0, .int 0, .int (-1), .int 0, .int 0, .int 0, .int 0, .ref a5, .ref a6, .ref a7, .ref a8, .ref a9, .ref a10, .ref a11, .ref a12, .int 0, .int 0, .int 0, .int 0, .int 0, .ref a13, .int 0, .ref a14, .ref a15, .int 0, .int 0, .ref a16, .int 0, .ref a17, .ref a18, .int 0, .int (-1), .ref a19, .ref a20, .ref a21, .int 0, .ref a22, .ref a23, .ref a24, .ref a25, .ref a26, .ref a27, .ref a28, .ref a29, .ref a30, .int 0, .int 0, .ref a31])), (a1, .inl (cI, 1560, .inl w0))]) (tk_S (As := [.int x1, .int 0, .int 0]) (rest := []) (n := 3) hx hb hml hown hU hN (cc_X12_isIn_1 l (dC, dI) cI cL cZ H.size x1) wd_227 wd_228 wd_5 wd_229 (by decide +kernel) ⟨Nat.le_of_ble_eq_true rfl, Nat.le_of_ble_eq_true rfl⟩ hK hP hD [] (by decide) rfl rfl hl.1 rfl (Nat.le_of_ble_eq_true rfl) dX12_parts_18 ⟨Nat.le_of_ble_eq_true rfl, Nat.le_of_ble_eq_true rfl⟩) hP hD hS hA [] [0, 1] rfl rfl (by decide) (by decide) (fun r_63 w_64 H locs hw hP hD hS => ?_)
    rcases hw with ⟨c_65, rfl, rfl⟩ | ⟨c_66, c_67, rfl, rfl⟩ | ⟨c_68, c_69, rfl, rfl⟩
    · skip
      have hP : va_P (dC, dI) vwCl [(a0, .inr (12, [.ref a1, .ref a2, .ref a3, .int 0, .ref a4, .int 0, .int 0, .int 0, .int 0, .int 0, .int (-1), .int 0, .int 0, .int 0, .int 0, .ref a5, .ref a6, .ref a7, .ref a8, .ref a9, .ref a10, .ref a11, .ref a12, .int 0, .int 0, .int 0, .int 0, .int 0, .ref a13, .int 0, .ref a14, .ref a15, .int 0, .int 0, .ref a16, .int 0, .ref a17, .ref a18, .int 0, .int (-1), .ref a19, .ref a20, .ref a21, .int 0, .ref a22, .ref a23, .ref a24, .ref a25, .ref a26, .ref a27, .ref a28, .ref a29, .ref a30, .int 0, .int 0, .ref a31])), (a1, .inl (cI, 1560, .inl w0))] H := hP
      have hD : va_D A [(a0, .inr (12, [.ref a1, .ref a2, .ref a3, .int 0, .ref a4, .int 0, .int 0, .int 0, .int 0, .int 0, .int (-1), .int 0, .int 0, .int 0, .int 0, .ref a5, .ref a6, .ref a7, .ref a8, .ref a9, .ref a10, .ref a11, .ref a12, .int 0, .int 0, .int 0, .int 0, .int 0, .ref a13, .int 0, .ref a14, .ref a15, .int 0, .int 0, .ref a16, .int 0, .ref a17, .ref a18, .int 0, .int (-1), .ref a19, .ref a20, .ref a21, .int 0, .ref a22, .ref a23, .ref a24, .ref a25, .ref a26, .ref a27, .ref a28, .ref a29, .ref a30, .int 0, .int 0, .ref a31])), (a1, .inl (cI, 1560, .inl w0))] := hD
      refine lv_if_eq (tgt := 33) hx hb dX12_parts_21 (by decide) (fun _ => ?_) (fun c9 => absurd (by decide) c9) 
      refine lv_bipush (v := (-2)) hx hb dX12_parts_33 (by decide) ?_
      have hP9 := hP.sub (ws' := []) [] rfl
      have hD9 := hD.sub (ws' := []) [] (by decide) rfl
      refine W.widen (k := 0) (n := 0) (Nat.le_of_ble_eq_true rfl) (Nat.le_of_ble_eq_true rfl) ?_
      exact W.iret (v := (-2)) hx hb hr (fun t ht hW => ⟨⟨(-2), [], rfl, ⟨by simp [an_parts, c_2], rfl⟩, by rw [ht]; exact hP9, va_K.moved hW.alike hK, hD9⟩, hS.F ht⟩) hS.2.2 dX12_parts_35
    · skip
      have hP : va_P (dC, dI) vwCl [(a0, .inr (12, [.ref a1, .ref a2, .ref a3, .int 0, .ref a4, .int 0, .int 0, .int 0, .int 0, .int 0, .int (-1), .int 0, .int 0, .int 0, .int 0, .ref a5, .ref a6, .ref a7, .ref a8, .ref a9, .ref a10, .ref a11, .ref a12, .int 0, .int 0, .int 0, .int 0, .int 0, .ref a13, .int 0, .ref a14, .ref a15, .int 0, .int 0, .ref a16, .int 0, .ref a17, .ref a18, .int 0, .int (-1), .ref a19, .ref a20, .ref a21, .int 0, .ref a22, .ref a23, .ref a24, .ref a25, .ref a26, .ref a27, .ref a28, .ref a29, .ref a30, .int 0, .int 0, .ref a31])), (a1, .inl (cI, 1560, .inl w0))] H := hP
      have hD : va_D A [(a0, .inr (12, [.ref a1, .ref a2, .ref a3, .int 0, .ref a4, .int 0, .int 0, .int 0, .int 0, .int 0, .int (-1), .int 0, .int 0, .int 0, .int 0, .ref a5, .ref a6, .ref a7, .ref a8, .ref a9, .ref a10, .ref a11, .ref a12, .int 0, .int 0, .int 0, .int 0, .int 0, .ref a13, .int 0, .ref a14, .ref a15, .int 0, .int 0, .ref a16, .int 0, .ref a17, .ref a18, .int 0, .int (-1), .ref a19, .ref a20, .ref a21, .int 0, .ref a22, .ref a23, .ref a24, .ref a25, .ref a26, .ref a27, .ref a28, .ref a29, .ref a30, .int 0, .int 0, .ref a31])), (a1, .inl (cI, 1560, .inl w0))] := hD
      refine lv_if_eq (tgt := 33) hx hb dX12_parts_21 (by decide) (fun _ => ?_) (fun c9 => absurd (by decide) c9) 
      refine lv_bipush (v := (-2)) hx hb dX12_parts_33 (by decide) ?_
      have hP9 := hP.sub (ws' := []) [] rfl
      have hD9 := hD.sub (ws' := []) [] (by decide) rfl
      refine W.widen (k := 0) (n := 0) (Nat.le_of_ble_eq_true rfl) (Nat.le_of_ble_eq_true rfl) ?_
      exact W.iret (v := (-2)) hx hb hr (fun t ht hW => ⟨⟨(-2), [], rfl, ⟨by simp [an_parts, c_2], rfl⟩, by rw [ht]; exact hP9, va_K.moved hW.alike hK, hD9⟩, hS.F ht⟩) hS.2.2 dX12_parts_35
    · skip
      exfalso
      simp only [Int32.lt_iff_toInt_lt, Int32.le_iff_toInt_le, ← Int32.toInt_inj, ti_0] at c_2 c_68 c_69
      omega
  refine lv_iload_n hx hb dX12_parts_0 rfl (lv_at hl 1 rfl) ?_
  refine lv_iconst (v := 0) hx hb dX12_parts_1 (by decide) ?_
  refine lv_aload_n hx hb dX12_parts_2 rfl (lv_at hl 0 rfl) ?_
  refine tk_ri (wr := []) (tk_V (As := []) (rest := [.int 0, .int x0]) (n := 0) hx hb hml hown hU hN (cc_X12_allRules_0 l (dC, dI) cI cL cZ s.heap.size a0 a1 a2 a3 a4 a5 a6 a7 a8 a9 a10 a11 a12 a13 a14 a15 a16 a17 a18 a19 a20 a21 a22 a23 a24 a25 a26 a27 a28 a29 a30 a31) wd_686 wd_687 wd_688 wd_5 wd_689 (by decide +kernel) ⟨Nat.le_of_ble_eq_true rfl, Nat.le_of_ble_eq_true rfl⟩ hK hP hD [0, 1] (by decide) rfl 0 12 rfl rfl rfl rfl hl.1 rfl (Nat.le_of_ble_eq_true rfl) dX12_parts_3 ⟨Nat.le_of_ble_eq_true rfl, Nat.le_of_ble_eq_true rfl⟩) hP hD hS hA [0, 1] [] rfl rfl (by decide) (by decide) (fun r_70 w_71 H locs hw hP hD hS => ?_)
  obtain ⟨rfl, rfl⟩ := hw
  have hP : va_P (dC, dI) vwCl [(a0, .inr (12, [.ref a1, .ref a2, .ref a3, .int 0, .ref a4, .int 0, .int 0, .int 0, .int 0, .int 0, .int (-1), .int 0, .int 0, .int 0, .int 0, .ref a5, .ref a6, .ref a7, .ref a8, .ref a9, .ref a10, .ref a11, .ref a12, .int 0, .int 0, .int 0, .int 0, .int 0, .ref a13, .int 0, .ref a14, .ref a15, .int 0, .int 0, .ref a16, .int 0, .ref a17, .ref a18, .int 0, .int (-1), .ref a19, .ref a20, .ref a21, .int 0, .ref a22, .ref a23, .ref a24, .ref a25, .ref a26, .ref a27, .ref a28, .ref a29, .ref a30, .int 0, .int 0, .ref a31])), (a1, .inl (cI, 1560, .inl w0))] H := hP
  have hD : va_D A [(a0, .inr (12, [.ref a1, .ref a2, .ref a3, .int 0, .ref a4, .int 0, .int 0, .int 0, .int 0, .int 0, .int (-1), .int 0, .int 0, .int 0, .int 0, .ref a5, .ref a6, .ref a7, .ref a8, .ref a9, .ref a10, .ref a11, .ref a12, .int 0, .int 0, .int 0, .int 0, .int 0, .ref a13, .int 0, .ref a14, .ref a15, .int 0, .int 0, .ref a16, .int 0, .ref a17, .ref a18, .int 0, .int (-1), .ref a19, .ref a20, .ref a21, .int 0, .ref a22, .ref a23, .ref a24, .ref a25, .ref a26, .ref a27, .ref a28, .ref a29, .ref a30, .int 0, .int 0, .ref a31])), (a1, .inl (cI, 1560, .inl w0))] := hD
  refine tk_ri (wr := [(a0, .inr (12, [.ref a1, .ref a2, .ref a3, .int 0, .ref a4, .int 0, .int 0, .int 0, .int 0, .int 0, .int (-1), .int 0, .int 0, .int 0, .int 0, .ref a5, .ref a6, .ref a7, .ref a8, .ref a9, .ref a10, .ref a11, .ref a12, .int 0, .int 0, .int 0, .int 0, .int 0, .ref a13, .int 0, .ref a14, .ref a15, .int 0, .int 0, .ref a16, .int 0, .ref a17, .ref a18, .int 0, .int (-1), .ref a19, .ref a20, .ref a21, .int 0, .ref a22, .ref a23, .ref a24, .ref a25, .ref a26, .ref a27, .ref a28, .ref a29, .ref a30, .int 0, .int 0, .ref a31])), (a1, .inl (cI, 1560, .inl w0))]) (tk_S (As := [.int x0, .int 0, .int 0]) (rest := []) (n := 3) hx hb hml hown hU hN (cc_X12_isIn_1 l (dC, dI) cI cL cZ H.size x0) wd_227 wd_228 wd_5 wd_229 (by decide +kernel) ⟨Nat.le_of_ble_eq_true rfl, Nat.le_of_ble_eq_true rfl⟩ hK hP hD [] (by decide) rfl rfl hl.1 rfl (Nat.le_of_ble_eq_true rfl) dX12_parts_6 ⟨Nat.le_of_ble_eq_true rfl, Nat.le_of_ble_eq_true rfl⟩) hP hD hS hA [] [0, 1] rfl rfl (by decide) (by decide) (fun r_72 w_73 H locs hw hP hD hS => ?_)
  rcases hw with ⟨c_74, rfl, rfl⟩ | ⟨c_75, c_76, rfl, rfl⟩ | ⟨c_77, c_78, rfl, rfl⟩
  · skip
    have hP : va_P (dC, dI) vwCl [(a0, .inr (12, [.ref a1, .ref a2, .ref a3, .int 0, .ref a4, .int 0, .int 0, .int 0, .int 0, .int 0, .int (-1), .int 0, .int 0, .int 0, .int 0, .ref a5, .ref a6, .ref a7, .ref a8, .ref a9, .ref a10, .ref a11, .ref a12, .int 0, .int 0, .int 0, .int 0, .int 0, .ref a13, .int 0, .ref a14, .ref a15, .int 0, .int 0, .ref a16, .int 0, .ref a17, .ref a18, .int 0, .int (-1), .ref a19, .ref a20, .ref a21, .int 0, .ref a22, .ref a23, .ref a24, .ref a25, .ref a26, .ref a27, .ref a28, .ref a29, .ref a30, .int 0, .int 0, .ref a31])), (a1, .inl (cI, 1560, .inl w0))] H := hP
    have hD : va_D A [(a0, .inr (12, [.ref a1, .ref a2, .ref a3, .int 0, .ref a4, .int 0, .int 0, .int 0, .int 0, .int 0, .int (-1), .int 0, .int 0, .int 0, .int 0, .ref a5, .ref a6, .ref a7, .ref a8, .ref a9, .ref a10, .ref a11, .ref a12, .int 0, .int 0, .int 0, .int 0, .int 0, .ref a13, .int 0, .ref a14, .ref a15, .int 0, .int 0, .ref a16, .int 0, .ref a17, .ref a18, .int 0, .int (-1), .ref a19, .ref a20, .ref a21, .int 0, .ref a22, .ref a23, .ref a24, .ref a25, .ref a26, .ref a27, .ref a28, .ref a29, .ref a30, .int 0, .int 0, .ref a31])), (a1, .inl (cI, 1560, .inl w0))] := hD
    refine lv_if_eq (tgt := 33) hx hb dX12_parts_9 (by decide) (fun _ => ?_) (fun c9 => absurd (by decide) c9) 
    refine lv_bipush (v := (-2)) hx hb dX12_parts_33 (by decide) ?_
    have hP9 := hP.sub (ws' := []) [] rfl
    have hD9 := hD.sub (ws' := []) [] (by decide) rfl
    refine W.widen (k := 0) (n := 0) (Nat.le_of_ble_eq_true rfl) (Nat.le_of_ble_eq_true rfl) ?_
    exact W.iret (v := (-2)) hx hb hr (fun t ht hW => ⟨⟨(-2), [], rfl, ⟨by simp [an_parts, c_1], rfl⟩, by rw [ht]; exact hP9, va_K.moved hW.alike hK, hD9⟩, hS.F ht⟩) hS.2.2 dX12_parts_35
  · skip
    have hP : va_P (dC, dI) vwCl [(a0, .inr (12, [.ref a1, .ref a2, .ref a3, .int 0, .ref a4, .int 0, .int 0, .int 0, .int 0, .int 0, .int (-1), .int 0, .int 0, .int 0, .int 0, .ref a5, .ref a6, .ref a7, .ref a8, .ref a9, .ref a10, .ref a11, .ref a12, .int 0, .int 0, .int 0, .int 0, .int 0, .ref a13, .int 0, .ref a14, .ref a15, .int 0, .int 0, .ref a16, .int 0, .ref a17, .ref a18, .int 0, .int (-1), .ref a19, .ref a20, .ref a21, .int 0, .ref a22, .ref a23, .ref a24, .ref a25, .ref a26, .ref a27, .ref a28, .ref a29, .ref a30, .int 0, .int 0, .ref a31])), (a1, .inl (cI, 1560, .inl w0))] H := hP
    have hD : va_D A [(a0, .inr (12, [.ref a1, .ref a2, .ref a3, .int 0, .ref a4, .int 0, .int 0, .int 0, .int 0, .int 0, .int (-1), .int 0, .int 0, .int 0, .int 0, .ref a5, .ref a6, .ref a7, .ref a8, .ref a9, .ref a10, .ref a11, .ref a12, .int 0, .int 0, .int 0, .int 0, .int 0, .ref a13, .int 0, .ref a14, .ref a15, .int 0, .int 0, .ref a16, .int 0, .ref a17, .ref a18, .int 0, .int (-1), .ref a19, .ref a20, .ref a21, .int 0, .ref a22, .ref a23, .ref a24, .ref a25, .ref a26, .ref a27, .ref a28, .ref a29, .ref a30, .int 0, .int 0, .ref a31])), (a1, .inl (cI, 1560, .inl w0))] := hD
    refine lv_if_eq (tgt := 33) hx hb dX12_parts_9 (by decide) (fun _ => ?_) (fun c9 => absurd (by decide) c9) 
    refine lv_bipush (v := (-2)) hx hb dX12_parts_33 (by decide) ?_
    have hP9 := hP.sub (ws' := []) [] rfl
    have hD9 := hD.sub (ws' := []) [] (by decide) rfl
    refine W.widen (k := 0) (n := 0) (Nat.le_of_ble_eq_true rfl) (Nat.le_of_ble_eq_true rfl) ?_
    exact W.iret (v := (-2)) hx hb hr (fun t ht hW => ⟨⟨(-2), [], rfl, ⟨by simp [an_parts, c_1], rfl⟩, by rw [ht]; exact hP9, va_K.moved hW.alike hK, hD9⟩, hS.F ht⟩) hS.2.2 dX12_parts_35
  · skip
    exfalso
    simp only [Int32.lt_iff_toInt_lt, Int32.le_iff_toInt_le, ← Int32.toInt_inj, ti_0] at c_1 c_77 c_78
    omega
