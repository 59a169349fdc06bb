set_option maxHeartbeats 8000000 in
set_option maxRecDepth 100000 in
theorem cc_X0_wordCount_0 (l : Launch) (D : va_G) (cI cL cZ : ClassId) (sz : Nat) (a0 : Nat) (a1 : Nat) (a2 : Nat) (a3 : Nat) (a4 : Nat) (a5 : Nat) (a6 : Nat) (a7 : Nat) : mI l D cI cL cZ yX0_wordCount cX0_wordCount 2 (some .int) 0 0 0 0 [.ref a0, .int 0] sz [(a0, .inr (0, [.ref a1, .ref a2, .ref a3, .int 0, .ref a4, .ref a5, .ref a6, .int 0, .ref a7, .int 1, .int 0]))] (fun (r : Int32) (w1 : va_W) => r = 0 ∧ w1 = ([(a0, .inr (0, [.ref a1, .ref a2, .ref a3, .int 0, .ref a4, .ref a5, .ref a6, .int 0, .ref a7, .int 1, .int 0]))] : va_W)) := by
  obtain ⟨dC, dI⟩ := D
  refine Met.ofW (cc := cX0_wordCount) (maxL := 2) (ret := (some .int)) (by decide) rfl ?_
  intro p e s m args below meth c s₁ B hml hv
  obtain ⟨rfl, hsz, hP, hK, hD0, hN⟩ := hv
  have hx := B.exec
  have hb := B.bytes
  have hr := B.returns
  have hU : ∀ w ∈ wsU, w.before _ s = true := fun w h => atoms_spec (ws := wU yX0_wordCount cX0_wordCount 2 (some .int)) B.pre w (List.mem_cons_of_mem _ h)
  have hown : s.vm.findClass RX0 = some m.cls := findClass_of_methodNamed B.named
  have hlocks := B.notSynchronized
  subst hsz
  have hD := hD0.self (sz := s.heap.size)
  generalize hAe : va_A [(a0, .inr (0, [.ref a1, .ref a2, .ref a3, .int 0, .ref a4, .ref a5, .ref a6, .int 0, .ref a7, .int 1, .int 0]))] s.heap.size = A at hD ⊢
  have hA : ∀ q : Nat, s.heap.size ≤ q → A q := fun q h => by rw [← hAe]; exact Or.inr h
  have hS : va_S A s.heap s.heap [] := va_S.rf
  have hP : va_P (dC, dI) vwCl [(a0, .inr (0, [.ref a1, .ref a2, .ref a3, .int 0, .ref a4, .ref a5, .ref a6, .int 0, .ref a7, .int 1, .int 0]))] s.heap := hP
  have hl := lv_entry ([.ref a0, .int 0]) (n := 2) (Nat.le_of_ble_eq_true rfl)
  rw [lg_entry_eq]
  generalize (lg_sl ([.ref a0, .int 0]) ++ List.replicate (2 - (lg_sl ([.ref a0, .int 0])).length) Slot.unset).toArray = ls at hl ⊢
  have hl : lv_has ls 2 [(0, .ref a0), (1, .int 0)] := hl
  refine lv_aload_n hx hb dX0_wordCount_0 rfl (lv_at hl 0 rfl) ?_
  refine va_get (D := (dC, dI)) (ci := 0) (v := .int 1) (C := RX0) (T := TX0) (N := 11) hx hb hU inlX0 hown hK hP 0 rfl rfl 9 (by decide) (hU _ wd_1194) (fun _ h9 => h9) rfl dX0_wordCount_1 ?_
  refine lv_iconst (v := 2) hx hb dX0_wordCount_4 (by decide) ?_
  refine lv_icmp_ne (tgt := 16) hx hb dX0_wordCount_5 (by decide) (fun _ => ?_) (fun c9 => absurd c9 (by decide)) 
  refine lv_iload_n hx hb dX0_wordCount_16 rfl (lv_at hl 1 rfl) ?_
  have hP9 := hP.sub (ws' := [(a0, .inr (0, [.ref a1, .ref a2, .ref a3, .int 0, .ref a4, .ref a5, .ref a6, .int 0, .ref a7, .int 1, .int 0]))]) [0] rfl
  have hD9 := hD.sub (ws' := [(a0, .inr (0, [.ref a1, .ref a2, .ref a3, .int 0, .ref a4, .ref a5, .ref a6, .int 0, .ref a7, .int 1, .int 0]))]) [0] (by decide) rfl
  refine W.widen (k := 0) (n := 0) (Nat.le_of_ble_eq_true rfl) (Nat.le_of_ble_eq_true rfl) ?_
  exact W.iret (v := 0) hx hb hr (fun t ht hW => ⟨⟨0, [(a0, .inr (0, [.ref a1, .ref a2, .ref a3, .int 0, .ref a4, .ref a5, .ref a6, .int 0, .ref a7, .int 1, .int 0]))], rfl, ⟨rfl, rfl⟩, by rw [ht]; exact hP9, va_K.moved hW.alike hK, hD9⟩, hS.F ht⟩) hS.2.2 dX0_wordCount_17
set_option maxHeartbeats 8000000 in
set_option maxRecDepth 100000 in
theorem cc_X0_fillAgrees_1 (l : Launch) (D : va_G) (cI cL cZ : ClassId) (sz : Nat) (a0 : Nat) (a1 : Nat) (a2 : Nat) (a3 : Nat) (a4 : Nat) (a5 : Nat) (a6 : Nat) (a7 : Nat) (a8 : Nat) (a9 : Nat) (a10 : Nat) (a11 : Nat) (a12 : Nat) (a13 : Nat) (a14 : Nat) (a15 : Nat) (a16 : Nat) (a17 : Nat) (a18 : Nat) (a19 : Nat) (a20 : Nat) (a21 : Nat) (a22 : Nat) (a23 : Nat) (a24 : Nat) (a25 : Nat) (a26 : Nat) (a27 : Nat) (a28 : Nat) (a29 : Nat) (a30 : Nat) (a31 : Nat) (a32 : Nat) : mV l D cI cL cZ yX0_fillAgrees cX0_fillAgrees 7 none 1 23 0 0 [.ref a0, .ref a1, .ref a2] sz [(a1, .inr (3, [.ref a3, .ref a4, .ref a5, .ref a6, .ref a7, .int 0, .int 0, .int 0, .int 0, .int 0, .int 0, .int (-1), .ref a8, .ref a9, .ref a10, .int 0, .ref a11, .ref a12])), (a3, .inr (7, [.ref a13, .int 0, .ref a14, .ref a15, .ref a16, .ref a17, .int 0, .ref a18, .ref a19, .ref a20, .ref a21, .ref a22, .int 0, .ref a23, .ref a24, .ref a25])), (a0, .inr (0, [.ref a26, .ref a27, .ref a28, .int 0, .ref a29, .ref a30, .ref a31, .int 0, .ref a32, .int 2, .int 0])), (a27, .inl (cI, 5329, .inl z0))] (fun (w1 : va_W) => w1 = ([(a1, .inr (3, [.ref a3, .ref a4, .ref a5, .ref a6, .ref a7, .int 0, .int 0, .int 0, .int 0, .int 0, .int 0, .int (-1), .ref a8, .ref a9, .ref a10, .int 0, .ref a11, .ref a12])), (a3, .inr (7, [.ref a13, .int 0, .ref a14, .ref a15, .ref a16, .ref a17, .int 0, .ref a18, .ref a19, .ref a20, .ref a21, .ref a22, .int 0, .ref a23, .ref a24, .ref a25])), (a0, .inr (0, [.ref a26, .ref a27, .ref a28, .int 0, .ref a29, .ref a30, .ref a31, .int 0, .ref a32, .int 2, .int 0])), (a27, .inl (cI, 5329, .inl z0))] : va_W)) := by
  obtain ⟨dC, dI⟩ := D
  refine Met.ofW (cc := cX0_fillAgrees) (maxL := 7) (ret := none) (by decide) rfl ?_
  intro p e s m args below meth c s₁ B hml hv
  obtain ⟨rfl, hsz, hP, hK, hD0, hN⟩ := hv
  have hx := B.exec
  have hb := B.bytes
  have hr := B.returns
  have hU : ∀ w ∈ wsU, w.before _ s = true := fun w h => atoms_spec (ws := wU yX0_fillAgrees cX0_fillAgrees 7 none) B.pre w (List.mem_cons_of_mem _ h)
  have hown : s.vm.findClass RX0 = some m.cls := findClass_of_methodNamed B.named
  have hlocks := B.notSynchronized
  subst hsz
  have hD := hD0.self (sz := s.heap.size)
  generalize hAe : va_A [(a1, .inr (3, [.ref a3, .ref a4, .ref a5, .ref a6, .ref a7, .int 0, .int 0, .int 0, .int 0, .int 0, .int 0, .int (-1), .ref a8, .ref a9, .ref a10, .int 0, .ref a11, .ref a12])), (a3, .inr (7, [.ref a13, .int 0, .ref a14, .ref a15, .ref a16, .ref a17, .int 0, .ref a18, .ref a19, .ref a20, .ref a21, .ref a22, .int 0, .ref a23, .ref a24, .ref a25])), (a0, .inr (0, [.ref a26, .ref a27, .ref a28, .int 0, .ref a29, .ref a30, .ref a31, .int 0, .ref a32, .int 2, .int 0])), (a27, .inl (cI, 5329, .inl z0))] s.heap.size = A at hD ⊢
  have hA : ∀ q : Nat, s.heap.size ≤ q → A q := fun q h => by rw [← hAe]; exact Or.inr h
  have hS : va_S A s.heap s.heap [] := va_S.rf
  have hP : va_P (dC, dI) vwCl [(a1, .inr (3, [.ref a3, .ref a4, .ref a5, .ref a6, .ref a7, .int 0, .int 0, .int 0, .int 0, .int 0, .int 0, .int (-1), .ref a8, .ref a9, .ref a10, .int 0, .ref a11, .ref a12])), (a3, .inr (7, [.ref a13, .int 0, .ref a14, .ref a15, .ref a16, .ref a17, .int 0, .ref a18, .ref a19, .ref a20, .ref a21, .ref a22, .int 0, .ref a23, .ref a24, .ref a25])), (a0, .inr (0, [.ref a26, .ref a27, .ref a28, .int 0, .ref a29, .ref a30, .ref a31, .int 0, .ref a32, .int 2, .int 0])), (a27, .inl (cI, 5329, .inl z0))] s.heap := hP
  have hl := lv_entry ([.ref a0, .ref a1, .ref a2]) (n := 7) (Nat.le_of_ble_eq_true rfl)
  rw [lg_entry_eq]
  generalize (lg_sl ([.ref a0, .ref a1, .ref a2]) ++ List.replicate (7 - (lg_sl ([.ref a0, .ref a1, .ref a2])).length) Slot.unset).toArray = ls at hl ⊢
  have hl : lv_has ls 7 [(0, .ref a0), (1, .ref a1), (2, .ref a2)] := hl
  refine lv_aload_n hx hb dX0_fillAgrees_0 rfl (lv_at hl 0 rfl) ?_
  refine va_get (D := (dC, dI)) (ci := 0) (v := .ref a27) (C := RX0) (T := TX0) (N := 11) hx hb hU inlX0 hown hK hP 2 rfl rfl 1 (by decide) (hU _ wd_158) (fun _ h9 => h9) rfl dX0_fillAgrees_1 ?_
  refine lv_iconst (v := 0) hx hb dX0_fillAgrees_4 (by decide) ?_
  refine tk_rv (wr := [(a1, .inr (3, [.ref a3, .ref a4, .ref a5, .ref a6, .ref a7, .int 0, .int 0, .int 0, .int 0, .int 0, .int 0, .int (-1), .ref a8, .ref a9, .ref a10, .int 0, .ref a11, .ref a12])), (a3, .inr (7, [.ref a13, .int 0, .ref a14, .ref a15, .ref a16, .ref a17, .int 0, .ref a18, .ref a19, .ref a20, .ref a21, .ref a22, .int 0, .ref a23, .ref a24, .ref a25])), (a0, .inr (0, [.ref a26, .ref a27, .ref a28, .int 0, .ref a29, .ref a30, .ref a31, .int 0, .ref a32, .int 2, .int 0]))]) (tk_S (As := [.ref a27, .int 0]) (rest := []) (n := 2) hx hb hml hown hU hN (cc_fill0 l (dC, dI) cI cL cZ s.heap.size a27 5329 (by decide)) wd_1214 wd_266 wd_267 wd_268 (by decide +kernel) ⟨Nat.le_of_ble_eq_true rfl, Nat.le_of_ble_eq_true rfl⟩ hK hP hD [3] (by decide) rfl rfl hl.1 rfl (Nat.le_of_ble_eq_true rfl) dX0_fillAgrees_5 ⟨Nat.le_of_ble_eq_true rfl, Nat.le_of_ble_eq_true rfl⟩) hP hD hS hA [3] [0, 1, 2] rfl rfl (by decide) (by decide) (fun w_2 H locs hw hP hD hS => ?_)
  subst hw
  have hP : va_P (dC, dI) vwCl [(a1, .inr (3, [.ref a3, .ref a4, .ref a5, .ref a6, .ref a7, .int 0, .int 0, .int 0, .int 0, .int 0, .int 0, .int (-1), .ref a8, .ref a9, .ref a10, .int 0, .ref a11, .ref a12])), (a3, .inr (7, [.ref a13, .int 0, .ref a14, .ref a15, .ref a16, .ref a17, .int 0, .ref a18, .ref a19, .ref a20, .ref a21, .ref a22, .int 0, .ref a23, .ref a24, .ref a25])), (a0, .inr (0, [.ref a26, .ref a27, .ref a28, .int 0, .ref a29, .ref a30, .ref a31, .int 0, .ref a32, .int 2, .int 0])), (a27, .inl (cI, 5329, .inl z0))] H := hP
  have hD : va_D A [(a1, .inr (3, [.ref a3, .ref a4, .ref a5, .ref a6, .ref a7, .int 0, .int 0, .int 0, .int 0, .int 0, .int 0, .int (-1), .ref a8, .ref a9, .ref a10, .int 0, .ref a11, .ref a12])), (a3, .inr (7, [.ref a13, .int 0, .ref a14, .ref a15, .ref a16, .ref a17, .int 0, .ref a18, .ref a19, .ref a20, .ref a21, .ref a22, .int 0, .ref a23, .ref a24, .ref a25])), (a0, .inr (0, [.ref a26, .ref a27, .ref a28, .int 0, .ref a29, .ref a30, .ref a31, .int 0, .ref a32, .int 2, .int 0])), (a27, .inl (cI, 5329, .inl z0))] := hD
  refine lv_aload_n hx hb dX0_fillAgrees_8 rfl (lv_at hl 1 rfl) ?_
  refine va_get (D := (dC, dI)) (ci := 3) (v := .ref a3) (C := RX3) (T := TX3) (N := 18) hx hb hU inlX3 hown hK hP 0 rfl rfl 0 (by decide) (hU _ wd_1196) (fun _ h9 => h9) rfl dX0_fillAgrees_9 ?_
  refine va_get (D := (dC, dI)) (ci := 7) (v := .int 0) (C := RX7) (T := TX7) (N := 16) hx hb hU inlX7 hown hK hP 1 rfl rfl 1 (by decide) (hU _ wd_1204) (fun _ h9 => h9) rfl dX0_fillAgrees_12 ?_
  refine lv_istore_n (lv' := [(3, .int 0), (0, .ref a0), (1, .ref a1), (2, .ref a2)]) hx hb dX0_fillAgrees_15 rfl hl (by decide) rfl (fun ls hl => ?_)
  refine lv_iconst (v := 1) hx hb dX0_fillAgrees_16 (by decide) ?_
  refine lv_istore (lv' := [(4, .int 1), (3, .int 0), (0, .ref a0), (1, .ref a1), (2, .ref a2)]) hx hb dX0_fillAgrees_17 hl (by decide) rfl (fun ls hl => ?_)
  refine lv_iload hx hb dX0_fillAgrees_19 (lv_at hl 0 rfl) ?_
  refine lv_iload_n hx hb dX0_fillAgrees_21 rfl (lv_at hl 1 rfl) ?_
  refine lv_icmp_gt (tgt := 128) hx hb dX0_fillAgrees_22 (by decide) (fun _ => ?_) (fun c9 => absurd (by decide) c9) 
  have hP9 := hP.sub (ws' := [(a1, .inr (3, [.ref a3, .ref a4, .ref a5, .ref a6, .ref a7, .int 0, .int 0, .int 0, .int 0, .int 0, .int 0, .int (-1), .ref a8, .ref a9, .ref a10, .int 0, .ref a11, .ref a12])), (a3, .inr (7, [.ref a13, .int 0, .ref a14, .ref a15, .ref a16, .ref a17, .int 0, .ref a18, .ref a19, .ref a20, .ref a21, .ref a22, .int 0, .ref a23, .ref a24, .ref a25])), (a0, .inr (0, [.ref a26, .ref a27, .ref a28, .int 0, .ref a29, .ref a30, .ref a31, .int 0, .ref a32, .int 2, .int 0])), (a27, .inl (cI, 5329, .inl z0))]) [0, 1, 2, 3] rfl
  have hD9 := hD.sub (ws' := [(a1, .inr (3, [.ref a3, .ref a4, .ref a5, .ref a6, .ref a7, .int 0, .int 0, .int 0, .int 0, .int 0, .int 0, .int (-1), .ref a8, .ref a9, .ref a10, .int 0, .ref a11, .ref a12])), (a3, .inr (7, [.ref a13, .int 0, .ref a14, .ref a15, .ref a16, .ref a17, .int 0, .ref a18, .ref a19, .ref a20, .ref a21, .ref a22, .int 0, .ref a23, .ref a24, .ref a25])), (a0, .inr (0, [.ref a26, .ref a27, .ref a28, .int 0, .ref a29, .ref a30, .ref a31, .int 0, .ref a32, .int 2, .int 0])), (a27, .inl (cI, 5329, .inl z0))]) [0, 1, 2, 3] (by decide) rfl
  refine W.widen (k := 0) (n := 0) (Nat.le_of_ble_eq_true rfl) (Nat.le_of_ble_eq_true rfl) ?_
  exact W.vret hx hb hr (fun t ht hW => ⟨⟨[(a1, .inr (3, [.ref a3, .ref a4, .ref a5, .ref a6, .ref a7, .int 0, .int 0, .int 0, .int 0, .int 0, .int 0, .int (-1), .ref a8, .ref a9, .ref a10, .int 0, .ref a11, .ref a12])), (a3, .inr (7, [.ref a13, .int 0, .ref a14, .ref a15, .ref a16, .ref a17, .int 0, .ref a18, .ref a19, .ref a20, .ref a21, .ref a22, .int 0, .ref a23, .ref a24, .ref a25])), (a0, .inr (0, [.ref a26, .ref a27, .ref a28, .int 0, .ref a29, .ref a30, .ref a31, .int 0, .ref a32, .int 2, .int 0])), (a27, .inl (cI, 5329, .inl z0))], rfl, rfl, by rw [ht]; exact hP9, va_K.moved hW.alike hK, hD9⟩, hS.F ht⟩) hS.2.2 dX0_fillAgrees_128
set_option maxHeartbeats 8000000 in
set_option maxRecDepth 100000 in
theorem cc_X0_judge_1 (l : Launch) (D : va_G) (cI cL cZ : ClassId) (sz : Nat) (a0 : Nat) (a1 : Nat) (a2 : Nat) (a3 : Nat) (a4 : Nat) (a5 : Nat) (a6 : Nat) (a7 : Nat) : mV l D cI cL cZ yX0_judge cX0_judge 4 none 1 40 0 0 [.ref a0, .int 0] sz [(a1, .inl (cI, 6, .inl z0)), (a2, .inl (cI, 511, .inl (stg 73))), (a3, .inl (cI, 6, .inl z0)), (a0, .inr (0, [.ref a4, .ref a5, .ref a6, .int 0, .ref a1, .ref a2, .ref a3, .int (-1), .ref a7, .int 2, .int 0])), (a5, .inl (cI, 5329, .inl z0))] (fun (w1 : va_W) => w1 = ([(a1, .inl (cI, 6, .inl z0)), (a2, .inl (cI, 511, .inl (stg 73))), (a3, .inl (cI, 6, .inl z0)), (a0, .inr (0, [.ref a4, .ref a5, .ref a6, .int 0, .ref a1, .ref a2, .ref a3, .int 0, .ref a7, .int 2, .int 0])), (a5, .inl (cI, 5329, .inl z0))] : va_W)) := by
  obtain ⟨dC, dI⟩ := D
  refine Met.ofW (cc := cX0_judge) (maxL := 4) (ret := none) (by decide) rfl ?_
  intro p e s m args below meth c s₁ B hml hv
  obtain ⟨rfl, hsz, hP, hK, hD0, hN⟩ := hv
  have hx := B.exec
  have hb := B.bytes
  have hr := B.returns
  have hU : ∀ w ∈ wsU, w.before _ s = true := fun w h => atoms_spec (ws := wU yX0_judge cX0_judge 4 none) B.pre w (List.mem_cons_of_mem _ h)
  have hown : s.vm.findClass RX0 = some m.cls := findClass_of_methodNamed B.named
  have hlocks := B.notSynchronized
  subst hsz
  have hD := hD0.self (sz := s.heap.size)
  generalize hAe : va_A [(a1, .inl (cI, 6, .inl z0)), (a2, .inl (cI, 511, .inl (stg 73))), (a3, .inl (cI, 6, .inl z0)), (a0, .inr (0, [.ref a4, .ref a5, .ref a6, .int 0, .ref a1, .ref a2, .ref a3, .int (-1), .ref a7, .int 2, .int 0])), (a5, .inl (cI, 5329, .inl z0))] s.heap.size = A at hD ⊢
  have hA : ∀ q : Nat, s.heap.size ≤ q → A q := fun q h => by rw [← hAe]; exact Or.inr h
  have hS : va_S A s.heap s.heap [] := va_S.rf
  have hP : va_P (dC, dI) vwCl [(a1, .inl (cI, 6, .inl z0)), (a2, .inl (cI, 511, .inl (stg 73))), (a3, .inl (cI, 6, .inl z0)), (a0, .inr (0, [.ref a4, .ref a5, .ref a6, .int 0, .ref a1, .ref a2, .ref a3, .int (-1), .ref a7, .int 2, .int 0])), (a5, .inl (cI, 5329, .inl z0))] s.heap := hP
  have hl := lv_entry ([.ref a0, .int 0]) (n := 4) (Nat.le_of_ble_eq_true rfl)
  rw [lg_entry_eq]
  generalize (lg_sl ([.ref a0, .int 0]) ++ List.replicate (4 - (lg_sl ([.ref a0, .int 0])).length) Slot.unset).toArray = ls at hl ⊢
  have hl : lv_has ls 4 [(0, .ref a0), (1, .int 0)] := hl
  refine lv_iconst (v := 0) hx hb dX0_judge_0 (by decide) ?_
  refine lv_istore_n (lv' := [(2, .int 0), (0, .ref a0), (1, .int 0)]) hx hb dX0_judge_1 rfl hl (by decide) rfl (fun ls hl => ?_)
  refine lv_iconst (v := 0) hx hb dX0_judge_2 (by decide) ?_
  refine lv_istore_n (lv' := [(3, .int 0), (2, .int 0), (0, .ref a0), (1, .int 0)]) hx hb dX0_judge_3 rfl hl (by decide) rfl (fun ls hl => ?_)
  have hloop_4 : ∀ (n i_2 : Nat) (x_1 : Int32), x_1 = nI i_2 → i_2 ≤ 73 → 73 + 1 ≤ i_2 + n → ∀ (H : Heap) (locs : List Loc), va_P (dC, dI) vwCl [(a1, .inl (cI, 6, .inl z0)), (a2, .inl (cI, 511, .inl (stg 73))), (a3, .inl (cI, 6, .inl z0)), (a0, .inr (0, [.ref a4, .ref a5, .ref a6, .int 0, .ref a1, .ref a2, .ref a3, .int (-1), .ref a7, .int 2, .int 0])), (a5, .inl (cI, 5329, .inl z0))] H → va_D A [(a1, .inl (cI, 6, .inl z0)), (a2, .inl (cI, 511, .inl (stg 73))), (a3, .inl (cI, 6, .inl z0)), (a0, .inr (0, [.ref a4, .ref a5, .ref a6, .int 0, .ref a1, .ref a2, .ref a3, .int (-1), .ref a7, .int 2, .int 0])), (a5, .inl (cI, 5329, .inl z0))] → va_S A s.heap H locs → ∀ (ls : Array Slot), lv_has ls 4 [(3, .int x_1), (2, .int 0), (0, .ref a0), (1, .int 0)] → W p l e (headSpec (wU yX0_judge cX0_judge 4 none) { frames := 1, cells := 0, slots := 0, locals := 40 }).room s m [.ref a0, .int 0].toArray below meth c H locs 0 0 (MQ below (va_Qv (fun (w1 : va_W) => w1 = ([(a1, .inl (cI, 6, .inl z0)), (a2, .inl (cI, 511, .inl (stg 73))), (a3, .inl (cI, 6, .inl z0)), (a0, .inr (0, [.ref a4, .ref a5, .ref a6, .int 0, .ref a1, .ref a2, .ref a3, .int 0, .ref a7, .int 2, .int 0])), (a5, .inl (cI, 5329, .inl z0))] : va_W)) (qB (dC, dI) cI cL cZ A) A) [.ref a0, .int 0].toArray s 0 0 A) (F0 m 4 ls []) := by
    intro n
    induction n with
    | zero => intro i_2 x_1 ex_1 hi hn; exact absurd hn (by omega)
    | succ n ih =>
      intro i_2 x_1 ex_1 hi hn H locs hP hD hS ls hl
      refine lv_iload_n hx hb dX0_judge_4 rfl (lv_at hl 0 rfl) ?_
      refine lv_bipush (v := 73) hx hb dX0_judge_5 (by decide) ?_
      refine lv_icmp_ge (tgt := 40) hx hb dX0_judge_7 (by decide) (fun c_3 => ?_) (fun c_3 => ?_)
      · skip
        have hge : 73 ≤ i_2 := by rcases Nat.lt_or_ge i_2 73 with q | q; exact absurd c_3 (by rw [ex_1]; exact nI_ge (b := 73) q (by omega)); exact q
        have hiN : i_2 = 73 := by omega
        refine lv_iload_n hx hb dX0_judge_40 rfl (lv_at hl 1 rfl) ?_
        refine lv_aload_n hx hb dX0_judge_41 rfl (lv_at hl 2 rfl) ?_
        refine va_get (D := (dC, dI)) (ci := 0) (v := .int (-1)) (C := RX0) (T := TX0) (N := 11) hx hb hU inlX0 hown hK hP 3 rfl rfl 7 (by decide) (hU _ wd_1199) (fun _ h9 => h9) rfl dX0_judge_42 ?_
        refine lv_icmp_le (tgt := 70) hx hb dX0_judge_45 (by decide) (fun c9 => absurd c9 (by decide)) (fun _ => ?_)
        refine lv_aload_n hx hb dX0_judge_48 rfl (lv_at hl 2 rfl) ?_
        refine lv_iload_n hx hb dX0_judge_49 rfl (lv_at hl 1 rfl) ?_
        refine va_put (D := (dC, dI)) (ci := 0) (v := .int 0) (ty := .int) (C := RX0) (T := TX0) (N := 11) hx hb hU inlX0 tyX0 tyX0_ok nmX0 hown hK hP hD hS 3 rfl rfl 7 (by decide) (hU _ wd_1199) (fun _ h9 => h9) rfl (by decide +kernel) rfl rfl (Nat.le_of_ble_eq_true rfl) dX0_judge_50 (fun H locs hP hD hS => ?_)
        have hP : va_P (dC, dI) vwCl [(a1, .inl (cI, 6, .inl z0)), (a2, .inl (cI, 511, .inl (stg 73))), (a3, .inl (cI, 6, .inl z0)), (a0, .inr (0, [.ref a4, .ref a5, .ref a6, .int 0, .ref a1, .ref a2, .ref a3, .int 0, .ref a7, .int 2, .int 0])), (a5, .inl (cI, 5329, .inl z0))] H := hP
        have hD : va_D A [(a1, .inl (cI, 6, .inl z0)), (a2, .inl (cI, 511, .inl (stg 73))), (a3, .inl (cI, 6, .inl z0)), (a0, .inr (0, [.ref a4, .ref a5, .ref a6, .int 0, .ref a1, .ref a2, .ref a3, .int 0, .ref a7, .int 2, .int 0])), (a5, .inl (cI, 5329, .inl z0))] := hD
        refine lv_aload_n hx hb dX0_judge_53 rfl (lv_at hl 2 rfl) ?_
        refine va_get (D := (dC, dI)) (ci := 0) (v := .ref a1) (C := RX0) (T := TX0) (N := 11) hx hb hU inlX0 hown hK hP 3 rfl rfl 4 (by decide) (hU _ wd_160) (fun _ h9 => h9) rfl dX0_judge_54 ?_
        refine lv_iconst (v := 0) hx hb dX0_judge_57 (by decide) ?_
        refine lv_aload_n hx hb dX0_judge_58 rfl (lv_at hl 2 rfl) ?_
        refine va_get (D := (dC, dI)) (ci := 0) (v := .ref a3) (C := RX0) (T := TX0) (N := 11) hx hb hU inlX0 hown hK hP 3 rfl rfl 6 (by decide) (hU _ wd_162) (fun _ h9 => h9) rfl dX0_judge_59 ?_
        refine lv_iconst (v := 0) hx hb dX0_judge_62 (by decide) ?_
        refine lv_aload_n hx hb dX0_judge_63 rfl (lv_at hl 2 rfl) ?_
        refine va_get (D := (dC, dI)) (ci := 0) (v := .int 0) (C := RX0) (T := TX0) (N := 11) hx hb hU inlX0 hown hK hP 3 rfl rfl 3 (by decide) (hU _ wd_1195) (fun _ h9 => h9) rfl dX0_judge_64 ?_
        refine va_copyi (ty := .int) hx hb (by rw [hml]; exact hl.1.symm) hown (hU _ wd_1232) (hU _ wd_253) (hU _ wd_254) (hU _ wd_255) hK hP hD hS 0 2 0 0 rfl rfl rfl rfl rfl (by decide) (by decide) (by decide) (by decide) (by decide) (fun _ _ => rfl) (Nat.le_of_ble_eq_true rfl) (Nat.le_of_ble_eq_true rfl) dX0_judge_67 (fun H locs hP hD hS => ?_)
        have hP : va_P (dC, dI) vwCl [(a1, .inl (cI, 6, .inl z0)), (a2, .inl (cI, 511, .inl (stg 73))), (a3, .inl (cI, 6, .inl z0)), (a0, .inr (0, [.ref a4, .ref a5, .ref a6, .int 0, .ref a1, .ref a2, .ref a3, .int 0, .ref a7, .int 2, .int 0])), (a5, .inl (cI, 5329, .inl z0))] H := by rw [cpy_z0] at hP; exact hP
        have hD : va_D A [(a1, .inl (cI, 6, .inl z0)), (a2, .inl (cI, 511, .inl (stg 73))), (a3, .inl (cI, 6, .inl z0)), (a0, .inr (0, [.ref a4, .ref a5, .ref a6, .int 0, .ref a1, .ref a2, .ref a3, .int 0, .ref a7, .int 2, .int 0])), (a5, .inl (cI, 5329, .inl z0))] := by rw [cpy_z0] at hD; exact hD
        have hP9 := hP.sub (ws' := [(a1, .inl (cI, 6, .inl z0)), (a2, .inl (cI, 511, .inl (stg 73))), (a3, .inl (cI, 6, .inl z0)), (a0, .inr (0, [.ref a4, .ref a5, .ref a6, .int 0, .ref a1, .ref a2, .ref a3, .int 0, .ref a7, .int 2, .int 0])), (a5, .inl (cI, 5329, .inl z0))]) [0, 1, 2, 3, 4] rfl
        have hD9 := hD.sub (ws' := [(a1, .inl (cI, 6, .inl z0)), (a2, .inl (cI, 511, .inl (stg 73))), (a3, .inl (cI, 6, .inl z0)), (a0, .inr (0, [.ref a4, .ref a5, .ref a6, .int 0, .ref a1, .ref a2, .ref a3, .int 0, .ref a7, .int 2, .int 0])), (a5, .inl (cI, 5329, .inl z0))]) [0, 1, 2, 3, 4] (by decide) rfl
        refine W.widen (k := 0) (n := 0) (Nat.le_of_ble_eq_true rfl) (Nat.le_of_ble_eq_true rfl) ?_
        exact W.vret hx hb hr (fun t ht hW => ⟨⟨[(a1, .inl (cI, 6, .inl z0)), (a2, .inl (cI, 511, .inl (stg 73))), (a3, .inl (cI, 6, .inl z0)), (a0, .inr (0, [.ref a4, .ref a5, .ref a6, .int 0, .ref a1, .ref a2, .ref a3, .int 0, .ref a7, .int 2, .int 0])), (a5, .inl (cI, 5329, .inl z0))], rfl, rfl, by rw [ht]; exact hP9, va_K.moved hW.alike hK, hD9⟩, hS.F ht⟩) hS.2.2 dX0_judge_70
      · skip
        have hlt : i_2 < 73 := by rcases Nat.lt_or_ge i_2 73 with q | q; exact q; exact absurd (by rw [ex_1]; exact nI_le (a := 73) q (by omega)) c_3
        refine lv_iload_n hx hb dX0_judge_10 rfl (lv_at hl 1 rfl) ?_
        refine lv_aload_n hx hb dX0_judge_11 rfl (lv_at hl 2 rfl) ?_
        refine va_get (D := (dC, dI)) (ci := 0) (v := .ref a5) (C := RX0) (T := TX0) (N := 11) hx hb hU inlX0 hown hK hP 3 rfl rfl 1 (by decide) (hU _ wd_158) (fun _ h9 => h9) rfl dX0_judge_12 ?_
        refine lv_iload_n hx hb dX0_judge_15 rfl (lv_at hl 0 rfl) ?_
        refine lv_bipush (v := 73) hx hb dX0_judge_16 (by decide) ?_
        refine lv_imul hx hb dX0_judge_18 ?_
        refine lv_aload_n hx hb dX0_judge_19 rfl (lv_at hl 2 rfl) ?_
        refine va_get (D := (dC, dI)) (ci := 0) (v := .ref a2) (C := RX0) (T := TX0) (N := 11) hx hb hU inlX0 hown hK hP 3 rfl rfl 5 (by decide) (hU _ wd_161) (fun _ h9 => h9) rfl dX0_judge_20 ?_
        refine lv_iload_n hx hb dX0_judge_23 rfl (lv_at hl 3 rfl) ?_
        refine lv_bipush (v := 73) hx hb dX0_judge_24 (by decide) ?_
        refine lv_imul hx hb dX0_judge_26 ?_
        refine tk_topi (y := 0) (by decide) ?_
        refine lv_iload_n hx hb dX0_judge_27 rfl (lv_at hl 0 rfl) ?_
        refine lv_iadd hx hb dX0_judge_28 ?_
        refine tk_topi (y := x_1) (by simp) ?_
        refine va_iald hx hb hK hP 1 0 rfl rfl (by rw [ex_1]; exact vp_in_nI (by omega) (by omega)) dX0_judge_29 ?_
        refine tk_topi (y := x_1) (by rw [ex_1, nI_clamp (by omega)]; exact stg_at (by omega)) ?_
        refine lv_iadd hx hb dX0_judge_30 ?_
        refine va_iald hx hb hK hP 4 0 rfl rfl (by rw [ex_1]; exact tk_j (by omega)) dX0_judge_31 ?_
        refine tk_topi (y := 0) rfl ?_
        refine lv_iadd hx hb dX0_judge_32 ?_
        refine tk_topi (y := 0) (by decide) ?_
        refine lv_istore_n (lv' := [(2, .int 0), (3, .int x_1), (0, .ref a0), (1, .int 0)]) hx hb dX0_judge_33 rfl hl (by decide) rfl (fun ls hl => ?_)
        obtain ⟨x_4, ex_4⟩ : ∃ y : Int32, x_1 + 1 = y := ⟨_, rfl⟩
        refine lv_iinc (v := x_4) (lv' := [(3, .int x_4), (2, .int 0), (0, .ref a0), (1, .int 0)]) hx hb dX0_judge_34 hl (k := 1) rfl ex_4 (by decide) rfl (fun ls hl => ?_)
        refine lv_goto (tgt := 4) hx hb dX0_judge_37 (by decide) ?_
        exact ih (i_2 + 1) x_4 (by rw [← ex_4, ex_1]; exact nI_1 i_2) (by omega) (by omega) _ _ hP hD hS ls (lv_sub hl [0, 1, 2, 3] rfl)
  exact hloop_4 (73 + 1) 0 0 nI_0.symm (Nat.zero_le _) (by omega) _ _ hP hD hS ls hl
set_option maxHeartbeats 8000000 in
set_option maxRecDepth 100000 in
theorem cc_X0_tryOrders_1 (l : Launch) (D : va_G) (cI cL cZ : ClassId) (sz : Nat) (a0 : Nat) (a1 : Nat) (a2 : Nat) (a3 : Nat) (a4 : Nat) (a5 : Nat) (a6 : Nat) (a7 : Nat) : mV l D cI cL cZ yX0_tryOrders cX0_tryOrders 6 none 2 63 0 0 [.ref a0, .int 0, .int 0] sz [(a1, .inl (cI, 6, .inl z0)), (a2, .inl (cI, 511, .inl (stg 73))), (a3, .inl (cI, 6, .inl z0)), (a0, .inr (0, [.ref a4, .ref a5, .ref a6, .int 0, .ref a1, .ref a2, .ref a3, .int (-1), .ref a7, .int 2, .int 0])), (a5, .inl (cI, 5329, .inl z0))] (fun (w1 : va_W) => w1 = ([(a1, .inl (cI, 6, .inl z0)), (a2, .inl (cI, 511, .inl (stg 73))), (a3, .inl (cI, 6, .inl z0)), (a0, .inr (0, [.ref a4, .ref a5, .ref a6, .int 0, .ref a1, .ref a2, .ref a3, .int 0, .ref a7, .int 2, .int 0])), (a5, .inl (cI, 5329, .inl z0))] : va_W)) := by
  obtain ⟨dC, dI⟩ := D
  refine Met.ofW (cc := cX0_tryOrders) (maxL := 6) (ret := none) (by decide) rfl ?_
  intro p e s m args below meth c s₁ B hml hv
  obtain ⟨rfl, hsz, hP, hK, hD0, hN⟩ := hv
  have hx := B.exec
  have hb := B.bytes
  have hr := B.returns
  have hU : ∀ w ∈ wsU, w.before _ s = true := fun w h => atoms_spec (ws := wU yX0_tryOrders cX0_tryOrders 6 none) B.pre w (List.mem_cons_of_mem _ h)
  have hown : s.vm.findClass RX0 = some m.cls := findClass_of_methodNamed B.named
  have hlocks := B.notSynchronized
  subst hsz
  have hD := hD0.self (sz := s.heap.size)
  generalize hAe : va_A [(a1, .inl (cI, 6, .inl z0)), (a2, .inl (cI, 511, .inl (stg 73))), (a3, .inl (cI, 6, .inl z0)), (a0, .inr (0, [.ref a4, .ref a5, .ref a6, .int 0, .ref a1, .ref a2, .ref a3, .int (-1), .ref a7, .int 2, .int 0])), (a5, .inl (cI, 5329, .inl z0))] s.heap.size = A at hD ⊢
  have hA : ∀ q : Nat, s.heap.size ≤ q → A q := fun q h => by rw [← hAe]; exact Or.inr h
  have hS : va_S A s.heap s.heap [] := va_S.rf
  have hP : va_P (dC, dI) vwCl [(a1, .inl (cI, 6, .inl z0)), (a2, .inl (cI, 511, .inl (stg 73))), (a3, .inl (cI, 6, .inl z0)), (a0, .inr (0, [.ref a4, .ref a5, .ref a6, .int 0, .ref a1, .ref a2, .ref a3, .int (-1), .ref a7, .int 2, .int 0])), (a5, .inl (cI, 5329, .inl z0))] s.heap := hP
  have hl := lv_entry ([.ref a0, .int 0, .int 0]) (n := 6) (Nat.le_of_ble_eq_true rfl)
  rw [lg_entry_eq]
  generalize (lg_sl ([.ref a0, .int 0, .int 0]) ++ List.replicate (6 - (lg_sl ([.ref a0, .int 0, .int 0])).length) Slot.unset).toArray = ls at hl ⊢
  have hl : lv_has ls 6 [(0, .ref a0), (1, .int 0), (2, .int 0)] := hl
  refine lv_iload_n hx hb dX0_tryOrders_0 rfl (lv_at hl 1 rfl) ?_
  refine lv_aload_n hx hb dX0_tryOrders_1 rfl (lv_at hl 0 rfl) ?_
  refine va_get (D := (dC, dI)) (ci := 0) (v := .int 0) (C := RX0) (T := TX0) (N := 11) hx hb hU inlX0 hown hK hP 3 rfl rfl 3 (by decide) (hU _ wd_1195) (fun _ h9 => h9) rfl dX0_tryOrders_2 ?_
  refine lv_icmp_lt (tgt := 14) hx hb dX0_tryOrders_5 (by decide) (fun c9 => absurd c9 (by decide)) (fun _ => ?_)
  refine lv_aload_n hx hb dX0_tryOrders_8 rfl (lv_at hl 0 rfl) ?_
  refine lv_iload_n hx hb dX0_tryOrders_9 rfl (lv_at hl 1 rfl) ?_
  refine tk_rv (wr := []) (tk_V (As := [.int 0]) (rest := []) (n := 1) hx hb hml hown hU hN (cc_X0_judge_1 l (dC, dI) cI cL cZ s.heap.size a0 a1 a2 a3 a4 a5 a6 a7) wd_1228 wd_1229 wd_1230 wd_37 wd_1231 (by decide +kernel) ⟨Nat.le_of_ble_eq_true rfl, Nat.le_of_ble_eq_true rfl⟩ hK hP hD [0, 1, 2, 3, 4] (by decide) rfl 3 0 rfl rfl rfl rfl hl.1 rfl (Nat.le_of_ble_eq_true rfl) dX0_tryOrders_10 ⟨Nat.le_of_ble_eq_true rfl, Nat.le_of_ble_eq_true rfl⟩) hP hD hS hA [0, 1, 2, 3, 4] [] rfl rfl (by decide) (by decide) (fun w_2 H locs hw hP hD hS => ?_)
  subst hw
  have hP : va_P (dC, dI) vwCl [(a1, .inl (cI, 6, .inl z0)), (a2, .inl (cI, 511, .inl (stg 73))), (a3, .inl (cI, 6, .inl z0)), (a0, .inr (0, [.ref a4, .ref a5, .ref a6, .int 0, .ref a1, .ref a2, .ref a3, .int 0, .ref a7, .int 2, .int 0])), (a5, .inl (cI, 5329, .inl z0))] H := hP
  have hD : va_D A [(a1, .inl (cI, 6, .inl z0)), (a2, .inl (cI, 511, .inl (stg 73))), (a3, .inl (cI, 6, .inl z0)), (a0, .inr (0, [.ref a4, .ref a5, .ref a6, .int 0, .ref a1, .ref a2, .ref a3, .int 0, .ref a7, .int 2, .int 0])), (a5, .inl (cI, 5329, .inl z0))] := hD
  have hP9 := hP.sub (ws' := [(a1, .inl (cI, 6, .inl z0)), (a2, .inl (cI, 511, .inl (stg 73))), (a3, .inl (cI, 6, .inl z0)), (a0, .inr (0, [.ref a4, .ref a5, .ref a6, .int 0, .ref a1, .ref a2, .ref a3, .int 0, .ref a7, .int 2, .int 0])), (a5, .inl (cI, 5329, .inl z0))]) [0, 1, 2, 3, 4] rfl
  have hD9 := hD.sub (ws' := [(a1, .inl (cI, 6, .inl z0)), (a2, .inl (cI, 511, .inl (stg 73))), (a3, .inl (cI, 6, .inl z0)), (a0, .inr (0, [.ref a4, .ref a5, .ref a6, .int 0, .ref a1, .ref a2, .ref a3, .int 0, .ref a7, .int 2, .int 0])), (a5, .inl (cI, 5329, .inl z0))]) [0, 1, 2, 3, 4] (by decide) rfl
  refine W.widen (k := 0) (n := 0) (Nat.le_of_ble_eq_true rfl) (Nat.le_of_ble_eq_true rfl) ?_
  exact W.vret hx hb hr (fun t ht hW => ⟨⟨[(a1, .inl (cI, 6, .inl z0)), (a2, .inl (cI, 511, .inl (stg 73))), (a3, .inl (cI, 6, .inl z0)), (a0, .inr (0, [.ref a4, .ref a5, .ref a6, .int 0, .ref a1, .ref a2, .ref a3, .int 0, .ref a7, .int 2, .int 0])), (a5, .inl (cI, 5329, .inl z0))], rfl, rfl, by rw [ht]; exact hP9, va_K.moved hW.alike hK, hD9⟩, hS.F ht⟩) hS.2.2 dX0_tryOrders_13
set_option maxHeartbeats 8000000 in
set_option maxRecDepth 100000 in
theorem cc_X0_refresh_1 (l : Launch) (D : va_G) (cI cL cZ : ClassId) (sz : Nat) (a0 : Nat) (a1 : Nat) (a2 : Nat) (a3 : Nat) (a4 : Nat) (a5 : Nat) (a6 : Nat) (a7 : Nat) (a8 : Nat) (a9 : Nat) (a10 : Nat) (a11 : Nat) (a12 : Nat) (a13 : Nat) (a14 : Nat) (a15 : Nat) (a16 : Nat) (a17 : Nat) (a18 : Nat) (a19 : Nat) (a20 : Nat) (a21 : Nat) (a22 : Nat) (a23 : Nat) (a24 : Nat) (a25 : Nat) (a26 : Nat) (a27 : Nat) (a28 : Nat) (a29 : Nat) (a30 : Nat) (a31 : Nat) (a32 : Nat) : mV l D cI cL cZ yX0_refresh cX0_refresh 6 none 3 88 0 0 [.ref a0, .int 2, .ref a1, .ref a2, .int 0] sz [(a1, .inr (3, [.ref a3, .ref a4, .ref a5, .ref a6, .ref a7, .int 0, .int 0, .int 0, .int 0, .int 0, .int 0, .int (-1), .ref a8, .ref a9, .ref a10, .int 0, .ref a11, .ref a12])), (a3, .inr (7, [.ref a13, .int 0, .ref a14, .ref a15, .ref a16, .ref a17, .int 0, .ref a18, .ref a19, .ref a20, .ref a21, .ref a22, .int 0, .ref a23, .ref a24, .ref a25])), (a0, .inr (0, [.ref a26, .ref a27, .ref a28, .int 0, .ref a29, .ref a30, .ref a31, .int 0, .ref a32, .int 0, .int (-1)])), (a27, .inl (cI, 5329, .inl z0)), (a29, .inl (cI, 6, .inl z0)), (a30, .inl (cI, 511, .inl z0)), (a31, .inl (cI, 6, .inl z0))] (fun (w1 : va_W) => w1 = ([(a1, .inr (3, [.ref a3, .ref a4, .ref a5, .ref a6, .ref a7, .int 0, .int 0, .int 0, .int 0, .int 0, .int 0, .int (-1), .ref a8, .ref a9, .ref a10, .int 0, .ref a11, .ref a12])), (a3, .inr (7, [.ref a13, .int 0, .ref a14, .ref a15, .ref a16, .ref a17, .int 0, .ref a18, .ref a19, .ref a20, .ref a21, .ref a22, .int 0, .ref a23, .ref a24, .ref a25])), (a29, .inl (cI, 6, .inl z0)), (a30, .inl (cI, 511, .inl (stg 73))), (a31, .inl (cI, 6, .inl z0)), (a0, .inr (0, [.ref a26, .ref a27, .ref a28, .int 0, .ref a29, .ref a30, .ref a31, .int 0, .ref a32, .int 2, .int 0])), (a27, .inl (cI, 5329, .inl z0))] : va_W)) := by
  obtain ⟨dC, dI⟩ := D
  refine Met.ofW (cc := cX0_refresh) (maxL := 6) (ret := none) (by decide) rfl ?_
  intro p e s m args below meth c s₁ B hml hv
  obtain ⟨rfl, hsz, hP, hK, hD0, hN⟩ := hv
  have hx := B.exec
  have hb := B.bytes
  have hr := B.returns
  have hU : ∀ w ∈ wsU, w.before _ s = true := fun w h => atoms_spec (ws := wU yX0_refresh cX0_refresh 6 none) B.pre w (List.mem_cons_of_mem _ h)
  have hown : s.vm.findClass RX0 = some m.cls := findClass_of_methodNamed B.named
  have hlocks := B.notSynchronized
  subst hsz
  have hD := hD0.self (sz := s.heap.size)
  generalize hAe : va_A [(a1, .inr (3, [.ref a3, .ref a4, .ref a5, .ref a6, .ref a7, .int 0, .int 0, .int 0, .int 0, .int 0, .int 0, .int (-1), .ref a8, .ref a9, .ref a10, .int 0, .ref a11, .ref a12])), (a3, .inr (7, [.ref a13, .int 0, .ref a14, .ref a15, .ref a16, .ref a17, .int 0, .ref a18, .ref a19, .ref a20, .ref a21, .ref a22, .int 0, .ref a23, .ref a24, .ref a25])), (a0, .inr (0, [.ref a26, .ref a27, .ref a28, .int 0, .ref a29, .ref a30, .ref a31, .int 0, .ref a32, .int 0, .int (-1)])), (a27, .inl (cI, 5329, .inl z0)), (a29, .inl (cI, 6, .inl z0)), (a30, .inl (cI, 511, .inl z0)), (a31, .inl (cI, 6, .inl z0))] s.heap.size = A at hD ⊢
  have hA : ∀ q : Nat, s.heap.size ≤ q → A q := fun q h => by rw [← hAe]; exact Or.inr h
  have hS : va_S A s.heap s.heap [] := va_S.rf
  have hP : va_P (dC, dI) vwCl [(a1, .inr (3, [.ref a3, .ref a4, .ref a5, .ref a6, .ref a7, .int 0, .int 0, .int 0, .int 0, .int 0, .int 0, .int (-1), .ref a8, .ref a9, .ref a10, .int 0, .ref a11, .ref a12])), (a3, .inr (7, [.ref a13, .int 0, .ref a14, .ref a15, .ref a16, .ref a17, .int 0, .ref a18, .ref a19, .ref a20, .ref a21, .ref a22, .int 0, .ref a23, .ref a24, .ref a25])), (a0, .inr (0, [.ref a26, .ref a27, .ref a28, .int 0, .ref a29, .ref a30, .ref a31, .int 0, .ref a32, .int 0, .int (-1)])), (a27, .inl (cI, 5329, .inl z0)), (a29, .inl (cI, 6, .inl z0)), (a30, .inl (cI, 511, .inl z0)), (a31, .inl (cI, 6, .inl z0))] s.heap := hP
  have hl := lv_entry ([.ref a0, .int 2, .ref a1, .ref a2, .int 0]) (n := 6) (Nat.le_of_ble_eq_true rfl)
  rw [lg_entry_eq]
  generalize (lg_sl ([.ref a0, .int 2, .ref a1, .ref a2, .int 0]) ++ List.replicate (6 - (lg_sl ([.ref a0, .int 2, .ref a1, .ref a2, .int 0])).length) Slot.unset).toArray = ls at hl ⊢
  have hl : lv_has ls 6 [(0, .ref a0), (1, .int 2), (2, .ref a1), (3, .ref a2), (4, .int 0)] := hl
  refine lv_aload_n hx hb dX0_refresh_0 rfl (lv_at hl 0 rfl) ?_
  refine va_get (D := (dC, dI)) (ci := 0) (v := .int (-1)) (C := RX0) (T := TX0) (N := 11) hx hb hU inlX0 hown hK hP 2 rfl rfl 10 (by decide) (hU _ wd_164) (fun _ h9 => h9) rfl dX0_refresh_1 ?_
  refine lv_iload hx hb dX0_refresh_4 (lv_at hl 4 rfl) ?_
  refine lv_icmp_ne (tgt := 18) hx hb dX0_refresh_6 (by decide) (fun _ => ?_) (fun c9 => absurd c9 (by decide)) 
  refine lv_aload_n hx hb dX0_refresh_18 rfl (lv_at hl 0 rfl) ?_
  refine lv_iload hx hb dX0_refresh_19 (lv_at hl 4 rfl) ?_
  refine va_put (D := (dC, dI)) (ci := 0) (v := .int 0) (ty := .int) (C := RX0) (T := TX0) (N := 11) hx hb hU inlX0 tyX0 tyX0_ok nmX0 hown hK hP hD hS 2 rfl rfl 10 (by decide) (hU _ wd_164) (fun _ h9 => h9) rfl (by decide +kernel) rfl rfl (Nat.le_of_ble_eq_true rfl) dX0_refresh_21 (fun H locs hP hD hS => ?_)
  have hP : va_P (dC, dI) vwCl [(a1, .inr (3, [.ref a3, .ref a4, .ref a5, .ref a6, .ref a7, .int 0, .int 0, .int 0, .int 0, .int 0, .int 0, .int (-1), .ref a8, .ref a9, .ref a10, .int 0, .ref a11, .ref a12])), (a3, .inr (7, [.ref a13, .int 0, .ref a14, .ref a15, .ref a16, .ref a17, .int 0, .ref a18, .ref a19, .ref a20, .ref a21, .ref a22, .int 0, .ref a23, .ref a24, .ref a25])), (a0, .inr (0, [.ref a26, .ref a27, .ref a28, .int 0, .ref a29, .ref a30, .ref a31, .int 0, .ref a32, .int 0, .int 0])), (a27, .inl (cI, 5329, .inl z0)), (a29, .inl (cI, 6, .inl z0)), (a30, .inl (cI, 511, .inl z0)), (a31, .inl (cI, 6, .inl z0))] H := hP
  have hD : va_D A [(a1, .inr (3, [.ref a3, .ref a4, .ref a5, .ref a6, .ref a7, .int 0, .int 0, .int 0, .int 0, .int 0, .int 0, .int (-1), .ref a8, .ref a9, .ref a10, .int 0, .ref a11, .ref a12])), (a3, .inr (7, [.ref a13, .int 0, .ref a14, .ref a15, .ref a16, .ref a17, .int 0, .ref a18, .ref a19, .ref a20, .ref a21, .ref a22, .int 0, .ref a23, .ref a24, .ref a25])), (a0, .inr (0, [.ref a26, .ref a27, .ref a28, .int 0, .ref a29, .ref a30, .ref a31, .int 0, .ref a32, .int 0, .int 0])), (a27, .inl (cI, 5329, .inl z0)), (a29, .inl (cI, 6, .inl z0)), (a30, .inl (cI, 511, .inl z0)), (a31, .inl (cI, 6, .inl z0))] := hD
  refine lv_aload_n hx hb dX0_refresh_24 rfl (lv_at hl 0 rfl) ?_
  refine lv_iload_n hx hb dX0_refresh_25 rfl (lv_at hl 1 rfl) ?_
  refine va_put (D := (dC, dI)) (ci := 0) (v := .int 2) (ty := .int) (C := RX0) (T := TX0) (N := 11) hx hb hU inlX0 tyX0 tyX0_ok nmX0 hown hK hP hD hS 2 rfl rfl 9 (by decide) (hU _ wd_1194) (fun _ h9 => h9) rfl (by decide +kernel) rfl rfl (Nat.le_of_ble_eq_true rfl) dX0_refresh_26 (fun H locs hP hD hS => ?_)
  have hP : va_P (dC, dI) vwCl [(a1, .inr (3, [.ref a3, .ref a4, .ref a5, .ref a6, .ref a7, .int 0, .int 0, .int 0, .int 0, .int 0, .int 0, .int (-1), .ref a8, .ref a9, .ref a10, .int 0, .ref a11, .ref a12])), (a3, .inr (7, [.ref a13, .int 0, .ref a14, .ref a15, .ref a16, .ref a17, .int 0, .ref a18, .ref a19, .ref a20, .ref a21, .ref a22, .int 0, .ref a23, .ref a24, .ref a25])), (a0, .inr (0, [.ref a26, .ref a27, .ref a28, .int 0, .ref a29, .ref a30, .ref a31, .int 0, .ref a32, .int 2, .int 0])), (a27, .inl (cI, 5329, .inl z0)), (a29, .inl (cI, 6, .inl z0)), (a30, .inl (cI, 511, .inl z0)), (a31, .inl (cI, 6, .inl z0))] H := hP
  have hD : va_D A [(a1, .inr (3, [.ref a3, .ref a4, .ref a5, .ref a6, .ref a7, .int 0, .int 0, .int 0, .int 0, .int 0, .int 0, .int (-1), .ref a8, .ref a9, .ref a10, .int 0, .ref a11, .ref a12])), (a3, .inr (7, [.ref a13, .int 0, .ref a14, .ref a15, .ref a16, .ref a17, .int 0, .ref a18, .ref a19, .ref a20, .ref a21, .ref a22, .int 0, .ref a23, .ref a24, .ref a25])), (a0, .inr (0, [.ref a26, .ref a27, .ref a28, .int 0, .ref a29, .ref a30, .ref a31, .int 0, .ref a32, .int 2, .int 0])), (a27, .inl (cI, 5329, .inl z0)), (a29, .inl (cI, 6, .inl z0)), (a30, .inl (cI, 511, .inl z0)), (a31, .inl (cI, 6, .inl z0))] := hD
  refine lv_aload_n hx hb dX0_refresh_29 rfl (lv_at hl 0 rfl) ?_
  refine lv_iconst (v := 0) hx hb dX0_refresh_30 (by decide) ?_
  refine va_put (D := (dC, dI)) (ci := 0) (v := .int 0) (ty := .int) (C := RX0) (T := TX0) (N := 11) hx hb hU inlX0 tyX0 tyX0_ok nmX0 hown hK hP hD hS 2 rfl rfl 3 (by decide) (hU _ wd_1195) (fun _ h9 => h9) rfl (by decide +kernel) rfl rfl (Nat.le_of_ble_eq_true rfl) dX0_refresh_31 (fun H locs hP hD hS => ?_)
  have hP : va_P (dC, dI) vwCl [(a1, .inr (3, [.ref a3, .ref a4, .ref a5, .ref a6, .ref a7, .int 0, .int 0, .int 0, .int 0, .int 0, .int 0, .int (-1), .ref a8, .ref a9, .ref a10, .int 0, .ref a11, .ref a12])), (a3, .inr (7, [.ref a13, .int 0, .ref a14, .ref a15, .ref a16, .ref a17, .int 0, .ref a18, .ref a19, .ref a20, .ref a21, .ref a22, .int 0, .ref a23, .ref a24, .ref a25])), (a0, .inr (0, [.ref a26, .ref a27, .ref a28, .int 0, .ref a29, .ref a30, .ref a31, .int 0, .ref a32, .int 2, .int 0])), (a27, .inl (cI, 5329, .inl z0)), (a29, .inl (cI, 6, .inl z0)), (a30, .inl (cI, 511, .inl z0)), (a31, .inl (cI, 6, .inl z0))] H := hP
  have hD : va_D A [(a1, .inr (3, [.ref a3, .ref a4, .ref a5, .ref a6, .ref a7, .int 0, .int 0, .int 0, .int 0, .int 0, .int 0, .int (-1), .ref a8, .ref a9, .ref a10, .int 0, .ref a11, .ref a12])), (a3, .inr (7, [.ref a13, .int 0, .ref a14, .ref a15, .ref a16, .ref a17, .int 0, .ref a18, .ref a19, .ref a20, .ref a21, .ref a22, .int 0, .ref a23, .ref a24, .ref a25])), (a0, .inr (0, [.ref a26, .ref a27, .ref a28, .int 0, .ref a29, .ref a30, .ref a31, .int 0, .ref a32, .int 2, .int 0])), (a27, .inl (cI, 5329, .inl z0)), (a29, .inl (cI, 6, .inl z0)), (a30, .inl (cI, 511, .inl z0)), (a31, .inl (cI, 6, .inl z0))] := hD
  refine lv_iconst (v := 0) hx hb dX0_refresh_34 (by decide) ?_
  refine lv_istore (lv' := [(5, .int 0), (0, .ref a0), (1, .int 2), (2, .ref a1), (3, .ref a2), (4, .int 0)]) hx hb dX0_refresh_35 hl (by decide) rfl (fun ls hl => ?_)
  refine lv_iload hx hb dX0_refresh_37 (lv_at hl 0 rfl) ?_
  refine lv_aload_n hx hb dX0_refresh_39 rfl (lv_at hl 3 rfl) ?_
  refine va_get (D := (dC, dI)) (ci := 3) (v := .ref a3) (C := RX3) (T := TX3) (N := 18) hx hb hU inlX3 hown hK hP 0 rfl rfl 0 (by decide) (hU _ wd_1196) (fun _ h9 => h9) rfl dX0_refresh_40 ?_
  refine va_get (D := (dC, dI)) (ci := 7) (v := .int 0) (C := RX7) (T := TX7) (N := 16) hx hb hU inlX7 hown hK hP 1 rfl rfl 12 (by decide) (hU _ wd_1197) (fun _ h9 => h9) rfl dX0_refresh_43 ?_
  refine lv_icmp_ge (tgt := 108) hx hb dX0_refresh_46 (by decide) (fun _ => ?_) (fun c9 => absurd (by decide) c9) 
  refine lv_aload_n hx hb dX0_refresh_108 rfl (lv_at hl 1 rfl) ?_
  refine lv_aload_n hx hb dX0_refresh_109 rfl (lv_at hl 3 rfl) ?_
  refine lv_aload_n hx hb dX0_refresh_110 rfl (lv_at hl 4 rfl) ?_
  refine tk_rv (wr := [(a29, .inl (cI, 6, .inl z0)), (a30, .inl (cI, 511, .inl z0)), (a31, .inl (cI, 6, .inl z0))]) (tk_V (As := [.ref a1, .ref a2]) (rest := []) (n := 2) hx hb hml hown hU hN (cc_X0_fillAgrees_1 l (dC, dI) cI cL cZ H.size a0 a1 a2 a3 a4 a5 a6 a7 a8 a9 a10 a11 a12 a13 a14 a15 a16 a17 a18 a19 a20 a21 a22 a23 a24 a25 a26 a27 a28 a29 a30 a31 a32) wd_1209 wd_1210 wd_1211 wd_37 wd_1212 (by decide +kernel) ⟨Nat.le_of_ble_eq_true rfl, Nat.le_of_ble_eq_true rfl⟩ hK hP hD [0, 1, 2, 3] (by decide) rfl 2 0 rfl rfl rfl rfl hl.1 rfl (Nat.le_of_ble_eq_true rfl) dX0_refresh_111 ⟨Nat.le_of_ble_eq_true rfl, Nat.le_of_ble_eq_true rfl⟩) hP hD hS hA [0, 1, 2, 3] [4, 5, 6] rfl rfl (by decide) (by decide) (fun w_2 H locs hw hP hD hS => ?_)
  subst hw
  have hP : va_P (dC, dI) vwCl [(a29, .inl (cI, 6, .inl z0)), (a30, .inl (cI, 511, .inl z0)), (a31, .inl (cI, 6, .inl z0)), (a1, .inr (3, [.ref a3, .ref a4, .ref a5, .ref a6, .ref a7, .int 0, .int 0, .int 0, .int 0, .int 0, .int 0, .int (-1), .ref a8, .ref a9, .ref a10, .int 0, .ref a11, .ref a12])), (a3, .inr (7, [.ref a13, .int 0, .ref a14, .ref a15, .ref a16, .ref a17, .int 0, .ref a18, .ref a19, .ref a20, .ref a21, .ref a22, .int 0, .ref a23, .ref a24, .ref a25])), (a0, .inr (0, [.ref a26, .ref a27, .ref a28, .int 0, .ref a29, .ref a30, .ref a31, .int 0, .ref a32, .int 2, .int 0])), (a27, .inl (cI, 5329, .inl z0))] H := hP
  have hD : va_D A [(a29, .inl (cI, 6, .inl z0)), (a30, .inl (cI, 511, .inl z0)), (a31, .inl (cI, 6, .inl z0)), (a1, .inr (3, [.ref a3, .ref a4, .ref a5, .ref a6, .ref a7, .int 0, .int 0, .int 0, .int 0, .int 0, .int 0, .int (-1), .ref a8, .ref a9, .ref a10, .int 0, .ref a11, .ref a12])), (a3, .inr (7, [.ref a13, .int 0, .ref a14, .ref a15, .ref a16, .ref a17, .int 0, .ref a18, .ref a19, .ref a20, .ref a21, .ref a22, .int 0, .ref a23, .ref a24, .ref a25])), (a0, .inr (0, [.ref a26, .ref a27, .ref a28, .int 0, .ref a29, .ref a30, .ref a31, .int 0, .ref a32, .int 2, .int 0])), (a27, .inl (cI, 5329, .inl z0))] := hD
  refine lv_iconst (v := 0) hx hb dX0_refresh_114 (by decide) ?_
  refine lv_istore (lv' := [(5, .int 0), (0, .ref a0), (1, .int 2), (2, .ref a1), (3, .ref a2), (4, .int 0)]) hx hb dX0_refresh_115 hl (by decide) rfl (fun ls hl => ?_)
  have hloop_117 : ∀ (n i_4 : Nat) (x_3 : Int32), x_3 = nI i_4 → i_4 ≤ 73 → 73 + 1 ≤ i_4 + n → ∀ (H : Heap) (locs : List Loc), va_P (dC, dI) vwCl [(a29, .inl (cI, 6, .inl z0)), (a30, .inl (cI, 511, .inl (stg i_4))), (a31, .inl (cI, 6, .inl z0)), (a1, .inr (3, [.ref a3, .ref a4, .ref a5, .ref a6, .ref a7, .int 0, .int 0, .int 0, .int 0, .int 0, .int 0, .int (-1), .ref a8, .ref a9, .ref a10, .int 0, .ref a11, .ref a12])), (a3, .inr (7, [.ref a13, .int 0, .ref a14, .ref a15, .ref a16, .ref a17, .int 0, .ref a18, .ref a19, .ref a20, .ref a21, .ref a22, .int 0, .ref a23, .ref a24, .ref a25])), (a0, .inr (0, [.ref a26, .ref a27, .ref a28, .int 0, .ref a29, .ref a30, .ref a31, .int 0, .ref a32, .int 2, .int 0])), (a27, .inl (cI, 5329, .inl z0))] H → va_D A [(a29, .inl (cI, 6, .inl z0)), (a30, .inl (cI, 511, .inl (stg i_4))), (a31, .inl (cI, 6, .inl z0)), (a1, .inr (3, [.ref a3, .ref a4, .ref a5, .ref a6, .ref a7, .int 0, .int 0, .int 0, .int 0, .int 0, .int 0, .int (-1), .ref a8, .ref a9, .ref a10, .int 0, .ref a11, .ref a12])), (a3, .inr (7, [.ref a13, .int 0, .ref a14, .ref a15, .ref a16, .ref a17, .int 0, .ref a18, .ref a19, .ref a20, .ref a21, .ref a22, .int 0, .ref a23, .ref a24, .ref a25])), (a0, .inr (0, [.ref a26, .ref a27, .ref a28, .int 0, .ref a29, .ref a30, .ref a31, .int 0, .ref a32, .int 2, .int 0])), (a27, .inl (cI, 5329, .inl z0))] → va_S A s.heap H locs → ∀ (ls : Array Slot), lv_has ls 6 [(5, .int x_3), (0, .ref a0), (1, .int 2), (2, .ref a1), (3, .ref a2), (4, .int 0)] → W p l e (headSpec (wU yX0_refresh cX0_refresh 6 none) { frames := 3, cells := 0, slots := 0, locals := 88 }).room s m [.ref a0, .int 2, .ref a1, .ref a2, .int 0].toArray below meth c H locs 0 0 (MQ below (va_Qv (fun (w1 : va_W) => w1 = ([(a1, .inr (3, [.ref a3, .ref a4, .ref a5, .ref a6, .ref a7, .int 0, .int 0, .int 0, .int 0, .int 0, .int 0, .int (-1), .ref a8, .ref a9, .ref a10, .int 0, .ref a11, .ref a12])), (a3, .inr (7, [.ref a13, .int 0, .ref a14, .ref a15, .ref a16, .ref a17, .int 0, .ref a18, .ref a19, .ref a20, .ref a21, .ref a22, .int 0, .ref a23, .ref a24, .ref a25])), (a29, .inl (cI, 6, .inl z0)), (a30, .inl (cI, 511, .inl (stg 73))), (a31, .inl (cI, 6, .inl z0)), (a0, .inr (0, [.ref a26, .ref a27, .ref a28, .int 0, .ref a29, .ref a30, .ref a31, .int 0, .ref a32, .int 2, .int 0])), (a27, .inl (cI, 5329, .inl z0))] : va_W)) (qB (dC, dI) cI cL cZ A) A) [.ref a0, .int 2, .ref a1, .ref a2, .int 0].toArray s 0 0 A) (F0 m 117 ls []) := by
    intro n
    induction n with
    | zero => intro i_4 x_3 ex_3 hi hn; exact absurd hn (by omega)
    | succ n ih =>
      intro i_4 x_3 ex_3 hi hn H locs hP hD hS ls hl
      refine lv_iload hx hb dX0_refresh_117 (lv_at hl 0 rfl) ?_
      refine lv_bipush (v := 73) hx hb dX0_refresh_119 (by decide) ?_
      refine lv_icmp_ge (tgt := 139) hx hb dX0_refresh_121 (by decide) (fun c_5 => ?_) (fun c_5 => ?_)
      · skip
        have hge : 73 ≤ i_4 := by rcases Nat.lt_or_ge i_4 73 with q | q; exact absurd c_5 (by rw [ex_3]; exact nI_ge (b := 73) q (by omega)); exact q
        have hiN : i_4 = 73 := by omega
        have hP : va_P (dC, dI) vwCl [(a29, .inl (cI, 6, .inl z0)), (a30, .inl (cI, 511, .inl (stg 73))), (a31, .inl (cI, 6, .inl z0)), (a1, .inr (3, [.ref a3, .ref a4, .ref a5, .ref a6, .ref a7, .int 0, .int 0, .int 0, .int 0, .int 0, .int 0, .int (-1), .ref a8, .ref a9, .ref a10, .int 0, .ref a11, .ref a12])), (a3, .inr (7, [.ref a13, .int 0, .ref a14, .ref a15, .ref a16, .ref a17, .int 0, .ref a18, .ref a19, .ref a20, .ref a21, .ref a22, .int 0, .ref a23, .ref a24, .ref a25])), (a0, .inr (0, [.ref a26, .ref a27, .ref a28, .int 0, .ref a29, .ref a30, .ref a31, .int 0, .ref a32, .int 2, .int 0])), (a27, .inl (cI, 5329, .inl z0))] H := by rw [hiN] at hP; exact hP
        have hD : va_D A [(a29, .inl (cI, 6, .inl z0)), (a30, .inl (cI, 511, .inl (stg 73))), (a31, .inl (cI, 6, .inl z0)), (a1, .inr (3, [.ref a3, .ref a4, .ref a5, .ref a6, .ref a7, .int 0, .int 0, .int 0, .int 0, .int 0, .int 0, .int (-1), .ref a8, .ref a9, .ref a10, .int 0, .ref a11, .ref a12])), (a3, .inr (7, [.ref a13, .int 0, .ref a14, .ref a15, .ref a16, .ref a17, .int 0, .ref a18, .ref a19, .ref a20, .ref a21, .ref a22, .int 0, .ref a23, .ref a24, .ref a25])), (a0, .inr (0, [.ref a26, .ref a27, .ref a28, .int 0, .ref a29, .ref a30, .ref a31, .int 0, .ref a32, .int 2, .int 0])), (a27, .inl (cI, 5329, .inl z0))] := by rw [hiN] at hD; exact hD
        refine lv_aload_n hx hb dX0_refresh_139 rfl (lv_at hl 1 rfl) ?_
        refine lv_iconst (v := (-1)) hx hb dX0_refresh_140 (by decide) ?_
        refine va_put (D := (dC, dI)) (ci := 0) (v := .int (-1)) (ty := .int) (C := RX0) (T := TX0) (N := 11) hx hb hU inlX0 tyX0 tyX0_ok nmX0 hown hK hP hD hS 5 rfl rfl 7 (by decide) (hU _ wd_1199) (fun _ h9 => h9) rfl (by decide +kernel) rfl rfl (Nat.le_of_ble_eq_true rfl) dX0_refresh_141 (fun H locs hP hD hS => ?_)
        have hP : va_P (dC, dI) vwCl [(a29, .inl (cI, 6, .inl z0)), (a30, .inl (cI, 511, .inl (stg 73))), (a31, .inl (cI, 6, .inl z0)), (a1, .inr (3, [.ref a3, .ref a4, .ref a5, .ref a6, .ref a7, .int 0, .int 0, .int 0, .int 0, .int 0, .int 0, .int (-1), .ref a8, .ref a9, .ref a10, .int 0, .ref a11, .ref a12])), (a3, .inr (7, [.ref a13, .int 0, .ref a14, .ref a15, .ref a16, .ref a17, .int 0, .ref a18, .ref a19, .ref a20, .ref a21, .ref a22, .int 0, .ref a23, .ref a24, .ref a25])), (a0, .inr (0, [.ref a26, .ref a27, .ref a28, .int 0, .ref a29, .ref a30, .ref a31, .int (-1), .ref a32, .int 2, .int 0])), (a27, .inl (cI, 5329, .inl z0))] H := hP
        have hD : va_D A [(a29, .inl (cI, 6, .inl z0)), (a30, .inl (cI, 511, .inl (stg 73))), (a31, .inl (cI, 6, .inl z0)), (a1, .inr (3, [.ref a3, .ref a4, .ref a5, .ref a6, .ref a7, .int 0, .int 0, .int 0, .int 0, .int 0, .int 0, .int (-1), .ref a8, .ref a9, .ref a10, .int 0, .ref a11, .ref a12])), (a3, .inr (7, [.ref a13, .int 0, .ref a14, .ref a15, .ref a16, .ref a17, .int 0, .ref a18, .ref a19, .ref a20, .ref a21, .ref a22, .int 0, .ref a23, .ref a24, .ref a25])), (a0, .inr (0, [.ref a26, .ref a27, .ref a28, .int 0, .ref a29, .ref a30, .ref a31, .int (-1), .ref a32, .int 2, .int 0])), (a27, .inl (cI, 5329, .inl z0))] := hD
        refine lv_aload_n hx hb dX0_refresh_144 rfl (lv_at hl 1 rfl) ?_
        refine lv_iconst (v := 0) hx hb dX0_refresh_145 (by decide) ?_
        refine lv_iconst (v := 0) hx hb dX0_refresh_146 (by decide) ?_
        refine tk_rv (wr := [(a1, .inr (3, [.ref a3, .ref a4, .ref a5, .ref a6, .ref a7, .int 0, .int 0, .int 0, .int 0, .int 0, .int 0, .int (-1), .ref a8, .ref a9, .ref a10, .int 0, .ref a11, .ref a12])), (a3, .inr (7, [.ref a13, .int 0, .ref a14, .ref a15, .ref a16, .ref a17, .int 0, .ref a18, .ref a19, .ref a20, .ref a21, .ref a22, .int 0, .ref a23, .ref a24, .ref a25]))]) (tk_V (As := [.int 0, .int 0]) (rest := []) (n := 2) hx hb hml hown hU hN (cc_X0_tryOrders_1 l (dC, dI) cI cL cZ H.size a0 a29 a30 a31 a26 a27 a28 a32) wd_1224 wd_1225 wd_1226 wd_37 wd_1227 (by decide +kernel) ⟨Nat.le_of_ble_eq_true rfl, Nat.le_of_ble_eq_true rfl⟩ hK hP hD [0, 1, 2, 5, 6] (by decide) rfl 3 0 rfl rfl rfl rfl hl.1 rfl (Nat.le_of_ble_eq_true rfl) dX0_refresh_147 ⟨Nat.le_of_ble_eq_true rfl, Nat.le_of_ble_eq_true rfl⟩) hP hD hS hA [0, 1, 2, 5, 6] [3, 4] rfl rfl (by decide) (by decide) (fun w_7 H locs hw hP hD hS => ?_)
        subst hw
        have hP : va_P (dC, dI) vwCl [(a1, .inr (3, [.ref a3, .ref a4, .ref a5, .ref a6, .ref a7, .int 0, .int 0, .int 0, .int 0, .int 0, .int 0, .int (-1), .ref a8, .ref a9, .ref a10, .int 0, .ref a11, .ref a12])), (a3, .inr (7, [.ref a13, .int 0, .ref a14, .ref a15, .ref a16, .ref a17, .int 0, .ref a18, .ref a19, .ref a20, .ref a21, .ref a22, .int 0, .ref a23, .ref a24, .ref a25])), (a29, .inl (cI, 6, .inl z0)), (a30, .inl (cI, 511, .inl (stg 73))), (a31, .inl (cI, 6, .inl z0)), (a0, .inr (0, [.ref a26, .ref a27, .ref a28, .int 0, .ref a29, .ref a30, .ref a31, .int 0, .ref a32, .int 2, .int 0])), (a27, .inl (cI, 5329, .inl z0))] H := hP
        have hD : va_D A [(a1, .inr (3, [.ref a3, .ref a4, .ref a5, .ref a6, .ref a7, .int 0, .int 0, .int 0, .int 0, .int 0, .int 0, .int (-1), .ref a8, .ref a9, .ref a10, .int 0, .ref a11, .ref a12])), (a3, .inr (7, [.ref a13, .int 0, .ref a14, .ref a15, .ref a16, .ref a17, .int 0, .ref a18, .ref a19, .ref a20, .ref a21, .ref a22, .int 0, .ref a23, .ref a24, .ref a25])), (a29, .inl (cI, 6, .inl z0)), (a30, .inl (cI, 511, .inl (stg 73))), (a31, .inl (cI, 6, .inl z0)), (a0, .inr (0, [.ref a26, .ref a27, .ref a28, .int 0, .ref a29, .ref a30, .ref a31, .int 0, .ref a32, .int 2, .int 0])), (a27, .inl (cI, 5329, .inl z0))] := hD
        have hP9 := hP.sub (ws' := [(a1, .inr (3, [.ref a3, .ref a4, .ref a5, .ref a6, .ref a7, .int 0, .int 0, .int 0, .int 0, .int 0, .int 0, .int (-1), .ref a8, .ref a9, .ref a10, .int 0, .ref a11, .ref a12])), (a3, .inr (7, [.ref a13, .int 0, .ref a14, .ref a15, .ref a16, .ref a17, .int 0, .ref a18, .ref a19, .ref a20, .ref a21, .ref a22, .int 0, .ref a23, .ref a24, .ref a25])), (a29, .inl (cI, 6, .inl z0)), (a30, .inl (cI, 511, .inl (stg 73))), (a31, .inl (cI, 6, .inl z0)), (a0, .inr (0, [.ref a26, .ref a27, .ref a28, .int 0, .ref a29, .ref a30, .ref a31, .int 0, .ref a32, .int 2, .int 0])), (a27, .inl (cI, 5329, .inl z0))]) [0, 1, 2, 3, 4, 5, 6] rfl
        have hD9 := hD.sub (ws' := [(a1, .inr (3, [.ref a3, .ref a4, .ref a5, .ref a6, .ref a7, .int 0, .int 0, .int 0, .int 0, .int 0, .int 0, .int (-1), .ref a8, .ref a9, .ref a10, .int 0, .ref a11, .ref a12])), (a3, .inr (7, [.ref a13, .int 0, .ref a14, .ref a15, .ref a16, .ref a17, .int 0, .ref a18, .ref a19, .ref a20, .ref a21, .ref a22, .int 0, .ref a23, .ref a24, .ref a25])), (a29, .inl (cI, 6, .inl z0)), (a30, .inl (cI, 511, .inl (stg 73))), (a31, .inl (cI, 6, .inl z0)), (a0, .inr (0, [.ref a26, .ref a27, .ref a28, .int 0, .ref a29, .ref a30, .ref a31, .int 0, .ref a32, .int 2, .int 0])), (a27, .inl (cI, 5329, .inl z0))]) [0, 1, 2, 3, 4, 5, 6] (by decide) rfl
        refine W.widen (k := 0) (n := 0) (Nat.le_of_ble_eq_true rfl) (Nat.le_of_ble_eq_true rfl) ?_
        exact W.vret hx hb hr (fun t ht hW => ⟨⟨[(a1, .inr (3, [.ref a3, .ref a4, .ref a5, .ref a6, .ref a7, .int 0, .int 0, .int 0, .int 0, .int 0, .int 0, .int (-1), .ref a8, .ref a9, .ref a10, .int 0, .ref a11, .ref a12])), (a3, .inr (7, [.ref a13, .int 0, .ref a14, .ref a15, .ref a16, .ref a17, .int 0, .ref a18, .ref a19, .ref a20, .ref a21, .ref a22, .int 0, .ref a23, .ref a24, .ref a25])), (a29, .inl (cI, 6, .inl z0)), (a30, .inl (cI, 511, .inl (stg 73))), (a31, .inl (cI, 6, .inl z0)), (a0, .inr (0, [.ref a26, .ref a27, .ref a28, .int 0, .ref a29, .ref a30, .ref a31, .int 0, .ref a32, .int 2, .int 0])), (a27, .inl (cI, 5329, .inl z0))], rfl, rfl, by rw [ht]; exact hP9, va_K.moved hW.alike hK, hD9⟩, hS.F ht⟩) hS.2.2 dX0_refresh_150
      · skip
        have hlt : i_4 < 73 := by rcases Nat.lt_or_ge i_4 73 with q | q; exact q; exact absurd (by rw [ex_3]; exact nI_le (a := 73) q (by omega)) c_5
        refine lv_aload_n hx hb dX0_refresh_124 rfl (lv_at hl 1 rfl) ?_
        refine va_get (D := (dC, dI)) (ci := 0) (v := .ref a30) (C := RX0) (T := TX0) (N := 11) hx hb hU inlX0 hown hK hP 5 rfl rfl 5 (by decide) (hU _ wd_161) (fun _ h9 => h9) rfl dX0_refresh_125 ?_
        refine lv_iload hx hb dX0_refresh_128 (lv_at hl 0 rfl) ?_
        refine lv_iload hx hb dX0_refresh_130 (lv_at hl 0 rfl) ?_
        refine va_iast hx hb hK hP hD hS 1 0 rfl rfl (by rw [ex_3]; exact vp_in_nI (by omega) (by omega)) dX0_refresh_132 (fun H locs hP hD hS => ?_)
        obtain ⟨g_8, eg_8⟩ : ∃ y : Nat → Int32, upd (stg i_4) (Int32.toNatClampNeg x_3) x_3 = y := ⟨_, rfl⟩
        have hP : va_P (dC, dI) vwCl [(a29, .inl (cI, 6, .inl z0)), (a30, .inl (cI, 511, .inl g_8)), (a31, .inl (cI, 6, .inl z0)), (a1, .inr (3, [.ref a3, .ref a4, .ref a5, .ref a6, .ref a7, .int 0, .int 0, .int 0, .int 0, .int 0, .int 0, .int (-1), .ref a8, .ref a9, .ref a10, .int 0, .ref a11, .ref a12])), (a3, .inr (7, [.ref a13, .int 0, .ref a14, .ref a15, .ref a16, .ref a17, .int 0, .ref a18, .ref a19, .ref a20, .ref a21, .ref a22, .int 0, .ref a23, .ref a24, .ref a25])), (a0, .inr (0, [.ref a26, .ref a27, .ref a28, .int 0, .ref a29, .ref a30, .ref a31, .int 0, .ref a32, .int 2, .int 0])), (a27, .inl (cI, 5329, .inl z0))] H := by rw [eg_8] at hP; exact hP
        have hD : va_D A [(a29, .inl (cI, 6, .inl z0)), (a30, .inl (cI, 511, .inl g_8)), (a31, .inl (cI, 6, .inl z0)), (a1, .inr (3, [.ref a3, .ref a4, .ref a5, .ref a6, .ref a7, .int 0, .int 0, .int 0, .int 0, .int 0, .int 0, .int (-1), .ref a8, .ref a9, .ref a10, .int 0, .ref a11, .ref a12])), (a3, .inr (7, [.ref a13, .int 0, .ref a14, .ref a15, .ref a16, .ref a17, .int 0, .ref a18, .ref a19, .ref a20, .ref a21, .ref a22, .int 0, .ref a23, .ref a24, .ref a25])), (a0, .inr (0, [.ref a26, .ref a27, .ref a28, .int 0, .ref a29, .ref a30, .ref a31, .int 0, .ref a32, .int 2, .int 0])), (a27, .inl (cI, 5329, .inl z0))] := by rw [eg_8] at hD; exact hD
        obtain ⟨x_9, ex_9⟩ : ∃ y : Int32, x_3 + 1 = y := ⟨_, rfl⟩
        refine lv_iinc (v := x_9) (lv' := [(5, .int x_9), (0, .ref a0), (1, .int 2), (2, .ref a1), (3, .ref a2), (4, .int 0)]) hx hb dX0_refresh_133 hl (k := 0) rfl ex_9 (by decide) rfl (fun ls hl => ?_)
        refine lv_goto (tgt := 117) hx hb dX0_refresh_136 (by decide) ?_
        exact ih (i_4 + 1) x_9 (by rw [← ex_9, ex_3]; exact nI_1 i_4) (by omega) (by omega) _ _ (by rw [(show stg (i_4 + 1) = g_8 from by rw [← eg_8, ex_3, nI_clamp (by omega)]; exact (stg_s i_4).symm)]; exact hP) (by rw [(show stg (i_4 + 1) = g_8 from by rw [← eg_8, ex_3, nI_clamp (by omega)]; exact (stg_s i_4).symm)]; exact hD) hS ls (lv_sub hl [0, 1, 2, 3, 4, 5] rfl)
  exact hloop_117 (73 + 1) 0 0 nI_0.symm (Nat.zero_le _) (by omega) _ _ (by rw [stg_0]; exact hP) (by rw [stg_0]; exact hD) hS ls hl
set_option maxHeartbeats 8000000 in
set_option maxRecDepth 100000 in
theorem cc_X0_wordCount_1 (l : Launch) (D : va_G) (cI cL cZ : ClassId) (sz : Nat) (a0 : Nat) (a1 : Nat) (a2 : Nat) (a3 : Nat) (a4 : Nat) (a5 : Nat) (a6 : Nat) (a7 : Nat) : mI l D cI cL cZ yX0_wordCount cX0_wordCount 2 (some .int) 0 0 0 0 [.ref a0, .int 0] sz [(a0, .inr (0, [.ref a1, .ref a2, .ref a3, .int 0, .ref a4, .ref a5, .ref a6, .int 0, .ref a7, .int 2, .int 0]))] (fun (r : Int32) (w1 : va_W) => r = 0 ∧ w1 = ([(a0, .inr (0, [.ref a1, .ref a2, .ref a3, .int 0, .ref a4, .ref a5, .ref a6, .int 0, .ref a7, .int 2, .int 0]))] : va_W)) := by
  obtain ⟨dC, dI⟩ := D
  refine Met.ofW (cc := cX0_wordCount) (maxL := 2) (ret := (some .int)) (by decide) rfl ?_
  intro p e s m args below meth c s₁ B hml hv
  obtain ⟨rfl, hsz, hP, hK, hD0, hN⟩ := hv
  have hx := B.exec
  have hb := B.bytes
  have hr := B.returns
  have hU : ∀ w ∈ wsU, w.before _ s = true := fun w h => atoms_spec (ws := wU yX0_wordCount cX0_wordCount 2 (some .int)) B.pre w (List.mem_cons_of_mem _ h)
  have hown : s.vm.findClass RX0 = some m.cls := findClass_of_methodNamed B.named
  have hlocks := B.notSynchronized
  subst hsz
  have hD := hD0.self (sz := s.heap.size)
  generalize hAe : va_A [(a0, .inr (0, [.ref a1, .ref a2, .ref a3, .int 0, .ref a4, .ref a5, .ref a6, .int 0, .ref a7, .int 2, .int 0]))] s.heap.size = A at hD ⊢
  have hA : ∀ q : Nat, s.heap.size ≤ q → A q := fun q h => by rw [← hAe]; exact Or.inr h
  have hS : va_S A s.heap s.heap [] := va_S.rf
  have hP : va_P (dC, dI) vwCl [(a0, .inr (0, [.ref a1, .ref a2, .ref a3, .int 0, .ref a4, .ref a5, .ref a6, .int 0, .ref a7, .int 2, .int 0]))] s.heap := hP
  have hl := lv_entry ([.ref a0, .int 0]) (n := 2) (Nat.le_of_ble_eq_true rfl)
  rw [lg_entry_eq]
  generalize (lg_sl ([.ref a0, .int 0]) ++ List.replicate (2 - (lg_sl ([.ref a0, .int 0])).length) Slot.unset).toArray = ls at hl ⊢
  have hl : lv_has ls 2 [(0, .ref a0), (1, .int 0)] := hl
  refine lv_aload_n hx hb dX0_wordCount_0 rfl (lv_at hl 0 rfl) ?_
  refine va_get (D := (dC, dI)) (ci := 0) (v := .int 2) (C := RX0) (T := TX0) (N := 11) hx hb hU inlX0 hown hK hP 0 rfl rfl 9 (by decide) (hU _ wd_1194) (fun _ h9 => h9) rfl dX0_wordCount_1 ?_
  refine lv_iconst (v := 2) hx hb dX0_wordCount_4 (by decide) ?_
  refine lv_icmp_ne (tgt := 16) hx hb dX0_wordCount_5 (by decide) (fun c9 => absurd (by decide) c9) (fun _ => ?_)
  refine lv_iload_n hx hb dX0_wordCount_8 rfl (lv_at hl 1 rfl) ?_
  refine lv_iload_n hx hb dX0_wordCount_9 rfl (lv_at hl 1 rfl) ?_
  refine lv_iload_n hx hb dX0_wordCount_10 rfl (lv_at hl 1 rfl) ?_
  refine lv_imul hx hb dX0_wordCount_11 ?_
  refine tk_topi (y := 0) (by decide) ?_
  refine lv_iadd hx hb dX0_wordCount_12 ?_
  refine tk_topi (y := 0) (by decide) ?_
  refine lv_goto (tgt := 17) hx hb dX0_wordCount_13 (by decide) ?_
  have hP9 := hP.sub (ws' := [(a0, .inr (0, [.ref a1, .ref a2, .ref a3, .int 0, .ref a4, .ref a5, .ref a6, .int 0, .ref a7, .int 2, .int 0]))]) [0] rfl
  have hD9 := hD.sub (ws' := [(a0, .inr (0, [.ref a1, .ref a2, .ref a3, .int 0, .ref a4, .ref a5, .ref a6, .int 0, .ref a7, .int 2, .int 0]))]) [0] (by decide) rfl
  refine W.widen (k := 0) (n := 0) (Nat.le_of_ble_eq_true rfl) (Nat.le_of_ble_eq_true rfl) ?_
  exact W.iret (v := 0) hx hb hr (fun t ht hW => ⟨⟨0, [(a0, .inr (0, [.ref a1, .ref a2, .ref a3, .int 0, .ref a4, .ref a5, .ref a6, .int 0, .ref a7, .int 2, .int 0]))], rfl, ⟨rfl, rfl⟩, by rw [ht]; exact hP9, va_K.moved hW.alike hK, hD9⟩, hS.F ht⟩) hS.2.2 dX0_wordCount_17
set_option maxHeartbeats 8000000 in
set_option maxRecDepth 100000 in
theorem op_X11_orders (l : Launch) (D : va_G) (cI cL cZ : ClassId) (sz : Nat) (a0 : Nat) (x0 : Int32) (x1 : Int32) (a1 : Nat) (a2 : Nat) (a3 : Nat) (a4 : Nat) (a5 : Nat) (a6 : Nat) (a7 : Nat) (a8 : Nat) (a9 : Nat) (a10 : Nat) (a11 : Nat) (a12 : Nat) (a13 : Nat) (a14 : Nat) (a15 : Nat) (a16 : Nat) (a17 : Nat) (a18 : Nat) (a19 : Nat) (a20 : Nat) (a21 : Nat) (a22 : Nat) (a23 : Nat) (a24 : Nat) (a25 : Nat) (a26 : Nat) (a27 : Nat) (a28 : Nat) (a29 : Nat) (a30 : Nat) (a31 : Nat) (a32 : Nat) (a33 : Nat) (a34 : Nat) (a35 : Nat) (a36 : Nat) (a37 : Nat) (a38 : Nat) (a39 : Nat) (a40 : Nat) (a41 : Nat) (a42 : Nat) (a43 : Nat) (a44 : Nat) (a45 : Nat) (a46 : Nat) (a47 : Nat) : mI l D cI cL cZ yX11_orders cX11_orders 5 (some .int) 4 113 0 0 [.ref a0, .int x0, .int x1] sz [(a0, .inr (11, [.ref a1, .int 0, .ref a2, .ref a3, .ref a4, .ref a5, .ref a6, .ref a7, .int 0, .ref a8, .ref a9, .ref a10, .int 0, .int (-1), .ref a11, .int 0, .ref a12, .ref a13, .int 0])), (a2, .inr (3, [.ref a3, .ref a4, .ref a14, .ref a15, .ref a16, .int 0, .int 0, .int 0, .int 0, .int 0, .int 0, .int (-1), .ref a17, .ref a18, .ref a19, .int 0, .ref a20, .ref a21])), (a3, .inr (7, [.ref a22, .int 0, .ref a23, .ref a24, .ref a25, .ref a26, .int 0, .ref a27, .ref a28, .ref a29, .ref a30, .ref a31, .int 0, .ref a32, .ref a33, .ref a34])), (a5, .inr (6, [.int 0, .int 1, .ref a35, .ref a36, .ref a37, .int 0, .ref a38, .ref a39, .ref a40])), (a9, .inr (0, [.ref a41, .ref a42, .ref a43, .int 0, .ref a44, .ref a45, .ref a46, .int 0, .ref a47, .int 0, .int (-1)])), (a42, .inl (cI, 5329, .inl z0)), (a44, .inl (cI, 6, .inl z0)), (a45, .inl (cI, 511, .inl z0)), (a46, .inl (cI, 6, .inl z0))] (fun (r : Int32) (w1 : va_W) => r = (an_orders x0 x1) ∧ w1 = ([] : va_W)) := by
  obtain ⟨dC, dI⟩ := D
  refine Met.ofW (cc := cX11_orders) (maxL := 5) (ret := (some .int)) (by decide) rfl ?_
  intro p e s m args below meth c s₁ B hml hv
  obtain ⟨rfl, hsz, hP, hK, hD0, hN⟩ := hv
  have hx := B.exec
  have hb := B.bytes
  have hr := B.returns
  have hU : ∀ w ∈ wsU, w.before _ s = true := fun w h => atoms_spec (ws := wU yX11_orders cX11_orders 5 (some .int)) B.pre w (List.mem_cons_of_mem _ h)
  have hown : s.vm.findClass RX11 = some m.cls := findClass_of_methodNamed B.named
  have hlocks := B.notSynchronized
  subst hsz
  have hD := hD0.self (sz := s.heap.size)
  generalize hAe : va_A [(a0, .inr (11, [.ref a1, .int 0, .ref a2, .ref a3, .ref a4, .ref a5, .ref a6, .ref a7, .int 0, .ref a8, .ref a9, .ref a10, .int 0, .int (-1), .ref a11, .int 0, .ref a12, .ref a13, .int 0])), (a2, .inr (3, [.ref a3, .ref a4, .ref a14, .ref a15, .ref a16, .int 0, .int 0, .int 0, .int 0, .int 0, .int 0, .int (-1), .ref a17, .ref a18, .ref a19, .int 0, .ref a20, .ref a21])), (a3, .inr (7, [.ref a22, .int 0, .ref a23, .ref a24, .ref a25, .ref a26, .int 0, .ref a27, .ref a28, .ref a29, .ref a30, .ref a31, .int 0, .ref a32, .ref a33, .ref a34])), (a5, .inr (6, [.int 0, .int 1, .ref a35, .ref a36, .ref a37, .int 0, .ref a38, .ref a39, .ref a40])), (a9, .inr (0, [.ref a41, .ref a42, .ref a43, .int 0, .ref a44, .ref a45, .ref a46, .int 0, .ref a47, .int 0, .int (-1)])), (a42, .inl (cI, 5329, .inl z0)), (a44, .inl (cI, 6, .inl z0)), (a45, .inl (cI, 511, .inl z0)), (a46, .inl (cI, 6, .inl z0))] s.heap.size = A at hD ⊢
  have hA : ∀ q : Nat, s.heap.size ≤ q → A q := fun q h => by rw [← hAe]; exact Or.inr h
  have hS : va_S A s.heap s.heap [] := va_S.rf
  have hP : va_P (dC, dI) vwCl [(a0, .inr (11, [.ref a1, .int 0, .ref a2, .ref a3, .ref a4, .ref a5, .ref a6, .ref a7, .int 0, .ref a8, .ref a9, .ref a10, .int 0, .int (-1), .ref a11, .int 0, .ref a12, .ref a13, .int 0])), (a2, .inr (3, [.ref a3, .ref a4, .ref a14, .ref a15, .ref a16, .int 0, .int 0, .int 0, .int 0, .int 0, .int 0, .int (-1), .ref a17, .ref a18, .ref a19, .int 0, .ref a20, .ref a21])), (a3, .inr (7, [.ref a22, .int 0, .ref a23, .ref a24, .ref a25, .ref a26, .int 0, .ref a27, .ref a28, .ref a29, .ref a30, .ref a31, .int 0, .ref a32, .ref a33, .ref a34])), (a5, .inr (6, [.int 0, .int 1, .ref a35, .ref a36, .ref a37, .int 0, .ref a38, .ref a39, .ref a40])), (a9, .inr (0, [.ref a41, .ref a42, .ref a43, .int 0, .ref a44, .ref a45, .ref a46, .int 0, .ref a47, .int 0, .int (-1)])), (a42, .inl (cI, 5329, .inl z0)), (a44, .inl (cI, 6, .inl z0)), (a45, .inl (cI, 511, .inl z0)), (a46, .inl (cI, 6, .inl z0))] s.heap := hP
  have hl := lv_entry ([.ref a0, .int x0, .int x1]) (n := 5) (Nat.le_of_ble_eq_true rfl)
  rw [lg_entry_eq]
  generalize (lg_sl ([.ref a0, .int x0, .int x1]) ++ List.replicate (5 - (lg_sl ([.ref a0, .int x0, .int x1])).length) Slot.unset).toArray = ls at hl ⊢
  have hl : lv_has ls 5 [(0, .ref a0), (1, .int x0), (2, .int x1)] := hl
  by_cases c_1 : x0 = 1
  · subst c_1
    by_cases c_2 : x1 = 0
    · subst c_2
      refine lv_aload_n hx hb dX11_orders_0 rfl (lv_at hl 0 rfl) ?_
      refine va_get (D := (dC, dI)) (ci := 11) (v := .ref a5) (C := RX11) (T := TX11) (N := 19) hx hb hU inlX11 hown hK hP 0 rfl rfl 5 (by decide) (hU _ wd_25) (fun _ h9 => h9) rfl dX11_orders_1 ?_
      refine va_get (D := (dC, dI)) (ci := 6) (v := .int 0) (C := RX6) (T := TX6) (N := 9) hx hb hU inlX6 hown hK hP 3 rfl rfl 0 (by decide) (hU _ wd_677) (fun _ h9 => h9) rfl dX11_orders_4 ?_
      refine tk_ri (wr := [(a0, .inr (11, [.ref a1, .int 0, .ref a2, .ref a3, .ref a4, .ref a5, .ref a6, .ref a7, .int 0, .ref a8, .ref a9, .ref a10, .int 0, .int (-1), .ref a11, .int 0, .ref a12, .ref a13, .int 0])), (a2, .inr (3, [.ref a3, .ref a4, .ref a14, .ref a15, .ref a16, .int 0, .int 0, .int 0, .int 0, .int 0, .int 0, .int (-1), .ref a17, .ref a18, .ref a19, .int 0, .ref a20, .ref a21])), (a3, .inr (7, [.ref a22, .int 0, .ref a23, .ref a24, .ref a25, .ref a26, .int 0, .ref a27, .ref a28, .ref a29, .ref a30, .ref a31, .int 0, .ref a32, .ref a33, .ref a34])), (a5, .inr (6, [.int 0, .int 1, .ref a35, .ref a36, .ref a37, .int 0, .ref a38, .ref a39, .ref a40])), (a9, .inr (0, [.ref a41, .ref a42, .ref a43, .int 0, .ref a44, .ref a45, .ref a46, .int 0, .ref a47, .int 0, .int (-1)])), (a42, .inl (cI, 5329, .inl z0)), (a44, .inl (cI, 6, .inl z0)), (a45, .inl (cI, 511, .inl z0)), (a46, .inl (cI, 6, .inl z0))]) (tk_S (As := [.int 0]) (rest := []) (n := 1) hx hb hml hown hU hN (cc_J6_bitCount_0f7a4_0 l (dC, dI) cI cL cZ s.heap.size ) wd_1183 wd_1184 wd_1185 wd_1186 (by decide +kernel) ⟨Nat.le_of_ble_eq_true rfl, Nat.le_of_ble_eq_true rfl⟩ hK hP hD [] (by decide) rfl rfl hl.1 rfl (Nat.le_of_ble_eq_true rfl) dX11_orders_7 ⟨Nat.le_of_ble_eq_true rfl, Nat.le_of_ble_eq_true rfl⟩) hP hD hS hA [] [0, 1, 2, 3, 4, 5, 6, 7, 8] rfl rfl (by decide) (by decide) (fun r_3 w_4 H locs hw hP hD hS => ?_)
      obtain ⟨rfl, rfl⟩ := hw
      have hP : va_P (dC, dI) vwCl [(a0, .inr (11, [.ref a1, .int 0, .ref a2, .ref a3, .ref a4, .ref a5, .ref a6, .ref a7, .int 0, .ref a8, .ref a9, .ref a10, .int 0, .int (-1), .ref a11, .int 0, .ref a12, .ref a13, .int 0])), (a2, .inr (3, [.ref a3, .ref a4, .ref a14, .ref a15, .ref a16, .int 0, .int 0, .int 0, .int 0, .int 0, .int 0, .int (-1), .ref a17, .ref a18, .ref a19, .int 0, .ref a20, .ref a21])), (a3, .inr (7, [.ref a22, .int 0, .ref a23, .ref a24, .ref a25, .ref a26, .int 0, .ref a27, .ref a28, .ref a29, .ref a30, .ref a31, .int 0, .ref a32, .ref a33, .ref a34])), (a5, .inr (6, [.int 0, .int 1, .ref a35, .ref a36, .ref a37, .int 0, .ref a38, .ref a39, .ref a40])), (a9, .inr (0, [.ref a41, .ref a42, .ref a43, .int 0, .ref a44, .ref a45, .ref a46, .int 0, .ref a47, .int 0, .int (-1)])), (a42, .inl (cI, 5329, .inl z0)), (a44, .inl (cI, 6, .inl z0)), (a45, .inl (cI, 511, .inl z0)), (a46, .inl (cI, 6, .inl z0))] H := hP
      have hD : va_D A [(a0, .inr (11, [.ref a1, .int 0, .ref a2, .ref a3, .ref a4, .ref a5, .ref a6, .ref a7, .int 0, .ref a8, .ref a9, .ref a10, .int 0, .int (-1), .ref a11, .int 0, .ref a12, .ref a13, .int 0])), (a2, .inr (3, [.ref a3, .ref a4, .ref a14, .ref a15, .ref a16, .int 0, .int 0, .int 0, .int 0, .int 0, .int 0, .int (-1), .ref a17, .ref a18, .ref a19, .int 0, .ref a20, .ref a21])), (a3, .inr (7, [.ref a22, .int 0, .ref a23, .ref a24, .ref a25, .ref a26, .int 0, .ref a27, .ref a28, .ref a29, .ref a30, .ref a31, .int 0, .ref a32, .ref a33, .ref a34])), (a5, .inr (6, [.int 0, .int 1, .ref a35, .ref a36, .ref a37, .int 0, .ref a38, .ref a39, .ref a40])), (a9, .inr (0, [.ref a41, .ref a42, .ref a43, .int 0, .ref a44, .ref a45, .ref a46, .int 0, .ref a47, .int 0, .int (-1)])), (a42, .inl (cI, 5329, .inl z0)), (a44, .inl (cI, 6, .inl z0)), (a45, .inl (cI, 511, .inl z0)), (a46, .inl (cI, 6, .inl z0))] := hD
      refine lv_istore_n (lv' := [(3, .int 0), (0, .ref a0), (1, .int 1), (2, .int 0)]) hx hb dX11_orders_10 rfl hl (by decide) rfl (fun ls hl => ?_)
      refine lv_iload_n hx hb dX11_orders_11 rfl (lv_at hl 3 rfl) ?_
      refine lv_bipush (v := 10) hx hb dX11_orders_12 (by decide) ?_
      refine lv_icmp_lt (tgt := 29) hx hb dX11_orders_14 (by decide) (fun _ => ?_) (fun c9 => absurd (by decide) c9) 
      refine lv_iconst (v := 0) hx hb dX11_orders_29 (by decide) ?_
      refine lv_istore (lv' := [(4, .int 0), (3, .int 0), (0, .ref a0), (1, .int 1), (2, .int 0)]) hx hb dX11_orders_30 hl (by decide) rfl (fun ls hl => ?_)
      refine lv_iload_n hx hb dX11_orders_32 rfl (lv_at hl 3 rfl) ?_
      refine lv_iconst (v := 1) hx hb dX11_orders_33 (by decide) ?_
      refine lv_icmp_lt (tgt := 62) hx hb dX11_orders_34 (by decide) (fun c9 => absurd c9 (by decide)) (fun _ => ?_)
      refine lv_iload_n hx hb dX11_orders_37 rfl (lv_at hl 3 rfl) ?_
      refine lv_iconst (v := 2) hx hb dX11_orders_38 (by decide) ?_
      refine lv_icmp_gt (tgt := 62) hx hb dX11_orders_39 (by decide) (fun c9 => absurd c9 (by decide)) (fun _ => ?_)
      refine lv_iload_n hx hb dX11_orders_42 rfl (lv_at hl 1 rfl) ?_
      refine lv_bipush (v := 6) hx hb dX11_orders_43 (by decide) ?_
      refine lv_icmp_gt (tgt := 62) hx hb dX11_orders_45 (by decide) (fun c9 => absurd c9 (by decide)) (fun _ => ?_)
      refine lv_iload_n hx hb dX11_orders_48 rfl (lv_at hl 4 rfl) ?_
      refine lv_if_eq (tgt := 64) hx hb dX11_orders_49 (by decide) (fun _ => ?_) (fun c9 => absurd (by decide) c9) 
      refine lv_aload_n hx hb dX11_orders_64 rfl (lv_at hl 2 rfl) ?_
      refine va_get (D := (dC, dI)) (ci := 11) (v := .ref a9) (C := RX11) (T := TX11) (N := 19) hx hb hU inlX11 hown hK hP 0 rfl rfl 10 (by decide) (hU _ wd_38) (fun _ h9 => h9) rfl dX11_orders_65 ?_
      refine lv_iload_n hx hb dX11_orders_68 rfl (lv_at hl 3 rfl) ?_
      refine lv_aload_n hx hb dX11_orders_69 rfl (lv_at hl 2 rfl) ?_
      refine va_get (D := (dC, dI)) (ci := 11) (v := .ref a2) (C := RX11) (T := TX11) (N := 19) hx hb hU inlX11 hown hK hP 0 rfl rfl 2 (by decide) (hU _ wd_17) (fun _ h9 => h9) rfl dX11_orders_70 ?_
      refine lv_aload_n hx hb dX11_orders_73 rfl (lv_at hl 2 rfl) ?_
      refine va_get (D := (dC, dI)) (ci := 11) (v := .ref a5) (C := RX11) (T := TX11) (N := 19) hx hb hU inlX11 hown hK hP 0 rfl rfl 5 (by decide) (hU _ wd_25) (fun _ h9 => h9) rfl dX11_orders_74 ?_
      refine lv_aload_n hx hb dX11_orders_77 rfl (lv_at hl 2 rfl) ?_
      refine va_get (D := (dC, dI)) (ci := 11) (v := .int 0) (C := RX11) (T := TX11) (N := 19) hx hb hU inlX11 hown hK hP 0 rfl rfl 18 (by decide) (hU _ wd_236) (fun _ h9 => h9) rfl dX11_orders_78 ?_
      refine tk_rv (wr := [(a0, .inr (11, [.ref a1, .int 0, .ref a2, .ref a3, .ref a4, .ref a5, .ref a6, .ref a7, .int 0, .ref a8, .ref a9, .ref a10, .int 0, .int (-1), .ref a11, .int 0, .ref a12, .ref a13, .int 0])), (a5, .inr (6, [.int 0, .int 1, .ref a35, .ref a36, .ref a37, .int 0, .ref a38, .ref a39, .ref a40]))]) (tk_V (As := [.int 1, .ref a2, .ref a5, .int 0]) (rest := []) (n := 4) hx hb hml hown hU hN (cc_X0_refresh_0 l (dC, dI) cI cL cZ H.size a9 a2 a5 a3 a4 a14 a15 a16 a17 a18 a19 a20 a21 a22 a23 a24 a25 a26 a27 a28 a29 a30 a31 a32 a33 a34 a41 a42 a43 a44 a45 a46 a47) wd_1190 wd_1191 wd_1192 wd_37 wd_1193 (by decide +kernel) ⟨Nat.le_of_ble_eq_true rfl, Nat.le_of_ble_eq_true rfl⟩ hK hP hD [1, 2, 4, 5, 6, 7, 8] (by decide) rfl 2 0 rfl rfl rfl rfl hl.1 rfl (Nat.le_of_ble_eq_true rfl) dX11_orders_81 ⟨Nat.le_of_ble_eq_true rfl, Nat.le_of_ble_eq_true rfl⟩) hP hD hS hA [1, 2, 4, 5, 6, 7, 8] [0, 3] rfl rfl (by decide) (by decide) (fun w_6 H locs hw hP hD hS => ?_)
      subst hw
      have hP : va_P (dC, dI) vwCl [(a0, .inr (11, [.ref a1, .int 0, .ref a2, .ref a3, .ref a4, .ref a5, .ref a6, .ref a7, .int 0, .ref a8, .ref a9, .ref a10, .int 0, .int (-1), .ref a11, .int 0, .ref a12, .ref a13, .int 0])), (a5, .inr (6, [.int 0, .int 1, .ref a35, .ref a36, .ref a37, .int 0, .ref a38, .ref a39, .ref a40])), (a2, .inr (3, [.ref a3, .ref a4, .ref a14, .ref a15, .ref a16, .int 0, .int 0, .int 0, .int 0, .int 0, .int 0, .int (-1), .ref a17, .ref a18, .ref a19, .int 0, .ref a20, .ref a21])), (a3, .inr (7, [.ref a22, .int 0, .ref a23, .ref a24, .ref a25, .ref a26, .int 0, .ref a27, .ref a28, .ref a29, .ref a30, .ref a31, .int 0, .ref a32, .ref a33, .ref a34])), (a44, .inl (cI, 6, .inl z0)), (a45, .inl (cI, 511, .inl (stg 73))), (a46, .inl (cI, 6, .inl z0)), (a9, .inr (0, [.ref a41, .ref a42, .ref a43, .int 0, .ref a44, .ref a45, .ref a46, .int 0, .ref a47, .int 1, .int 0])), (a42, .inl (cI, 5329, .inl z0))] H := hP
      have hD : va_D A [(a0, .inr (11, [.ref a1, .int 0, .ref a2, .ref a3, .ref a4, .ref a5, .ref a6, .ref a7, .int 0, .ref a8, .ref a9, .ref a10, .int 0, .int (-1), .ref a11, .int 0, .ref a12, .ref a13, .int 0])), (a5, .inr (6, [.int 0, .int 1, .ref a35, .ref a36, .ref a37, .int 0, .ref a38, .ref a39, .ref a40])), (a2, .inr (3, [.ref a3, .ref a4, .ref a14, .ref a15, .ref a16, .int 0, .int 0, .int 0, .int 0, .int 0, .int 0, .int (-1), .ref a17, .ref a18, .ref a19, .int 0, .ref a20, .ref a21])), (a3, .inr (7, [.ref a22, .int 0, .ref a23, .ref a24, .ref a25, .ref a26, .int 0, .ref a27, .ref a28, .ref a29, .ref a30, .ref a31, .int 0, .ref a32, .ref a33, .ref a34])), (a44, .inl (cI, 6, .inl z0)), (a45, .inl (cI, 511, .inl (stg 73))), (a46, .inl (cI, 6, .inl z0)), (a9, .inr (0, [.ref a41, .ref a42, .ref a43, .int 0, .ref a44, .ref a45, .ref a46, .int 0, .ref a47, .int 1, .int 0])), (a42, .inl (cI, 5329, .inl z0))] := hD
      refine lv_iload hx hb dX11_orders_84 (lv_at hl 0 rfl) ?_
      refine lv_if_eq (tgt := 102) hx hb dX11_orders_86 (by decide) (fun _ => ?_) (fun c9 => absurd (by decide) c9) 
      refine lv_iload_n hx hb dX11_orders_102 rfl (lv_at hl 4 rfl) ?_
      refine lv_if_ne (tgt := 116) hx hb dX11_orders_103 (by decide) (fun c9 => absurd (by decide) c9) (fun _ => ?_)
      refine lv_aload_n hx hb dX11_orders_106 rfl (lv_at hl 2 rfl) ?_
      refine va_get (D := (dC, dI)) (ci := 11) (v := .ref a9) (C := RX11) (T := TX11) (N := 19) hx hb hU inlX11 hown hK hP 0 rfl rfl 10 (by decide) (hU _ wd_38) (fun _ h9 => h9) rfl dX11_orders_107 ?_
      refine va_get (D := (dC, dI)) (ci := 0) (v := .int 0) (C := RX0) (T := TX0) (N := 11) hx hb hU inlX0 hown hK hP 7 rfl rfl 7 (by decide) (hU _ wd_1182) (fun _ h9 => h9) rfl dX11_orders_110 ?_
      refine lv_goto (tgt := 130) hx hb dX11_orders_113 (by decide) ?_
      have hP9 := hP.sub (ws' := []) [] rfl
      have hD9 := hD.sub (ws' := []) [] (by decide) rfl
      refine W.widen (k := 0) (n := 0) (Nat.le_of_ble_eq_true rfl) (Nat.le_of_ble_eq_true rfl) ?_
      exact W.iret (v := 0) hx hb hr (fun t ht hW => ⟨⟨0, [], rfl, ⟨by decide, rfl⟩, by rw [ht]; exact hP9, va_K.moved hW.alike hK, hD9⟩, hS.F ht⟩) hS.2.2 dX11_orders_130
    by_cases c_7 : x1 = 1
    · subst c_7
      refine lv_aload_n hx hb dX11_orders_0 rfl (lv_at hl 0 rfl) ?_
      refine va_get (D := (dC, dI)) (ci := 11) (v := .ref a5) (C := RX11) (T := TX11) (N := 19) hx hb hU inlX11 hown hK hP 0 rfl rfl 5 (by decide) (hU _ wd_25) (fun _ h9 => h9) rfl dX11_orders_1 ?_
      refine va_get (D := (dC, dI)) (ci := 6) (v := .int 0) (C := RX6) (T := TX6) (N := 9) hx hb hU inlX6 hown hK hP 3 rfl rfl 0 (by decide) (hU _ wd_677) (fun _ h9 => h9) rfl dX11_orders_4 ?_
      refine tk_ri (wr := [(a0, .inr (11, [.ref a1, .int 0, .ref a2, .ref a3, .ref a4, .ref a5, .ref a6, .ref a7, .int 0, .ref a8, .ref a9, .ref a10, .int 0, .int (-1), .ref a11, .int 0, .ref a12, .ref a13, .int 0])), (a2, .inr (3, [.ref a3, .ref a4, .ref a14, .ref a15, .ref a16, .int 0, .int 0, .int 0, .int 0, .int 0, .int 0, .int (-1), .ref a17, .ref a18, .ref a19, .int 0, .ref a20, .ref a21])), (a3, .inr (7, [.ref a22, .int 0, .ref a23, .ref a24, .ref a25, .ref a26, .int 0, .ref a27, .ref a28, .ref a29, .ref a30, .ref a31, .int 0, .ref a32, .ref a33, .ref a34])), (a5, .inr (6, [.int 0, .int 1, .ref a35, .ref a36, .ref a37, .int 0, .ref a38, .ref a39, .ref a40])), (a9, .inr (0, [.ref a41, .ref a42, .ref a43, .int 0, .ref a44, .ref a45, .ref a46, .int 0, .ref a47, .int 0, .int (-1)])), (a42, .inl (cI, 5329, .inl z0)), (a44, .inl (cI, 6, .inl z0)), (a45, .inl (cI, 511, .inl z0)), (a46, .inl (cI, 6, .inl z0))]) (tk_S (As := [.int 0]) (rest := []) (n := 1) hx hb hml hown hU hN (cc_J6_bitCount_0f7a4_0 l (dC, dI) cI cL cZ s.heap.size ) wd_1183 wd_1184 wd_1185 wd_1186 (by decide +kernel) ⟨Nat.le_of_ble_eq_true rfl, Nat.le_of_ble_eq_true rfl⟩ hK hP hD [] (by decide) rfl rfl hl.1 rfl (Nat.le_of_ble_eq_true rfl) dX11_orders_7 ⟨Nat.le_of_ble_eq_true rfl, Nat.le_of_ble_eq_true rfl⟩) hP hD hS hA [] [0, 1, 2, 3, 4, 5, 6, 7, 8] rfl rfl (by decide) (by decide) (fun r_8 w_9 H locs hw hP hD hS => ?_)
      obtain ⟨rfl, rfl⟩ := hw
      have hP : va_P (dC, dI) vwCl [(a0, .inr (11, [.ref a1, .int 0, .ref a2, .ref a3, .ref a4, .ref a5, .ref a6, .ref a7, .int 0, .ref a8, .ref a9, .ref a10, .int 0, .int (-1), .ref a11, .int 0, .ref a12, .ref a13, .int 0])), (a2, .inr (3, [.ref a3, .ref a4, .ref a14, .ref a15, .ref a16, .int 0, .int 0, .int 0, .int 0, .int 0, .int 0, .int (-1), .ref a17, .ref a18, .ref a19, .int 0, .ref a20, .ref a21])), (a3, .inr (7, [.ref a22, .int 0, .ref a23, .ref a24, .ref a25, .ref a26, .int 0, .ref a27, .ref a28, .ref a29, .ref a30, .ref a31, .int 0, .ref a32, .ref a33, .ref a34])), (a5, .inr (6, [.int 0, .int 1, .ref a35, .ref a36, .ref a37, .int 0, .ref a38, .ref a39, .ref a40])), (a9, .inr (0, [.ref a41, .ref a42, .ref a43, .int 0, .ref a44, .ref a45, .ref a46, .int 0, .ref a47, .int 0, .int (-1)])), (a42, .inl (cI, 5329, .inl z0)), (a44, .inl (cI, 6, .inl z0)), (a45, .inl (cI, 511, .inl z0)), (a46, .inl (cI, 6, .inl z0))] H := hP
      have hD : va_D A [(a0, .inr (11, [.ref a1, .int 0, .ref a2, .ref a3, .ref a4, .ref a5, .ref a6, .ref a7, .int 0, .ref a8, .ref a9, .ref a10, .int 0, .int (-1), .ref a11, .int 0, .ref a12, .ref a13, .int 0])), (a2, .inr (3, [.ref a3, .ref a4, .ref a14, .ref a15, .ref a16, .int 0, .int 0, .int 0, .int 0, .int 0, .int 0, .int (-1), .ref a17, .ref a18, .ref a19, .int 0, .ref a20, .ref a21])), (a3, .inr (7, [.ref a22, .int 0, .ref a23, .ref a24, .ref a25, .ref a26, .int 0, .ref a27, .ref a28, .ref a29, .ref a30, .ref a31, .int 0, .ref a32, .ref a33, .ref a34])), (a5, .inr (6, [.int 0, .int 1, .ref a35, .ref a36, .ref a37, .int 0, .ref a38, .ref a39, .ref a40])), (a9, .inr (0, [.ref a41, .ref a42, .ref a43, .int 0, .ref a44, .ref a45, .ref a46, .int 0, .ref a47, .int 0, .int (-1)])), (a42, .inl (cI, 5329, .inl z0)), (a44, .inl (cI, 6, .inl z0)), (a45, .inl (cI, 511, .inl z0)), (a46, .inl (cI, 6, .inl z0))] := hD
      refine lv_istore_n (lv' := [(3, .int 0), (0, .ref a0), (1, .int 1), (2, .int 1)]) hx hb dX11_orders_10 rfl hl (by decide) rfl (fun ls hl => ?_)
      refine lv_iload_n hx hb dX11_orders_11 rfl (lv_at hl 3 rfl) ?_
      refine lv_bipush (v := 10) hx hb dX11_orders_12 (by decide) ?_
      refine lv_icmp_lt (tgt := 29) hx hb dX11_orders_14 (by decide) (fun _ => ?_) (fun c9 => absurd (by decide) c9) 
      refine lv_iconst (v := 0) hx hb dX11_orders_29 (by decide) ?_
      refine lv_istore (lv' := [(4, .int 0), (3, .int 0), (0, .ref a0), (1, .int 1), (2, .int 1)]) hx hb dX11_orders_30 hl (by decide) rfl (fun ls hl => ?_)
      refine lv_iload_n hx hb dX11_orders_32 rfl (lv_at hl 3 rfl) ?_
      refine lv_iconst (v := 1) hx hb dX11_orders_33 (by decide) ?_
      refine lv_icmp_lt (tgt := 62) hx hb dX11_orders_34 (by decide) (fun c9 => absurd c9 (by decide)) (fun _ => ?_)
      refine lv_iload_n hx hb dX11_orders_37 rfl (lv_at hl 3 rfl) ?_
      refine lv_iconst (v := 2) hx hb dX11_orders_38 (by decide) ?_
      refine lv_icmp_gt (tgt := 62) hx hb dX11_orders_39 (by decide) (fun c9 => absurd c9 (by decide)) (fun _ => ?_)
      refine lv_iload_n hx hb dX11_orders_42 rfl (lv_at hl 1 rfl) ?_
      refine lv_bipush (v := 6) hx hb dX11_orders_43 (by decide) ?_
      refine lv_icmp_gt (tgt := 62) hx hb dX11_orders_45 (by decide) (fun c9 => absurd c9 (by decide)) (fun _ => ?_)
      refine lv_iload_n hx hb dX11_orders_48 rfl (lv_at hl 4 rfl) ?_
      refine lv_if_eq (tgt := 64) hx hb dX11_orders_49 (by decide) (fun c9 => absurd c9 (by decide)) (fun _ => ?_)
      refine lv_iload_n hx hb dX11_orders_52 rfl (lv_at hl 4 rfl) ?_
      refine lv_iconst (v := 1) hx hb dX11_orders_53 (by decide) ?_
      refine lv_icmp_eq (tgt := 64) hx hb dX11_orders_54 (by decide) (fun _ => ?_) (fun c9 => absurd (by decide) c9) 
      refine lv_aload_n hx hb dX11_orders_64 rfl (lv_at hl 2 rfl) ?_
      refine va_get (D := (dC, dI)) (ci := 11) (v := .ref a9) (C := RX11) (T := TX11) (N := 19) hx hb hU inlX11 hown hK hP 0 rfl rfl 10 (by decide) (hU _ wd_38) (fun _ h9 => h9) rfl dX11_orders_65 ?_
      refine lv_iload_n hx hb dX11_orders_68 rfl (lv_at hl 3 rfl) ?_
      refine lv_aload_n hx hb dX11_orders_69 rfl (lv_at hl 2 rfl) ?_
      refine va_get (D := (dC, dI)) (ci := 11) (v := .ref a2) (C := RX11) (T := TX11) (N := 19) hx hb hU inlX11 hown hK hP 0 rfl rfl 2 (by decide) (hU _ wd_17) (fun _ h9 => h9) rfl dX11_orders_70 ?_
      refine lv_aload_n hx hb dX11_orders_73 rfl (lv_at hl 2 rfl) ?_
      refine va_get (D := (dC, dI)) (ci := 11) (v := .ref a5) (C := RX11) (T := TX11) (N := 19) hx hb hU inlX11 hown hK hP 0 rfl rfl 5 (by decide) (hU _ wd_25) (fun _ h9 => h9) rfl dX11_orders_74 ?_
      refine lv_aload_n hx hb dX11_orders_77 rfl (lv_at hl 2 rfl) ?_
      refine va_get (D := (dC, dI)) (ci := 11) (v := .int 0) (C := RX11) (T := TX11) (N := 19) hx hb hU inlX11 hown hK hP 0 rfl rfl 18 (by decide) (hU _ wd_236) (fun _ h9 => h9) rfl dX11_orders_78 ?_
      refine tk_rv (wr := [(a0, .inr (11, [.ref a1, .int 0, .ref a2, .ref a3, .ref a4, .ref a5, .ref a6, .ref a7, .int 0, .ref a8, .ref a9, .ref a10, .int 0, .int (-1), .ref a11, .int 0, .ref a12, .ref a13, .int 0])), (a5, .inr (6, [.int 0, .int 1, .ref a35, .ref a36, .ref a37, .int 0, .ref a38, .ref a39, .ref a40]))]) (tk_V (As := [.int 1, .ref a2, .ref a5, .int 0]) (rest := []) (n := 4) hx hb hml hown hU hN (cc_X0_refresh_0 l (dC, dI) cI cL cZ H.size a9 a2 a5 a3 a4 a14 a15 a16 a17 a18 a19 a20 a21 a22 a23 a24 a25 a26 a27 a28 a29 a30 a31 a32 a33 a34 a41 a42 a43 a44 a45 a46 a47) wd_1190 wd_1191 wd_1192 wd_37 wd_1193 (by decide +kernel) ⟨Nat.le_of_ble_eq_true rfl, Nat.le_of_ble_eq_true rfl⟩ hK hP hD [1, 2, 4, 5, 6, 7, 8] (by decide) rfl 2 0 rfl rfl rfl rfl hl.1 rfl (Nat.le_of_ble_eq_true rfl) dX11_orders_81 ⟨Nat.le_of_ble_eq_true rfl, Nat.le_of_ble_eq_true rfl⟩) hP hD hS hA [1, 2, 4, 5, 6, 7, 8] [0, 3] rfl rfl (by decide) (by decide) (fun w_11 H locs hw hP hD hS => ?_)
      subst hw
      have hP : va_P (dC, dI) vwCl [(a0, .inr (11, [.ref a1, .int 0, .ref a2, .ref a3, .ref a4, .ref a5, .ref a6, .ref a7, .int 0, .ref a8, .ref a9, .ref a10, .int 0, .int (-1), .ref a11, .int 0, .ref a12, .ref a13, .int 0])), (a5, .inr (6, [.int 0, .int 1, .ref a35, .ref a36, .ref a37, .int 0, .ref a38, .ref a39, .ref a40])), (a2, .inr (3, [.ref a3, .ref a4, .ref a14, .ref a15, .ref a16, .int 0, .int 0, .int 0, .int 0, .int 0, .int 0, .int (-1), .ref a17, .ref a18, .ref a19, .int 0, .ref a20, .ref a21])), (a3, .inr (7, [.ref a22, .int 0, .ref a23, .ref a24, .ref a25, .ref a26, .int 0, .ref a27, .ref a28, .ref a29, .ref a30, .ref a31, .int 0, .ref a32, .ref a33, .ref a34])), (a44, .inl (cI, 6, .inl z0)), (a45, .inl (cI, 511, .inl (stg 73))), (a46, .inl (cI, 6, .inl z0)), (a9, .inr (0, [.ref a41, .ref a42, .ref a43, .int 0, .ref a44, .ref a45, .ref a46, .int 0, .ref a47, .int 1, .int 0])), (a42, .inl (cI, 5329, .inl z0))] H := hP
      have hD : va_D A [(a0, .inr (11, [.ref a1, .int 0, .ref a2, .ref a3, .ref a4, .ref a5, .ref a6, .ref a7, .int 0, .ref a8, .ref a9, .ref a10, .int 0, .int (-1), .ref a11, .int 0, .ref a12, .ref a13, .int 0])), (a5, .inr (6, [.int 0, .int 1, .ref a35, .ref a36, .ref a37, .int 0, .ref a38, .ref a39, .ref a40])), (a2, .inr (3, [.ref a3, .ref a4, .ref a14, .ref a15, .ref a16, .int 0, .int 0, .int 0, .int 0, .int 0, .int 0, .int (-1), .ref a17, .ref a18, .ref a19, .int 0, .ref a20, .ref a21])), (a3, .inr (7, [.ref a22, .int 0, .ref a23, .ref a24, .ref a25, .ref a26, .int 0, .ref a27, .ref a28, .ref a29, .ref a30, .ref a31, .int 0, .ref a32, .ref a33, .ref a34])), (a44, .inl (cI, 6, .inl z0)), (a45, .inl (cI, 511, .inl (stg 73))), (a46, .inl (cI, 6, .inl z0)), (a9, .inr (0, [.ref a41, .ref a42, .ref a43, .int 0, .ref a44, .ref a45, .ref a46, .int 0, .ref a47, .int 1, .int 0])), (a42, .inl (cI, 5329, .inl z0))] := hD
      refine lv_iload hx hb dX11_orders_84 (lv_at hl 0 rfl) ?_
      refine lv_if_eq (tgt := 102) hx hb dX11_orders_86 (by decide) (fun _ => ?_) (fun c9 => absurd (by decide) c9) 
      refine lv_iload_n hx hb dX11_orders_102 rfl (lv_at hl 4 rfl) ?_
      refine lv_if_ne (tgt := 116) hx hb dX11_orders_103 (by decide) (fun _ => ?_) (fun c9 => absurd c9 (by decide)) 
      refine lv_aload_n hx hb dX11_orders_116 rfl (lv_at hl 2 rfl) ?_
      refine va_get (D := (dC, dI)) (ci := 11) (v := .ref a9) (C := RX11) (T := TX11) (N := 19) hx hb hU inlX11 hown hK hP 0 rfl rfl 10 (by decide) (hU _ wd_38) (fun _ h9 => h9) rfl dX11_orders_117 ?_
      refine lv_aload_n hx hb dX11_orders_120 rfl (lv_at hl 2 rfl) ?_
      refine va_get (D := (dC, dI)) (ci := 11) (v := .ref a3) (C := RX11) (T := TX11) (N := 19) hx hb hU inlX11 hown hK hP 0 rfl rfl 3 (by decide) (hU _ wd_19) (fun _ h9 => h9) rfl dX11_orders_121 ?_
      refine va_get (D := (dC, dI)) (ci := 7) (v := .int 0) (C := RX7) (T := TX7) (N := 16) hx hb hU inlX7 hown hK hP 3 rfl rfl 1 (by decide) (hU _ wd_1151) (fun _ h9 => h9) rfl dX11_orders_124 ?_
      refine tk_ri (wr := [(a0, .inr (11, [.ref a1, .int 0, .ref a2, .ref a3, .ref a4, .ref a5, .ref a6, .ref a7, .int 0, .ref a8, .ref a9, .ref a10, .int 0, .int (-1), .ref a11, .int 0, .ref a12, .ref a13, .int 0])), (a5, .inr (6, [.int 0, .int 1, .ref a35, .ref a36, .ref a37, .int 0, .ref a38, .ref a39, .ref a40])), (a2, .inr (3, [.ref a3, .ref a4, .ref a14, .ref a15, .ref a16, .int 0, .int 0, .int 0, .int 0, .int 0, .int 0, .int (-1), .ref a17, .ref a18, .ref a19, .int 0, .ref a20, .ref a21])), (a3, .inr (7, [.ref a22, .int 0, .ref a23, .ref a24, .ref a25, .ref a26, .int 0, .ref a27, .ref a28, .ref a29, .ref a30, .ref a31, .int 0, .ref a32, .ref a33, .ref a34])), (a44, .inl (cI, 6, .inl z0)), (a45, .inl (cI, 511, .inl (stg 73))), (a46, .inl (cI, 6, .inl z0)), (a42, .inl (cI, 5329, .inl z0))]) (tk_V (As := [.int 0]) (rest := []) (n := 1) hx hb hml hown hU hN (cc_X0_wordCount_0 l (dC, dI) cI cL cZ H.size a9 a41 a42 a43 a44 a45 a46 a47) wd_1233 wd_1234 wd_1235 wd_37 wd_1236 (by decide +kernel) ⟨Nat.le_of_ble_eq_true rfl, Nat.le_of_ble_eq_true rfl⟩ hK hP hD [7] (by decide) rfl 0 0 rfl rfl rfl rfl hl.1 rfl (Nat.le_of_ble_eq_true rfl) dX11_orders_127 ⟨Nat.le_of_ble_eq_true rfl, Nat.le_of_ble_eq_true rfl⟩) hP hD hS hA [7] [0, 1, 2, 3, 4, 5, 6, 8] rfl rfl (by decide) (by decide) (fun r_12 w_13 H locs hw hP hD hS => ?_)
      obtain ⟨rfl, rfl⟩ := hw
      have hP : va_P (dC, dI) vwCl [(a0, .inr (11, [.ref a1, .int 0, .ref a2, .ref a3, .ref a4, .ref a5, .ref a6, .ref a7, .int 0, .ref a8, .ref a9, .ref a10, .int 0, .int (-1), .ref a11, .int 0, .ref a12, .ref a13, .int 0])), (a5, .inr (6, [.int 0, .int 1, .ref a35, .ref a36, .ref a37, .int 0, .ref a38, .ref a39, .ref a40])), (a2, .inr (3, [.ref a3, .ref a4, .ref a14, .ref a15, .ref a16, .int 0, .int 0, .int 0, .int 0, .int 0, .int 0, .int (-1), .ref a17, .ref a18, .ref a19, .int 0, .ref a20, .ref a21])), (a3, .inr (7, [.ref a22, .int 0, .ref a23, .ref a24, .ref a25, .ref a26, .int 0, .ref a27, .ref a28, .ref a29, .ref a30, .ref a31, .int 0, .ref a32, .ref a33, .ref a34])), (a44, .inl (cI, 6, .inl z0)), (a45, .inl (cI, 511, .inl (stg 73))), (a46, .inl (cI, 6, .inl z0)), (a42, .inl (cI, 5329, .inl z0)), (a9, .inr (0, [.ref a41, .ref a42, .ref a43, .int 0, .ref a44, .ref a45, .ref a46, .int 0, .ref a47, .int 1, .int 0]))] H := hP
      have hD : va_D A [(a0, .inr (11, [.ref a1, .int 0, .ref a2, .ref a3, .ref a4, .ref a5, .ref a6, .ref a7, .int 0, .ref a8, .ref a9, .ref a10, .int 0, .int (-1), .ref a11, .int 0, .ref a12, .ref a13, .int 0])), (a5, .inr (6, [.int 0, .int 1, .ref a35, .ref a36, .ref a37, .int 0, .ref a38, .ref a39, .ref a40])), (a2, .inr (3, [.ref a3, .ref a4, .ref a14, .ref a15, .ref a16, .int 0, .int 0, .int 0, .int 0, .int 0, .int 0, .int (-1), .ref a17, .ref a18, .ref a19, .int 0, .ref a20, .ref a21])), (a3, .inr (7, [.ref a22, .int 0, .ref a23, .ref a24, .ref a25, .ref a26, .int 0, .ref a27, .ref a28, .ref a29, .ref a30, .ref a31, .int 0, .ref a32, .ref a33, .ref a34])), (a44, .inl (cI, 6, .inl z0)), (a45, .inl (cI, 511, .inl (stg 73))), (a46, .inl (cI, 6, .inl z0)), (a42, .inl (cI, 5329, .inl z0)), (a9, .inr (0, [.ref a41, .ref a42, .ref a43, .int 0, .ref a44, .ref a45, .ref a46, .int 0, .ref a47, .int 1, .int 0]))] := hD
      have hP9 := hP.sub (ws' := []) [] rfl
      have hD9 := hD.sub (ws' := []) [] (by decide) rfl
      refine W.widen (k := 0) (n := 0) (Nat.le_of_ble_eq_true rfl) (Nat.le_of_ble_eq_true rfl) ?_
      exact W.iret (v := 0) hx hb hr (fun t ht hW => ⟨⟨0, [], rfl, ⟨by decide, rfl⟩, by rw [ht]; exact hP9, va_K.moved hW.alike hK, hD9⟩, hS.F ht⟩) hS.2.2 dX11_orders_130
    refine lv_aload_n hx hb dX11_orders_0 rfl (lv_at hl 0 rfl) ?_
    refine va_get (D := (dC, dI)) (ci := 11) (v := .ref a5) (C := RX11) (T := TX11) (N := 19) hx hb hU inlX11 hown hK hP 0 rfl rfl 5 (by decide) (hU _ wd_25) (fun _ h9 => h9) rfl dX11_orders_1 ?_
    refine va_get (D := (dC, dI)) (ci := 6) (v := .int 0) (C := RX6) (T := TX6) (N := 9) hx hb hU inlX6 hown hK hP 3 rfl rfl 0 (by decide) (hU _ wd_677) (fun _ h9 => h9) rfl dX11_orders_4 ?_
    refine tk_ri (wr := [(a0, .inr (11, [.ref a1, .int 0, .ref a2, .ref a3, .ref a4, .ref a5, .ref a6, .ref a7, .int 0, .ref a8, .ref a9, .ref a10, .int 0, .int (-1), .ref a11, .int 0, .ref a12, .ref a13, .int 0])), (a2, .inr (3, [.ref a3, .ref a4, .ref a14, .ref a15, .ref a16, .int 0, .int 0, .int 0, .int 0, .int 0, .int 0, .int (-1), .ref a17, .ref a18, .ref a19, .int 0, .ref a20, .ref a21])), (a3, .inr (7, [.ref a22, .int 0, .ref a23, .ref a24, .ref a25, .ref a26, .int 0, .ref a27, .ref a28, .ref a29, .ref a30, .ref a31, .int 0, .ref a32, .ref a33, .ref a34])), (a5, .inr (6, [.int 0, .int 1, .ref a35, .ref a36, .ref a37, .int 0, .ref a38, .ref a39, .ref a40])), (a9, .inr (0, [.ref a41, .ref a42, .ref a43, .int 0, .ref a44, .ref a45, .ref a46, .int 0, .ref a47, .int 0, .int (-1)])), (a42, .inl (cI, 5329, .inl z0)), (a44, .inl (cI, 6, .inl z0)), (a45, .inl (cI, 511, .inl z0)), (a46, .inl (cI, 6, .inl z0))]) (tk_S (As := [.int 0]) (rest := []) (n := 1) hx hb hml hown hU hN (cc_J6_bitCount_0f7a4_0 l (dC, dI) cI cL cZ s.heap.size ) wd_1183 wd_1184 wd_1185 wd_1186 (by decide +kernel) ⟨Nat.le_of_ble_eq_true rfl, Nat.le_of_ble_eq_true rfl⟩ hK hP hD [] (by decide) rfl rfl hl.1 rfl (Nat.le_of_ble_eq_true rfl) dX11_orders_7 ⟨Nat.le_of_ble_eq_true rfl, Nat.le_of_ble_eq_true rfl⟩) hP hD hS hA [] [0, 1, 2, 3, 4, 5, 6, 7, 8] rfl rfl (by decide) (by decide) (fun r_14 w_15 H locs hw hP hD hS => ?_)
    obtain ⟨rfl, rfl⟩ := hw
    have hP : va_P (dC, dI) vwCl [(a0, .inr (11, [.ref a1, .int 0, .ref a2, .ref a3, .ref a4, .ref a5, .ref a6, .ref a7, .int 0, .ref a8, .ref a9, .ref a10, .int 0, .int (-1), .ref a11, .int 0, .ref a12, .ref a13, .int 0])), (a2, .inr (3, [.ref a3, .ref a4, .ref a14, .ref a15, .ref a16, .int 0, .int 0, .int 0, .int 0, .int 0, .int 0, .int (-1), .ref a17, .ref a18, .ref a19, .int 0, .ref a20, .ref a21])), (a3, .inr (7, [.ref a22, .int 0, .ref a23, .ref a24, .ref a25, .ref a26, .int 0, .ref a27, .ref a28, .ref a29, .ref a30, .ref a31, .int 0, .ref a32, .ref a33, .ref a34])), (a5, .inr (6, [.int 0, .int 1, .ref a35, .ref a36, .ref a37, .int 0, .ref a38, .ref a39, .ref a40])), (a9, .inr (0, [.ref a41, .ref a42, .ref a43, .int 0, .ref a44, .ref a45, .ref a46, .int 0, .ref a47, .int 0, .int (-1)])), (a42, .inl (cI, 5329, .inl z0)), (a44, .inl (cI, 6, .inl z0)), (a45, .inl (cI, 511, .inl z0)), (a46, .inl (cI, 6, .inl z0))] H := hP
    have hD : va_D A [(a0, .inr (11, [.ref a1, .int 0, .ref a2, .ref a3, .ref a4, .ref a5, .ref a6, .ref a7, .int 0, .ref a8, .ref a9, .ref a10, .int 0, .int (-1), .ref a11, .int 0, .ref a12, .ref a13, .int 0])), (a2, .inr (3, [.ref a3, .ref a4, .ref a14, .ref a15, .ref a16, .int 0, .int 0, .int 0, .int 0, .int 0, .int 0, .int (-1), .ref a17, .ref a18, .ref a19, .int 0, .ref a20, .ref a21])), (a3, .inr (7, [.ref a22, .int 0, .ref a23, .ref a24, .ref a25, .ref a26, .int 0, .ref a27, .ref a28, .ref a29, .ref a30, .ref a31, .int 0, .ref a32, .ref a33, .ref a34])), (a5, .inr (6, [.int 0, .int 1, .ref a35, .ref a36, .ref a37, .int 0, .ref a38, .ref a39, .ref a40])), (a9, .inr (0, [.ref a41, .ref a42, .ref a43, .int 0, .ref a44, .ref a45, .ref a46, .int 0, .ref a47, .int 0, .int (-1)])), (a42, .inl (cI, 5329, .inl z0)), (a44, .inl (cI, 6, .inl z0)), (a45, .inl (cI, 511, .inl z0)), (a46, .inl (cI, 6, .inl z0))] := hD
    refine lv_istore_n (lv' := [(3, .int 0), (0, .ref a0), (1, .int 1), (2, .int x1)]) hx hb dX11_orders_10 rfl hl (by decide) rfl (fun ls hl => ?_)
    refine lv_iload_n hx hb dX11_orders_11 rfl (lv_at hl 3 rfl) ?_
    refine lv_bipush (v := 10) hx hb dX11_orders_12 (by decide) ?_
    refine lv_icmp_lt (tgt := 29) hx hb dX11_orders_14 (by decide) (fun c_16 => ?_) (fun c_16 => ?_)
    · skip
      refine lv_iconst (v := 0) hx hb dX11_orders_29 (by decide) ?_
      refine lv_istore (lv' := [(4, .int 0), (3, .int 0), (0, .ref a0), (1, .int 1), (2, .int x1)]) hx hb dX11_orders_30 hl (by decide) rfl (fun ls hl => ?_)
      refine lv_iload_n hx hb dX11_orders_32 rfl (lv_at hl 3 rfl) ?_
      refine lv_iconst (v := 1) hx hb dX11_orders_33 (by decide) ?_
      refine lv_icmp_lt (tgt := 62) hx hb dX11_orders_34 (by decide) (fun c9 => absurd c9 (by decide)) (fun _ => ?_)
      refine lv_iload_n hx hb dX11_orders_37 rfl (lv_at hl 3 rfl) ?_
      refine lv_iconst (v := 2) hx hb dX11_orders_38 (by decide) ?_
      refine lv_icmp_gt (tgt := 62) hx hb dX11_orders_39 (by decide) (fun c9 => absurd c9 (by decide)) (fun _ => ?_)
      refine lv_iload_n hx hb dX11_orders_42 rfl (lv_at hl 1 rfl) ?_
      refine lv_bipush (v := 6) hx hb dX11_orders_43 (by decide) ?_
      refine lv_icmp_gt (tgt := 62) hx hb dX11_orders_45 (by decide) (fun c9 => absurd c9 (by decide)) (fun _ => ?_)
      refine lv_iload_n hx hb dX11_orders_48 rfl (lv_at hl 4 rfl) ?_
      refine lv_if_eq (tgt := 64) hx hb dX11_orders_49 (by decide) (fun c_17 => ?_) (fun c_17 => ?_)
      · skip
        exfalso
        simp only [Int32.lt_iff_toInt_lt, Int32.le_iff_toInt_le, ← Int32.toInt_inj, ti_0, ti_1, ti_10] at c_2 c_7 c_16 c_17
        omega
      · skip
        refine lv_iload_n hx hb dX11_orders_52 rfl (lv_at hl 4 rfl) ?_
        refine lv_iconst (v := 1) hx hb dX11_orders_53 (by decide) ?_
        refine lv_icmp_eq (tgt := 64) hx hb dX11_orders_54 (by decide) (fun c_18 => ?_) (fun c_18 => ?_)
        · skip
          exfalso
          simp only [Int32.lt_iff_toInt_lt, Int32.le_iff_toInt_le, ← Int32.toInt_inj, ti_0, ti_1, ti_10] at c_2 c_7 c_16 c_17 c_18
          omega
        · skip
          refine lv_iload hx hb dX11_orders_57 (lv_at hl 0 rfl) ?_
          refine lv_if_ne (tgt := 64) hx hb dX11_orders_59 (by decide) (fun c9 => absurd (by decide) c9) (fun _ => ?_)
          refine lv_iconst (v := (-1)) hx hb dX11_orders_62 (by decide) ?_
          have hP9 := hP.sub (ws' := []) [] rfl
          have hD9 := hD.sub (ws' := []) [] (by decide) rfl
          refine W.widen (k := 0) (n := 0) (Nat.le_of_ble_eq_true rfl) (Nat.le_of_ble_eq_true rfl) ?_
          exact W.iret (v := (-1)) hx hb hr (fun t ht hW => ⟨⟨(-1), [], rfl, ⟨by simp [an_orders, c_2, c_7, c_17, c_18], rfl⟩, by rw [ht]; exact hP9, va_K.moved hW.alike hK, hD9⟩, hS.F ht⟩) hS.2.2 dX11_orders_63
    · skip
      refine lv_iload_n hx hb dX11_orders_17 rfl (lv_at hl 3 rfl) ?_
      refine lv_bipush (v := 10) hx hb dX11_orders_18 (by decide) ?_
      refine lv_isub hx hb dX11_orders_20 ?_
      refine lv_iload_n hx hb dX11_orders_21 rfl (lv_at hl 0 rfl) ?_
      refine lv_icmp_ge (tgt := 29) hx hb dX11_orders_22 (by decide) (fun c_19 => ?_) (fun c_19 => ?_)
      · skip
        refine lv_iconst (v := 0) hx hb dX11_orders_29 (by decide) ?_
        refine lv_istore (lv' := [(4, .int 0), (3, .int 0), (0, .ref a0), (1, .int 1), (2, .int x1)]) hx hb dX11_orders_30 hl (by decide) rfl (fun ls hl => ?_)
        refine lv_iload_n hx hb dX11_orders_32 rfl (lv_at hl 3 rfl) ?_
        refine lv_iconst (v := 1) hx hb dX11_orders_33 (by decide) ?_
        refine lv_icmp_lt (tgt := 62) hx hb dX11_orders_34 (by decide) (fun c9 => absurd c9 (by decide)) (fun _ => ?_)
        refine lv_iload_n hx hb dX11_orders_37 rfl (lv_at hl 3 rfl) ?_
        refine lv_iconst (v := 2) hx hb dX11_orders_38 (by decide) ?_
        refine lv_icmp_gt (tgt := 62) hx hb dX11_orders_39 (by decide) (fun c9 => absurd c9 (by decide)) (fun _ => ?_)
        refine lv_iload_n hx hb dX11_orders_42 rfl (lv_at hl 1 rfl) ?_
        refine lv_bipush (v := 6) hx hb dX11_orders_43 (by decide) ?_
        refine lv_icmp_gt (tgt := 62) hx hb dX11_orders_45 (by decide) (fun c9 => absurd c9 (by decide)) (fun _ => ?_)
        refine lv_iload_n hx hb dX11_orders_48 rfl (lv_at hl 4 rfl) ?_
        refine lv_if_eq (tgt := 64) hx hb dX11_orders_49 (by decide) (fun c_20 => ?_) (fun c_20 => ?_)
        · skip
          exfalso
          simp only [Int32.lt_iff_toInt_lt, Int32.le_iff_toInt_le, ← Int32.toInt_inj, ti_0, ti_1, ti_10] at c_2 c_7 c_16 c_19 c_20
          omega
        · skip
          refine lv_iload_n hx hb dX11_orders_52 rfl (lv_at hl 4 rfl) ?_
          refine lv_iconst (v := 1) hx hb dX11_orders_53 (by decide) ?_
          refine lv_icmp_eq (tgt := 64) hx hb dX11_orders_54 (by decide) (fun c_21 => ?_) (fun c_21 => ?_)
          · skip
            exfalso
            simp only [Int32.lt_iff_toInt_lt, Int32.le_iff_toInt_le, ← Int32.toInt_inj, ti_0, ti_1, ti_10] at c_2 c_7 c_16 c_19 c_20 c_21
            omega
          · skip
            refine lv_iload hx hb dX11_orders_57 (lv_at hl 0 rfl) ?_
            refine lv_if_ne (tgt := 64) hx hb dX11_orders_59 (by decide) (fun c9 => absurd (by decide) c9) (fun _ => ?_)
            refine lv_iconst (v := (-1)) hx hb dX11_orders_62 (by decide) ?_
            have hP9 := hP.sub (ws' := []) [] rfl
            have hD9 := hD.sub (ws' := []) [] (by decide) rfl
            refine W.widen (k := 0) (n := 0) (Nat.le_of_ble_eq_true rfl) (Nat.le_of_ble_eq_true rfl) ?_
            exact W.iret (v := (-1)) hx hb hr (fun t ht hW => ⟨⟨(-1), [], rfl, ⟨by simp [an_orders, c_2, c_7, c_20, c_21], rfl⟩, by rw [ht]; exact hP9, va_K.moved hW.alike hK, hD9⟩, hS.F ht⟩) hS.2.2 dX11_orders_63
      · skip
        exfalso
        simp only [Int32.lt_iff_toInt_lt, Int32.le_iff_toInt_le, ← Int32.toInt_inj, ti_0, ti_1, ti_10] at c_19 c_2 c_7 c_16
        have h8 := tk_sub (p := x1) (k := 10) (by rw [ti_10]; omega) (by rw [ti_10]; omega)
        rw [ti_10] at h8
        omega
  by_cases c_22 : x0 = 2
  · subst c_22
    by_cases c_23 : x1 = 0
    · subst c_23
      refine lv_aload_n hx hb dX11_orders_0 rfl (lv_at hl 0 rfl) ?_
      refine va_get (D := (dC, dI)) (ci := 11) (v := .ref a5) (C := RX11) (T := TX11) (N := 19) hx hb hU inlX11 hown hK hP 0 rfl rfl 5 (by decide) (hU _ wd_25) (fun _ h9 => h9) rfl dX11_orders_1 ?_
      refine va_get (D := (dC, dI)) (ci := 6) (v := .int 0) (C := RX6) (T := TX6) (N := 9) hx hb hU inlX6 hown hK hP 3 rfl rfl 0 (by decide) (hU _ wd_677) (fun _ h9 => h9) rfl dX11_orders_4 ?_
      refine tk_ri (wr := [(a0, .inr (11, [.ref a1, .int 0, .ref a2, .ref a3, .ref a4, .ref a5, .ref a6, .ref a7, .int 0, .ref a8, .ref a9, .ref a10, .int 0, .int (-1), .ref a11, .int 0, .ref a12, .ref a13, .int 0])), (a2, .inr (3, [.ref a3, .ref a4, .ref a14, .ref a15, .ref a16, .int 0, .int 0, .int 0, .int 0, .int 0, .int 0, .int (-1), .ref a17, .ref a18, .ref a19, .int 0, .ref a20, .ref a21])), (a3, .inr (7, [.ref a22, .int 0, .ref a23, .ref a24, .ref a25, .ref a26, .int 0, .ref a27, .ref a28, .ref a29, .ref a30, .ref a31, .int 0, .ref a32, .ref a33, .ref a34])), (a5, .inr (6, [.int 0, .int 1, .ref a35, .ref a36, .ref a37, .int 0, .ref a38, .ref a39, .ref a40])), (a9, .inr (0, [.ref a41, .ref a42, .ref a43, .int 0, .ref a44, .ref a45, .ref a46, .int 0, .ref a47, .int 0, .int (-1)])), (a42, .inl (cI, 5329, .inl z0)), (a44, .inl (cI, 6, .inl z0)), (a45, .inl (cI, 511, .inl z0)), (a46, .inl (cI, 6, .inl z0))]) (tk_S (As := [.int 0]) (rest := []) (n := 1) hx hb hml hown hU hN (cc_J6_bitCount_0f7a4_0 l (dC, dI) cI cL cZ s.heap.size ) wd_1183 wd_1184 wd_1185 wd_1186 (by decide +kernel) ⟨Nat.le_of_ble_eq_true rfl, Nat.le_of_ble_eq_true rfl⟩ hK hP hD [] (by decide) rfl rfl hl.1 rfl (Nat.le_of_ble_eq_true rfl) dX11_orders_7 ⟨Nat.le_of_ble_eq_true rfl, Nat.le_of_ble_eq_true rfl⟩) hP hD hS hA [] [0, 1, 2, 3, 4, 5, 6, 7, 8] rfl rfl (by decide) (by decide) (fun r_24 w_25 H locs hw hP hD hS => ?_)
      obtain ⟨rfl, rfl⟩ := hw
      have hP : va_P (dC, dI) vwCl [(a0, .inr (11, [.ref a1, .int 0, .ref a2, .ref a3, .ref a4, .ref a5, .ref a6, .ref a7, .int 0, .ref a8, .ref a9, .ref a10, .int 0, .int (-1), .ref a11, .int 0, .ref a12, .ref a13, .int 0])), (a2, .inr (3, [.ref a3, .ref a4, .ref a14, .ref a15, .ref a16, .int 0, .int 0, .int 0, .int 0, .int 0, .int 0, .int (-1), .ref a17, .ref a18, .ref a19, .int 0, .ref a20, .ref a21])), (a3, .inr (7, [.ref a22, .int 0, .ref a23, .ref a24, .ref a25, .ref a26, .int 0, .ref a27, .ref a28, .ref a29, .ref a30, .ref a31, .int 0, .ref a32, .ref a33, .ref a34])), (a5, .inr (6, [.int 0, .int 1, .ref a35, .ref a36, .ref a37, .int 0, .ref a38, .ref a39, .ref a40])), (a9, .inr (0, [.ref a41, .ref a42, .ref a43, .int 0, .ref a44, .ref a45, .ref a46, .int 0, .ref a47, .int 0, .int (-1)])), (a42, .inl (cI, 5329, .inl z0)), (a44, .inl (cI, 6, .inl z0)), (a45, .inl (cI, 511, .inl z0)), (a46, .inl (cI, 6, .inl z0))] H := hP
      have hD : va_D A [(a0, .inr (11, [.ref a1, .int 0, .ref a2, .ref a3, .ref a4, .ref a5, .ref a6, .ref a7, .int 0, .ref a8, .ref a9, .ref a10, .int 0, .int (-1), .ref a11, .int 0, .ref a12, .ref a13, .int 0])), (a2, .inr (3, [.ref a3, .ref a4, .ref a14, .ref a15, .ref a16, .int 0, .int 0, .int 0, .int 0, .int 0, .int 0, .int (-1), .ref a17, .ref a18, .ref a19, .int 0, .ref a20, .ref a21])), (a3, .inr (7, [.ref a22, .int 0, .ref a23, .ref a24, .ref a25, .ref a26, .int 0, .ref a27, .ref a28, .ref a29, .ref a30, .ref a31, .int 0, .ref a32, .ref a33, .ref a34])), (a5, .inr (6, [.int 0, .int 1, .ref a35, .ref a36, .ref a37, .int 0, .ref a38, .ref a39, .ref a40])), (a9, .inr (0, [.ref a41, .ref a42, .ref a43, .int 0, .ref a44, .ref a45, .ref a46, .int 0, .ref a47, .int 0, .int (-1)])), (a42, .inl (cI, 5329, .inl z0)), (a44, .inl (cI, 6, .inl z0)), (a45, .inl (cI, 511, .inl z0)), (a46, .inl (cI, 6, .inl z0))] := hD
      refine lv_istore_n (lv' := [(3, .int 0), (0, .ref a0), (1, .int 2), (2, .int 0)]) hx hb dX11_orders_10 rfl hl (by decide) rfl (fun ls hl => ?_)
      refine lv_iload_n hx hb dX11_orders_11 rfl (lv_at hl 3 rfl) ?_
      refine lv_bipush (v := 10) hx hb dX11_orders_12 (by decide) ?_
      refine lv_icmp_lt (tgt := 29) hx hb dX11_orders_14 (by decide) (fun _ => ?_) (fun c9 => absurd (by decide) c9) 
      refine lv_iconst (v := 0) hx hb dX11_orders_29 (by decide) ?_
      refine lv_istore (lv' := [(4, .int 0), (3, .int 0), (0, .ref a0), (1, .int 2), (2, .int 0)]) hx hb dX11_orders_30 hl (by decide) rfl (fun ls hl => ?_)
      refine lv_iload_n hx hb dX11_orders_32 rfl (lv_at hl 3 rfl) ?_
      refine lv_iconst (v := 1) hx hb dX11_orders_33 (by decide) ?_
      refine lv_icmp_lt (tgt := 62) hx hb dX11_orders_34 (by decide) (fun c9 => absurd c9 (by decide)) (fun _ => ?_)
      refine lv_iload_n hx hb dX11_orders_37 rfl (lv_at hl 3 rfl) ?_
      refine lv_iconst (v := 2) hx hb dX11_orders_38 (by decide) ?_
      refine lv_icmp_gt (tgt := 62) hx hb dX11_orders_39 (by decide) (fun c9 => absurd c9 (by decide)) (fun _ => ?_)
      refine lv_iload_n hx hb dX11_orders_42 rfl (lv_at hl 1 rfl) ?_
      refine lv_bipush (v := 6) hx hb dX11_orders_43 (by decide) ?_
      refine lv_icmp_gt (tgt := 62) hx hb dX11_orders_45 (by decide) (fun c9 => absurd c9 (by decide)) (fun _ => ?_)
      refine lv_iload_n hx hb dX11_orders_48 rfl (lv_at hl 4 rfl) ?_
      refine lv_if_eq (tgt := 64) hx hb dX11_orders_49 (by decide) (fun _ => ?_) (fun c9 => absurd (by decide) c9) 
      refine lv_aload_n hx hb dX11_orders_64 rfl (lv_at hl 2 rfl) ?_
      refine va_get (D := (dC, dI)) (ci := 11) (v := .ref a9) (C := RX11) (T := TX11) (N := 19) hx hb hU inlX11 hown hK hP 0 rfl rfl 10 (by decide) (hU _ wd_38) (fun _ h9 => h9) rfl dX11_orders_65 ?_
      refine lv_iload_n hx hb dX11_orders_68 rfl (lv_at hl 3 rfl) ?_
      refine lv_aload_n hx hb dX11_orders_69 rfl (lv_at hl 2 rfl) ?_
      refine va_get (D := (dC, dI)) (ci := 11) (v := .ref a2) (C := RX11) (T := TX11) (N := 19) hx hb hU inlX11 hown hK hP 0 rfl rfl 2 (by decide) (hU _ wd_17) (fun _ h9 => h9) rfl dX11_orders_70 ?_
      refine lv_aload_n hx hb dX11_orders_73 rfl (lv_at hl 2 rfl) ?_
      refine va_get (D := (dC, dI)) (ci := 11) (v := .ref a5) (C := RX11) (T := TX11) (N := 19) hx hb hU inlX11 hown hK hP 0 rfl rfl 5 (by decide) (hU _ wd_25) (fun _ h9 => h9) rfl dX11_orders_74 ?_
      refine lv_aload_n hx hb dX11_orders_77 rfl (lv_at hl 2 rfl) ?_
      refine va_get (D := (dC, dI)) (ci := 11) (v := .int 0) (C := RX11) (T := TX11) (N := 19) hx hb hU inlX11 hown hK hP 0 rfl rfl 18 (by decide) (hU _ wd_236) (fun _ h9 => h9) rfl dX11_orders_78 ?_
      refine tk_rv (wr := [(a0, .inr (11, [.ref a1, .int 0, .ref a2, .ref a3, .ref a4, .ref a5, .ref a6, .ref a7, .int 0, .ref a8, .ref a9, .ref a10, .int 0, .int (-1), .ref a11, .int 0, .ref a12, .ref a13, .int 0])), (a5, .inr (6, [.int 0, .int 1, .ref a35, .ref a36, .ref a37, .int 0, .ref a38, .ref a39, .ref a40]))]) (tk_V (As := [.int 2, .ref a2, .ref a5, .int 0]) (rest := []) (n := 4) hx hb hml hown hU hN (cc_X0_refresh_1 l (dC, dI) cI cL cZ H.size a9 a2 a5 a3 a4 a14 a15 a16 a17 a18 a19 a20 a21 a22 a23 a24 a25 a26 a27 a28 a29 a30 a31 a32 a33 a34 a41 a42 a43 a44 a45 a46 a47) wd_1190 wd_1191 wd_1192 wd_37 wd_1193 (by decide +kernel) ⟨Nat.le_of_ble_eq_true rfl, Nat.le_of_ble_eq_true rfl⟩ hK hP hD [1, 2, 4, 5, 6, 7, 8] (by decide) rfl 2 0 rfl rfl rfl rfl hl.1 rfl (Nat.le_of_ble_eq_true rfl) dX11_orders_81 ⟨Nat.le_of_ble_eq_true rfl, Nat.le_of_ble_eq_true rfl⟩) hP hD hS hA [1, 2, 4, 5, 6, 7, 8] [0, 3] rfl rfl (by decide) (by decide) (fun w_27 H locs hw hP hD hS => ?_)
      subst hw
      have hP : va_P (dC, dI) vwCl [(a0, .inr (11, [.ref a1, .int 0, .ref a2, .ref a3, .ref a4, .ref a5, .ref a6, .ref a7, .int 0, .ref a8, .ref a9, .ref a10, .int 0, .int (-1), .ref a11, .int 0, .ref a12, .ref a13, .int 0])), (a5, .inr (6, [.int 0, .int 1, .ref a35, .ref a36, .ref a37, .int 0, .ref a38, .ref a39, .ref a40])), (a2, .inr (3, [.ref a3, .ref a4, .ref a14, .ref a15, .ref a16, .int 0, .int 0, .int 0, .int 0, .int 0, .int 0, .int (-1), .ref a17, .ref a18, .ref a19, .int 0, .ref a20, .ref a21])), (a3, .inr (7, [.ref a22, .int 0, .ref a23, .ref a24, .ref a25, .ref a26, .int 0, .ref a27, .ref a28, .ref a29, .ref a30, .ref a31, .int 0, .ref a32, .ref a33, .ref a34])), (a44, .inl (cI, 6, .inl z0)), (a45, .inl (cI, 511, .inl (stg 73))), (a46, .inl (cI, 6, .inl z0)), (a9, .inr (0, [.ref a41, .ref a42, .ref a43, .int 0, .ref a44, .ref a45, .ref a46, .int 0, .ref a47, .int 2, .int 0])), (a42, .inl (cI, 5329, .inl z0))] H := hP
      have hD : va_D A [(a0, .inr (11, [.ref a1, .int 0, .ref a2, .ref a3, .ref a4, .ref a5, .ref a6, .ref a7, .int 0, .ref a8, .ref a9, .ref a10, .int 0, .int (-1), .ref a11, .int 0, .ref a12, .ref a13, .int 0])), (a5, .inr (6, [.int 0, .int 1, .ref a35, .ref a36, .ref a37, .int 0, .ref a38, .ref a39, .ref a40])), (a2, .inr (3, [.ref a3, .ref a4, .ref a14, .ref a15, .ref a16, .int 0, .int 0, .int 0, .int 0, .int 0, .int 0, .int (-1), .ref a17, .ref a18, .ref a19, .int 0, .ref a20, .ref a21])), (a3, .inr (7, [.ref a22, .int 0, .ref a23, .ref a24, .ref a25, .ref a26, .int 0, .ref a27, .ref a28, .ref a29, .ref a30, .ref a31, .int 0, .ref a32, .ref a33, .ref a34])), (a44, .inl (cI, 6, .inl z0)), (a45, .inl (cI, 511, .inl (stg 73))), (a46, .inl (cI, 6, .inl z0)), (a9, .inr (0, [.ref a41, .ref a42, .ref a43, .int 0, .ref a44, .ref a45, .ref a46, .int 0, .ref a47, .int 2, .int 0])), (a42, .inl (cI, 5329, .inl z0))] := hD
      refine lv_iload hx hb dX11_orders_84 (lv_at hl 0 rfl) ?_
      refine lv_if_eq (tgt := 102) hx hb dX11_orders_86 (by decide) (fun _ => ?_) (fun c9 => absurd (by decide) c9) 
      refine lv_iload_n hx hb dX11_orders_102 rfl (lv_at hl 4 rfl) ?_
      refine lv_if_ne (tgt := 116) hx hb dX11_orders_103 (by decide) (fun c9 => absurd (by decide) c9) (fun _ => ?_)
      refine lv_aload_n hx hb dX11_orders_106 rfl (lv_at hl 2 rfl) ?_
      refine va_get (D := (dC, dI)) (ci := 11) (v := .ref a9) (C := RX11) (T := TX11) (N := 19) hx hb hU inlX11 hown hK hP 0 rfl rfl 10 (by decide) (hU _ wd_38) (fun _ h9 => h9) rfl dX11_orders_107 ?_
      refine va_get (D := (dC, dI)) (ci := 0) (v := .int 0) (C := RX0) (T := TX0) (N := 11) hx hb hU inlX0 hown hK hP 7 rfl rfl 7 (by decide) (hU _ wd_1182) (fun _ h9 => h9) rfl dX11_orders_110 ?_
      refine lv_goto (tgt := 130) hx hb dX11_orders_113 (by decide) ?_
      have hP9 := hP.sub (ws' := []) [] rfl
      have hD9 := hD.sub (ws' := []) [] (by decide) rfl
      refine W.widen (k := 0) (n := 0) (Nat.le_of_ble_eq_true rfl) (Nat.le_of_ble_eq_true rfl) ?_
      exact W.iret (v := 0) hx hb hr (fun t ht hW => ⟨⟨0, [], rfl, ⟨by decide, rfl⟩, by rw [ht]; exact hP9, va_K.moved hW.alike hK, hD9⟩, hS.F ht⟩) hS.2.2 dX11_orders_130
    by_cases c_28 : x1 = 1
    · subst c_28
      refine lv_aload_n hx hb dX11_orders_0 rfl (lv_at hl 0 rfl) ?_
      refine va_get (D := (dC, dI)) (ci := 11) (v := .ref a5) (C := RX11) (T := TX11) (N := 19) hx hb hU inlX11 hown hK hP 0 rfl rfl 5 (by decide) (hU _ wd_25) (fun _ h9 => h9) rfl dX11_orders_1 ?_
      refine va_get (D := (dC, dI)) (ci := 6) (v := .int 0) (C := RX6) (T := TX6) (N := 9) hx hb hU inlX6 hown hK hP 3 rfl rfl 0 (by decide) (hU _ wd_677) (fun _ h9 => h9) rfl dX11_orders_4 ?_
      refine tk_ri (wr := [(a0, .inr (11, [.ref a1, .int 0, .ref a2, .ref a3, .ref a4, .ref a5, .ref a6, .ref a7, .int 0, .ref a8, .ref a9, .ref a10, .int 0, .int (-1), .ref a11, .int 0, .ref a12, .ref a13, .int 0])), (a2, .inr (3, [.ref a3, .ref a4, .ref a14, .ref a15, .ref a16, .int 0, .int 0, .int 0, .int 0, .int 0, .int 0, .int (-1), .ref a17, .ref a18, .ref a19, .int 0, .ref a20, .ref a21])), (a3, .inr (7, [.ref a22, .int 0, .ref a23, .ref a24, .ref a25, .ref a26, .int 0, .ref a27, .ref a28, .ref a29, .ref a30, .ref a31, .int 0, .ref a32, .ref a33, .ref a34])), (a5, .inr (6, [.int 0, .int 1, .ref a35, .ref a36, .ref a37, .int 0, .ref a38, .ref a39, .ref a40])), (a9, .inr (0, [.ref a41, .ref a42, .ref a43, .int 0, .ref a44, .ref a45, .ref a46, .int 0, .ref a47, .int 0, .int (-1)])), (a42, .inl (cI, 5329, .inl z0)), (a44, .inl (cI, 6, .inl z0)), (a45, .inl (cI, 511, .inl z0)), (a46, .inl (cI, 6, .inl z0))]) (tk_S (As := [.int 0]) (rest := []) (n := 1) hx hb hml hown hU hN (cc_J6_bitCount_0f7a4_0 l (dC, dI) cI cL cZ s.heap.size ) wd_1183 wd_1184 wd_1185 wd_1186 (by decide +kernel) ⟨Nat.le_of_ble_eq_true rfl, Nat.le_of_ble_eq_true rfl⟩ hK hP hD [] (by decide) rfl rfl hl.1 rfl (Nat.le_of_ble_eq_true rfl) dX11_orders_7 ⟨Nat.le_of_ble_eq_true rfl, Nat.le_of_ble_eq_true rfl⟩) hP hD hS hA [] [0, 1, 2, 3, 4, 5, 6, 7, 8] rfl rfl (by decide) (by decide) (fun r_29 w_30 H locs hw hP hD hS => ?_)
      obtain ⟨rfl, rfl⟩ := hw
      have hP : va_P (dC, dI) vwCl [(a0, .inr (11, [.ref a1, .int 0, .ref a2, .ref a3, .ref a4, .ref a5, .ref a6, .ref a7, .int 0, .ref a8, .ref a9, .ref a10, .int 0, .int (-1), .ref a11, .int 0, .ref a12, .ref a13, .int 0])), (a2, .inr (3, [.ref a3, .ref a4, .ref a14, .ref a15, .ref a16, .int 0, .int 0, .int 0, .int 0, .int 0, .int 0, .int (-1), .ref a17, .ref a18, .ref a19, .int 0, .ref a20, .ref a21])), (a3, .inr (7, [.ref a22, .int 0, .ref a23, .ref a24, .ref a25, .ref a26, .int 0, .ref a27, .ref a28, .ref a29, .ref a30, .ref a31, .int 0, .ref a32, .ref a33, .ref a34])), (a5, .inr (6, [.int 0, .int 1, .ref a35, .ref a36, .ref a37, .int 0, .ref a38, .ref a39, .ref a40])), (a9, .inr (0, [.ref a41, .ref a42, .ref a43, .int 0, .ref a44, .ref a45, .ref a46, .int 0, .ref a47, .int 0, .int (-1)])), (a42, .inl (cI, 5329, .inl z0)), (a44, .inl (cI, 6, .inl z0)), (a45, .inl (cI, 511, .inl z0)), (a46, .inl (cI, 6, .inl z0))] H := hP
      have hD : va_D A [(a0, .inr (11, [.ref a1, .int 0, .ref a2, .ref a3, .ref a4, .ref a5, .ref a6, .ref a7, .int 0, .ref a8, .ref a9, .ref a10, .int 0, .int (-1), .ref a11, .int 0, .ref a12, .ref a13, .int 0])), (a2, .inr (3, [.ref a3, .ref a4, .ref a14, .ref a15, .ref a16, .int 0, .int 0, .int 0, .int 0, .int 0, .int 0, .int (-1), .ref a17, .ref a18, .ref a19, .int 0, .ref a20, .ref a21])), (a3, .inr (7, [.ref a22, .int 0, .ref a23, .ref a24, .ref a25, .ref a26, .int 0, .ref a27, .ref a28, .ref a29, .ref a30, .ref a31, .int 0, .ref a32, .ref a33, .ref a34])), (a5, .inr (6, [.int 0, .int 1, .ref a35, .ref a36, .ref a37, .int 0, .ref a38, .ref a39, .ref a40])), (a9, .inr (0, [.ref a41, .ref a42, .ref a43, .int 0, .ref a44, .ref a45, .ref a46, .int 0, .ref a47, .int 0, .int (-1)])), (a42, .inl (cI, 5329, .inl z0)), (a44, .inl (cI, 6, .inl z0)), (a45, .inl (cI, 511, .inl z0)), (a46, .inl (cI, 6, .inl z0))] := hD
      refine lv_istore_n (lv' := [(3, .int 0), (0, .ref a0), (1, .int 2), (2, .int 1)]) hx hb dX11_orders_10 rfl hl (by decide) rfl (fun ls hl => ?_)
      refine lv_iload_n hx hb dX11_orders_11 rfl (lv_at hl 3 rfl) ?_
      refine lv_bipush (v := 10) hx hb dX11_orders_12 (by decide) ?_
      refine lv_icmp_lt (tgt := 29) hx hb dX11_orders_14 (by decide) (fun _ => ?_) (fun c9 => absurd (by decide) c9) 
      refine lv_iconst (v := 0) hx hb dX11_orders_29 (by decide) ?_
      refine lv_istore (lv' := [(4, .int 0), (3, .int 0), (0, .ref a0), (1, .int 2), (2, .int 1)]) hx hb dX11_orders_30 hl (by decide) rfl (fun ls hl => ?_)
      refine lv_iload_n hx hb dX11_orders_32 rfl (lv_at hl 3 rfl) ?_
      refine lv_iconst (v := 1) hx hb dX11_orders_33 (by decide) ?_
      refine lv_icmp_lt (tgt := 62) hx hb dX11_orders_34 (by decide) (fun c9 => absurd c9 (by decide)) (fun _ => ?_)
      refine lv_iload_n hx hb dX11_orders_37 rfl (lv_at hl 3 rfl) ?_
      refine lv_iconst (v := 2) hx hb dX11_orders_38 (by decide) ?_
      refine lv_icmp_gt (tgt := 62) hx hb dX11_orders_39 (by decide) (fun c9 => absurd c9 (by decide)) (fun _ => ?_)
      refine lv_iload_n hx hb dX11_orders_42 rfl (lv_at hl 1 rfl) ?_
      refine lv_bipush (v := 6) hx hb dX11_orders_43 (by decide) ?_
      refine lv_icmp_gt (tgt := 62) hx hb dX11_orders_45 (by decide) (fun c9 => absurd c9 (by decide)) (fun _ => ?_)
      refine lv_iload_n hx hb dX11_orders_48 rfl (lv_at hl 4 rfl) ?_
      refine lv_if_eq (tgt := 64) hx hb dX11_orders_49 (by decide) (fun c9 => absurd c9 (by decide)) (fun _ => ?_)
      refine lv_iload_n hx hb dX11_orders_52 rfl (lv_at hl 4 rfl) ?_
      refine lv_iconst (v := 1) hx hb dX11_orders_53 (by decide) ?_
      refine lv_icmp_eq (tgt := 64) hx hb dX11_orders_54 (by decide) (fun _ => ?_) (fun c9 => absurd (by decide) c9) 
      refine lv_aload_n hx hb dX11_orders_64 rfl (lv_at hl 2 rfl) ?_
      refine va_get (D := (dC, dI)) (ci := 11) (v := .ref a9) (C := RX11) (T := TX11) (N := 19) hx hb hU inlX11 hown hK hP 0 rfl rfl 10 (by decide) (hU _ wd_38) (fun _ h9 => h9) rfl dX11_orders_65 ?_
      refine lv_iload_n hx hb dX11_orders_68 rfl (lv_at hl 3 rfl) ?_
      refine lv_aload_n hx hb dX11_orders_69 rfl (lv_at hl 2 rfl) ?_
      refine va_get (D := (dC, dI)) (ci := 11) (v := .ref a2) (C := RX11) (T := TX11) (N := 19) hx hb hU inlX11 hown hK hP 0 rfl rfl 2 (by decide) (hU _ wd_17) (fun _ h9 => h9) rfl dX11_orders_70 ?_
      refine lv_aload_n hx hb dX11_orders_73 rfl (lv_at hl 2 rfl) ?_
      refine va_get (D := (dC, dI)) (ci := 11) (v := .ref a5) (C := RX11) (T := TX11) (N := 19) hx hb hU inlX11 hown hK hP 0 rfl rfl 5 (by decide) (hU _ wd_25) (fun _ h9 => h9) rfl dX11_orders_74 ?_
      refine lv_aload_n hx hb dX11_orders_77 rfl (lv_at hl 2 rfl) ?_
      refine va_get (D := (dC, dI)) (ci := 11) (v := .int 0) (C := RX11) (T := TX11) (N := 19) hx hb hU inlX11 hown hK hP 0 rfl rfl 18 (by decide) (hU _ wd_236) (fun _ h9 => h9) rfl dX11_orders_78 ?_
      refine tk_rv (wr := [(a0, .inr (11, [.ref a1, .int 0, .ref a2, .ref a3, .ref a4, .ref a5, .ref a6, .ref a7, .int 0, .ref a8, .ref a9, .ref a10, .int 0, .int (-1), .ref a11, .int 0, .ref a12, .ref a13, .int 0])), (a5, .inr (6, [.int 0, .int 1, .ref a35, .ref a36, .ref a37, .int 0, .ref a38, .ref a39, .ref a40]))]) (tk_V (As := [.int 2, .ref a2, .ref a5, .int 0]) (rest := []) (n := 4) hx hb hml hown hU hN (cc_X0_refresh_1 l (dC, dI) cI cL cZ H.size a9 a2 a5 a3 a4 a14 a15 a16 a17 a18 a19 a20 a21 a22 a23 a24 a25 a26 a27 a28 a29 a30 a31 a32 a33 a34 a41 a42 a43 a44 a45 a46 a47) wd_1190 wd_1191 wd_1192 wd_37 wd_1193 (by decide +kernel) ⟨Nat.le_of_ble_eq_true rfl, Nat.le_of_ble_eq_true rfl⟩ hK hP hD [1, 2, 4, 5, 6, 7, 8] (by decide) rfl 2 0 rfl rfl rfl rfl hl.1 rfl (Nat.le_of_ble_eq_true rfl) dX11_orders_81 ⟨Nat.le_of_ble_eq_true rfl, Nat.le_of_ble_eq_true rfl⟩) hP hD hS hA [1, 2, 4, 5, 6, 7, 8] [0, 3] rfl rfl (by decide) (by decide) (fun w_32 H locs hw hP hD hS => ?_)
      subst hw
      have hP : va_P (dC, dI) vwCl [(a0, .inr (11, [.ref a1, .int 0, .ref a2, .ref a3, .ref a4, .ref a5, .ref a6, .ref a7, .int 0, .ref a8, .ref a9, .ref a10, .int 0, .int (-1), .ref a11, .int 0, .ref a12, .ref a13, .int 0])), (a5, .inr (6, [.int 0, .int 1, .ref a35, .ref a36, .ref a37, .int 0, .ref a38, .ref a39, .ref a40])), (a2, .inr (3, [.ref a3, .ref a4, .ref a14, .ref a15, .ref a16, .int 0, .int 0, .int 0, .int 0, .int 0, .int 0, .int (-1), .ref a17, .ref a18, .ref a19, .int 0, .ref a20, .ref a21])), (a3, .inr (7, [.ref a22, .int 0, .ref a23, .ref a24, .ref a25, .ref a26, .int 0, .ref a27, .ref a28, .ref a29, .ref a30, .ref a31, .int 0, .ref a32, .ref a33, .ref a34])), (a44, .inl (cI, 6, .inl z0)), (a45, .inl (cI, 511, .inl (stg 73))), (a46, .inl (cI, 6, .inl z0)), (a9, .inr (0, [.ref a41, .ref a42, .ref a43, .int 0, .ref a44, .ref a45, .ref a46, .int 0, .ref a47, .int 2, .int 0])), (a42, .inl (cI, 5329, .inl z0))] H := hP
      have hD : va_D A [(a0, .inr (11, [.ref a1, .int 0, .ref a2, .ref a3, .ref a4, .ref a5, .ref a6, .ref a7, .int 0, .ref a8, .ref a9, .ref a10, .int 0, .int (-1), .ref a11, .int 0, .ref a12, .ref a13, .int 0])), (a5, .inr (6, [.int 0, .int 1, .ref a35, .ref a36, .ref a37, .int 0, .ref a38, .ref a39, .ref a40])), (a2, .inr (3, [.ref a3, .ref a4, .ref a14, .ref a15, .ref a16, .int 0, .int 0, .int 0, .int 0, .int 0, .int 0, .int (-1), .ref a17, .ref a18, .ref a19, .int 0, .ref a20, .ref a21])), (a3, .inr (7, [.ref a22, .int 0, .ref a23, .ref a24, .ref a25, .ref a26, .int 0, .ref a27, .ref a28, .ref a29, .ref a30, .ref a31, .int 0, .ref a32, .ref a33, .ref a34])), (a44, .inl (cI, 6, .inl z0)), (a45, .inl (cI, 511, .inl (stg 73))), (a46, .inl (cI, 6, .inl z0)), (a9, .inr (0, [.ref a41, .ref a42, .ref a43, .int 0, .ref a44, .ref a45, .ref a46, .int 0, .ref a47, .int 2, .int 0])), (a42, .inl (cI, 5329, .inl z0))] := hD
      refine lv_iload hx hb dX11_orders_84 (lv_at hl 0 rfl) ?_
      refine lv_if_eq (tgt := 102) hx hb dX11_orders_86 (by decide) (fun _ => ?_) (fun c9 => absurd (by decide) c9) 
      refine lv_iload_n hx hb dX11_orders_102 rfl (lv_at hl 4 rfl) ?_
      refine lv_if_ne (tgt := 116) hx hb dX11_orders_103 (by decide) (fun _ => ?_) (fun c9 => absurd c9 (by decide)) 
      refine lv_aload_n hx hb dX11_orders_116 rfl (lv_at hl 2 rfl) ?_
      refine va_get (D := (dC, dI)) (ci := 11) (v := .ref a9) (C := RX11) (T := TX11) (N := 19) hx hb hU inlX11 hown hK hP 0 rfl rfl 10 (by decide) (hU _ wd_38) (fun _ h9 => h9) rfl dX11_orders_117 ?_
      refine lv_aload_n hx hb dX11_orders_120 rfl (lv_at hl 2 rfl) ?_
      refine va_get (D := (dC, dI)) (ci := 11) (v := .ref a3) (C := RX11) (T := TX11) (N := 19) hx hb hU inlX11 hown hK hP 0 rfl rfl 3 (by decide) (hU _ wd_19) (fun _ h9 => h9) rfl dX11_orders_121 ?_
      refine va_get (D := (dC, dI)) (ci := 7) (v := .int 0) (C := RX7) (T := TX7) (N := 16) hx hb hU inlX7 hown hK hP 3 rfl rfl 1 (by decide) (hU _ wd_1151) (fun _ h9 => h9) rfl dX11_orders_124 ?_
      refine tk_ri (wr := [(a0, .inr (11, [.ref a1, .int 0, .ref a2, .ref a3, .ref a4, .ref a5, .ref a6, .ref a7, .int 0, .ref a8, .ref a9, .ref a10, .int 0, .int (-1), .ref a11, .int 0, .ref a12, .ref a13, .int 0])), (a5, .inr (6, [.int 0, .int 1, .ref a35, .ref a36, .ref a37, .int 0, .ref a38, .ref a39, .ref a40])), (a2, .inr (3, [.ref a3, .ref a4, .ref a14, .ref a15, .ref a16, .int 0, .int 0, .int 0, .int 0, .int 0, .int 0, .int (-1), .ref a17, .ref a18, .ref a19, .int 0, .ref a20, .ref a21])), (a3, .inr (7, [.ref a22, .int 0, .ref a23, .ref a24, .ref a25, .ref a26, .int 0, .ref a27, .ref a28, .ref a29, .ref a30, .ref a31, .int 0, .ref a32, .ref a33, .ref a34])), (a44, .inl (cI, 6, .inl z0)), (a45, .inl (cI, 511, .inl (stg 73))), (a46, .inl (cI, 6, .inl z0)), (a42, .inl (cI, 5329, .inl z0))]) (tk_V (As := [.int 0]) (rest := []) (n := 1) hx hb hml hown hU hN (cc_X0_wordCount_1 l (dC, dI) cI cL cZ H.size a9 a41 a42 a43 a44 a45 a46 a47) wd_1233 wd_1234 wd_1235 wd_37 wd_1236 (by decide +kernel) ⟨Nat.le_of_ble_eq_true rfl, Nat.le_of_ble_eq_true rfl⟩ hK hP hD [7] (by decide) rfl 0 0 rfl rfl rfl rfl hl.1 rfl (Nat.le_of_ble_eq_true rfl) dX11_orders_127 ⟨Nat.le_of_ble_eq_true rfl, Nat.le_of_ble_eq_true rfl⟩) hP hD hS hA [7] [0, 1, 2, 3, 4, 5, 6, 8] rfl rfl (by decide) (by decide) (fun r_33 w_34 H locs hw hP hD hS => ?_)
      obtain ⟨rfl, rfl⟩ := hw
      have hP : va_P (dC, dI) vwCl [(a0, .inr (11, [.ref a1, .int 0, .ref a2, .ref a3, .ref a4, .ref a5, .ref a6, .ref a7, .int 0, .ref a8, .ref a9, .ref a10, .int 0, .int (-1), .ref a11, .int 0, .ref a12, .ref a13, .int 0])), (a5, .inr (6, [.int 0, .int 1, .ref a35, .ref a36, .ref a37, .int 0, .ref a38, .ref a39, .ref a40])), (a2, .inr (3, [.ref a3, .ref a4, .ref a14, .ref a15, .ref a16, .int 0, .int 0, .int 0, .int 0, .int 0, .int 0, .int (-1), .ref a17, .ref a18, .ref a19, .int 0, .ref a20, .ref a21])), (a3, .inr (7, [.ref a22, .int 0, .ref a23, .ref a24, .ref a25, .ref a26, .int 0, .ref a27, .ref a28, .ref a29, .ref a30, .ref a31, .int 0, .ref a32, .ref a33, .ref a34])), (a44, .inl (cI, 6, .inl z0)), (a45, .inl (cI, 511, .inl (stg 73))), (a46, .inl (cI, 6, .inl z0)), (a42, .inl (cI, 5329, .inl z0)), (a9, .inr (0, [.ref a41, .ref a42, .ref a43, .int 0, .ref a44, .ref a45, .ref a46, .int 0, .ref a47, .int 2, .int 0]))] H := hP
      have hD : va_D A [(a0, .inr (11, [.ref a1, .int 0, .ref a2, .ref a3, .ref a4, .ref a5, .ref a6, .ref a7, .int 0, .ref a8, .ref a9, .ref a10, .int 0, .int (-1), .ref a11, .int 0, .ref a12, .ref a13, .int 0])), (a5, .inr (6, [.int 0, .int 1, .ref a35, .ref a36, .ref a37, .int 0, .ref a38, .ref a39, .ref a40])), (a2, .inr (3, [.ref a3, .ref a4, .ref a14, .ref a15, .ref a16, .int 0, .int 0, .int 0, .int 0, .int 0, .int 0, .int (-1), .ref a17, .ref a18, .ref a19, .int 0, .ref a20, .ref a21])), (a3, .inr (7, [.ref a22, .int 0, .ref a23, .ref a24, .ref a25, .ref a26, .int 0, .ref a27, .ref a28, .ref a29, .ref a30, .ref a31, .int 0, .ref a32, .ref a33, .ref a34])), (a44, .inl (cI, 6, .inl z0)), (a45, .inl (cI, 511, .inl (stg 73))), (a46, .inl (cI, 6, .inl z0)), (a42, .inl (cI, 5329, .inl z0)), (a9, .inr (0, [.ref a41, .ref a42, .ref a43, .int 0, .ref a44, .ref a45, .ref a46, .int 0, .ref a47, .int 2, .int 0]))] := hD
      have hP9 := hP.sub (ws' := []) [] rfl
      have hD9 := hD.sub (ws' := []) [] (by decide) rfl
      refine W.widen (k := 0) (n := 0) (Nat.le_of_ble_eq_true rfl) (Nat.le_of_ble_eq_true rfl) ?_
      exact W.iret (v := 0) hx hb hr (fun t ht hW => ⟨⟨0, [], rfl, ⟨by decide, rfl⟩, by rw [ht]; exact hP9, va_K.moved hW.alike hK, hD9⟩, hS.F ht⟩) hS.2.2 dX11_orders_130
    refine lv_aload_n hx hb dX11_orders_0 rfl (lv_at hl 0 rfl) ?_
    refine va_get (D := (dC, dI)) (ci := 11) (v := .ref a5) (C := RX11) (T := TX11) (N := 19) hx hb hU inlX11 hown hK hP 0 rfl rfl 5 (by decide) (hU _ wd_25) (fun _ h9 => h9) rfl dX11_orders_1 ?_
    refine va_get (D := (dC, dI)) (ci := 6) (v := .int 0) (C := RX6) (T := TX6) (N := 9) hx hb hU inlX6 hown hK hP 3 rfl rfl 0 (by decide) (hU _ wd_677) (fun _ h9 => h9) rfl dX11_orders_4 ?_
    refine tk_ri (wr := [(a0, .inr (11, [.ref a1, .int 0, .ref a2, .ref a3, .ref a4, .ref a5, .ref a6, .ref a7, .int 0, .ref a8, .ref a9, .ref a10, .int 0, .int (-1), .ref a11, .int 0, .ref a12, .ref a13, .int 0])), (a2, .inr (3, [.ref a3, .ref a4, .ref a14, .ref a15, .ref a16, .int 0, .int 0, .int 0, .int 0, .int 0, .int 0, .int (-1), .ref a17, .ref a18, .ref a19, .int 0, .ref a20, .ref a21])), (a3, .inr (7, [.ref a22, .int 0, .ref a23, .ref a24, .ref a25, .ref a26, .int 0, .ref a27, .ref a28, .ref a29, .ref a30, .ref a31, .int 0, .ref a32, .ref a33, .ref a34])), (a5, .inr (6, [.int 0, .int 1, .ref a35, .ref a36, .ref a37, .int 0, .ref a38, .ref a39, .ref a40])), (a9, .inr (0, [.ref a41, .ref a42, .ref a43, .int 0, .ref a44, .ref a45, .ref a46, .int 0, .ref a47, .int 0, .int (-1)])), (a42, .inl (cI, 5329, .inl z0)), (a44, .inl (cI, 6, .inl z0)), (a45, .inl (cI, 511, .inl z0)), (a46, .inl (cI, 6, .inl z0))]) (tk_S (As := [.int 0]) (rest := []) (n := 1) hx hb hml hown hU hN (cc_J6_bitCount_0f7a4_0 l (dC, dI) cI cL cZ s.heap.size ) wd_1183 wd_1184 wd_1185 wd_1186 (by decide +kernel) ⟨Nat.le_of_ble_eq_true rfl, Nat.le_of_ble_eq_true rfl⟩ hK hP hD [] (by decide) rfl rfl hl.1 rfl (Nat.le_of_ble_eq_true rfl) dX11_orders_7 ⟨Nat.le_of_ble_eq_true rfl, Nat.le_of_ble_eq_true rfl⟩) hP hD hS hA [] [0, 1, 2, 3, 4, 5, 6, 7, 8] rfl rfl (by decide) (by decide) (fun r_35 w_36 H locs hw hP hD hS => ?_)
    obtain ⟨rfl, rfl⟩ := hw
    have hP : va_P (dC, dI) vwCl [(a0, .inr (11, [.ref a1, .int 0, .ref a2, .ref a3, .ref a4, .ref a5, .ref a6, .ref a7, .int 0, .ref a8, .ref a9, .ref a10, .int 0, .int (-1), .ref a11, .int 0, .ref a12, .ref a13, .int 0])), (a2, .inr (3, [.ref a3, .ref a4, .ref a14, .ref a15, .ref a16, .int 0, .int 0, .int 0, .int 0, .int 0, .int 0, .int (-1), .ref a17, .ref a18, .ref a19, .int 0, .ref a20, .ref a21])), (a3, .inr (7, [.ref a22, .int 0, .ref a23, .ref a24, .ref a25, .ref a26, .int 0, .ref a27, .ref a28, .ref a29, .ref a30, .ref a31, .int 0, .ref a32, .ref a33, .ref a34])), (a5, .inr (6, [.int 0, .int 1, .ref a35, .ref a36, .ref a37, .int 0, .ref a38, .ref a39, .ref a40])), (a9, .inr (0, [.ref a41, .ref a42, .ref a43, .int 0, .ref a44, .ref a45, .ref a46, .int 0, .ref a47, .int 0, .int (-1)])), (a42, .inl (cI, 5329, .inl z0)), (a44, .inl (cI, 6, .inl z0)), (a45, .inl (cI, 511, .inl z0)), (a46, .inl (cI, 6, .inl z0))] H := hP
    have hD : va_D A [(a0, .inr (11, [.ref a1, .int 0, .ref a2, .ref a3, .ref a4, .ref a5, .ref a6, .ref a7, .int 0, .ref a8, .ref a9, .ref a10, .int 0, .int (-1), .ref a11, .int 0, .ref a12, .ref a13, .int 0])), (a2, .inr (3, [.ref a3, .ref a4, .ref a14, .ref a15, .ref a16, .int 0, .int 0, .int 0, .int 0, .int 0, .int 0, .int (-1), .ref a17, .ref a18, .ref a19, .int 0, .ref a20, .ref a21])), (a3, .inr (7, [.ref a22, .int 0, .ref a23, .ref a24, .ref a25, .ref a26, .int 0, .ref a27, .ref a28, .ref a29, .ref a30, .ref a31, .int 0, .ref a32, .ref a33, .ref a34])), (a5, .inr (6, [.int 0, .int 1, .ref a35, .ref a36, .ref a37, .int 0, .ref a38, .ref a39, .ref a40])), (a9, .inr (0, [.ref a41, .ref a42, .ref a43, .int 0, .ref a44, .ref a45, .ref a46, .int 0, .ref a47, .int 0, .int (-1)])), (a42, .inl (cI, 5329, .inl z0)), (a44, .inl (cI, 6, .inl z0)), (a45, .inl (cI, 511, .inl z0)), (a46, .inl (cI, 6, .inl z0))] := hD
    refine lv_istore_n (lv' := [(3, .int 0), (0, .ref a0), (1, .int 2), (2, .int x1)]) hx hb dX11_orders_10 rfl hl (by decide) rfl (fun ls hl => ?_)
    refine lv_iload_n hx hb dX11_orders_11 rfl (lv_at hl 3 rfl) ?_
    refine lv_bipush (v := 10) hx hb dX11_orders_12 (by decide) ?_
    refine lv_icmp_lt (tgt := 29) hx hb dX11_orders_14 (by decide) (fun c_37 => ?_) (fun c_37 => ?_)
    · skip
      refine lv_iconst (v := 0) hx hb dX11_orders_29 (by decide) ?_
      refine lv_istore (lv' := [(4, .int 0), (3, .int 0), (0, .ref a0), (1, .int 2), (2, .int x1)]) hx hb dX11_orders_30 hl (by decide) rfl (fun ls hl => ?_)
      refine lv_iload_n hx hb dX11_orders_32 rfl (lv_at hl 3 rfl) ?_
      refine lv_iconst (v := 1) hx hb dX11_orders_33 (by decide) ?_
      refine lv_icmp_lt (tgt := 62) hx hb dX11_orders_34 (by decide) (fun c9 => absurd c9 (by decide)) (fun _ => ?_)
      refine lv_iload_n hx hb dX11_orders_37 rfl (lv_at hl 3 rfl) ?_
      refine lv_iconst (v := 2) hx hb dX11_orders_38 (by decide) ?_
      refine lv_icmp_gt (tgt := 62) hx hb dX11_orders_39 (by decide) (fun c9 => absurd c9 (by decide)) (fun _ => ?_)
      refine lv_iload_n hx hb dX11_orders_42 rfl (lv_at hl 1 rfl) ?_
      refine lv_bipush (v := 6) hx hb dX11_orders_43 (by decide) ?_
      refine lv_icmp_gt (tgt := 62) hx hb dX11_orders_45 (by decide) (fun c9 => absurd c9 (by decide)) (fun _ => ?_)
      refine lv_iload_n hx hb dX11_orders_48 rfl (lv_at hl 4 rfl) ?_
      refine lv_if_eq (tgt := 64) hx hb dX11_orders_49 (by decide) (fun c_38 => ?_) (fun c_38 => ?_)
      · skip
        exfalso
        simp only [Int32.lt_iff_toInt_lt, Int32.le_iff_toInt_le, ← Int32.toInt_inj, ti_0, ti_1, ti_10] at c_23 c_28 c_37 c_38
        omega
      · skip
        refine lv_iload_n hx hb dX11_orders_52 rfl (lv_at hl 4 rfl) ?_
        refine lv_iconst (v := 1) hx hb dX11_orders_53 (by decide) ?_
        refine lv_icmp_eq (tgt := 64) hx hb dX11_orders_54 (by decide) (fun c_39 => ?_) (fun c_39 => ?_)
        · skip
          exfalso
          simp only [Int32.lt_iff_toInt_lt, Int32.le_iff_toInt_le, ← Int32.toInt_inj, ti_0, ti_1, ti_10] at c_23 c_28 c_37 c_38 c_39
          omega
        · skip
          refine lv_iload hx hb dX11_orders_57 (lv_at hl 0 rfl) ?_
          refine lv_if_ne (tgt := 64) hx hb dX11_orders_59 (by decide) (fun c9 => absurd (by decide) c9) (fun _ => ?_)
          refine lv_iconst (v := (-1)) hx hb dX11_orders_62 (by decide) ?_
          have hP9 := hP.sub (ws' := []) [] rfl
          have hD9 := hD.sub (ws' := []) [] (by decide) rfl
          refine W.widen (k := 0) (n := 0) (Nat.le_of_ble_eq_true rfl) (Nat.le_of_ble_eq_true rfl) ?_
          exact W.iret (v := (-1)) hx hb hr (fun t ht hW => ⟨⟨(-1), [], rfl, ⟨by simp [an_orders, c_1, c_23, c_28, c_38, c_39], rfl⟩, by rw [ht]; exact hP9, va_K.moved hW.alike hK, hD9⟩, hS.F ht⟩) hS.2.2 dX11_orders_63
    · skip
      refine lv_iload_n hx hb dX11_orders_17 rfl (lv_at hl 3 rfl) ?_
      refine lv_bipush (v := 10) hx hb dX11_orders_18 (by decide) ?_
      refine lv_isub hx hb dX11_orders_20 ?_
      refine lv_iload_n hx hb dX11_orders_21 rfl (lv_at hl 0 rfl) ?_
      refine lv_icmp_ge (tgt := 29) hx hb dX11_orders_22 (by decide) (fun c_40 => ?_) (fun c_40 => ?_)
      · skip
        refine lv_iconst (v := 0) hx hb dX11_orders_29 (by decide) ?_
        refine lv_istore (lv' := [(4, .int 0), (3, .int 0), (0, .ref a0), (1, .int 2), (2, .int x1)]) hx hb dX11_orders_30 hl (by decide) rfl (fun ls hl => ?_)
        refine lv_iload_n hx hb dX11_orders_32 rfl (lv_at hl 3 rfl) ?_
        refine lv_iconst (v := 1) hx hb dX11_orders_33 (by decide) ?_
        refine lv_icmp_lt (tgt := 62) hx hb dX11_orders_34 (by decide) (fun c9 => absurd c9 (by decide)) (fun _ => ?_)
        refine lv_iload_n hx hb dX11_orders_37 rfl (lv_at hl 3 rfl) ?_
        refine lv_iconst (v := 2) hx hb dX11_orders_38 (by decide) ?_
        refine lv_icmp_gt (tgt := 62) hx hb dX11_orders_39 (by decide) (fun c9 => absurd c9 (by decide)) (fun _ => ?_)
        refine lv_iload_n hx hb dX11_orders_42 rfl (lv_at hl 1 rfl) ?_
        refine lv_bipush (v := 6) hx hb dX11_orders_43 (by decide) ?_
        refine lv_icmp_gt (tgt := 62) hx hb dX11_orders_45 (by decide) (fun c9 => absurd c9 (by decide)) (fun _ => ?_)
        refine lv_iload_n hx hb dX11_orders_48 rfl (lv_at hl 4 rfl) ?_
        refine lv_if_eq (tgt := 64) hx hb dX11_orders_49 (by decide) (fun c_41 => ?_) (fun c_41 => ?_)
        · skip
          exfalso
          simp only [Int32.lt_iff_toInt_lt, Int32.le_iff_toInt_le, ← Int32.toInt_inj, ti_0, ti_1, ti_10] at c_23 c_28 c_37 c_40 c_41
          omega
        · skip
          refine lv_iload_n hx hb dX11_orders_52 rfl (lv_at hl 4 rfl) ?_
          refine lv_iconst (v := 1) hx hb dX11_orders_53 (by decide) ?_
          refine lv_icmp_eq (tgt := 64) hx hb dX11_orders_54 (by decide) (fun c_42 => ?_) (fun c_42 => ?_)
          · skip
            exfalso
            simp only [Int32.lt_iff_toInt_lt, Int32.le_iff_toInt_le, ← Int32.toInt_inj, ti_0, ti_1, ti_10] at c_23 c_28 c_37 c_40 c_41 c_42
            omega
          · skip
            refine lv_iload hx hb dX11_orders_57 (lv_at hl 0 rfl) ?_
            refine lv_if_ne (tgt := 64) hx hb dX11_orders_59 (by decide) (fun c9 => absurd (by decide) c9) (fun _ => ?_)
            refine lv_iconst (v := (-1)) hx hb dX11_orders_62 (by decide) ?_
            have hP9 := hP.sub (ws' := []) [] rfl
            have hD9 := hD.sub (ws' := []) [] (by decide) rfl
            refine W.widen (k := 0) (n := 0) (Nat.le_of_ble_eq_true rfl) (Nat.le_of_ble_eq_true rfl) ?_
            exact W.iret (v := (-1)) hx hb hr (fun t ht hW => ⟨⟨(-1), [], rfl, ⟨by simp [an_orders, c_1, c_23, c_28, c_41, c_42], rfl⟩, by rw [ht]; exact hP9, va_K.moved hW.alike hK, hD9⟩, hS.F ht⟩) hS.2.2 dX11_orders_63
      · skip
        exfalso
        simp only [Int32.lt_iff_toInt_lt, Int32.le_iff_toInt_le, ← Int32.toInt_inj, ti_0, ti_1, ti_10] at c_40 c_23 c_28 c_37
        have h8 := tk_sub (p := x1) (k := 10) (by rw [ti_10]; omega) (by rw [ti_10]; omega)
        rw [ti_10] at h8
        omega
  refine lv_aload_n hx hb dX11_orders_0 rfl (lv_at hl 0 rfl) ?_
  refine va_get (D := (dC, dI)) (ci := 11) (v := .ref a5) (C := RX11) (T := TX11) (N := 19) hx hb hU inlX11 hown hK hP 0 rfl rfl 5 (by decide) (hU _ wd_25) (fun _ h9 => h9) rfl dX11_orders_1 ?_
  refine va_get (D := (dC, dI)) (ci := 6) (v := .int 0) (C := RX6) (T := TX6) (N := 9) hx hb hU inlX6 hown hK hP 3 rfl rfl 0 (by decide) (hU _ wd_677) (fun _ h9 => h9) rfl dX11_orders_4 ?_
  refine tk_ri (wr := [(a0, .inr (11, [.ref a1, .int 0, .ref a2, .ref a3, .ref a4, .ref a5, .ref a6, .ref a7, .int 0, .ref a8, .ref a9, .ref a10, .int 0, .int (-1), .ref a11, .int 0, .ref a12, .ref a13, .int 0])), (a2, .inr (3, [.ref a3, .ref a4, .ref a14, .ref a15, .ref a16, .int 0, .int 0, .int 0, .int 0, .int 0, .int 0, .int (-1), .ref a17, .ref a18, .ref a19, .int 0, .ref a20, .ref a21])), (a3, .inr (7, [.ref a22, .int 0, .ref a23, .ref a24, .ref a25, .ref a26, .int 0, .ref a27, .ref a28, .ref a29, .ref a30, .ref a31, .int 0, .ref a32, .ref a33, .ref a34])), (a5, .inr (6, [.int 0, .int 1, .ref a35, .ref a36, .ref a37, .int 0, .ref a38, .ref a39, .ref a40])), (a9, .inr (0, [.ref a41, .ref a42, .ref a43, .int 0, .ref a44, .ref a45, .ref a46, .int 0, .ref a47, .int 0, .int (-1)])), (a42, .inl (cI, 5329, .inl z0)), (a44, .inl (cI, 6, .inl z0)), (a45, .inl (cI, 511, .inl z0)), (a46, .inl (cI, 6, .inl z0))]) (tk_S (As := [.int 0]) (rest := []) (n := 1) hx hb hml hown hU hN (cc_J6_bitCount_0f7a4_0 l (dC, dI) cI cL cZ s.heap.size ) wd_1183 wd_1184 wd_1185 wd_1186 (by decide +kernel) ⟨Nat.le_of_ble_eq_true rfl, Nat.le_of_ble_eq_true rfl⟩ hK hP hD [] (by decide) rfl rfl hl.1 rfl (Nat.le_of_ble_eq_true rfl) dX11_orders_7 ⟨Nat.le_of_ble_eq_true rfl, Nat.le_of_ble_eq_true rfl⟩) hP hD hS hA [] [0, 1, 2, 3, 4, 5, 6, 7, 8] rfl rfl (by decide) (by decide) (fun r_43 w_44 H locs hw hP hD hS => ?_)
  obtain ⟨rfl, rfl⟩ := hw
  have hP : va_P (dC, dI) vwCl [(a0, .inr (11, [.ref a1, .int 0, .ref a2, .ref a3, .ref a4, .ref a5, .ref a6, .ref a7, .int 0, .ref a8, .ref a9, .ref a10, .int 0, .int (-1), .ref a11, .int 0, .ref a12, .ref a13, .int 0])), (a2, .inr (3, [.ref a3, .ref a4, .ref a14, .ref a15, .ref a16, .int 0, .int 0, .int 0, .int 0, .int 0, .int 0, .int (-1), .ref a17, .ref a18, .ref a19, .int 0, .ref a20, .ref a21])), (a3, .inr (7, [.ref a22, .int 0, .ref a23, .ref a24, .ref a25, .ref a26, .int 0, .ref a27, .ref a28, .ref a29, .ref a30, .ref a31, .int 0, .ref a32, .ref a33, .ref a34])), (a5, .inr (6, [.int 0, .int 1, .ref a35, .ref a36, .ref a37, .int 0, .ref a38, .ref a39, .ref a40])), (a9, .inr (0, [.ref a41, .ref a42, .ref a43, .int 0, .ref a44, .ref a45, .ref a46, .int 0, .ref a47, .int 0, .int (-1)])), (a42, .inl (cI, 5329, .inl z0)), (a44, .inl (cI, 6, .inl z0)), (a45, .inl (cI, 511, .inl z0)), (a46, .inl (cI, 6, .inl z0))] H := hP
  have hD : va_D A [(a0, .inr (11, [.ref a1, .int 0, .ref a2, .ref a3, .ref a4, .ref a5, .ref a6, .ref a7, .int 0, .ref a8, .ref a9, .ref a10, .int 0, .int (-1), .ref a11, .int 0, .ref a12, .ref a13, .int 0])), (a2, .inr (3, [.ref a3, .ref a4, .ref a14, .ref a15, .ref a16, .int 0, .int 0, .int 0, .int 0, .int 0, .int 0, .int (-1), .ref a17, .ref a18, .ref a19, .int 0, .ref a20, .ref a21])), (a3, .inr (7, [.ref a22, .int 0, .ref a23, .ref a24, .ref a25, .ref a26, .int 0, .ref a27, .ref a28, .ref a29, .ref a30, .ref a31, .int 0, .ref a32, .ref a33, .ref a34])), (a5, .inr (6, [.int 0, .int 1, .ref a35, .ref a36, .ref a37, .int 0, .ref a38, .ref a39, .ref a40])), (a9, .inr (0, [.ref a41, .ref a42, .ref a43, .int 0, .ref a44, .ref a45, .ref a46, .int 0, .ref a47, .int 0, .int (-1)])), (a42, .inl (cI, 5329, .inl z0)), (a44, .inl (cI, 6, .inl z0)), (a45, .inl (cI, 511, .inl z0)), (a46, .inl (cI, 6, .inl z0))] := hD
  refine lv_istore_n (lv' := [(3, .int 0), (0, .ref a0), (1, .int x0), (2, .int x1)]) hx hb dX11_orders_10 rfl hl (by decide) rfl (fun ls hl => ?_)
  refine lv_iload_n hx hb dX11_orders_11 rfl (lv_at hl 3 rfl) ?_
  refine lv_bipush (v := 10) hx hb dX11_orders_12 (by decide) ?_
  refine lv_icmp_lt (tgt := 29) hx hb dX11_orders_14 (by decide) (fun c_45 => ?_) (fun c_45 => ?_)
  · skip
    refine lv_iconst (v := 0) hx hb dX11_orders_29 (by decide) ?_
    refine lv_istore (lv' := [(4, .int 0), (3, .int 0), (0, .ref a0), (1, .int x0), (2, .int x1)]) hx hb dX11_orders_30 hl (by decide) rfl (fun ls hl => ?_)
    refine lv_iload_n hx hb dX11_orders_32 rfl (lv_at hl 3 rfl) ?_
    refine lv_iconst (v := 1) hx hb dX11_orders_33 (by decide) ?_
    refine lv_icmp_lt (tgt := 62) hx hb dX11_orders_34 (by decide) (fun c_46 => ?_) (fun c_46 => ?_)
    · skip
      refine lv_iconst (v := (-1)) hx hb dX11_orders_62 (by decide) ?_
      have hP9 := hP.sub (ws' := []) [] rfl
      have hD9 := hD.sub (ws' := []) [] (by decide) rfl
      refine W.widen (k := 0) (n := 0) (Nat.le_of_ble_eq_true rfl) (Nat.le_of_ble_eq_true rfl) ?_
      exact W.iret (v := (-1)) hx hb hr (fun t ht hW => ⟨⟨(-1), [], rfl, ⟨by simp [an_orders, c_1, c_22], rfl⟩, by rw [ht]; exact hP9, va_K.moved hW.alike hK, hD9⟩, hS.F ht⟩) hS.2.2 dX11_orders_63
    · skip
      refine lv_iload_n hx hb dX11_orders_37 rfl (lv_at hl 3 rfl) ?_
      refine lv_iconst (v := 2) hx hb dX11_orders_38 (by decide) ?_
      refine lv_icmp_gt (tgt := 62) hx hb dX11_orders_39 (by decide) (fun c_47 => ?_) (fun c_47 => ?_)
      · skip
        refine lv_iconst (v := (-1)) hx hb dX11_orders_62 (by decide) ?_
        have hP9 := hP.sub (ws' := []) [] rfl
        have hD9 := hD.sub (ws' := []) [] (by decide) rfl
        refine W.widen (k := 0) (n := 0) (Nat.le_of_ble_eq_true rfl) (Nat.le_of_ble_eq_true rfl) ?_
        exact W.iret (v := (-1)) hx hb hr (fun t ht hW => ⟨⟨(-1), [], rfl, ⟨by simp [an_orders, c_1, c_22], rfl⟩, by rw [ht]; exact hP9, va_K.moved hW.alike hK, hD9⟩, hS.F ht⟩) hS.2.2 dX11_orders_63
      · skip
        exfalso
        simp only [Int32.lt_iff_toInt_lt, Int32.le_iff_toInt_le, ← Int32.toInt_inj, ti_0, ti_1, ti_2] at c_1 c_22 c_46 c_47
        omega
  · skip
    refine lv_iload_n hx hb dX11_orders_17 rfl (lv_at hl 3 rfl) ?_
    refine lv_bipush (v := 10) hx hb dX11_orders_18 (by decide) ?_
    refine lv_isub hx hb dX11_orders_20 ?_
    refine lv_iload_n hx hb dX11_orders_21 rfl (lv_at hl 0 rfl) ?_
    refine lv_icmp_ge (tgt := 29) hx hb dX11_orders_22 (by decide) (fun c_48 => ?_) (fun c_48 => ?_)
    · skip
      refine lv_iconst (v := 0) hx hb dX11_orders_29 (by decide) ?_
      refine lv_istore (lv' := [(4, .int 0), (3, .int 0), (0, .ref a0), (1, .int x0), (2, .int x1)]) hx hb dX11_orders_30 hl (by decide) rfl (fun ls hl => ?_)
      refine lv_iload_n hx hb dX11_orders_32 rfl (lv_at hl 3 rfl) ?_
      refine lv_iconst (v := 1) hx hb dX11_orders_33 (by decide) ?_
      refine lv_icmp_lt (tgt := 62) hx hb dX11_orders_34 (by decide) (fun c_49 => ?_) (fun c_49 => ?_)
      · skip
        refine lv_iconst (v := (-1)) hx hb dX11_orders_62 (by decide) ?_
        have hP9 := hP.sub (ws' := []) [] rfl
        have hD9 := hD.sub (ws' := []) [] (by decide) rfl
        refine W.widen (k := 0) (n := 0) (Nat.le_of_ble_eq_true rfl) (Nat.le_of_ble_eq_true rfl) ?_
        exact W.iret (v := (-1)) hx hb hr (fun t ht hW => ⟨⟨(-1), [], rfl, ⟨by simp [an_orders, c_1, c_22], rfl⟩, by rw [ht]; exact hP9, va_K.moved hW.alike hK, hD9⟩, hS.F ht⟩) hS.2.2 dX11_orders_63
      · skip
        refine lv_iload_n hx hb dX11_orders_37 rfl (lv_at hl 3 rfl) ?_
        refine lv_iconst (v := 2) hx hb dX11_orders_38 (by decide) ?_
        refine lv_icmp_gt (tgt := 62) hx hb dX11_orders_39 (by decide) (fun c_50 => ?_) (fun c_50 => ?_)
        · skip
          refine lv_iconst (v := (-1)) hx hb dX11_orders_62 (by decide) ?_
          have hP9 := hP.sub (ws' := []) [] rfl
          have hD9 := hD.sub (ws' := []) [] (by decide) rfl
          refine W.widen (k := 0) (n := 0) (Nat.le_of_ble_eq_true rfl) (Nat.le_of_ble_eq_true rfl) ?_
          exact W.iret (v := (-1)) hx hb hr (fun t ht hW => ⟨⟨(-1), [], rfl, ⟨by simp [an_orders, c_1, c_22], rfl⟩, by rw [ht]; exact hP9, va_K.moved hW.alike hK, hD9⟩, hS.F ht⟩) hS.2.2 dX11_orders_63
        · skip
          exfalso
          simp only [Int32.lt_iff_toInt_lt, Int32.le_iff_toInt_le, ← Int32.toInt_inj, ti_0, ti_1, ti_2] at c_1 c_22 c_49 c_50
          omega
    · skip
      exfalso
      simp only [Int32.lt_iff_toInt_lt, Int32.le_iff_toInt_le, ← Int32.toInt_inj, ti_0, ti_10] at c_48 c_45
      have h8 := tk_sub (p := x1) (k := 10) (by rw [ti_10]; omega) (by rw [ti_10]; omega)
      rw [ti_10] at h8
      omega
