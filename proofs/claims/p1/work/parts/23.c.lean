set_option maxHeartbeats 8000000 in
set_option maxRecDepth 100000 in
theorem cc_X12_isIn_0 (l : Launch) (D : va_G) (cI cL cZ : ClassId) (sz : Nat)  : mI l D cI cL cZ yX12_isIn cX12_isIn 3 (some .boolean) 0 0 0 0 [.int 0, .int 0, .int 0] sz [] (fun (r : Int32) (w1 : va_W) => r = 1 ∧ w1 = ([] : va_W)) := by
  obtain ⟨dC, dI⟩ := D
  refine Met.ofW (cc := cX12_isIn) (maxL := 3) (ret := (some .boolean)) (by decide) rfl ?_
  intro p e s m args below meth c s₁ B hml hv
  obtain ⟨rfl, hsz, hP, hK, hD0, hN⟩ := hv
  have hx := B.exec
  have hb := B.bytes
  have hr := B.returns
  have hU : ∀ w ∈ wsU, w.before _ s = true := fun w h => atoms_spec (ws := wU yX12_isIn cX12_isIn 3 (some .boolean)) B.pre w (List.mem_cons_of_mem _ h)
  have hown : s.vm.findClass RX12 = some m.cls := findClass_of_methodNamed B.named
  have hlocks := B.notSynchronized
  subst hsz
  have hD := hD0.self (sz := s.heap.size)
  generalize hAe : va_A [] s.heap.size = A at hD ⊢
  have hA : ∀ q : Nat, s.heap.size ≤ q → A q := fun q h => by rw [← hAe]; exact Or.inr h
  have hS : va_S A s.heap s.heap [] := va_S.rf
  have hP : va_P (dC, dI) vwCl [] s.heap := hP
  have hl := lv_entry ([.int 0, .int 0, .int 0]) (n := 3) (Nat.le_of_ble_eq_true rfl)
  rw [lg_entry_eq]
  generalize (lg_sl ([.int 0, .int 0, .int 0]) ++ List.replicate (3 - (lg_sl ([.int 0, .int 0, .int 0])).length) Slot.unset).toArray = ls at hl ⊢
  have hl : lv_has ls 3 [(0, .int 0), (1, .int 0), (2, .int 0)] := hl
  refine lv_iload_n hx hb dX12_isIn_0 rfl (lv_at hl 0 rfl) ?_
  refine lv_iload_n hx hb dX12_isIn_1 rfl (lv_at hl 1 rfl) ?_
  refine lv_icmp_lt (tgt := 14) hx hb dX12_isIn_2 (by decide) (fun c9 => absurd c9 (by decide)) (fun _ => ?_)
  refine lv_iload_n hx hb dX12_isIn_5 rfl (lv_at hl 0 rfl) ?_
  refine lv_iload_n hx hb dX12_isIn_6 rfl (lv_at hl 2 rfl) ?_
  refine lv_icmp_gt (tgt := 14) hx hb dX12_isIn_7 (by decide) (fun c9 => absurd c9 (by decide)) (fun _ => ?_)
  refine lv_iconst (v := 1) hx hb dX12_isIn_10 (by decide) ?_
  refine lv_goto (tgt := 15) hx hb dX12_isIn_11 (by decide) ?_
  have hP9 := hP.sub (ws' := []) [] rfl
  have hD9 := hD.sub (ws' := []) [] (by decide) rfl
  refine W.widen (k := 0) (n := 0) (Nat.le_of_ble_eq_true rfl) (Nat.le_of_ble_eq_true rfl) ?_
  exact W.zret (v := 1) (ty := .boolean) hx hb hr rfl (fun t ht hW => ⟨⟨1, [], rfl, ⟨rfl, rfl⟩, by rw [ht]; exact hP9, va_K.moved hW.alike hK, hD9⟩, hS.F ht⟩) hS.2.2 dX12_isIn_15
set_option maxHeartbeats 8000000 in
set_option maxRecDepth 100000 in
theorem cc_X12_isIn_1 (l : Launch) (D : va_G) (cI cL cZ : ClassId) (sz : Nat) (x0 : Int32) : mI l D cI cL cZ yX12_isIn cX12_isIn 3 (some .boolean) 0 0 0 0 [.int x0, .int 0, .int 0] sz [] (fun (r : Int32) (w1 : va_W) => (x0 < 0 ∧ r = 0 ∧ w1 = ([] : va_W)) ∨ (¬ x0 < 0 ∧ 0 < x0 ∧ r = 0 ∧ w1 = ([] : va_W)) ∨ (¬ x0 < 0 ∧ ¬ 0 < x0 ∧ r = 1 ∧ w1 = ([] : va_W))) := by
  obtain ⟨dC, dI⟩ := D
  refine Met.ofW (cc := cX12_isIn) (maxL := 3) (ret := (some .boolean)) (by decide) rfl ?_
  intro p e s m args below meth c s₁ B hml hv
  obtain ⟨rfl, hsz, hP, hK, hD0, hN⟩ := hv
  have hx := B.exec
  have hb := B.bytes
  have hr := B.returns
  have hU : ∀ w ∈ wsU, w.before _ s = true := fun w h => atoms_spec (ws := wU yX12_isIn cX12_isIn 3 (some .boolean)) B.pre w (List.mem_cons_of_mem _ h)
  have hown : s.vm.findClass RX12 = some m.cls := findClass_of_methodNamed B.named
  have hlocks := B.notSynchronized
  subst hsz
  have hD := hD0.self (sz := s.heap.size)
  generalize hAe : va_A [] s.heap.size = A at hD ⊢
  have hA : ∀ q : Nat, s.heap.size ≤ q → A q := fun q h => by rw [← hAe]; exact Or.inr h
  have hS : va_S A s.heap s.heap [] := va_S.rf
  have hP : va_P (dC, dI) vwCl [] s.heap := hP
  have hl := lv_entry ([.int x0, .int 0, .int 0]) (n := 3) (Nat.le_of_ble_eq_true rfl)
  rw [lg_entry_eq]
  generalize (lg_sl ([.int x0, .int 0, .int 0]) ++ List.replicate (3 - (lg_sl ([.int x0, .int 0, .int 0])).length) Slot.unset).toArray = ls at hl ⊢
  have hl : lv_has ls 3 [(0, .int x0), (1, .int 0), (2, .int 0)] := hl
  refine lv_iload_n hx hb dX12_isIn_0 rfl (lv_at hl 0 rfl) ?_
  refine lv_iload_n hx hb dX12_isIn_1 rfl (lv_at hl 1 rfl) ?_
  refine lv_icmp_lt (tgt := 14) hx hb dX12_isIn_2 (by decide) (fun c_1 => ?_) (fun c_1 => ?_)
  · skip
    refine lv_iconst (v := 0) hx hb dX12_isIn_14 (by decide) ?_
    have hP9 := hP.sub (ws' := []) [] rfl
    have hD9 := hD.sub (ws' := []) [] (by decide) rfl
    refine W.widen (k := 0) (n := 0) (Nat.le_of_ble_eq_true rfl) (Nat.le_of_ble_eq_true rfl) ?_
    exact W.zret (v := 0) (ty := .boolean) hx hb hr rfl (fun t ht hW => ⟨⟨0, [], rfl, Or.inl ⟨c_1, rfl, rfl⟩, by rw [ht]; exact hP9, va_K.moved hW.alike hK, hD9⟩, hS.F ht⟩) hS.2.2 dX12_isIn_15
  · skip
    refine lv_iload_n hx hb dX12_isIn_5 rfl (lv_at hl 0 rfl) ?_
    refine lv_iload_n hx hb dX12_isIn_6 rfl (lv_at hl 2 rfl) ?_
    refine lv_icmp_gt (tgt := 14) hx hb dX12_isIn_7 (by decide) (fun c_2 => ?_) (fun c_2 => ?_)
    · skip
      refine lv_iconst (v := 0) hx hb dX12_isIn_14 (by decide) ?_
      have hP9 := hP.sub (ws' := []) [] rfl
      have hD9 := hD.sub (ws' := []) [] (by decide) rfl
      refine W.widen (k := 0) (n := 0) (Nat.le_of_ble_eq_true rfl) (Nat.le_of_ble_eq_true rfl) ?_
      exact W.zret (v := 0) (ty := .boolean) hx hb hr rfl (fun t ht hW => ⟨⟨0, [], rfl, Or.inr (Or.inl ⟨c_1, c_2, rfl, rfl⟩), by rw [ht]; exact hP9, va_K.moved hW.alike hK, hD9⟩, hS.F ht⟩) hS.2.2 dX12_isIn_15
    · skip
      refine lv_iconst (v := 1) hx hb dX12_isIn_10 (by decide) ?_
      refine lv_goto (tgt := 15) hx hb dX12_isIn_11 (by decide) ?_
      have hP9 := hP.sub (ws' := []) [] rfl
      have hD9 := hD.sub (ws' := []) [] (by decide) rfl
      refine W.widen (k := 0) (n := 0) (Nat.le_of_ble_eq_true rfl) (Nat.le_of_ble_eq_true rfl) ?_
      exact W.zret (v := 1) (ty := .boolean) hx hb hr rfl (fun t ht hW => ⟨⟨1, [], rfl, Or.inr (Or.inr (⟨c_1, c_2, rfl, rfl⟩)), by rw [ht]; exact hP9, va_K.moved hW.alike hK, hD9⟩, hS.F ht⟩) hS.2.2 dX12_isIn_15
set_option maxHeartbeats 8000000 in
set_option maxRecDepth 100000 in
theorem op_X12_end (l : Launch) (D : va_G) (cI cL cZ : ClassId) (sz : Nat) (a0 : Nat) (x0 : Int32) (a1 : Nat) (a2 : Nat) (a3 : Nat) (a4 : Nat) (a5 : Nat) (a6 : Nat) (a7 : Nat) (a8 : Nat) (a9 : Nat) (a10 : Nat) (a11 : Nat) (a12 : Nat) (a13 : Nat) (a14 : Nat) (a15 : Nat) (a16 : Nat) (a17 : Nat) (a18 : Nat) (a19 : Nat) (a20 : Nat) (a21 : Nat) (a22 : Nat) (a23 : Nat) (a24 : Nat) (a25 : Nat) (a26 : Nat) (a27 : Nat) (a28 : Nat) (a29 : Nat) (a30 : Nat) (a31 : Nat) : mI l D cI cL cZ yX12_end cX12_end 2 (some .boolean) 1 22 0 0 [.ref a0, .int x0] sz [(a0, .inr (12, [.ref a1, .ref a2, .ref a3, .int 0, .ref a4, .int 0, .int 0, .int 0, .int 0, .int 0, .int (-1), .int 0, .int 0, .int 0, .int 0, .ref a5, .ref a6, .ref a7, .ref a8, .ref a9, .ref a10, .ref a11, .ref a12, .int 0, .int 0, .int 0, .int 0, .int 0, .ref a13, .int 0, .ref a14, .ref a15, .int 0, .int 0, .ref a16, .int 0, .ref a17, .ref a18, .int 0, .int (-1), .ref a19, .ref a20, .ref a21, .int 0, .ref a22, .ref a23, .ref a24, .ref a25, .ref a26, .ref a27, .ref a28, .ref a29, .ref a30, .int 0, .int 0, .ref a31]))] (fun (r : Int32) (w1 : va_W) => r = (an_end x0) ∧ w1 = ([] : va_W)) := by
  obtain ⟨dC, dI⟩ := D
  refine Met.ofW (cc := cX12_end) (maxL := 2) (ret := (some .boolean)) (by decide) rfl ?_
  intro p e s m args below meth c s₁ B hml hv
  obtain ⟨rfl, hsz, hP, hK, hD0, hN⟩ := hv
  have hx := B.exec
  have hb := B.bytes
  have hr := B.returns
  have hU : ∀ w ∈ wsU, w.before _ s = true := fun w h => atoms_spec (ws := wU yX12_end cX12_end 2 (some .boolean)) B.pre w (List.mem_cons_of_mem _ h)
  have hown : s.vm.findClass RX12 = some m.cls := findClass_of_methodNamed B.named
  have hlocks := B.notSynchronized
  subst hsz
  have hD := hD0.self (sz := s.heap.size)
  generalize hAe : va_A [(a0, .inr (12, [.ref a1, .ref a2, .ref a3, .int 0, .ref a4, .int 0, .int 0, .int 0, .int 0, .int 0, .int (-1), .int 0, .int 0, .int 0, .int 0, .ref a5, .ref a6, .ref a7, .ref a8, .ref a9, .ref a10, .ref a11, .ref a12, .int 0, .int 0, .int 0, .int 0, .int 0, .ref a13, .int 0, .ref a14, .ref a15, .int 0, .int 0, .ref a16, .int 0, .ref a17, .ref a18, .int 0, .int (-1), .ref a19, .ref a20, .ref a21, .int 0, .ref a22, .ref a23, .ref a24, .ref a25, .ref a26, .ref a27, .ref a28, .ref a29, .ref a30, .int 0, .int 0, .ref a31]))] s.heap.size = A at hD ⊢
  have hA : ∀ q : Nat, s.heap.size ≤ q → A q := fun q h => by rw [← hAe]; exact Or.inr h
  have hS : va_S A s.heap s.heap [] := va_S.rf
  have hP : va_P (dC, dI) vwCl [(a0, .inr (12, [.ref a1, .ref a2, .ref a3, .int 0, .ref a4, .int 0, .int 0, .int 0, .int 0, .int 0, .int (-1), .int 0, .int 0, .int 0, .int 0, .ref a5, .ref a6, .ref a7, .ref a8, .ref a9, .ref a10, .ref a11, .ref a12, .int 0, .int 0, .int 0, .int 0, .int 0, .ref a13, .int 0, .ref a14, .ref a15, .int 0, .int 0, .ref a16, .int 0, .ref a17, .ref a18, .int 0, .int (-1), .ref a19, .ref a20, .ref a21, .int 0, .ref a22, .ref a23, .ref a24, .ref a25, .ref a26, .ref a27, .ref a28, .ref a29, .ref a30, .int 0, .int 0, .ref a31]))] s.heap := hP
  have hl := lv_entry ([.ref a0, .int x0]) (n := 2) (Nat.le_of_ble_eq_true rfl)
  rw [lg_entry_eq]
  generalize (lg_sl ([.ref a0, .int x0]) ++ List.replicate (2 - (lg_sl ([.ref a0, .int x0])).length) Slot.unset).toArray = ls at hl ⊢
  have hl : lv_has ls 2 [(0, .ref a0), (1, .int x0)] := hl
  by_cases c_1 : x0 = 0
  · subst c_1
    refine lv_iload_n hx hb dX12_end_0 rfl (lv_at hl 1 rfl) ?_
    refine lv_iconst (v := 0) hx hb dX12_end_1 (by decide) ?_
    refine lv_aload_n hx hb dX12_end_2 rfl (lv_at hl 0 rfl) ?_
    refine va_get (D := (dC, dI)) (ci := 12) (v := .int 0) (C := RX12) (T := TX12) (N := 56) hx hb hU inlX12 hown hK hP 0 rfl rfl 5 (by decide) (hU _ wd_218) (fun _ h9 => h9) rfl dX12_end_3 ?_
    refine tk_ri (wr := [(a0, .inr (12, [.ref a1, .ref a2, .ref a3, .int 0, .ref a4, .int 0, .int 0, .int 0, .int 0, .int 0, .int (-1), .int 0, .int 0, .int 0, .int 0, .ref a5, .ref a6, .ref a7, .ref a8, .ref a9, .ref a10, .ref a11, .ref a12, .int 0, .int 0, .int 0, .int 0, .int 0, .ref a13, .int 0, .ref a14, .ref a15, .int 0, .int 0, .ref a16, .int 0, .ref a17, .ref a18, .int 0, .int (-1), .ref a19, .ref a20, .ref a21, .int 0, .ref a22, .ref a23, .ref a24, .ref a25, .ref a26, .ref a27, .ref a28, .ref a29, .ref a30, .int 0, .int 0, .ref a31]))]) (tk_S (As := [.int 0, .int 0, .int 0]) (rest := []) (n := 3) hx hb hml hown hU hN (cc_X12_isIn_0 l (dC, dI) cI cL cZ s.heap.size ) wd_227 wd_228 wd_5 wd_229 (by decide +kernel) ⟨Nat.le_of_ble_eq_true rfl, Nat.le_of_ble_eq_true rfl⟩ hK hP hD [] (by decide) rfl rfl hl.1 rfl (Nat.le_of_ble_eq_true rfl) dX12_end_6 ⟨Nat.le_of_ble_eq_true rfl, Nat.le_of_ble_eq_true rfl⟩) hP hD hS hA [] [0] rfl rfl (by decide) (by decide) (fun r_2 w_3 H locs hw hP hD hS => ?_)
    obtain ⟨rfl, rfl⟩ := hw
    have hP : va_P (dC, dI) vwCl [(a0, .inr (12, [.ref a1, .ref a2, .ref a3, .int 0, .ref a4, .int 0, .int 0, .int 0, .int 0, .int 0, .int (-1), .int 0, .int 0, .int 0, .int 0, .ref a5, .ref a6, .ref a7, .ref a8, .ref a9, .ref a10, .ref a11, .ref a12, .int 0, .int 0, .int 0, .int 0, .int 0, .ref a13, .int 0, .ref a14, .ref a15, .int 0, .int 0, .ref a16, .int 0, .ref a17, .ref a18, .int 0, .int (-1), .ref a19, .ref a20, .ref a21, .int 0, .ref a22, .ref a23, .ref a24, .ref a25, .ref a26, .ref a27, .ref a28, .ref a29, .ref a30, .int 0, .int 0, .ref a31]))] H := hP
    have hD : va_D A [(a0, .inr (12, [.ref a1, .ref a2, .ref a3, .int 0, .ref a4, .int 0, .int 0, .int 0, .int 0, .int 0, .int (-1), .int 0, .int 0, .int 0, .int 0, .ref a5, .ref a6, .ref a7, .ref a8, .ref a9, .ref a10, .ref a11, .ref a12, .int 0, .int 0, .int 0, .int 0, .int 0, .ref a13, .int 0, .ref a14, .ref a15, .int 0, .int 0, .ref a16, .int 0, .ref a17, .ref a18, .int 0, .int (-1), .ref a19, .ref a20, .ref a21, .int 0, .ref a22, .ref a23, .ref a24, .ref a25, .ref a26, .ref a27, .ref a28, .ref a29, .ref a30, .int 0, .int 0, .ref a31]))] := hD
    refine lv_if_ne (tgt := 14) hx hb dX12_end_9 (by decide) (fun _ => ?_) (fun c9 => absurd c9 (by decide)) 
    refine lv_aload_n hx hb dX12_end_14 rfl (lv_at hl 0 rfl) ?_
    refine lv_iload_n hx hb dX12_end_15 rfl (lv_at hl 1 rfl) ?_
    refine va_put (D := (dC, dI)) (ci := 12) (v := .int 0) (ty := .int) (C := RX12) (T := TX12) (N := 56) hx hb hU inlX12 tyX12 tyX12_ok nmX12 hown hK hP hD hS 0 rfl rfl 5 (by decide) (hU _ wd_218) (fun _ h9 => h9) rfl (by decide +kernel) rfl rfl (Nat.le_of_ble_eq_true rfl) dX12_end_16 (fun H locs hP hD hS => ?_)
    have hP : va_P (dC, dI) vwCl [(a0, .inr (12, [.ref a1, .ref a2, .ref a3, .int 0, .ref a4, .int 0, .int 0, .int 0, .int 0, .int 0, .int (-1), .int 0, .int 0, .int 0, .int 0, .ref a5, .ref a6, .ref a7, .ref a8, .ref a9, .ref a10, .ref a11, .ref a12, .int 0, .int 0, .int 0, .int 0, .int 0, .ref a13, .int 0, .ref a14, .ref a15, .int 0, .int 0, .ref a16, .int 0, .ref a17, .ref a18, .int 0, .int (-1), .ref a19, .ref a20, .ref a21, .int 0, .ref a22, .ref a23, .ref a24, .ref a25, .ref a26, .ref a27, .ref a28, .ref a29, .ref a30, .int 0, .int 0, .ref a31]))] H := hP
    have hD : va_D A [(a0, .inr (12, [.ref a1, .ref a2, .ref a3, .int 0, .ref a4, .int 0, .int 0, .int 0, .int 0, .int 0, .int (-1), .int 0, .int 0, .int 0, .int 0, .ref a5, .ref a6, .ref a7, .ref a8, .ref a9, .ref a10, .ref a11, .ref a12, .int 0, .int 0, .int 0, .int 0, .int 0, .ref a13, .int 0, .ref a14, .ref a15, .int 0, .int 0, .ref a16, .int 0, .ref a17, .ref a18, .int 0, .int (-1), .ref a19, .ref a20, .ref a21, .int 0, .ref a22, .ref a23, .ref a24, .ref a25, .ref a26, .ref a27, .ref a28, .ref a29, .ref a30, .int 0, .int 0, .ref a31]))] := hD
    refine lv_iconst (v := 1) hx hb dX12_end_19 (by decide) ?_
    have hP9 := hP.sub (ws' := []) [] rfl
    have hD9 := hD.sub (ws' := []) [] (by decide) rfl
    refine W.widen (k := 0) (n := 0) (Nat.le_of_ble_eq_true rfl) (Nat.le_of_ble_eq_true rfl) ?_
    exact W.zret (v := 1) (ty := .boolean) hx hb hr rfl (fun t ht hW => ⟨⟨1, [], rfl, ⟨by decide, rfl⟩, by rw [ht]; exact hP9, va_K.moved hW.alike hK, hD9⟩, hS.F ht⟩) hS.2.2 dX12_end_20
  refine lv_iload_n hx hb dX12_end_0 rfl (lv_at hl 1 rfl) ?_
  refine lv_iconst (v := 0) hx hb dX12_end_1 (by decide) ?_
  refine lv_aload_n hx hb dX12_end_2 rfl (lv_at hl 0 rfl) ?_
  refine va_get (D := (dC, dI)) (ci := 12) (v := .int 0) (C := RX12) (T := TX12) (N := 56) hx hb hU inlX12 hown hK hP 0 rfl rfl 5 (by decide) (hU _ wd_218) (fun _ h9 => h9) rfl dX12_end_3 ?_
  refine tk_ri (wr := [(a0, .inr (12, [.ref a1, .ref a2, .ref a3, .int 0, .ref a4, .int 0, .int 0, .int 0, .int 0, .int 0, .int (-1), .int 0, .int 0, .int 0, .int 0, .ref a5, .ref a6, .ref a7, .ref a8, .ref a9, .ref a10, .ref a11, .ref a12, .int 0, .int 0, .int 0, .int 0, .int 0, .ref a13, .int 0, .ref a14, .ref a15, .int 0, .int 0, .ref a16, .int 0, .ref a17, .ref a18, .int 0, .int (-1), .ref a19, .ref a20, .ref a21, .int 0, .ref a22, .ref a23, .ref a24, .ref a25, .ref a26, .ref a27, .ref a28, .ref a29, .ref a30, .int 0, .int 0, .ref a31]))]) (tk_S (As := [.int x0, .int 0, .int 0]) (rest := []) (n := 3) hx hb hml hown hU hN (cc_X12_isIn_1 l (dC, dI) cI cL cZ s.heap.size x0) wd_227 wd_228 wd_5 wd_229 (by decide +kernel) ⟨Nat.le_of_ble_eq_true rfl, Nat.le_of_ble_eq_true rfl⟩ hK hP hD [] (by decide) rfl rfl hl.1 rfl (Nat.le_of_ble_eq_true rfl) dX12_end_6 ⟨Nat.le_of_ble_eq_true rfl, Nat.le_of_ble_eq_true rfl⟩) hP hD hS hA [] [0] rfl rfl (by decide) (by decide) (fun r_4 w_5 H locs hw hP hD hS => ?_)
  rcases hw with ⟨c_6, rfl, rfl⟩ | ⟨c_7, c_8, rfl, rfl⟩ | ⟨c_9, c_10, rfl, rfl⟩
  · skip
    have hP : va_P (dC, dI) vwCl [(a0, .inr (12, [.ref a1, .ref a2, .ref a3, .int 0, .ref a4, .int 0, .int 0, .int 0, .int 0, .int 0, .int (-1), .int 0, .int 0, .int 0, .int 0, .ref a5, .ref a6, .ref a7, .ref a8, .ref a9, .ref a10, .ref a11, .ref a12, .int 0, .int 0, .int 0, .int 0, .int 0, .ref a13, .int 0, .ref a14, .ref a15, .int 0, .int 0, .ref a16, .int 0, .ref a17, .ref a18, .int 0, .int (-1), .ref a19, .ref a20, .ref a21, .int 0, .ref a22, .ref a23, .ref a24, .ref a25, .ref a26, .ref a27, .ref a28, .ref a29, .ref a30, .int 0, .int 0, .ref a31]))] H := hP
    have hD : va_D A [(a0, .inr (12, [.ref a1, .ref a2, .ref a3, .int 0, .ref a4, .int 0, .int 0, .int 0, .int 0, .int 0, .int (-1), .int 0, .int 0, .int 0, .int 0, .ref a5, .ref a6, .ref a7, .ref a8, .ref a9, .ref a10, .ref a11, .ref a12, .int 0, .int 0, .int 0, .int 0, .int 0, .ref a13, .int 0, .ref a14, .ref a15, .int 0, .int 0, .ref a16, .int 0, .ref a17, .ref a18, .int 0, .int (-1), .ref a19, .ref a20, .ref a21, .int 0, .ref a22, .ref a23, .ref a24, .ref a25, .ref a26, .ref a27, .ref a28, .ref a29, .ref a30, .int 0, .int 0, .ref a31]))] := hD
    refine lv_if_ne (tgt := 14) hx hb dX12_end_9 (by decide) (fun c9 => absurd (by decide) c9) (fun _ => ?_)
    refine lv_iconst (v := 0) hx hb dX12_end_12 (by decide) ?_
    have hP9 := hP.sub (ws' := []) [] rfl
    have hD9 := hD.sub (ws' := []) [] (by decide) rfl
    refine W.widen (k := 0) (n := 0) (Nat.le_of_ble_eq_true rfl) (Nat.le_of_ble_eq_true rfl) ?_
    exact W.zret (v := 0) (ty := .boolean) hx hb hr rfl (fun t ht hW => ⟨⟨0, [], rfl, ⟨by simp [an_end, c_1], rfl⟩, by rw [ht]; exact hP9, va_K.moved hW.alike hK, hD9⟩, hS.F ht⟩) hS.2.2 dX12_end_13
  · skip
    have hP : va_P (dC, dI) vwCl [(a0, .inr (12, [.ref a1, .ref a2, .ref a3, .int 0, .ref a4, .int 0, .int 0, .int 0, .int 0, .int 0, .int (-1), .int 0, .int 0, .int 0, .int 0, .ref a5, .ref a6, .ref a7, .ref a8, .ref a9, .ref a10, .ref a11, .ref a12, .int 0, .int 0, .int 0, .int 0, .int 0, .ref a13, .int 0, .ref a14, .ref a15, .int 0, .int 0, .ref a16, .int 0, .ref a17, .ref a18, .int 0, .int (-1), .ref a19, .ref a20, .ref a21, .int 0, .ref a22, .ref a23, .ref a24, .ref a25, .ref a26, .ref a27, .ref a28, .ref a29, .ref a30, .int 0, .int 0, .ref a31]))] H := hP
    have hD : va_D A [(a0, .inr (12, [.ref a1, .ref a2, .ref a3, .int 0, .ref a4, .int 0, .int 0, .int 0, .int 0, .int 0, .int (-1), .int 0, .int 0, .int 0, .int 0, .ref a5, .ref a6, .ref a7, .ref a8, .ref a9, .ref a10, .ref a11, .ref a12, .int 0, .int 0, .int 0, .int 0, .int 0, .ref a13, .int 0, .ref a14, .ref a15, .int 0, .int 0, .ref a16, .int 0, .ref a17, .ref a18, .int 0, .int (-1), .ref a19, .ref a20, .ref a21, .int 0, .ref a22, .ref a23, .ref a24, .ref a25, .ref a26, .ref a27, .ref a28, .ref a29, .ref a30, .int 0, .int 0, .ref a31]))] := hD
    refine lv_if_ne (tgt := 14) hx hb dX12_end_9 (by decide) (fun c9 => absurd (by decide) c9) (fun _ => ?_)
    refine lv_iconst (v := 0) hx hb dX12_end_12 (by decide) ?_
    have hP9 := hP.sub (ws' := []) [] rfl
    have hD9 := hD.sub (ws' := []) [] (by decide) rfl
    refine W.widen (k := 0) (n := 0) (Nat.le_of_ble_eq_true rfl) (Nat.le_of_ble_eq_true rfl) ?_
    exact W.zret (v := 0) (ty := .boolean) hx hb hr rfl (fun t ht hW => ⟨⟨0, [], rfl, ⟨by simp [an_end, c_1], rfl⟩, by rw [ht]; exact hP9, va_K.moved hW.alike hK, hD9⟩, hS.F ht⟩) hS.2.2 dX12_end_13
  · skip
    exfalso
    simp only [Int32.lt_iff_toInt_lt, Int32.le_iff_toInt_le, ← Int32.toInt_inj, ti_0] at c_1 c_9 c_10
    omega
set_option maxHeartbeats 8000000 in
set_option maxRecDepth 100000 in
theorem cc_X12_see_0 (l : Launch) (D : va_G) (cI cL cZ : ClassId) (sz : Nat) (a0 : Nat) (a1 : Nat) (a2 : Nat) (a3 : Nat) (a4 : Nat) (a5 : Nat) (a6 : Nat) (a7 : Nat) (a8 : Nat) (a9 : Nat) (a10 : Nat) (a11 : Nat) (a12 : Nat) (a13 : Nat) (a14 : Nat) (a15 : Nat) (a16 : Nat) (a17 : Nat) (a18 : Nat) (a19 : Nat) (a20 : Nat) (a21 : Nat) (a22 : Nat) (a23 : Nat) (a24 : Nat) (a25 : Nat) (a26 : Nat) (a27 : Nat) (a28 : Nat) (a29 : Nat) (a30 : Nat) (a31 : Nat) : mI l D cI cL cZ yX12_see cX12_see 2 (some .int) 0 0 0 0 [.ref a0, .int 0] sz [(a0, .inr (12, [.ref a1, .ref a2, .ref a3, .int 0, .ref a4, .int 0, .int 0, .int 0, .int 0, .int 0, .int (-1), .int 0, .int 0, .int 0, .int 0, .ref a5, .ref a6, .ref a7, .ref a8, .ref a9, .ref a10, .ref a11, .ref a12, .int 0, .int 0, .int 0, .int 0, .int 0, .ref a13, .int 0, .ref a14, .ref a15, .int 0, .int 0, .ref a16, .int 0, .ref a17, .ref a18, .int 0, .int (-1), .ref a19, .ref a20, .ref a21, .int 0, .ref a22, .ref a23, .ref a24, .ref a25, .ref a26, .ref a27, .ref a28, .ref a29, .ref a30, .int 0, .int 0, .ref a31]))] (fun (r : Int32) (w1 : va_W) => r = (-1) ∧ w1 = ([(a0, .inr (12, [.ref a1, .ref a2, .ref a3, .int 0, .ref a4, .int 0, .int 0, .int 0, .int 0, .int 0, .int (-1), .int 0, .int 0, .int 0, .int 0, .ref a5, .ref a6, .ref a7, .ref a8, .ref a9, .ref a10, .ref a11, .ref a12, .int 0, .int 0, .int 0, .int 0, .int 0, .ref a13, .int 0, .ref a14, .ref a15, .int 0, .int 0, .ref a16, .int 0, .ref a17, .ref a18, .int 0, .int (-1), .ref a19, .ref a20, .ref a21, .int 0, .ref a22, .ref a23, .ref a24, .ref a25, .ref a26, .ref a27, .ref a28, .ref a29, .ref a30, .int 0, .int 0, .ref a31]))] : va_W)) := by
  obtain ⟨dC, dI⟩ := D
  refine Met.ofW (cc := cX12_see) (maxL := 2) (ret := (some .int)) (by decide) rfl ?_
  intro p e s m args below meth c s₁ B hml hv
  obtain ⟨rfl, hsz, hP, hK, hD0, hN⟩ := hv
  have hx := B.exec
  have hb := B.bytes
  have hr := B.returns
  have hU : ∀ w ∈ wsU, w.before _ s = true := fun w h => atoms_spec (ws := wU yX12_see cX12_see 2 (some .int)) B.pre w (List.mem_cons_of_mem _ h)
  have hown : s.vm.findClass RX12 = some m.cls := findClass_of_methodNamed B.named
  have hlocks := B.notSynchronized
  subst hsz
  have hD := hD0.self (sz := s.heap.size)
  generalize hAe : va_A [(a0, .inr (12, [.ref a1, .ref a2, .ref a3, .int 0, .ref a4, .int 0, .int 0, .int 0, .int 0, .int 0, .int (-1), .int 0, .int 0, .int 0, .int 0, .ref a5, .ref a6, .ref a7, .ref a8, .ref a9, .ref a10, .ref a11, .ref a12, .int 0, .int 0, .int 0, .int 0, .int 0, .ref a13, .int 0, .ref a14, .ref a15, .int 0, .int 0, .ref a16, .int 0, .ref a17, .ref a18, .int 0, .int (-1), .ref a19, .ref a20, .ref a21, .int 0, .ref a22, .ref a23, .ref a24, .ref a25, .ref a26, .ref a27, .ref a28, .ref a29, .ref a30, .int 0, .int 0, .ref a31]))] s.heap.size = A at hD ⊢
  have hA : ∀ q : Nat, s.heap.size ≤ q → A q := fun q h => by rw [← hAe]; exact Or.inr h
  have hS : va_S A s.heap s.heap [] := va_S.rf
  have hP : va_P (dC, dI) vwCl [(a0, .inr (12, [.ref a1, .ref a2, .ref a3, .int 0, .ref a4, .int 0, .int 0, .int 0, .int 0, .int 0, .int (-1), .int 0, .int 0, .int 0, .int 0, .ref a5, .ref a6, .ref a7, .ref a8, .ref a9, .ref a10, .ref a11, .ref a12, .int 0, .int 0, .int 0, .int 0, .int 0, .ref a13, .int 0, .ref a14, .ref a15, .int 0, .int 0, .ref a16, .int 0, .ref a17, .ref a18, .int 0, .int (-1), .ref a19, .ref a20, .ref a21, .int 0, .ref a22, .ref a23, .ref a24, .ref a25, .ref a26, .ref a27, .ref a28, .ref a29, .ref a30, .int 0, .int 0, .ref a31]))] s.heap := hP
  have hl := lv_entry ([.ref a0, .int 0]) (n := 2) (Nat.le_of_ble_eq_true rfl)
  rw [lg_entry_eq]
  generalize (lg_sl ([.ref a0, .int 0]) ++ List.replicate (2 - (lg_sl ([.ref a0, .int 0])).length) Slot.unset).toArray = ls at hl ⊢
  have hl : lv_has ls 2 [(0, .ref a0), (1, .int 0)] := hl
  refine lv_iload_n hx hb dX12_see_0 rfl (lv_at hl 1 rfl) ?_
  refine lv_aload_n hx hb dX12_see_1 rfl (lv_at hl 0 rfl) ?_
  refine va_get (D := (dC, dI)) (ci := 12) (v := .int 0) (C := RX12) (T := TX12) (N := 56) hx hb hU inlX12 hown hK hP 0 rfl rfl 5 (by decide) (hU _ wd_218) (fun _ h9 => h9) rfl dX12_see_2 ?_
  refine lv_icmp_ge (tgt := 17) hx hb dX12_see_5 (by decide) (fun _ => ?_) (fun c9 => absurd (by decide) c9) 
  refine lv_iconst (v := (-1)) hx hb dX12_see_17 (by decide) ?_
  have hP9 := hP.sub (ws' := [(a0, .inr (12, [.ref a1, .ref a2, .ref a3, .int 0, .ref a4, .int 0, .int 0, .int 0, .int 0, .int 0, .int (-1), .int 0, .int 0, .int 0, .int 0, .ref a5, .ref a6, .ref a7, .ref a8, .ref a9, .ref a10, .ref a11, .ref a12, .int 0, .int 0, .int 0, .int 0, .int 0, .ref a13, .int 0, .ref a14, .ref a15, .int 0, .int 0, .ref a16, .int 0, .ref a17, .ref a18, .int 0, .int (-1), .ref a19, .ref a20, .ref a21, .int 0, .ref a22, .ref a23, .ref a24, .ref a25, .ref a26, .ref a27, .ref a28, .ref a29, .ref a30, .int 0, .int 0, .ref a31]))]) [0] rfl
  have hD9 := hD.sub (ws' := [(a0, .inr (12, [.ref a1, .ref a2, .ref a3, .int 0, .ref a4, .int 0, .int 0, .int 0, .int 0, .int 0, .int (-1), .int 0, .int 0, .int 0, .int 0, .ref a5, .ref a6, .ref a7, .ref a8, .ref a9, .ref a10, .ref a11, .ref a12, .int 0, .int 0, .int 0, .int 0, .int 0, .ref a13, .int 0, .ref a14, .ref a15, .int 0, .int 0, .ref a16, .int 0, .ref a17, .ref a18, .int 0, .int (-1), .ref a19, .ref a20, .ref a21, .int 0, .ref a22, .ref a23, .ref a24, .ref a25, .ref a26, .ref a27, .ref a28, .ref a29, .ref a30, .int 0, .int 0, .ref a31]))]) [0] (by decide) rfl
  refine W.widen (k := 0) (n := 0) (Nat.le_of_ble_eq_true rfl) (Nat.le_of_ble_eq_true rfl) ?_
  exact W.iret (v := (-1)) hx hb hr (fun t ht hW => ⟨⟨(-1), [(a0, .inr (12, [.ref a1, .ref a2, .ref a3, .int 0, .ref a4, .int 0, .int 0, .int 0, .int 0, .int 0, .int (-1), .int 0, .int 0, .int 0, .int 0, .ref a5, .ref a6, .ref a7, .ref a8, .ref a9, .ref a10, .ref a11, .ref a12, .int 0, .int 0, .int 0, .int 0, .int 0, .ref a13, .int 0, .ref a14, .ref a15, .int 0, .int 0, .ref a16, .int 0, .ref a17, .ref a18, .int 0, .int (-1), .ref a19, .ref a20, .ref a21, .int 0, .ref a22, .ref a23, .ref a24, .ref a25, .ref a26, .ref a27, .ref a28, .ref a29, .ref a30, .int 0, .int 0, .ref a31]))], rfl, ⟨rfl, rfl⟩, by rw [ht]; exact hP9, va_K.moved hW.alike hK, hD9⟩, hS.F ht⟩) hS.2.2 dX12_see_18
set_option maxHeartbeats 8000000 in
set_option maxRecDepth 100000 in
theorem cc_X12_blanks_0 (l : Launch) (D : va_G) (cI cL cZ : ClassId) (sz : Nat) (a0 : Nat) (a1 : Nat) (a2 : Nat) (a3 : Nat) (a4 : Nat) (a5 : Nat) (a6 : Nat) (a7 : Nat) (a8 : Nat) (a9 : Nat) (a10 : Nat) (a11 : Nat) (a12 : Nat) (a13 : Nat) (a14 : Nat) (a15 : Nat) (a16 : Nat) (a17 : Nat) (a18 : Nat) (a19 : Nat) (a20 : Nat) (a21 : Nat) (a22 : Nat) (a23 : Nat) (a24 : Nat) (a25 : Nat) (a26 : Nat) (a27 : Nat) (a28 : Nat) (a29 : Nat) (a30 : Nat) (a31 : Nat) : mV l D cI cL cZ yX12_blanks cX12_blanks 1 none 1 21 0 0 [.ref a0] sz [(a0, .inr (12, [.ref a1, .ref a2, .ref a3, .int 0, .ref a4, .int 0, .int 0, .int 0, .int 0, .int 0, .int (-1), .int 0, .int 0, .int 0, .int 0, .ref a5, .ref a6, .ref a7, .ref a8, .ref a9, .ref a10, .ref a11, .ref a12, .int 0, .int 0, .int 0, .int 0, .int 0, .ref a13, .int 0, .ref a14, .ref a15, .int 0, .int 0, .ref a16, .int 0, .ref a17, .ref a18, .int 0, .int (-1), .ref a19, .ref a20, .ref a21, .int 0, .ref a22, .ref a23, .ref a24, .ref a25, .ref a26, .ref a27, .ref a28, .ref a29, .ref a30, .int 0, .int 0, .ref a31]))] (fun (w1 : va_W) => w1 = ([(a0, .inr (12, [.ref a1, .ref a2, .ref a3, .int 0, .ref a4, .int 0, .int 0, .int 0, .int 0, .int 0, .int (-1), .int 0, .int 0, .int 0, .int 0, .ref a5, .ref a6, .ref a7, .ref a8, .ref a9, .ref a10, .ref a11, .ref a12, .int 0, .int 0, .int 0, .int 0, .int 0, .ref a13, .int 0, .ref a14, .ref a15, .int 0, .int 0, .ref a16, .int 0, .ref a17, .ref a18, .int 0, .int (-1), .ref a19, .ref a20, .ref a21, .int 0, .ref a22, .ref a23, .ref a24, .ref a25, .ref a26, .ref a27, .ref a28, .ref a29, .ref a30, .int 0, .int 0, .ref a31]))] : va_W)) := by
  obtain ⟨dC, dI⟩ := D
  refine Met.ofW (cc := cX12_blanks) (maxL := 1) (ret := none) (by decide) rfl ?_
  intro p e s m args below meth c s₁ B hml hv
  obtain ⟨rfl, hsz, hP, hK, hD0, hN⟩ := hv
  have hx := B.exec
  have hb := B.bytes
  have hr := B.returns
  have hU : ∀ w ∈ wsU, w.before _ s = true := fun w h => atoms_spec (ws := wU yX12_blanks cX12_blanks 1 none) B.pre w (List.mem_cons_of_mem _ h)
  have hown : s.vm.findClass RX12 = some m.cls := findClass_of_methodNamed B.named
  have hlocks := B.notSynchronized
  subst hsz
  have hD := hD0.self (sz := s.heap.size)
  generalize hAe : va_A [(a0, .inr (12, [.ref a1, .ref a2, .ref a3, .int 0, .ref a4, .int 0, .int 0, .int 0, .int 0, .int 0, .int (-1), .int 0, .int 0, .int 0, .int 0, .ref a5, .ref a6, .ref a7, .ref a8, .ref a9, .ref a10, .ref a11, .ref a12, .int 0, .int 0, .int 0, .int 0, .int 0, .ref a13, .int 0, .ref a14, .ref a15, .int 0, .int 0, .ref a16, .int 0, .ref a17, .ref a18, .int 0, .int (-1), .ref a19, .ref a20, .ref a21, .int 0, .ref a22, .ref a23, .ref a24, .ref a25, .ref a26, .ref a27, .ref a28, .ref a29, .ref a30, .int 0, .int 0, .ref a31]))] s.heap.size = A at hD ⊢
  have hA : ∀ q : Nat, s.heap.size ≤ q → A q := fun q h => by rw [← hAe]; exact Or.inr h
  have hS : va_S A s.heap s.heap [] := va_S.rf
  have hP : va_P (dC, dI) vwCl [(a0, .inr (12, [.ref a1, .ref a2, .ref a3, .int 0, .ref a4, .int 0, .int 0, .int 0, .int 0, .int 0, .int (-1), .int 0, .int 0, .int 0, .int 0, .ref a5, .ref a6, .ref a7, .ref a8, .ref a9, .ref a10, .ref a11, .ref a12, .int 0, .int 0, .int 0, .int 0, .int 0, .ref a13, .int 0, .ref a14, .ref a15, .int 0, .int 0, .ref a16, .int 0, .ref a17, .ref a18, .int 0, .int (-1), .ref a19, .ref a20, .ref a21, .int 0, .ref a22, .ref a23, .ref a24, .ref a25, .ref a26, .ref a27, .ref a28, .ref a29, .ref a30, .int 0, .int 0, .ref a31]))] s.heap := hP
  have hl := lv_entry ([.ref a0]) (n := 1) (Nat.le_of_ble_eq_true rfl)
  rw [lg_entry_eq]
  generalize (lg_sl ([.ref a0]) ++ List.replicate (1 - (lg_sl ([.ref a0])).length) Slot.unset).toArray = ls at hl ⊢
  have hl : lv_has ls 1 [(0, .ref a0)] := hl
  refine lv_aload_n hx hb dX12_blanks_0 rfl (lv_at hl 0 rfl) ?_
  refine lv_aload_n hx hb dX12_blanks_1 rfl (lv_at hl 0 rfl) ?_
  refine va_get (D := (dC, dI)) (ci := 12) (v := .int 0) (C := RX12) (T := TX12) (N := 56) hx hb hU inlX12 hown hK hP 0 rfl rfl 6 (by decide) (hU _ wd_566) (fun _ h9 => h9) rfl dX12_blanks_2 ?_
  refine tk_ri (wr := []) (tk_V (As := [.int 0]) (rest := []) (n := 1) hx hb hml hown hU hN (cc_X12_see_0 l (dC, dI) cI cL cZ s.heap.size a0 a1 a2 a3 a4 a5 a6 a7 a8 a9 a10 a11 a12 a13 a14 a15 a16 a17 a18 a19 a20 a21 a22 a23 a24 a25 a26 a27 a28 a29 a30 a31) wd_581 wd_582 wd_583 wd_5 wd_584 (by decide +kernel) ⟨Nat.le_of_ble_eq_true rfl, Nat.le_of_ble_eq_true rfl⟩ hK hP hD [0] (by decide) rfl 0 12 rfl rfl rfl rfl hl.1 rfl (Nat.le_of_ble_eq_true rfl) dX12_blanks_5 ⟨Nat.le_of_ble_eq_true rfl, Nat.le_of_ble_eq_true rfl⟩) hP hD hS hA [0] [] rfl rfl (by decide) (by decide) (fun r_1 w_2 H locs hw hP hD hS => ?_)
  obtain ⟨rfl, rfl⟩ := hw
  have hP : va_P (dC, dI) vwCl [(a0, .inr (12, [.ref a1, .ref a2, .ref a3, .int 0, .ref a4, .int 0, .int 0, .int 0, .int 0, .int 0, .int (-1), .int 0, .int 0, .int 0, .int 0, .ref a5, .ref a6, .ref a7, .ref a8, .ref a9, .ref a10, .ref a11, .ref a12, .int 0, .int 0, .int 0, .int 0, .int 0, .ref a13, .int 0, .ref a14, .ref a15, .int 0, .int 0, .ref a16, .int 0, .ref a17, .ref a18, .int 0, .int (-1), .ref a19, .ref a20, .ref a21, .int 0, .ref a22, .ref a23, .ref a24, .ref a25, .ref a26, .ref a27, .ref a28, .ref a29, .ref a30, .int 0, .int 0, .ref a31]))] H := hP
  have hD : va_D A [(a0, .inr (12, [.ref a1, .ref a2, .ref a3, .int 0, .ref a4, .int 0, .int 0, .int 0, .int 0, .int 0, .int (-1), .int 0, .int 0, .int 0, .int 0, .ref a5, .ref a6, .ref a7, .ref a8, .ref a9, .ref a10, .ref a11, .ref a12, .int 0, .int 0, .int 0, .int 0, .int 0, .ref a13, .int 0, .ref a14, .ref a15, .int 0, .int 0, .ref a16, .int 0, .ref a17, .ref a18, .int 0, .int (-1), .ref a19, .ref a20, .ref a21, .int 0, .ref a22, .ref a23, .ref a24, .ref a25, .ref a26, .ref a27, .ref a28, .ref a29, .ref a30, .int 0, .int 0, .ref a31]))] := hD
  refine lv_bipush (v := 32) hx hb dX12_blanks_8 (by decide) ?_
  refine lv_icmp_eq (tgt := 26) hx hb dX12_blanks_10 (by decide) (fun c9 => absurd c9 (by decide)) (fun _ => ?_)
  refine lv_aload_n hx hb dX12_blanks_13 rfl (lv_at hl 0 rfl) ?_
  refine lv_aload_n hx hb dX12_blanks_14 rfl (lv_at hl 0 rfl) ?_
  refine va_get (D := (dC, dI)) (ci := 12) (v := .int 0) (C := RX12) (T := TX12) (N := 56) hx hb hU inlX12 hown hK hP 0 rfl rfl 6 (by decide) (hU _ wd_566) (fun _ h9 => h9) rfl dX12_blanks_15 ?_
  refine tk_ri (wr := []) (tk_V (As := [.int 0]) (rest := []) (n := 1) hx hb hml hown hU hN (cc_X12_see_0 l (dC, dI) cI cL cZ H.size a0 a1 a2 a3 a4 a5 a6 a7 a8 a9 a10 a11 a12 a13 a14 a15 a16 a17 a18 a19 a20 a21 a22 a23 a24 a25 a26 a27 a28 a29 a30 a31) wd_581 wd_582 wd_583 wd_5 wd_584 (by decide +kernel) ⟨Nat.le_of_ble_eq_true rfl, Nat.le_of_ble_eq_true rfl⟩ hK hP hD [0] (by decide) rfl 0 12 rfl rfl rfl rfl hl.1 rfl (Nat.le_of_ble_eq_true rfl) dX12_blanks_18 ⟨Nat.le_of_ble_eq_true rfl, Nat.le_of_ble_eq_true rfl⟩) hP hD hS hA [0] [] rfl rfl (by decide) (by decide) (fun r_3 w_4 H locs hw hP hD hS => ?_)
  obtain ⟨rfl, rfl⟩ := hw
  have hP : va_P (dC, dI) vwCl [(a0, .inr (12, [.ref a1, .ref a2, .ref a3, .int 0, .ref a4, .int 0, .int 0, .int 0, .int 0, .int 0, .int (-1), .int 0, .int 0, .int 0, .int 0, .ref a5, .ref a6, .ref a7, .ref a8, .ref a9, .ref a10, .ref a11, .ref a12, .int 0, .int 0, .int 0, .int 0, .int 0, .ref a13, .int 0, .ref a14, .ref a15, .int 0, .int 0, .ref a16, .int 0, .ref a17, .ref a18, .int 0, .int (-1), .ref a19, .ref a20, .ref a21, .int 0, .ref a22, .ref a23, .ref a24, .ref a25, .ref a26, .ref a27, .ref a28, .ref a29, .ref a30, .int 0, .int 0, .ref a31]))] H := hP
  have hD : va_D A [(a0, .inr (12, [.ref a1, .ref a2, .ref a3, .int 0, .ref a4, .int 0, .int 0, .int 0, .int 0, .int 0, .int (-1), .int 0, .int 0, .int 0, .int 0, .ref a5, .ref a6, .ref a7, .ref a8, .ref a9, .ref a10, .ref a11, .ref a12, .int 0, .int 0, .int 0, .int 0, .int 0, .ref a13, .int 0, .ref a14, .ref a15, .int 0, .int 0, .ref a16, .int 0, .ref a17, .ref a18, .int 0, .int (-1), .ref a19, .ref a20, .ref a21, .int 0, .ref a22, .ref a23, .ref a24, .ref a25, .ref a26, .ref a27, .ref a28, .ref a29, .ref a30, .int 0, .int 0, .ref a31]))] := hD
  refine lv_bipush (v := 10) hx hb dX12_blanks_21 (by decide) ?_
  refine lv_icmp_ne (tgt := 39) hx hb dX12_blanks_23 (by decide) (fun _ => ?_) (fun c9 => absurd c9 (by decide)) 
  have hP9 := hP.sub (ws' := [(a0, .inr (12, [.ref a1, .ref a2, .ref a3, .int 0, .ref a4, .int 0, .int 0, .int 0, .int 0, .int 0, .int (-1), .int 0, .int 0, .int 0, .int 0, .ref a5, .ref a6, .ref a7, .ref a8, .ref a9, .ref a10, .ref a11, .ref a12, .int 0, .int 0, .int 0, .int 0, .int 0, .ref a13, .int 0, .ref a14, .ref a15, .int 0, .int 0, .ref a16, .int 0, .ref a17, .ref a18, .int 0, .int (-1), .ref a19, .ref a20, .ref a21, .int 0, .ref a22, .ref a23, .ref a24, .ref a25, .ref a26, .ref a27, .ref a28, .ref a29, .ref a30, .int 0, .int 0, .ref a31]))]) [0] rfl
  have hD9 := hD.sub (ws' := [(a0, .inr (12, [.ref a1, .ref a2, .ref a3, .int 0, .ref a4, .int 0, .int 0, .int 0, .int 0, .int 0, .int (-1), .int 0, .int 0, .int 0, .int 0, .ref a5, .ref a6, .ref a7, .ref a8, .ref a9, .ref a10, .ref a11, .ref a12, .int 0, .int 0, .int 0, .int 0, .int 0, .ref a13, .int 0, .ref a14, .ref a15, .int 0, .int 0, .ref a16, .int 0, .ref a17, .ref a18, .int 0, .int (-1), .ref a19, .ref a20, .ref a21, .int 0, .ref a22, .ref a23, .ref a24, .ref a25, .ref a26, .ref a27, .ref a28, .ref a29, .ref a30, .int 0, .int 0, .ref a31]))]) [0] (by decide) rfl
  refine W.widen (k := 0) (n := 0) (Nat.le_of_ble_eq_true rfl) (Nat.le_of_ble_eq_true rfl) ?_
  exact W.vret hx hb hr (fun t ht hW => ⟨⟨[(a0, .inr (12, [.ref a1, .ref a2, .ref a3, .int 0, .ref a4, .int 0, .int 0, .int 0, .int 0, .int 0, .int (-1), .int 0, .int 0, .int 0, .int 0, .ref a5, .ref a6, .ref a7, .ref a8, .ref a9, .ref a10, .ref a11, .ref a12, .int 0, .int 0, .int 0, .int 0, .int 0, .ref a13, .int 0, .ref a14, .ref a15, .int 0, .int 0, .ref a16, .int 0, .ref a17, .ref a18, .int 0, .int (-1), .ref a19, .ref a20, .ref a21, .int 0, .ref a22, .ref a23, .ref a24, .ref a25, .ref a26, .ref a27, .ref a28, .ref a29, .ref a30, .int 0, .int 0, .ref a31]))], rfl, rfl, by rw [ht]; exact hP9, va_K.moved hW.alike hK, hD9⟩, hS.F ht⟩) hS.2.2 dX12_blanks_39
set_option maxHeartbeats 8000000 in
set_option maxRecDepth 100000 in
theorem cc_X12_sign_0 (l : Launch) (D : va_G) (cI cL cZ : ClassId) (sz : Nat) (a0 : Nat) (a1 : Nat) (a2 : Nat) (a3 : Nat) (a4 : Nat) (a5 : Nat) (a6 : Nat) (a7 : Nat) (a8 : Nat) (a9 : Nat) (a10 : Nat) (a11 : Nat) (a12 : Nat) (a13 : Nat) (a14 : Nat) (a15 : Nat) (a16 : Nat) (a17 : Nat) (a18 : Nat) (a19 : Nat) (a20 : Nat) (a21 : Nat) (a22 : Nat) (a23 : Nat) (a24 : Nat) (a25 : Nat) (a26 : Nat) (a27 : Nat) (a28 : Nat) (a29 : Nat) (a30 : Nat) (a31 : Nat) : mI l D cI cL cZ yX12_sign cX12_sign 1 (some .int) 2 41 0 0 [.ref a0] sz [(a0, .inr (12, [.ref a1, .ref a2, .ref a3, .int 0, .ref a4, .int 0, .int 0, .int 0, .int 0, .int 0, .int (-1), .int 0, .int 0, .int 0, .int 0, .ref a5, .ref a6, .ref a7, .ref a8, .ref a9, .ref a10, .ref a11, .ref a12, .int 0, .int 0, .int 0, .int 0, .int 0, .ref a13, .int 0, .ref a14, .ref a15, .int 0, .int 0, .ref a16, .int 0, .ref a17, .ref a18, .int 0, .int (-1), .ref a19, .ref a20, .ref a21, .int 0, .ref a22, .ref a23, .ref a24, .ref a25, .ref a26, .ref a27, .ref a28, .ref a29, .ref a30, .int 0, .int 0, .ref a31]))] (fun (r : Int32) (w1 : va_W) => r = (-1) ∧ w1 = ([(a0, .inr (12, [.ref a1, .ref a2, .ref a3, .int 0, .ref a4, .int 0, .int 0, .int 0, .int 0, .int 0, .int (-1), .int 0, .int 0, .int 0, .int 0, .ref a5, .ref a6, .ref a7, .ref a8, .ref a9, .ref a10, .ref a11, .ref a12, .int 0, .int 0, .int 0, .int 0, .int 0, .ref a13, .int 0, .ref a14, .ref a15, .int 0, .int 0, .ref a16, .int 0, .ref a17, .ref a18, .int 0, .int (-1), .ref a19, .ref a20, .ref a21, .int 0, .ref a22, .ref a23, .ref a24, .ref a25, .ref a26, .ref a27, .ref a28, .ref a29, .ref a30, .int 0, .int 0, .ref a31]))] : va_W)) := by
  obtain ⟨dC, dI⟩ := D
  refine Met.ofW (cc := cX12_sign) (maxL := 1) (ret := (some .int)) (by decide) rfl ?_
  intro p e s m args below meth c s₁ B hml hv
  obtain ⟨rfl, hsz, hP, hK, hD0, hN⟩ := hv
  have hx := B.exec
  have hb := B.bytes
  have hr := B.returns
  have hU : ∀ w ∈ wsU, w.before _ s = true := fun w h => atoms_spec (ws := wU yX12_sign cX12_sign 1 (some .int)) B.pre w (List.mem_cons_of_mem _ h)
  have hown : s.vm.findClass RX12 = some m.cls := findClass_of_methodNamed B.named
  have hlocks := B.notSynchronized
  subst hsz
  have hD := hD0.self (sz := s.heap.size)
  generalize hAe : va_A [(a0, .inr (12, [.ref a1, .ref a2, .ref a3, .int 0, .ref a4, .int 0, .int 0, .int 0, .int 0, .int 0, .int (-1), .int 0, .int 0, .int 0, .int 0, .ref a5, .ref a6, .ref a7, .ref a8, .ref a9, .ref a10, .ref a11, .ref a12, .int 0, .int 0, .int 0, .int 0, .int 0, .ref a13, .int 0, .ref a14, .ref a15, .int 0, .int 0, .ref a16, .int 0, .ref a17, .ref a18, .int 0, .int (-1), .ref a19, .ref a20, .ref a21, .int 0, .ref a22, .ref a23, .ref a24, .ref a25, .ref a26, .ref a27, .ref a28, .ref a29, .ref a30, .int 0, .int 0, .ref a31]))] s.heap.size = A at hD ⊢
  have hA : ∀ q : Nat, s.heap.size ≤ q → A q := fun q h => by rw [← hAe]; exact Or.inr h
  have hS : va_S A s.heap s.heap [] := va_S.rf
  have hP : va_P (dC, dI) vwCl [(a0, .inr (12, [.ref a1, .ref a2, .ref a3, .int 0, .ref a4, .int 0, .int 0, .int 0, .int 0, .int 0, .int (-1), .int 0, .int 0, .int 0, .int 0, .ref a5, .ref a6, .ref a7, .ref a8, .ref a9, .ref a10, .ref a11, .ref a12, .int 0, .int 0, .int 0, .int 0, .int 0, .ref a13, .int 0, .ref a14, .ref a15, .int 0, .int 0, .ref a16, .int 0, .ref a17, .ref a18, .int 0, .int (-1), .ref a19, .ref a20, .ref a21, .int 0, .ref a22, .ref a23, .ref a24, .ref a25, .ref a26, .ref a27, .ref a28, .ref a29, .ref a30, .int 0, .int 0, .ref a31]))] s.heap := hP
  have hl := lv_entry ([.ref a0]) (n := 1) (Nat.le_of_ble_eq_true rfl)
  rw [lg_entry_eq]
  generalize (lg_sl ([.ref a0]) ++ List.replicate (1 - (lg_sl ([.ref a0])).length) Slot.unset).toArray = ls at hl ⊢
  have hl : lv_has ls 1 [(0, .ref a0)] := hl
  refine lv_aload_n hx hb dX12_sign_0 rfl (lv_at hl 0 rfl) ?_
  refine tk_rv (wr := []) (tk_V (As := []) (rest := []) (n := 0) hx hb hml hown hU hN (cc_X12_blanks_0 l (dC, dI) cI cL cZ s.heap.size a0 a1 a2 a3 a4 a5 a6 a7 a8 a9 a10 a11 a12 a13 a14 a15 a16 a17 a18 a19 a20 a21 a22 a23 a24 a25 a26 a27 a28 a29 a30 a31) wd_577 wd_578 wd_579 wd_5 wd_580 (by decide +kernel) ⟨Nat.le_of_ble_eq_true rfl, Nat.le_of_ble_eq_true rfl⟩ hK hP hD [0] (by decide) rfl 0 12 rfl rfl rfl rfl hl.1 rfl (Nat.le_of_ble_eq_true rfl) dX12_sign_1 ⟨Nat.le_of_ble_eq_true rfl, Nat.le_of_ble_eq_true rfl⟩) hP hD hS hA [0] [] rfl rfl (by decide) (by decide) (fun w_2 H locs hw hP hD hS => ?_)
  subst hw
  have hP : va_P (dC, dI) vwCl [(a0, .inr (12, [.ref a1, .ref a2, .ref a3, .int 0, .ref a4, .int 0, .int 0, .int 0, .int 0, .int 0, .int (-1), .int 0, .int 0, .int 0, .int 0, .ref a5, .ref a6, .ref a7, .ref a8, .ref a9, .ref a10, .ref a11, .ref a12, .int 0, .int 0, .int 0, .int 0, .int 0, .ref a13, .int 0, .ref a14, .ref a15, .int 0, .int 0, .ref a16, .int 0, .ref a17, .ref a18, .int 0, .int (-1), .ref a19, .ref a20, .ref a21, .int 0, .ref a22, .ref a23, .ref a24, .ref a25, .ref a26, .ref a27, .ref a28, .ref a29, .ref a30, .int 0, .int 0, .ref a31]))] H := hP
  have hD : va_D A [(a0, .inr (12, [.ref a1, .ref a2, .ref a3, .int 0, .ref a4, .int 0, .int 0, .int 0, .int 0, .int 0, .int (-1), .int 0, .int 0, .int 0, .int 0, .ref a5, .ref a6, .ref a7, .ref a8, .ref a9, .ref a10, .ref a11, .ref a12, .int 0, .int 0, .int 0, .int 0, .int 0, .ref a13, .int 0, .ref a14, .ref a15, .int 0, .int 0, .ref a16, .int 0, .ref a17, .ref a18, .int 0, .int (-1), .ref a19, .ref a20, .ref a21, .int 0, .ref a22, .ref a23, .ref a24, .ref a25, .ref a26, .ref a27, .ref a28, .ref a29, .ref a30, .int 0, .int 0, .ref a31]))] := hD
  refine lv_aload_n hx hb dX12_sign_4 rfl (lv_at hl 0 rfl) ?_
  refine lv_aload_n hx hb dX12_sign_5 rfl (lv_at hl 0 rfl) ?_
  refine va_get (D := (dC, dI)) (ci := 12) (v := .int 0) (C := RX12) (T := TX12) (N := 56) hx hb hU inlX12 hown hK hP 0 rfl rfl 6 (by decide) (hU _ wd_566) (fun _ h9 => h9) rfl dX12_sign_6 ?_
  refine tk_ri (wr := []) (tk_V (As := [.int 0]) (rest := []) (n := 1) hx hb hml hown hU hN (cc_X12_see_0 l (dC, dI) cI cL cZ H.size a0 a1 a2 a3 a4 a5 a6 a7 a8 a9 a10 a11 a12 a13 a14 a15 a16 a17 a18 a19 a20 a21 a22 a23 a24 a25 a26 a27 a28 a29 a30 a31) wd_581 wd_582 wd_583 wd_5 wd_584 (by decide +kernel) ⟨Nat.le_of_ble_eq_true rfl, Nat.le_of_ble_eq_true rfl⟩ hK hP hD [0] (by decide) rfl 0 12 rfl rfl rfl rfl hl.1 rfl (Nat.le_of_ble_eq_true rfl) dX12_sign_9 ⟨Nat.le_of_ble_eq_true rfl, Nat.le_of_ble_eq_true rfl⟩) hP hD hS hA [0] [] rfl rfl (by decide) (by decide) (fun r_3 w_4 H locs hw hP hD hS => ?_)
  obtain ⟨rfl, rfl⟩ := hw
  have hP : va_P (dC, dI) vwCl [(a0, .inr (12, [.ref a1, .ref a2, .ref a3, .int 0, .ref a4, .int 0, .int 0, .int 0, .int 0, .int 0, .int (-1), .int 0, .int 0, .int 0, .int 0, .ref a5, .ref a6, .ref a7, .ref a8, .ref a9, .ref a10, .ref a11, .ref a12, .int 0, .int 0, .int 0, .int 0, .int 0, .ref a13, .int 0, .ref a14, .ref a15, .int 0, .int 0, .ref a16, .int 0, .ref a17, .ref a18, .int 0, .int (-1), .ref a19, .ref a20, .ref a21, .int 0, .ref a22, .ref a23, .ref a24, .ref a25, .ref a26, .ref a27, .ref a28, .ref a29, .ref a30, .int 0, .int 0, .ref a31]))] H := hP
  have hD : va_D A [(a0, .inr (12, [.ref a1, .ref a2, .ref a3, .int 0, .ref a4, .int 0, .int 0, .int 0, .int 0, .int 0, .int (-1), .int 0, .int 0, .int 0, .int 0, .ref a5, .ref a6, .ref a7, .ref a8, .ref a9, .ref a10, .ref a11, .ref a12, .int 0, .int 0, .int 0, .int 0, .int 0, .ref a13, .int 0, .ref a14, .ref a15, .int 0, .int 0, .ref a16, .int 0, .ref a17, .ref a18, .int 0, .int (-1), .ref a19, .ref a20, .ref a21, .int 0, .ref a22, .ref a23, .ref a24, .ref a25, .ref a26, .ref a27, .ref a28, .ref a29, .ref a30, .int 0, .int 0, .ref a31]))] := hD
  have hP9 := hP.sub (ws' := [(a0, .inr (12, [.ref a1, .ref a2, .ref a3, .int 0, .ref a4, .int 0, .int 0, .int 0, .int 0, .int 0, .int (-1), .int 0, .int 0, .int 0, .int 0, .ref a5, .ref a6, .ref a7, .ref a8, .ref a9, .ref a10, .ref a11, .ref a12, .int 0, .int 0, .int 0, .int 0, .int 0, .ref a13, .int 0, .ref a14, .ref a15, .int 0, .int 0, .ref a16, .int 0, .ref a17, .ref a18, .int 0, .int (-1), .ref a19, .ref a20, .ref a21, .int 0, .ref a22, .ref a23, .ref a24, .ref a25, .ref a26, .ref a27, .ref a28, .ref a29, .ref a30, .int 0, .int 0, .ref a31]))]) [0] rfl
  have hD9 := hD.sub (ws' := [(a0, .inr (12, [.ref a1, .ref a2, .ref a3, .int 0, .ref a4, .int 0, .int 0, .int 0, .int 0, .int 0, .int (-1), .int 0, .int 0, .int 0, .int 0, .ref a5, .ref a6, .ref a7, .ref a8, .ref a9, .ref a10, .ref a11, .ref a12, .int 0, .int 0, .int 0, .int 0, .int 0, .ref a13, .int 0, .ref a14, .ref a15, .int 0, .int 0, .ref a16, .int 0, .ref a17, .ref a18, .int 0, .int (-1), .ref a19, .ref a20, .ref a21, .int 0, .ref a22, .ref a23, .ref a24, .ref a25, .ref a26, .ref a27, .ref a28, .ref a29, .ref a30, .int 0, .int 0, .ref a31]))]) [0] (by decide) rfl
  refine W.widen (k := 0) (n := 0) (Nat.le_of_ble_eq_true rfl) (Nat.le_of_ble_eq_true rfl) ?_
  exact W.iret (v := (-1)) hx hb hr (fun t ht hW => ⟨⟨(-1), [(a0, .inr (12, [.ref a1, .ref a2, .ref a3, .int 0, .ref a4, .int 0, .int 0, .int 0, .int 0, .int 0, .int (-1), .int 0, .int 0, .int 0, .int 0, .ref a5, .ref a6, .ref a7, .ref a8, .ref a9, .ref a10, .ref a11, .ref a12, .int 0, .int 0, .int 0, .int 0, .int 0, .ref a13, .int 0, .ref a14, .ref a15, .int 0, .int 0, .ref a16, .int 0, .ref a17, .ref a18, .int 0, .int (-1), .ref a19, .ref a20, .ref a21, .int 0, .ref a22, .ref a23, .ref a24, .ref a25, .ref a26, .ref a27, .ref a28, .ref a29, .ref a30, .int 0, .int 0, .ref a31]))], rfl, ⟨rfl, rfl⟩, by rw [ht]; exact hP9, va_K.moved hW.alike hK, hD9⟩, hS.F ht⟩) hS.2.2 dX12_sign_12
set_option maxHeartbeats 8000000 in
set_option maxRecDepth 100000 in
theorem op_X12_text (l : Launch) (D : va_G) (cI cL cZ : ClassId) (sz : Nat) (a0 : Nat) (a1 : Nat) (a2 : Nat) (a3 : Nat) (a4 : Nat) (a5 : Nat) (a6 : Nat) (a7 : Nat) (a8 : Nat) (a9 : Nat) (a10 : Nat) (a11 : Nat) (a12 : Nat) (a13 : Nat) (a14 : Nat) (a15 : Nat) (a16 : Nat) (a17 : Nat) (a18 : Nat) (a19 : Nat) (a20 : Nat) (a21 : Nat) (a22 : Nat) (a23 : Nat) (a24 : Nat) (a25 : Nat) (a26 : Nat) (a27 : Nat) (a28 : Nat) (a29 : Nat) (a30 : Nat) (a31 : Nat) : mI l D cI cL cZ yX12_text cX12_text 3 (some .int) 3 61 0 0 [.ref a0] sz [(a0, .inr (12, [.ref a1, .ref a2, .ref a3, .int 0, .ref a4, .int 0, .int 0, .int 0, .int 0, .int 0, .int (-1), .int 0, .int 0, .int 0, .int 0, .ref a5, .ref a6, .ref a7, .ref a8, .ref a9, .ref a10, .ref a11, .ref a12, .int 0, .int 0, .int 0, .int 0, .int 0, .ref a13, .int 0, .ref a14, .ref a15, .int 0, .int 0, .ref a16, .int 0, .ref a17, .ref a18, .int 0, .int (-1), .ref a19, .ref a20, .ref a21, .int 0, .ref a22, .ref a23, .ref a24, .ref a25, .ref a26, .ref a27, .ref a28, .ref a29, .ref a30, .int 0, .int 0, .ref a31])), (a1, .inl (cI, 1560, .inl w0)), (a2, .inl (cI, 1560, .inl z0))] (fun (r : Int32) (w1 : va_W) => r = 0 ∧ w1 = ([] : va_W)) := by
  obtain ⟨dC, dI⟩ := D
  refine Met.ofW (cc := cX12_text) (maxL := 3) (ret := (some .int)) (by decide) rfl ?_
  intro p e s m args below meth c s₁ B hml hv
  obtain ⟨rfl, hsz, hP, hK, hD0, hN⟩ := hv
  have hx := B.exec
  have hb := B.bytes
  have hr := B.returns
  have hU : ∀ w ∈ wsU, w.before _ s = true := fun w h => atoms_spec (ws := wU yX12_text cX12_text 3 (some .int)) B.pre w (List.mem_cons_of_mem _ h)
  have hown : s.vm.findClass RX12 = some m.cls := findClass_of_methodNamed B.named
  have hlocks := B.notSynchronized
  subst hsz
  have hD := hD0.self (sz := s.heap.size)
  generalize hAe : va_A [(a0, .inr (12, [.ref a1, .ref a2, .ref a3, .int 0, .ref a4, .int 0, .int 0, .int 0, .int 0, .int 0, .int (-1), .int 0, .int 0, .int 0, .int 0, .ref a5, .ref a6, .ref a7, .ref a8, .ref a9, .ref a10, .ref a11, .ref a12, .int 0, .int 0, .int 0, .int 0, .int 0, .ref a13, .int 0, .ref a14, .ref a15, .int 0, .int 0, .ref a16, .int 0, .ref a17, .ref a18, .int 0, .int (-1), .ref a19, .ref a20, .ref a21, .int 0, .ref a22, .ref a23, .ref a24, .ref a25, .ref a26, .ref a27, .ref a28, .ref a29, .ref a30, .int 0, .int 0, .ref a31])), (a1, .inl (cI, 1560, .inl w0)), (a2, .inl (cI, 1560, .inl z0))] s.heap.size = A at hD ⊢
  have hA : ∀ q : Nat, s.heap.size ≤ q → A q := fun q h => by rw [← hAe]; exact Or.inr h
  have hS : va_S A s.heap s.heap [] := va_S.rf
  have hP : va_P (dC, dI) vwCl [(a0, .inr (12, [.ref a1, .ref a2, .ref a3, .int 0, .ref a4, .int 0, .int 0, .int 0, .int 0, .int 0, .int (-1), .int 0, .int 0, .int 0, .int 0, .ref a5, .ref a6, .ref a7, .ref a8, .ref a9, .ref a10, .ref a11, .ref a12, .int 0, .int 0, .int 0, .int 0, .int 0, .ref a13, .int 0, .ref a14, .ref a15, .int 0, .int 0, .ref a16, .int 0, .ref a17, .ref a18, .int 0, .int (-1), .ref a19, .ref a20, .ref a21, .int 0, .ref a22, .ref a23, .ref a24, .ref a25, .ref a26, .ref a27, .ref a28, .ref a29, .ref a30, .int 0, .int 0, .ref a31])), (a1, .inl (cI, 1560, .inl w0)), (a2, .inl (cI, 1560, .inl z0))] s.heap := hP
  have hl := lv_entry ([.ref a0]) (n := 3) (Nat.le_of_ble_eq_true rfl)
  rw [lg_entry_eq]
  generalize (lg_sl ([.ref a0]) ++ List.replicate (3 - (lg_sl ([.ref a0])).length) Slot.unset).toArray = ls at hl ⊢
  have hl : lv_has ls 3 [(0, .ref a0)] := hl
  refine lv_iconst (v := 0) hx hb dX12_text_0 (by decide) ?_
  refine lv_istore_n (lv' := [(1, .int 0), (0, .ref a0)]) hx hb dX12_text_1 rfl hl (by decide) rfl (fun ls hl => ?_)
  have hloop_2 : ∀ (n i_2 : Nat) (x_1 : Int32), x_1 = nI i_2 → i_2 ≤ 1560 → 1560 + 1 ≤ i_2 + n → ∀ (H : Heap) (locs : List Loc), va_P (dC, dI) vwCl [(a0, .inr (12, [.ref a1, .ref a2, .ref a3, .int 0, .ref a4, .int 0, .int 0, .int 0, .int 0, .int 0, .int (-1), .int 0, .int 0, .int 0, .int 0, .ref a5, .ref a6, .ref a7, .ref a8, .ref a9, .ref a10, .ref a11, .ref a12, .int 0, .int 0, .int 0, .int 0, .int 0, .ref a13, .int 0, .ref a14, .ref a15, .int 0, .int 0, .ref a16, .int 0, .ref a17, .ref a18, .int 0, .int (-1), .ref a19, .ref a20, .ref a21, .int 0, .ref a22, .ref a23, .ref a24, .ref a25, .ref a26, .ref a27, .ref a28, .ref a29, .ref a30, .int 0, .int 0, .ref a31])), (a1, .inl (cI, 1560, .inl w0)), (a2, .inl (cI, 1560, .inl z0))] H → va_D A [(a0, .inr (12, [.ref a1, .ref a2, .ref a3, .int 0, .ref a4, .int 0, .int 0, .int 0, .int 0, .int 0, .int (-1), .int 0, .int 0, .int 0, .int 0, .ref a5, .ref a6, .ref a7, .ref a8, .ref a9, .ref a10, .ref a11, .ref a12, .int 0, .int 0, .int 0, .int 0, .int 0, .ref a13, .int 0, .ref a14, .ref a15, .int 0, .int 0, .ref a16, .int 0, .ref a17, .ref a18, .int 0, .int (-1), .ref a19, .ref a20, .ref a21, .int 0, .ref a22, .ref a23, .ref a24, .ref a25, .ref a26, .ref a27, .ref a28, .ref a29, .ref a30, .int 0, .int 0, .ref a31])), (a1, .inl (cI, 1560, .inl w0)), (a2, .inl (cI, 1560, .inl z0))] → va_S A s.heap H locs → ∀ (ls : Array Slot), lv_has ls 3 [(1, .int x_1), (0, .ref a0)] → W p l e (headSpec (wU yX12_text cX12_text 3 (some .int)) { frames := 3, cells := 0, slots := 0, locals := 61 }).room s m [.ref a0].toArray below meth c H locs 0 0 (MQ below (va_Qi (fun (r : Int32) (w1 : va_W) => r = 0 ∧ w1 = ([] : va_W)) (qB (dC, dI) cI cL cZ A) A) [.ref a0].toArray s 0 0 A) (F0 m 2 ls []) := by
    intro n
    induction n with
    | zero => intro i_2 x_1 ex_1 hi hn; exact absurd hn (by omega)
    | succ n ih =>
      intro i_2 x_1 ex_1 hi hn H locs hP hD hS ls hl
      refine lv_iload_n hx hb dX12_text_2 rfl (lv_at hl 0 rfl) ?_
      refine lv_sipush (v := 1560) hx hb dX12_text_3 (by decide) ?_
      refine lv_icmp_ge (tgt := 22) hx hb dX12_text_6 (by decide) (fun c_3 => ?_) (fun c_3 => ?_)
      · skip
        have hge : 1560 ≤ i_2 := by rcases Nat.lt_or_ge i_2 1560 with q | q; exact absurd c_3 (by rw [ex_1]; exact nI_ge (b := 1560) q (by omega)); exact q
        have hiN : i_2 = 1560 := by omega
        refine lv_aload_n hx hb dX12_text_22 rfl (lv_at hl 1 rfl) ?_
        refine lv_iconst (v := 0) hx hb dX12_text_23 (by decide) ?_
        refine va_put (D := (dC, dI)) (ci := 12) (v := .int 0) (ty := .int) (C := RX12) (T := TX12) (N := 56) hx hb hU inlX12 tyX12 tyX12_ok nmX12 hown hK hP hD hS 0 rfl rfl 6 (by decide) (hU _ wd_566) (fun _ h9 => h9) rfl (by decide +kernel) rfl rfl (Nat.le_of_ble_eq_true rfl) dX12_text_24 (fun H locs hP hD hS => ?_)
        have hP : va_P (dC, dI) vwCl [(a0, .inr (12, [.ref a1, .ref a2, .ref a3, .int 0, .ref a4, .int 0, .int 0, .int 0, .int 0, .int 0, .int (-1), .int 0, .int 0, .int 0, .int 0, .ref a5, .ref a6, .ref a7, .ref a8, .ref a9, .ref a10, .ref a11, .ref a12, .int 0, .int 0, .int 0, .int 0, .int 0, .ref a13, .int 0, .ref a14, .ref a15, .int 0, .int 0, .ref a16, .int 0, .ref a17, .ref a18, .int 0, .int (-1), .ref a19, .ref a20, .ref a21, .int 0, .ref a22, .ref a23, .ref a24, .ref a25, .ref a26, .ref a27, .ref a28, .ref a29, .ref a30, .int 0, .int 0, .ref a31])), (a1, .inl (cI, 1560, .inl w0)), (a2, .inl (cI, 1560, .inl z0))] H := hP
        have hD : va_D A [(a0, .inr (12, [.ref a1, .ref a2, .ref a3, .int 0, .ref a4, .int 0, .int 0, .int 0, .int 0, .int 0, .int (-1), .int 0, .int 0, .int 0, .int 0, .ref a5, .ref a6, .ref a7, .ref a8, .ref a9, .ref a10, .ref a11, .ref a12, .int 0, .int 0, .int 0, .int 0, .int 0, .ref a13, .int 0, .ref a14, .ref a15, .int 0, .int 0, .ref a16, .int 0, .ref a17, .ref a18, .int 0, .int (-1), .ref a19, .ref a20, .ref a21, .int 0, .ref a22, .ref a23, .ref a24, .ref a25, .ref a26, .ref a27, .ref a28, .ref a29, .ref a30, .int 0, .int 0, .ref a31])), (a1, .inl (cI, 1560, .inl w0)), (a2, .inl (cI, 1560, .inl z0))] := hD
        refine lv_aload_n hx hb dX12_text_27 rfl (lv_at hl 1 rfl) ?_
        refine lv_iconst (v := 0) hx hb dX12_text_28 (by decide) ?_
        refine va_put (D := (dC, dI)) (ci := 12) (v := .int 0) (ty := .int) (C := RX12) (T := TX12) (N := 56) hx hb hU inlX12 tyX12 tyX12_ok nmX12 hown hK hP hD hS 0 rfl rfl 7 (by decide) (hU _ wd_567) (fun _ h9 => h9) rfl (by decide +kernel) rfl rfl (Nat.le_of_ble_eq_true rfl) dX12_text_29 (fun H locs hP hD hS => ?_)
        have hP : va_P (dC, dI) vwCl [(a0, .inr (12, [.ref a1, .ref a2, .ref a3, .int 0, .ref a4, .int 0, .int 0, .int 0, .int 0, .int 0, .int (-1), .int 0, .int 0, .int 0, .int 0, .ref a5, .ref a6, .ref a7, .ref a8, .ref a9, .ref a10, .ref a11, .ref a12, .int 0, .int 0, .int 0, .int 0, .int 0, .ref a13, .int 0, .ref a14, .ref a15, .int 0, .int 0, .ref a16, .int 0, .ref a17, .ref a18, .int 0, .int (-1), .ref a19, .ref a20, .ref a21, .int 0, .ref a22, .ref a23, .ref a24, .ref a25, .ref a26, .ref a27, .ref a28, .ref a29, .ref a30, .int 0, .int 0, .ref a31])), (a1, .inl (cI, 1560, .inl w0)), (a2, .inl (cI, 1560, .inl z0))] H := hP
        have hD : va_D A [(a0, .inr (12, [.ref a1, .ref a2, .ref a3, .int 0, .ref a4, .int 0, .int 0, .int 0, .int 0, .int 0, .int (-1), .int 0, .int 0, .int 0, .int 0, .ref a5, .ref a6, .ref a7, .ref a8, .ref a9, .ref a10, .ref a11, .ref a12, .int 0, .int 0, .int 0, .int 0, .int 0, .ref a13, .int 0, .ref a14, .ref a15, .int 0, .int 0, .ref a16, .int 0, .ref a17, .ref a18, .int 0, .int (-1), .ref a19, .ref a20, .ref a21, .int 0, .ref a22, .ref a23, .ref a24, .ref a25, .ref a26, .ref a27, .ref a28, .ref a29, .ref a30, .int 0, .int 0, .ref a31])), (a1, .inl (cI, 1560, .inl w0)), (a2, .inl (cI, 1560, .inl z0))] := hD
        refine lv_iconst (v := 1) hx hb dX12_text_32 (by decide) ?_
        refine lv_istore_n (lv' := [(1, .int 1), (0, .ref a0)]) hx hb dX12_text_33 rfl hl (by decide) rfl (fun ls hl => ?_)
        refine lv_iload_n hx hb dX12_text_34 rfl (lv_at hl 0 rfl) ?_
        refine lv_if_eq (tgt := 71) hx hb dX12_text_35 (by decide) (fun c9 => absurd c9 (by decide)) (fun _ => ?_)
        refine lv_aload_n hx hb dX12_text_38 rfl (lv_at hl 1 rfl) ?_
        refine tk_ri (wr := [(a1, .inl (cI, 1560, .inl w0)), (a2, .inl (cI, 1560, .inl z0))]) (tk_V (As := []) (rest := []) (n := 0) hx hb hml hown hU hN (cc_X12_sign_0 l (dC, dI) cI cL cZ H.size a0 a1 a2 a3 a4 a5 a6 a7 a8 a9 a10 a11 a12 a13 a14 a15 a16 a17 a18 a19 a20 a21 a22 a23 a24 a25 a26 a27 a28 a29 a30 a31) wd_573 wd_574 wd_575 wd_5 wd_576 (by decide +kernel) ⟨Nat.le_of_ble_eq_true rfl, Nat.le_of_ble_eq_true rfl⟩ hK hP hD [0] (by decide) rfl 0 12 rfl rfl rfl rfl hl.1 rfl (Nat.le_of_ble_eq_true rfl) dX12_text_39 ⟨Nat.le_of_ble_eq_true rfl, Nat.le_of_ble_eq_true rfl⟩) hP hD hS hA [0] [1, 2] rfl rfl (by decide) (by decide) (fun r_4 w_5 H locs hw hP hD hS => ?_)
        obtain ⟨rfl, rfl⟩ := hw
        have hP : va_P (dC, dI) vwCl [(a1, .inl (cI, 1560, .inl w0)), (a2, .inl (cI, 1560, .inl z0)), (a0, .inr (12, [.ref a1, .ref a2, .ref a3, .int 0, .ref a4, .int 0, .int 0, .int 0, .int 0, .int 0, .int (-1), .int 0, .int 0, .int 0, .int 0, .ref a5, .ref a6, .ref a7, .ref a8, .ref a9, .ref a10, .ref a11, .ref a12, .int 0, .int 0, .int 0, .int 0, .int 0, .ref a13, .int 0, .ref a14, .ref a15, .int 0, .int 0, .ref a16, .int 0, .ref a17, .ref a18, .int 0, .int (-1), .ref a19, .ref a20, .ref a21, .int 0, .ref a22, .ref a23, .ref a24, .ref a25, .ref a26, .ref a27, .ref a28, .ref a29, .ref a30, .int 0, .int 0, .ref a31]))] H := hP
        have hD : va_D A [(a1, .inl (cI, 1560, .inl w0)), (a2, .inl (cI, 1560, .inl z0)), (a0, .inr (12, [.ref a1, .ref a2, .ref a3, .int 0, .ref a4, .int 0, .int 0, .int 0, .int 0, .int 0, .int (-1), .int 0, .int 0, .int 0, .int 0, .ref a5, .ref a6, .ref a7, .ref a8, .ref a9, .ref a10, .ref a11, .ref a12, .int 0, .int 0, .int 0, .int 0, .int 0, .ref a13, .int 0, .ref a14, .ref a15, .int 0, .int 0, .ref a16, .int 0, .ref a17, .ref a18, .int 0, .int (-1), .ref a19, .ref a20, .ref a21, .int 0, .ref a22, .ref a23, .ref a24, .ref a25, .ref a26, .ref a27, .ref a28, .ref a29, .ref a30, .int 0, .int 0, .ref a31]))] := hD
        refine lv_iconst (v := (-1)) hx hb dX12_text_42 (by decide) ?_
        refine lv_icmp_eq (tgt := 71) hx hb dX12_text_43 (by decide) (fun _ => ?_) (fun c9 => absurd (by decide) c9) 
        refine lv_aload_n hx hb dX12_text_71 rfl (lv_at hl 1 rfl) ?_
        refine lv_iconst (v := 0) hx hb dX12_text_72 (by decide) ?_
        refine va_put (D := (dC, dI)) (ci := 12) (v := .int 0) (ty := .int) (C := RX12) (T := TX12) (N := 56) hx hb hU inlX12 tyX12 tyX12_ok nmX12 hown hK hP hD hS 2 rfl rfl 5 (by decide) (hU _ wd_218) (fun _ h9 => h9) rfl (by decide +kernel) rfl rfl (Nat.le_of_ble_eq_true rfl) dX12_text_73 (fun H locs hP hD hS => ?_)
        have hP : va_P (dC, dI) vwCl [(a1, .inl (cI, 1560, .inl w0)), (a2, .inl (cI, 1560, .inl z0)), (a0, .inr (12, [.ref a1, .ref a2, .ref a3, .int 0, .ref a4, .int 0, .int 0, .int 0, .int 0, .int 0, .int (-1), .int 0, .int 0, .int 0, .int 0, .ref a5, .ref a6, .ref a7, .ref a8, .ref a9, .ref a10, .ref a11, .ref a12, .int 0, .int 0, .int 0, .int 0, .int 0, .ref a13, .int 0, .ref a14, .ref a15, .int 0, .int 0, .ref a16, .int 0, .ref a17, .ref a18, .int 0, .int (-1), .ref a19, .ref a20, .ref a21, .int 0, .ref a22, .ref a23, .ref a24, .ref a25, .ref a26, .ref a27, .ref a28, .ref a29, .ref a30, .int 0, .int 0, .ref a31]))] H := hP
        have hD : va_D A [(a1, .inl (cI, 1560, .inl w0)), (a2, .inl (cI, 1560, .inl z0)), (a0, .inr (12, [.ref a1, .ref a2, .ref a3, .int 0, .ref a4, .int 0, .int 0, .int 0, .int 0, .int 0, .int (-1), .int 0, .int 0, .int 0, .int 0, .ref a5, .ref a6, .ref a7, .ref a8, .ref a9, .ref a10, .ref a11, .ref a12, .int 0, .int 0, .int 0, .int 0, .int 0, .ref a13, .int 0, .ref a14, .ref a15, .int 0, .int 0, .ref a16, .int 0, .ref a17, .ref a18, .int 0, .int (-1), .ref a19, .ref a20, .ref a21, .int 0, .ref a22, .ref a23, .ref a24, .ref a25, .ref a26, .ref a27, .ref a28, .ref a29, .ref a30, .int 0, .int 0, .ref a31]))] := hD
        refine lv_aload_n hx hb dX12_text_76 rfl (lv_at hl 1 rfl) ?_
        refine lv_iload_n hx hb dX12_text_77 rfl (lv_at hl 0 rfl) ?_
        refine lv_if_eq (tgt := 85) hx hb dX12_text_78 (by decide) (fun c9 => absurd c9 (by decide)) (fun _ => ?_)
        refine lv_iconst (v := 0) hx hb dX12_text_81 (by decide) ?_
        refine lv_goto (tgt := 89) hx hb dX12_text_82 (by decide) ?_
        refine va_put (D := (dC, dI)) (ci := 12) (v := .int 0) (ty := .int) (C := RX12) (T := TX12) (N := 56) hx hb hU inlX12 tyX12 tyX12_ok nmX12 hown hK hP hD hS 2 rfl rfl 9 (by decide) (hU _ wd_568) (fun _ h9 => h9) rfl (by decide +kernel) rfl rfl (Nat.le_of_ble_eq_true rfl) dX12_text_89 (fun H locs hP hD hS => ?_)
        have hP : va_P (dC, dI) vwCl [(a1, .inl (cI, 1560, .inl w0)), (a2, .inl (cI, 1560, .inl z0)), (a0, .inr (12, [.ref a1, .ref a2, .ref a3, .int 0, .ref a4, .int 0, .int 0, .int 0, .int 0, .int 0, .int (-1), .int 0, .int 0, .int 0, .int 0, .ref a5, .ref a6, .ref a7, .ref a8, .ref a9, .ref a10, .ref a11, .ref a12, .int 0, .int 0, .int 0, .int 0, .int 0, .ref a13, .int 0, .ref a14, .ref a15, .int 0, .int 0, .ref a16, .int 0, .ref a17, .ref a18, .int 0, .int (-1), .ref a19, .ref a20, .ref a21, .int 0, .ref a22, .ref a23, .ref a24, .ref a25, .ref a26, .ref a27, .ref a28, .ref a29, .ref a30, .int 0, .int 0, .ref a31]))] H := hP
        have hD : va_D A [(a1, .inl (cI, 1560, .inl w0)), (a2, .inl (cI, 1560, .inl z0)), (a0, .inr (12, [.ref a1, .ref a2, .ref a3, .int 0, .ref a4, .int 0, .int 0, .int 0, .int 0, .int 0, .int (-1), .int 0, .int 0, .int 0, .int 0, .ref a5, .ref a6, .ref a7, .ref a8, .ref a9, .ref a10, .ref a11, .ref a12, .int 0, .int 0, .int 0, .int 0, .int 0, .ref a13, .int 0, .ref a14, .ref a15, .int 0, .int 0, .ref a16, .int 0, .ref a17, .ref a18, .int 0, .int (-1), .ref a19, .ref a20, .ref a21, .int 0, .ref a22, .ref a23, .ref a24, .ref a25, .ref a26, .ref a27, .ref a28, .ref a29, .ref a30, .int 0, .int 0, .ref a31]))] := hD
        refine lv_aload_n hx hb dX12_text_92 rfl (lv_at hl 1 rfl) ?_
        refine lv_iload_n hx hb dX12_text_93 rfl (lv_at hl 0 rfl) ?_
        refine lv_if_eq (tgt := 101) hx hb dX12_text_94 (by decide) (fun c9 => absurd c9 (by decide)) (fun _ => ?_)
        refine lv_iconst (v := (-1)) hx hb dX12_text_97 (by decide) ?_
        refine lv_goto (tgt := 105) hx hb dX12_text_98 (by decide) ?_
        refine va_put (D := (dC, dI)) (ci := 12) (v := .int (-1)) (ty := .int) (C := RX12) (T := TX12) (N := 56) hx hb hU inlX12 tyX12 tyX12_ok nmX12 hown hK hP hD hS 2 rfl rfl 10 (by decide) (hU _ wd_173) (fun _ h9 => h9) rfl (by decide +kernel) rfl rfl (Nat.le_of_ble_eq_true rfl) dX12_text_105 (fun H locs hP hD hS => ?_)
        have hP : va_P (dC, dI) vwCl [(a1, .inl (cI, 1560, .inl w0)), (a2, .inl (cI, 1560, .inl z0)), (a0, .inr (12, [.ref a1, .ref a2, .ref a3, .int 0, .ref a4, .int 0, .int 0, .int 0, .int 0, .int 0, .int (-1), .int 0, .int 0, .int 0, .int 0, .ref a5, .ref a6, .ref a7, .ref a8, .ref a9, .ref a10, .ref a11, .ref a12, .int 0, .int 0, .int 0, .int 0, .int 0, .ref a13, .int 0, .ref a14, .ref a15, .int 0, .int 0, .ref a16, .int 0, .ref a17, .ref a18, .int 0, .int (-1), .ref a19, .ref a20, .ref a21, .int 0, .ref a22, .ref a23, .ref a24, .ref a25, .ref a26, .ref a27, .ref a28, .ref a29, .ref a30, .int 0, .int 0, .ref a31]))] H := hP
        have hD : va_D A [(a1, .inl (cI, 1560, .inl w0)), (a2, .inl (cI, 1560, .inl z0)), (a0, .inr (12, [.ref a1, .ref a2, .ref a3, .int 0, .ref a4, .int 0, .int 0, .int 0, .int 0, .int 0, .int (-1), .int 0, .int 0, .int 0, .int 0, .ref a5, .ref a6, .ref a7, .ref a8, .ref a9, .ref a10, .ref a11, .ref a12, .int 0, .int 0, .int 0, .int 0, .int 0, .ref a13, .int 0, .ref a14, .ref a15, .int 0, .int 0, .ref a16, .int 0, .ref a17, .ref a18, .int 0, .int (-1), .ref a19, .ref a20, .ref a21, .int 0, .ref a22, .ref a23, .ref a24, .ref a25, .ref a26, .ref a27, .ref a28, .ref a29, .ref a30, .int 0, .int 0, .ref a31]))] := hD
        refine lv_iload_n hx hb dX12_text_108 rfl (lv_at hl 0 rfl) ?_
        refine lv_if_ne (tgt := 114) hx hb dX12_text_109 (by decide) (fun _ => ?_) (fun c9 => absurd c9 (by decide)) 
        refine lv_aload_n hx hb dX12_text_114 rfl (lv_at hl 1 rfl) ?_
        refine va_get (D := (dC, dI)) (ci := 12) (v := .ref a2) (C := RX12) (T := TX12) (N := 56) hx hb hU inlX12 hown hK hP 2 rfl rfl 1 (by decide) (hU _ wd_170) (fun _ h9 => h9) rfl dX12_text_115 ?_
        refine lv_bipush (v := 41) hx hb dX12_text_118 (by decide) ?_
        refine lv_aload_n hx hb dX12_text_120 rfl (lv_at hl 1 rfl) ?_
        refine va_get (D := (dC, dI)) (ci := 12) (v := .ref a1) (C := RX12) (T := TX12) (N := 56) hx hb hU inlX12 hown hK hP 2 rfl rfl 0 (by decide) (hU _ wd_169) (fun _ h9 => h9) rfl dX12_text_121 ?_
        refine lv_bipush (v := 41) hx hb dX12_text_124 (by decide) ?_
        refine va_iald hx hb hK hP 0 0 rfl rfl (vp_in_nI (n := 41) (by decide) (by decide)) dX12_text_126 ?_
        refine tk_topi (y := 1) (by decide) ?_
        refine va_iast hx hb hK hP hD hS 1 0 rfl rfl (vp_in_nI (n := 41) (by decide) (by decide)) dX12_text_127 (fun H locs hP hD hS => ?_)
        obtain ⟨g_6, eg_6⟩ : ∃ y : Nat → Int32, upd z0 (Int32.toNatClampNeg 41) 1 = y := ⟨_, rfl⟩
        have pg_6_17 : g_6 17 = 0 := by rw [← eg_6]; exact (pk_un (by decide)).trans (by decide)
        have hP : va_P (dC, dI) vwCl [(a1, .inl (cI, 1560, .inl w0)), (a2, .inl (cI, 1560, .inl g_6)), (a0, .inr (12, [.ref a1, .ref a2, .ref a3, .int 0, .ref a4, .int 0, .int 0, .int 0, .int 0, .int 0, .int (-1), .int 0, .int 0, .int 0, .int 0, .ref a5, .ref a6, .ref a7, .ref a8, .ref a9, .ref a10, .ref a11, .ref a12, .int 0, .int 0, .int 0, .int 0, .int 0, .ref a13, .int 0, .ref a14, .ref a15, .int 0, .int 0, .ref a16, .int 0, .ref a17, .ref a18, .int 0, .int (-1), .ref a19, .ref a20, .ref a21, .int 0, .ref a22, .ref a23, .ref a24, .ref a25, .ref a26, .ref a27, .ref a28, .ref a29, .ref a30, .int 0, .int 0, .ref a31]))] H := by rw [eg_6] at hP; exact hP
        have hD : va_D A [(a1, .inl (cI, 1560, .inl w0)), (a2, .inl (cI, 1560, .inl g_6)), (a0, .inr (12, [.ref a1, .ref a2, .ref a3, .int 0, .ref a4, .int 0, .int 0, .int 0, .int 0, .int 0, .int (-1), .int 0, .int 0, .int 0, .int 0, .ref a5, .ref a6, .ref a7, .ref a8, .ref a9, .ref a10, .ref a11, .ref a12, .int 0, .int 0, .int 0, .int 0, .int 0, .ref a13, .int 0, .ref a14, .ref a15, .int 0, .int 0, .ref a16, .int 0, .ref a17, .ref a18, .int 0, .int (-1), .ref a19, .ref a20, .ref a21, .int 0, .ref a22, .ref a23, .ref a24, .ref a25, .ref a26, .ref a27, .ref a28, .ref a29, .ref a30, .int 0, .int 0, .ref a31]))] := by rw [eg_6] at hD; exact hD
        refine lv_aload_n hx hb dX12_text_128 rfl (lv_at hl 1 rfl) ?_
        refine va_get (D := (dC, dI)) (ci := 12) (v := .ref a2) (C := RX12) (T := TX12) (N := 56) hx hb hU inlX12 hown hK hP 2 rfl rfl 1 (by decide) (hU _ wd_170) (fun _ h9 => h9) rfl dX12_text_129 ?_
        refine lv_bipush (v := 40) hx hb dX12_text_132 (by decide) ?_
        refine lv_iconst (v := 1) hx hb dX12_text_134 (by decide) ?_
        refine lv_aload_n hx hb dX12_text_135 rfl (lv_at hl 1 rfl) ?_
        refine va_get (D := (dC, dI)) (ci := 12) (v := .ref a2) (C := RX12) (T := TX12) (N := 56) hx hb hU inlX12 hown hK hP 2 rfl rfl 1 (by decide) (hU _ wd_170) (fun _ h9 => h9) rfl dX12_text_136 ?_
        refine lv_bipush (v := 17) hx hb dX12_text_139 (by decide) ?_
        refine va_iald hx hb hK hP 1 0 rfl rfl (vp_in_nI (n := 17) (by decide) (by decide)) dX12_text_141 ?_
        refine tk_topi (y := 0) pg_6_17 ?_
        refine lv_ishl hx hb dX12_text_142 ?_
        refine tk_topi (y := 1) (by decide) ?_
        refine lv_iconst (v := 1) hx hb dX12_text_143 (by decide) ?_
        refine lv_isub hx hb dX12_text_144 ?_
        refine tk_topi (y := 0) (by decide) ?_
        refine va_iast hx hb hK hP hD hS 1 0 rfl rfl (vp_in_nI (n := 40) (by decide) (by decide)) dX12_text_145 (fun H locs hP hD hS => ?_)
        obtain ⟨g_7, eg_7⟩ : ∃ y : Nat → Int32, upd g_6 (Int32.toNatClampNeg 40) 0 = y := ⟨_, rfl⟩
        have pg_7_17 : g_7 17 = 0 := by rw [← eg_7]; exact (pk_un (by decide)).trans pg_6_17
        have hP : va_P (dC, dI) vwCl [(a1, .inl (cI, 1560, .inl w0)), (a2, .inl (cI, 1560, .inl g_7)), (a0, .inr (12, [.ref a1, .ref a2, .ref a3, .int 0, .ref a4, .int 0, .int 0, .int 0, .int 0, .int 0, .int (-1), .int 0, .int 0, .int 0, .int 0, .ref a5, .ref a6, .ref a7, .ref a8, .ref a9, .ref a10, .ref a11, .ref a12, .int 0, .int 0, .int 0, .int 0, .int 0, .ref a13, .int 0, .ref a14, .ref a15, .int 0, .int 0, .ref a16, .int 0, .ref a17, .ref a18, .int 0, .int (-1), .ref a19, .ref a20, .ref a21, .int 0, .ref a22, .ref a23, .ref a24, .ref a25, .ref a26, .ref a27, .ref a28, .ref a29, .ref a30, .int 0, .int 0, .ref a31]))] H := by rw [eg_7] at hP; exact hP
        have hD : va_D A [(a1, .inl (cI, 1560, .inl w0)), (a2, .inl (cI, 1560, .inl g_7)), (a0, .inr (12, [.ref a1, .ref a2, .ref a3, .int 0, .ref a4, .int 0, .int 0, .int 0, .int 0, .int 0, .int (-1), .int 0, .int 0, .int 0, .int 0, .ref a5, .ref a6, .ref a7, .ref a8, .ref a9, .ref a10, .ref a11, .ref a12, .int 0, .int 0, .int 0, .int 0, .int 0, .ref a13, .int 0, .ref a14, .ref a15, .int 0, .int 0, .ref a16, .int 0, .ref a17, .ref a18, .int 0, .int (-1), .ref a19, .ref a20, .ref a21, .int 0, .ref a22, .ref a23, .ref a24, .ref a25, .ref a26, .ref a27, .ref a28, .ref a29, .ref a30, .int 0, .int 0, .ref a31]))] := by rw [eg_7] at hD; exact hD
        refine lv_iconst (v := 0) hx hb dX12_text_146 (by decide) ?_
        refine lv_istore_n (lv' := [(2, .int 0), (1, .int 1), (0, .ref a0)]) hx hb dX12_text_147 rfl hl (by decide) rfl (fun ls hl => ?_)
        refine lv_iload_n hx hb dX12_text_148 rfl (lv_at hl 0 rfl) ?_
        refine lv_bipush (v := 8) hx hb dX12_text_149 (by decide) ?_
        refine lv_icmp_ge (tgt := 170) hx hb dX12_text_151 (by decide) (fun c9 => absurd c9 (by decide)) (fun _ => ?_)
        refine lv_aload_n hx hb dX12_text_154 rfl (lv_at hl 2 rfl) ?_
        refine va_get (D := (dC, dI)) (ci := 12) (v := .ref a2) (C := RX12) (T := TX12) (N := 56) hx hb hU inlX12 hown hK hP 2 rfl rfl 1 (by decide) (hU _ wd_170) (fun _ h9 => h9) rfl dX12_text_155 ?_
        refine lv_bipush (v := 43) hx hb dX12_text_158 (by decide) ?_
        refine lv_iload_n hx hb dX12_text_160 rfl (lv_at hl 0 rfl) ?_
        refine lv_iadd hx hb dX12_text_161 ?_
        refine tk_topi (y := 43) (by decide) ?_
        refine lv_iload_n hx hb dX12_text_162 rfl (lv_at hl 0 rfl) ?_
        refine va_iast hx hb hK hP hD hS 1 0 rfl rfl (vp_in_nI (n := 43) (by decide) (by decide)) dX12_text_163 (fun H locs hP hD hS => ?_)
        obtain ⟨g_8, eg_8⟩ : ∃ y : Nat → Int32, upd g_7 (Int32.toNatClampNeg 43) 0 = y := ⟨_, rfl⟩
        have pg_8_17 : g_8 17 = 0 := by rw [← eg_8]; exact (pk_un (by decide)).trans pg_7_17
        have hP : va_P (dC, dI) vwCl [(a1, .inl (cI, 1560, .inl w0)), (a2, .inl (cI, 1560, .inl g_8)), (a0, .inr (12, [.ref a1, .ref a2, .ref a3, .int 0, .ref a4, .int 0, .int 0, .int 0, .int 0, .int 0, .int (-1), .int 0, .int 0, .int 0, .int 0, .ref a5, .ref a6, .ref a7, .ref a8, .ref a9, .ref a10, .ref a11, .ref a12, .int 0, .int 0, .int 0, .int 0, .int 0, .ref a13, .int 0, .ref a14, .ref a15, .int 0, .int 0, .ref a16, .int 0, .ref a17, .ref a18, .int 0, .int (-1), .ref a19, .ref a20, .ref a21, .int 0, .ref a22, .ref a23, .ref a24, .ref a25, .ref a26, .ref a27, .ref a28, .ref a29, .ref a30, .int 0, .int 0, .ref a31]))] H := by rw [eg_8] at hP; exact hP
        have hD : va_D A [(a1, .inl (cI, 1560, .inl w0)), (a2, .inl (cI, 1560, .inl g_8)), (a0, .inr (12, [.ref a1, .ref a2, .ref a3, .int 0, .ref a4, .int 0, .int 0, .int 0, .int 0, .int 0, .int (-1), .int 0, .int 0, .int 0, .int 0, .ref a5, .ref a6, .ref a7, .ref a8, .ref a9, .ref a10, .ref a11, .ref a12, .int 0, .int 0, .int 0, .int 0, .int 0, .ref a13, .int 0, .ref a14, .ref a15, .int 0, .int 0, .ref a16, .int 0, .ref a17, .ref a18, .int 0, .int (-1), .ref a19, .ref a20, .ref a21, .int 0, .ref a22, .ref a23, .ref a24, .ref a25, .ref a26, .ref a27, .ref a28, .ref a29, .ref a30, .int 0, .int 0, .ref a31]))] := by rw [eg_8] at hD; exact hD
        refine lv_iinc (v := 1) (lv' := [(2, .int 1), (1, .int 1), (0, .ref a0)]) hx hb dX12_text_164 hl (k := 0) rfl (by decide) (by decide) rfl (fun ls hl => ?_)
        refine lv_goto (tgt := 148) hx hb dX12_text_167 (by decide) ?_
        refine lv_iload_n hx hb dX12_text_148 rfl (lv_at hl 0 rfl) ?_
        refine lv_bipush (v := 8) hx hb dX12_text_149 (by decide) ?_
        refine lv_icmp_ge (tgt := 170) hx hb dX12_text_151 (by decide) (fun c9 => absurd c9 (by decide)) (fun _ => ?_)
        refine lv_aload_n hx hb dX12_text_154 rfl (lv_at hl 2 rfl) ?_
        refine va_get (D := (dC, dI)) (ci := 12) (v := .ref a2) (C := RX12) (T := TX12) (N := 56) hx hb hU inlX12 hown hK hP 2 rfl rfl 1 (by decide) (hU _ wd_170) (fun _ h9 => h9) rfl dX12_text_155 ?_
        refine lv_bipush (v := 43) hx hb dX12_text_158 (by decide) ?_
        refine lv_iload_n hx hb dX12_text_160 rfl (lv_at hl 0 rfl) ?_
        refine lv_iadd hx hb dX12_text_161 ?_
        refine tk_topi (y := 44) (by decide) ?_
        refine lv_iload_n hx hb dX12_text_162 rfl (lv_at hl 0 rfl) ?_
        refine va_iast hx hb hK hP hD hS 1 0 rfl rfl (vp_in_nI (n := 44) (by decide) (by decide)) dX12_text_163 (fun H locs hP hD hS => ?_)
        obtain ⟨g_9, eg_9⟩ : ∃ y : Nat → Int32, upd g_8 (Int32.toNatClampNeg 44) 1 = y := ⟨_, rfl⟩
        have pg_9_17 : g_9 17 = 0 := by rw [← eg_9]; exact (pk_un (by decide)).trans pg_8_17
        have hP : va_P (dC, dI) vwCl [(a1, .inl (cI, 1560, .inl w0)), (a2, .inl (cI, 1560, .inl g_9)), (a0, .inr (12, [.ref a1, .ref a2, .ref a3, .int 0, .ref a4, .int 0, .int 0, .int 0, .int 0, .int 0, .int (-1), .int 0, .int 0, .int 0, .int 0, .ref a5, .ref a6, .ref a7, .ref a8, .ref a9, .ref a10, .ref a11, .ref a12, .int 0, .int 0, .int 0, .int 0, .int 0, .ref a13, .int 0, .ref a14, .ref a15, .int 0, .int 0, .ref a16, .int 0, .ref a17, .ref a18, .int 0, .int (-1), .ref a19, .ref a20, .ref a21, .int 0, .ref a22, .ref a23, .ref a24, .ref a25, .ref a26, .ref a27, .ref a28, .ref a29, .ref a30, .int 0, .int 0, .ref a31]))] H := by rw [eg_9] at hP; exact hP
        have hD : va_D A [(a1, .inl (cI, 1560, .inl w0)), (a2, .inl (cI, 1560, .inl g_9)), (a0, .inr (12, [.ref a1, .ref a2, .ref a3, .int 0, .ref a4, .int 0, .int 0, .int 0, .int 0, .int 0, .int (-1), .int 0, .int 0, .int 0, .int 0, .ref a5, .ref a6, .ref a7, .ref a8, .ref a9, .ref a10, .ref a11, .ref a12, .int 0, .int 0, .int 0, .int 0, .int 0, .ref a13, .int 0, .ref a14, .ref a15, .int 0, .int 0, .ref a16, .int 0, .ref a17, .ref a18, .int 0, .int (-1), .ref a19, .ref a20, .ref a21, .int 0, .ref a22, .ref a23, .ref a24, .ref a25, .ref a26, .ref a27, .ref a28, .ref a29, .ref a30, .int 0, .int 0, .ref a31]))] := by rw [eg_9] at hD; exact hD
        refine lv_iinc (v := 2) (lv' := [(2, .int 2), (1, .int 1), (0, .ref a0)]) hx hb dX12_text_164 hl (k := 0) rfl (by decide) (by decide) rfl (fun ls hl => ?_)
        refine lv_goto (tgt := 148) hx hb dX12_text_167 (by decide) ?_
        refine lv_iload_n hx hb dX12_text_148 rfl (lv_at hl 0 rfl) ?_
        refine lv_bipush (v := 8) hx hb dX12_text_149 (by decide) ?_
        refine lv_icmp_ge (tgt := 170) hx hb dX12_text_151 (by decide) (fun c9 => absurd c9 (by decide)) (fun _ => ?_)
        refine lv_aload_n hx hb dX12_text_154 rfl (lv_at hl 2 rfl) ?_
        refine va_get (D := (dC, dI)) (ci := 12) (v := .ref a2) (C := RX12) (T := TX12) (N := 56) hx hb hU inlX12 hown hK hP 2 rfl rfl 1 (by decide) (hU _ wd_170) (fun _ h9 => h9) rfl dX12_text_155 ?_
        refine lv_bipush (v := 43) hx hb dX12_text_158 (by decide) ?_
        refine lv_iload_n hx hb dX12_text_160 rfl (lv_at hl 0 rfl) ?_
        refine lv_iadd hx hb dX12_text_161 ?_
        refine tk_topi (y := 45) (by decide) ?_
        refine lv_iload_n hx hb dX12_text_162 rfl (lv_at hl 0 rfl) ?_
        refine va_iast hx hb hK hP hD hS 1 0 rfl rfl (vp_in_nI (n := 45) (by decide) (by decide)) dX12_text_163 (fun H locs hP hD hS => ?_)
        obtain ⟨g_10, eg_10⟩ : ∃ y : Nat → Int32, upd g_9 (Int32.toNatClampNeg 45) 2 = y := ⟨_, rfl⟩
        have pg_10_17 : g_10 17 = 0 := by rw [← eg_10]; exact (pk_un (by decide)).trans pg_9_17
        have hP : va_P (dC, dI) vwCl [(a1, .inl (cI, 1560, .inl w0)), (a2, .inl (cI, 1560, .inl g_10)), (a0, .inr (12, [.ref a1, .ref a2, .ref a3, .int 0, .ref a4, .int 0, .int 0, .int 0, .int 0, .int 0, .int (-1), .int 0, .int 0, .int 0, .int 0, .ref a5, .ref a6, .ref a7, .ref a8, .ref a9, .ref a10, .ref a11, .ref a12, .int 0, .int 0, .int 0, .int 0, .int 0, .ref a13, .int 0, .ref a14, .ref a15, .int 0, .int 0, .ref a16, .int 0, .ref a17, .ref a18, .int 0, .int (-1), .ref a19, .ref a20, .ref a21, .int 0, .ref a22, .ref a23, .ref a24, .ref a25, .ref a26, .ref a27, .ref a28, .ref a29, .ref a30, .int 0, .int 0, .ref a31]))] H := by rw [eg_10] at hP; exact hP
        have hD : va_D A [(a1, .inl (cI, 1560, .inl w0)), (a2, .inl (cI, 1560, .inl g_10)), (a0, .inr (12, [.ref a1, .ref a2, .ref a3, .int 0, .ref a4, .int 0, .int 0, .int 0, .int 0, .int 0, .int (-1), .int 0, .int 0, .int 0, .int 0, .ref a5, .ref a6, .ref a7, .ref a8, .ref a9, .ref a10, .ref a11, .ref a12, .int 0, .int 0, .int 0, .int 0, .int 0, .ref a13, .int 0, .ref a14, .ref a15, .int 0, .int 0, .ref a16, .int 0, .ref a17, .ref a18, .int 0, .int (-1), .ref a19, .ref a20, .ref a21, .int 0, .ref a22, .ref a23, .ref a24, .ref a25, .ref a26, .ref a27, .ref a28, .ref a29, .ref a30, .int 0, .int 0, .ref a31]))] := by rw [eg_10] at hD; exact hD
        refine lv_iinc (v := 3) (lv' := [(2, .int 3), (1, .int 1), (0, .ref a0)]) hx hb dX12_text_164 hl (k := 0) rfl (by decide) (by decide) rfl (fun ls hl => ?_)
        refine lv_goto (tgt := 148) hx hb dX12_text_167 (by decide) ?_
        refine lv_iload_n hx hb dX12_text_148 rfl (lv_at hl 0 rfl) ?_
        refine lv_bipush (v := 8) hx hb dX12_text_149 (by decide) ?_
        refine lv_icmp_ge (tgt := 170) hx hb dX12_text_151 (by decide) (fun c9 => absurd c9 (by decide)) (fun _ => ?_)
        refine lv_aload_n hx hb dX12_text_154 rfl (lv_at hl 2 rfl) ?_
        refine va_get (D := (dC, dI)) (ci := 12) (v := .ref a2) (C := RX12) (T := TX12) (N := 56) hx hb hU inlX12 hown hK hP 2 rfl rfl 1 (by decide) (hU _ wd_170) (fun _ h9 => h9) rfl dX12_text_155 ?_
        refine lv_bipush (v := 43) hx hb dX12_text_158 (by decide) ?_
        refine lv_iload_n hx hb dX12_text_160 rfl (lv_at hl 0 rfl) ?_
        refine lv_iadd hx hb dX12_text_161 ?_
        refine tk_topi (y := 46) (by decide) ?_
        refine lv_iload_n hx hb dX12_text_162 rfl (lv_at hl 0 rfl) ?_
        refine va_iast hx hb hK hP hD hS 1 0 rfl rfl (vp_in_nI (n := 46) (by decide) (by decide)) dX12_text_163 (fun H locs hP hD hS => ?_)
        obtain ⟨g_11, eg_11⟩ : ∃ y : Nat → Int32, upd g_10 (Int32.toNatClampNeg 46) 3 = y := ⟨_, rfl⟩
        have pg_11_17 : g_11 17 = 0 := by rw [← eg_11]; exact (pk_un (by decide)).trans pg_10_17
        have hP : va_P (dC, dI) vwCl [(a1, .inl (cI, 1560, .inl w0)), (a2, .inl (cI, 1560, .inl g_11)), (a0, .inr (12, [.ref a1, .ref a2, .ref a3, .int 0, .ref a4, .int 0, .int 0, .int 0, .int 0, .int 0, .int (-1), .int 0, .int 0, .int 0, .int 0, .ref a5, .ref a6, .ref a7, .ref a8, .ref a9, .ref a10, .ref a11, .ref a12, .int 0, .int 0, .int 0, .int 0, .int 0, .ref a13, .int 0, .ref a14, .ref a15, .int 0, .int 0, .ref a16, .int 0, .ref a17, .ref a18, .int 0, .int (-1), .ref a19, .ref a20, .ref a21, .int 0, .ref a22, .ref a23, .ref a24, .ref a25, .ref a26, .ref a27, .ref a28, .ref a29, .ref a30, .int 0, .int 0, .ref a31]))] H := by rw [eg_11] at hP; exact hP
        have hD : va_D A [(a1, .inl (cI, 1560, .inl w0)), (a2, .inl (cI, 1560, .inl g_11)), (a0, .inr (12, [.ref a1, .ref a2, .ref a3, .int 0, .ref a4, .int 0, .int 0, .int 0, .int 0, .int 0, .int (-1), .int 0, .int 0, .int 0, .int 0, .ref a5, .ref a6, .ref a7, .ref a8, .ref a9, .ref a10, .ref a11, .ref a12, .int 0, .int 0, .int 0, .int 0, .int 0, .ref a13, .int 0, .ref a14, .ref a15, .int 0, .int 0, .ref a16, .int 0, .ref a17, .ref a18, .int 0, .int (-1), .ref a19, .ref a20, .ref a21, .int 0, .ref a22, .ref a23, .ref a24, .ref a25, .ref a26, .ref a27, .ref a28, .ref a29, .ref a30, .int 0, .int 0, .ref a31]))] := by rw [eg_11] at hD; exact hD
        refine lv_iinc (v := 4) (lv' := [(2, .int 4), (1, .int 1), (0, .ref a0)]) hx hb dX12_text_164 hl (k := 0) rfl (by decide) (by decide) rfl (fun ls hl => ?_)
        refine lv_goto (tgt := 148) hx hb dX12_text_167 (by decide) ?_
        refine lv_iload_n hx hb dX12_text_148 rfl (lv_at hl 0 rfl) ?_
        refine lv_bipush (v := 8) hx hb dX12_text_149 (by decide) ?_
        refine lv_icmp_ge (tgt := 170) hx hb dX12_text_151 (by decide) (fun c9 => absurd c9 (by decide)) (fun _ => ?_)
        refine lv_aload_n hx hb dX12_text_154 rfl (lv_at hl 2 rfl) ?_
        refine va_get (D := (dC, dI)) (ci := 12) (v := .ref a2) (C := RX12) (T := TX12) (N := 56) hx hb hU inlX12 hown hK hP 2 rfl rfl 1 (by decide) (hU _ wd_170) (fun _ h9 => h9) rfl dX12_text_155 ?_
        refine lv_bipush (v := 43) hx hb dX12_text_158 (by decide) ?_
        refine lv_iload_n hx hb dX12_text_160 rfl (lv_at hl 0 rfl) ?_
        refine lv_iadd hx hb dX12_text_161 ?_
        refine tk_topi (y := 47) (by decide) ?_
        refine lv_iload_n hx hb dX12_text_162 rfl (lv_at hl 0 rfl) ?_
        refine va_iast hx hb hK hP hD hS 1 0 rfl rfl (vp_in_nI (n := 47) (by decide) (by decide)) dX12_text_163 (fun H locs hP hD hS => ?_)
        obtain ⟨g_12, eg_12⟩ : ∃ y : Nat → Int32, upd g_11 (Int32.toNatClampNeg 47) 4 = y := ⟨_, rfl⟩
        have pg_12_17 : g_12 17 = 0 := by rw [← eg_12]; exact (pk_un (by decide)).trans pg_11_17
        have hP : va_P (dC, dI) vwCl [(a1, .inl (cI, 1560, .inl w0)), (a2, .inl (cI, 1560, .inl g_12)), (a0, .inr (12, [.ref a1, .ref a2, .ref a3, .int 0, .ref a4, .int 0, .int 0, .int 0, .int 0, .int 0, .int (-1), .int 0, .int 0, .int 0, .int 0, .ref a5, .ref a6, .ref a7, .ref a8, .ref a9, .ref a10, .ref a11, .ref a12, .int 0, .int 0, .int 0, .int 0, .int 0, .ref a13, .int 0, .ref a14, .ref a15, .int 0, .int 0, .ref a16, .int 0, .ref a17, .ref a18, .int 0, .int (-1), .ref a19, .ref a20, .ref a21, .int 0, .ref a22, .ref a23, .ref a24, .ref a25, .ref a26, .ref a27, .ref a28, .ref a29, .ref a30, .int 0, .int 0, .ref a31]))] H := by rw [eg_12] at hP; exact hP
        have hD : va_D A [(a1, .inl (cI, 1560, .inl w0)), (a2, .inl (cI, 1560, .inl g_12)), (a0, .inr (12, [.ref a1, .ref a2, .ref a3, .int 0, .ref a4, .int 0, .int 0, .int 0, .int 0, .int 0, .int (-1), .int 0, .int 0, .int 0, .int 0, .ref a5, .ref a6, .ref a7, .ref a8, .ref a9, .ref a10, .ref a11, .ref a12, .int 0, .int 0, .int 0, .int 0, .int 0, .ref a13, .int 0, .ref a14, .ref a15, .int 0, .int 0, .ref a16, .int 0, .ref a17, .ref a18, .int 0, .int (-1), .ref a19, .ref a20, .ref a21, .int 0, .ref a22, .ref a23, .ref a24, .ref a25, .ref a26, .ref a27, .ref a28, .ref a29, .ref a30, .int 0, .int 0, .ref a31]))] := by rw [eg_12] at hD; exact hD
        refine lv_iinc (v := 5) (lv' := [(2, .int 5), (1, .int 1), (0, .ref a0)]) hx hb dX12_text_164 hl (k := 0) rfl (by decide) (by decide) rfl (fun ls hl => ?_)
        refine lv_goto (tgt := 148) hx hb dX12_text_167 (by decide) ?_
        refine lv_iload_n hx hb dX12_text_148 rfl (lv_at hl 0 rfl) ?_
        refine lv_bipush (v := 8) hx hb dX12_text_149 (by decide) ?_
        refine lv_icmp_ge (tgt := 170) hx hb dX12_text_151 (by decide) (fun c9 => absurd c9 (by decide)) (fun _ => ?_)
        refine lv_aload_n hx hb dX12_text_154 rfl (lv_at hl 2 rfl) ?_
        refine va_get (D := (dC, dI)) (ci := 12) (v := .ref a2) (C := RX12) (T := TX12) (N := 56) hx hb hU inlX12 hown hK hP 2 rfl rfl 1 (by decide) (hU _ wd_170) (fun _ h9 => h9) rfl dX12_text_155 ?_
        refine lv_bipush (v := 43) hx hb dX12_text_158 (by decide) ?_
        refine lv_iload_n hx hb dX12_text_160 rfl (lv_at hl 0 rfl) ?_
        refine lv_iadd hx hb dX12_text_161 ?_
        refine tk_topi (y := 48) (by decide) ?_
        refine lv_iload_n hx hb dX12_text_162 rfl (lv_at hl 0 rfl) ?_
        refine va_iast hx hb hK hP hD hS 1 0 rfl rfl (vp_in_nI (n := 48) (by decide) (by decide)) dX12_text_163 (fun H locs hP hD hS => ?_)
        obtain ⟨g_13, eg_13⟩ : ∃ y : Nat → Int32, upd g_12 (Int32.toNatClampNeg 48) 5 = y := ⟨_, rfl⟩
        have pg_13_17 : g_13 17 = 0 := by rw [← eg_13]; exact (pk_un (by decide)).trans pg_12_17
        have hP : va_P (dC, dI) vwCl [(a1, .inl (cI, 1560, .inl w0)), (a2, .inl (cI, 1560, .inl g_13)), (a0, .inr (12, [.ref a1, .ref a2, .ref a3, .int 0, .ref a4, .int 0, .int 0, .int 0, .int 0, .int 0, .int (-1), .int 0, .int 0, .int 0, .int 0, .ref a5, .ref a6, .ref a7, .ref a8, .ref a9, .ref a10, .ref a11, .ref a12, .int 0, .int 0, .int 0, .int 0, .int 0, .ref a13, .int 0, .ref a14, .ref a15, .int 0, .int 0, .ref a16, .int 0, .ref a17, .ref a18, .int 0, .int (-1), .ref a19, .ref a20, .ref a21, .int 0, .ref a22, .ref a23, .ref a24, .ref a25, .ref a26, .ref a27, .ref a28, .ref a29, .ref a30, .int 0, .int 0, .ref a31]))] H := by rw [eg_13] at hP; exact hP
        have hD : va_D A [(a1, .inl (cI, 1560, .inl w0)), (a2, .inl (cI, 1560, .inl g_13)), (a0, .inr (12, [.ref a1, .ref a2, .ref a3, .int 0, .ref a4, .int 0, .int 0, .int 0, .int 0, .int 0, .int (-1), .int 0, .int 0, .int 0, .int 0, .ref a5, .ref a6, .ref a7, .ref a8, .ref a9, .ref a10, .ref a11, .ref a12, .int 0, .int 0, .int 0, .int 0, .int 0, .ref a13, .int 0, .ref a14, .ref a15, .int 0, .int 0, .ref a16, .int 0, .ref a17, .ref a18, .int 0, .int (-1), .ref a19, .ref a20, .ref a21, .int 0, .ref a22, .ref a23, .ref a24, .ref a25, .ref a26, .ref a27, .ref a28, .ref a29, .ref a30, .int 0, .int 0, .ref a31]))] := by rw [eg_13] at hD; exact hD
        refine lv_iinc (v := 6) (lv' := [(2, .int 6), (1, .int 1), (0, .ref a0)]) hx hb dX12_text_164 hl (k := 0) rfl (by decide) (by decide) rfl (fun ls hl => ?_)
        refine lv_goto (tgt := 148) hx hb dX12_text_167 (by decide) ?_
        refine lv_iload_n hx hb dX12_text_148 rfl (lv_at hl 0 rfl) ?_
        refine lv_bipush (v := 8) hx hb dX12_text_149 (by decide) ?_
        refine lv_icmp_ge (tgt := 170) hx hb dX12_text_151 (by decide) (fun c9 => absurd c9 (by decide)) (fun _ => ?_)
        refine lv_aload_n hx hb dX12_text_154 rfl (lv_at hl 2 rfl) ?_
        refine va_get (D := (dC, dI)) (ci := 12) (v := .ref a2) (C := RX12) (T := TX12) (N := 56) hx hb hU inlX12 hown hK hP 2 rfl rfl 1 (by decide) (hU _ wd_170) (fun _ h9 => h9) rfl dX12_text_155 ?_
        refine lv_bipush (v := 43) hx hb dX12_text_158 (by decide) ?_
        refine lv_iload_n hx hb dX12_text_160 rfl (lv_at hl 0 rfl) ?_
        refine lv_iadd hx hb dX12_text_161 ?_
        refine tk_topi (y := 49) (by decide) ?_
        refine lv_iload_n hx hb dX12_text_162 rfl (lv_at hl 0 rfl) ?_
        refine va_iast hx hb hK hP hD hS 1 0 rfl rfl (vp_in_nI (n := 49) (by decide) (by decide)) dX12_text_163 (fun H locs hP hD hS => ?_)
        obtain ⟨g_14, eg_14⟩ : ∃ y : Nat → Int32, upd g_13 (Int32.toNatClampNeg 49) 6 = y := ⟨_, rfl⟩
        have pg_14_17 : g_14 17 = 0 := by rw [← eg_14]; exact (pk_un (by decide)).trans pg_13_17
        have hP : va_P (dC, dI) vwCl [(a1, .inl (cI, 1560, .inl w0)), (a2, .inl (cI, 1560, .inl g_14)), (a0, .inr (12, [.ref a1, .ref a2, .ref a3, .int 0, .ref a4, .int 0, .int 0, .int 0, .int 0, .int 0, .int (-1), .int 0, .int 0, .int 0, .int 0, .ref a5, .ref a6, .ref a7, .ref a8, .ref a9, .ref a10, .ref a11, .ref a12, .int 0, .int 0, .int 0, .int 0, .int 0, .ref a13, .int 0, .ref a14, .ref a15, .int 0, .int 0, .ref a16, .int 0, .ref a17, .ref a18, .int 0, .int (-1), .ref a19, .ref a20, .ref a21, .int 0, .ref a22, .ref a23, .ref a24, .ref a25, .ref a26, .ref a27, .ref a28, .ref a29, .ref a30, .int 0, .int 0, .ref a31]))] H := by rw [eg_14] at hP; exact hP
        have hD : va_D A [(a1, .inl (cI, 1560, .inl w0)), (a2, .inl (cI, 1560, .inl g_14)), (a0, .inr (12, [.ref a1, .ref a2, .ref a3, .int 0, .ref a4, .int 0, .int 0, .int 0, .int 0, .int 0, .int (-1), .int 0, .int 0, .int 0, .int 0, .ref a5, .ref a6, .ref a7, .ref a8, .ref a9, .ref a10, .ref a11, .ref a12, .int 0, .int 0, .int 0, .int 0, .int 0, .ref a13, .int 0, .ref a14, .ref a15, .int 0, .int 0, .ref a16, .int 0, .ref a17, .ref a18, .int 0, .int (-1), .ref a19, .ref a20, .ref a21, .int 0, .ref a22, .ref a23, .ref a24, .ref a25, .ref a26, .ref a27, .ref a28, .ref a29, .ref a30, .int 0, .int 0, .ref a31]))] := by rw [eg_14] at hD; exact hD
        refine lv_iinc (v := 7) (lv' := [(2, .int 7), (1, .int 1), (0, .ref a0)]) hx hb dX12_text_164 hl (k := 0) rfl (by decide) (by decide) rfl (fun ls hl => ?_)
        refine lv_goto (tgt := 148) hx hb dX12_text_167 (by decide) ?_
        refine lv_iload_n hx hb dX12_text_148 rfl (lv_at hl 0 rfl) ?_
        refine lv_bipush (v := 8) hx hb dX12_text_149 (by decide) ?_
        refine lv_icmp_ge (tgt := 170) hx hb dX12_text_151 (by decide) (fun c9 => absurd c9 (by decide)) (fun _ => ?_)
        refine lv_aload_n hx hb dX12_text_154 rfl (lv_at hl 2 rfl) ?_
        refine va_get (D := (dC, dI)) (ci := 12) (v := .ref a2) (C := RX12) (T := TX12) (N := 56) hx hb hU inlX12 hown hK hP 2 rfl rfl 1 (by decide) (hU _ wd_170) (fun _ h9 => h9) rfl dX12_text_155 ?_
        refine lv_bipush (v := 43) hx hb dX12_text_158 (by decide) ?_
        refine lv_iload_n hx hb dX12_text_160 rfl (lv_at hl 0 rfl) ?_
        refine lv_iadd hx hb dX12_text_161 ?_
        refine tk_topi (y := 50) (by decide) ?_
        refine lv_iload_n hx hb dX12_text_162 rfl (lv_at hl 0 rfl) ?_
        refine va_iast hx hb hK hP hD hS 1 0 rfl rfl (vp_in_nI (n := 50) (by decide) (by decide)) dX12_text_163 (fun H locs hP hD hS => ?_)
        obtain ⟨g_15, eg_15⟩ : ∃ y : Nat → Int32, upd g_14 (Int32.toNatClampNeg 50) 7 = y := ⟨_, rfl⟩
        have pg_15_17 : g_15 17 = 0 := by rw [← eg_15]; exact (pk_un (by decide)).trans pg_14_17
        have hP : va_P (dC, dI) vwCl [(a1, .inl (cI, 1560, .inl w0)), (a2, .inl (cI, 1560, .inl g_15)), (a0, .inr (12, [.ref a1, .ref a2, .ref a3, .int 0, .ref a4, .int 0, .int 0, .int 0, .int 0, .int 0, .int (-1), .int 0, .int 0, .int 0, .int 0, .ref a5, .ref a6, .ref a7, .ref a8, .ref a9, .ref a10, .ref a11, .ref a12, .int 0, .int 0, .int 0, .int 0, .int 0, .ref a13, .int 0, .ref a14, .ref a15, .int 0, .int 0, .ref a16, .int 0, .ref a17, .ref a18, .int 0, .int (-1), .ref a19, .ref a20, .ref a21, .int 0, .ref a22, .ref a23, .ref a24, .ref a25, .ref a26, .ref a27, .ref a28, .ref a29, .ref a30, .int 0, .int 0, .ref a31]))] H := by rw [eg_15] at hP; exact hP
        have hD : va_D A [(a1, .inl (cI, 1560, .inl w0)), (a2, .inl (cI, 1560, .inl g_15)), (a0, .inr (12, [.ref a1, .ref a2, .ref a3, .int 0, .ref a4, .int 0, .int 0, .int 0, .int 0, .int 0, .int (-1), .int 0, .int 0, .int 0, .int 0, .ref a5, .ref a6, .ref a7, .ref a8, .ref a9, .ref a10, .ref a11, .ref a12, .int 0, .int 0, .int 0, .int 0, .int 0, .ref a13, .int 0, .ref a14, .ref a15, .int 0, .int 0, .ref a16, .int 0, .ref a17, .ref a18, .int 0, .int (-1), .ref a19, .ref a20, .ref a21, .int 0, .ref a22, .ref a23, .ref a24, .ref a25, .ref a26, .ref a27, .ref a28, .ref a29, .ref a30, .int 0, .int 0, .ref a31]))] := by rw [eg_15] at hD; exact hD
        refine lv_iinc (v := 8) (lv' := [(2, .int 8), (1, .int 1), (0, .ref a0)]) hx hb dX12_text_164 hl (k := 0) rfl (by decide) (by decide) rfl (fun ls hl => ?_)
        refine lv_goto (tgt := 148) hx hb dX12_text_167 (by decide) ?_
        refine lv_iload_n hx hb dX12_text_148 rfl (lv_at hl 0 rfl) ?_
        refine lv_bipush (v := 8) hx hb dX12_text_149 (by decide) ?_
        refine lv_icmp_ge (tgt := 170) hx hb dX12_text_151 (by decide) (fun _ => ?_) (fun c9 => absurd (by decide) c9) 
        refine lv_iconst (v := 0) hx hb dX12_text_170 (by decide) ?_
        refine lv_istore_n (lv' := [(2, .int 0), (1, .int 1), (0, .ref a0)]) hx hb dX12_text_171 rfl hl (by decide) rfl (fun ls hl => ?_)
        have hloop_172 : ∀ (n i_17 : Nat) (x_16 : Int32), x_16 = nI i_17 → i_17 ≤ 1560 → 1560 + 1 ≤ i_17 + n → ∀ (g_18 : Nat → Int32), g_18 17 = 0 → ∀ (H : Heap) (locs : List Loc), va_P (dC, dI) vwCl [(a1, .inl (cI, 1560, .inl g_18)), (a2, .inl (cI, 1560, .inl g_15)), (a0, .inr (12, [.ref a1, .ref a2, .ref a3, .int 0, .ref a4, .int 0, .int 0, .int 0, .int 0, .int 0, .int (-1), .int 0, .int 0, .int 0, .int 0, .ref a5, .ref a6, .ref a7, .ref a8, .ref a9, .ref a10, .ref a11, .ref a12, .int 0, .int 0, .int 0, .int 0, .int 0, .ref a13, .int 0, .ref a14, .ref a15, .int 0, .int 0, .ref a16, .int 0, .ref a17, .ref a18, .int 0, .int (-1), .ref a19, .ref a20, .ref a21, .int 0, .ref a22, .ref a23, .ref a24, .ref a25, .ref a26, .ref a27, .ref a28, .ref a29, .ref a30, .int 0, .int 0, .ref a31]))] H → va_D A [(a1, .inl (cI, 1560, .inl g_18)), (a2, .inl (cI, 1560, .inl g_15)), (a0, .inr (12, [.ref a1, .ref a2, .ref a3, .int 0, .ref a4, .int 0, .int 0, .int 0, .int 0, .int 0, .int (-1), .int 0, .int 0, .int 0, .int 0, .ref a5, .ref a6, .ref a7, .ref a8, .ref a9, .ref a10, .ref a11, .ref a12, .int 0, .int 0, .int 0, .int 0, .int 0, .ref a13, .int 0, .ref a14, .ref a15, .int 0, .int 0, .ref a16, .int 0, .ref a17, .ref a18, .int 0, .int (-1), .ref a19, .ref a20, .ref a21, .int 0, .ref a22, .ref a23, .ref a24, .ref a25, .ref a26, .ref a27, .ref a28, .ref a29, .ref a30, .int 0, .int 0, .ref a31]))] → va_S A s.heap H locs → ∀ (ls : Array Slot), lv_has ls 3 [(2, .int x_16), (1, .int 1), (0, .ref a0)] → W p l e (headSpec (wU yX12_text cX12_text 3 (some .int)) { frames := 3, cells := 0, slots := 0, locals := 61 }).room s m [.ref a0].toArray below meth c H locs 0 0 (MQ below (va_Qi (fun (r : Int32) (w1 : va_W) => r = 0 ∧ w1 = ([] : va_W)) (qB (dC, dI) cI cL cZ A) A) [.ref a0].toArray s 0 0 A) (F0 m 172 ls []) := by
          intro n
          induction n with
          | zero => intro i_17 x_16 ex_16 hi hn; exact absurd hn (by omega)
          | succ n ih =>
            intro i_17 x_16 ex_16 hi hn g_18 hg_18_17 H locs hP hD hS ls hl
            refine lv_iload_n hx hb dX12_text_172 rfl (lv_at hl 0 rfl) ?_
            refine lv_sipush (v := 1560) hx hb dX12_text_173 (by decide) ?_
            refine lv_icmp_ge (tgt := 197) hx hb dX12_text_176 (by decide) (fun c_19 => ?_) (fun c_19 => ?_)
            · skip
              have hge : 1560 ≤ i_17 := by rcases Nat.lt_or_ge i_17 1560 with q | q; exact absurd c_19 (by rw [ex_16]; exact nI_ge (b := 1560) q (by omega)); exact q
              have hiN : i_17 = 1560 := by omega
              refine lv_aload_n hx hb dX12_text_197 rfl (lv_at hl 2 rfl) ?_
              refine lv_iconst (v := 0) hx hb dX12_text_198 (by decide) ?_
              refine va_put (D := (dC, dI)) (ci := 12) (v := .int 0) (ty := .int) (C := RX12) (T := TX12) (N := 56) hx hb hU inlX12 tyX12 tyX12_ok nmX12 hown hK hP hD hS 2 rfl rfl 29 (by decide) (hU _ wd_570) (fun _ h9 => h9) rfl (by decide +kernel) rfl rfl (Nat.le_of_ble_eq_true rfl) dX12_text_199 (fun H locs hP hD hS => ?_)
              have hP : va_P (dC, dI) vwCl [(a1, .inl (cI, 1560, .inl g_18)), (a2, .inl (cI, 1560, .inl g_15)), (a0, .inr (12, [.ref a1, .ref a2, .ref a3, .int 0, .ref a4, .int 0, .int 0, .int 0, .int 0, .int 0, .int (-1), .int 0, .int 0, .int 0, .int 0, .ref a5, .ref a6, .ref a7, .ref a8, .ref a9, .ref a10, .ref a11, .ref a12, .int 0, .int 0, .int 0, .int 0, .int 0, .ref a13, .int 0, .ref a14, .ref a15, .int 0, .int 0, .ref a16, .int 0, .ref a17, .ref a18, .int 0, .int (-1), .ref a19, .ref a20, .ref a21, .int 0, .ref a22, .ref a23, .ref a24, .ref a25, .ref a26, .ref a27, .ref a28, .ref a29, .ref a30, .int 0, .int 0, .ref a31]))] H := hP
              have hD : va_D A [(a1, .inl (cI, 1560, .inl g_18)), (a2, .inl (cI, 1560, .inl g_15)), (a0, .inr (12, [.ref a1, .ref a2, .ref a3, .int 0, .ref a4, .int 0, .int 0, .int 0, .int 0, .int 0, .int (-1), .int 0, .int 0, .int 0, .int 0, .ref a5, .ref a6, .ref a7, .ref a8, .ref a9, .ref a10, .ref a11, .ref a12, .int 0, .int 0, .int 0, .int 0, .int 0, .ref a13, .int 0, .ref a14, .ref a15, .int 0, .int 0, .ref a16, .int 0, .ref a17, .ref a18, .int 0, .int (-1), .ref a19, .ref a20, .ref a21, .int 0, .ref a22, .ref a23, .ref a24, .ref a25, .ref a26, .ref a27, .ref a28, .ref a29, .ref a30, .int 0, .int 0, .ref a31]))] := hD
              refine lv_aload_n hx hb dX12_text_202 rfl (lv_at hl 2 rfl) ?_
              refine lv_iconst (v := 0) hx hb dX12_text_203 (by decide) ?_
              refine va_put (D := (dC, dI)) (ci := 12) (v := .int 0) (ty := .int) (C := RX12) (T := TX12) (N := 56) hx hb hU inlX12 tyX12 tyX12_ok nmX12 hown hK hP hD hS 2 rfl rfl 38 (by decide) (hU _ wd_571) (fun _ h9 => h9) rfl (by decide +kernel) rfl rfl (Nat.le_of_ble_eq_true rfl) dX12_text_204 (fun H locs hP hD hS => ?_)
              have hP : va_P (dC, dI) vwCl [(a1, .inl (cI, 1560, .inl g_18)), (a2, .inl (cI, 1560, .inl g_15)), (a0, .inr (12, [.ref a1, .ref a2, .ref a3, .int 0, .ref a4, .int 0, .int 0, .int 0, .int 0, .int 0, .int (-1), .int 0, .int 0, .int 0, .int 0, .ref a5, .ref a6, .ref a7, .ref a8, .ref a9, .ref a10, .ref a11, .ref a12, .int 0, .int 0, .int 0, .int 0, .int 0, .ref a13, .int 0, .ref a14, .ref a15, .int 0, .int 0, .ref a16, .int 0, .ref a17, .ref a18, .int 0, .int (-1), .ref a19, .ref a20, .ref a21, .int 0, .ref a22, .ref a23, .ref a24, .ref a25, .ref a26, .ref a27, .ref a28, .ref a29, .ref a30, .int 0, .int 0, .ref a31]))] H := hP
              have hD : va_D A [(a1, .inl (cI, 1560, .inl g_18)), (a2, .inl (cI, 1560, .inl g_15)), (a0, .inr (12, [.ref a1, .ref a2, .ref a3, .int 0, .ref a4, .int 0, .int 0, .int 0, .int 0, .int 0, .int (-1), .int 0, .int 0, .int 0, .int 0, .ref a5, .ref a6, .ref a7, .ref a8, .ref a9, .ref a10, .ref a11, .ref a12, .int 0, .int 0, .int 0, .int 0, .int 0, .ref a13, .int 0, .ref a14, .ref a15, .int 0, .int 0, .ref a16, .int 0, .ref a17, .ref a18, .int 0, .int (-1), .ref a19, .ref a20, .ref a21, .int 0, .ref a22, .ref a23, .ref a24, .ref a25, .ref a26, .ref a27, .ref a28, .ref a29, .ref a30, .int 0, .int 0, .ref a31]))] := hD
              refine lv_aload_n hx hb dX12_text_207 rfl (lv_at hl 2 rfl) ?_
              refine lv_iconst (v := (-1)) hx hb dX12_text_208 (by decide) ?_
              refine va_put (D := (dC, dI)) (ci := 12) (v := .int (-1)) (ty := .int) (C := RX12) (T := TX12) (N := 56) hx hb hU inlX12 tyX12 tyX12_ok nmX12 hown hK hP hD hS 2 rfl rfl 39 (by decide) (hU _ wd_189) (fun _ h9 => h9) rfl (by decide +kernel) rfl rfl (Nat.le_of_ble_eq_true rfl) dX12_text_209 (fun H locs hP hD hS => ?_)
              have hP : va_P (dC, dI) vwCl [(a1, .inl (cI, 1560, .inl g_18)), (a2, .inl (cI, 1560, .inl g_15)), (a0, .inr (12, [.ref a1, .ref a2, .ref a3, .int 0, .ref a4, .int 0, .int 0, .int 0, .int 0, .int 0, .int (-1), .int 0, .int 0, .int 0, .int 0, .ref a5, .ref a6, .ref a7, .ref a8, .ref a9, .ref a10, .ref a11, .ref a12, .int 0, .int 0, .int 0, .int 0, .int 0, .ref a13, .int 0, .ref a14, .ref a15, .int 0, .int 0, .ref a16, .int 0, .ref a17, .ref a18, .int 0, .int (-1), .ref a19, .ref a20, .ref a21, .int 0, .ref a22, .ref a23, .ref a24, .ref a25, .ref a26, .ref a27, .ref a28, .ref a29, .ref a30, .int 0, .int 0, .ref a31]))] H := hP
              have hD : va_D A [(a1, .inl (cI, 1560, .inl g_18)), (a2, .inl (cI, 1560, .inl g_15)), (a0, .inr (12, [.ref a1, .ref a2, .ref a3, .int 0, .ref a4, .int 0, .int 0, .int 0, .int 0, .int 0, .int (-1), .int 0, .int 0, .int 0, .int 0, .ref a5, .ref a6, .ref a7, .ref a8, .ref a9, .ref a10, .ref a11, .ref a12, .int 0, .int 0, .int 0, .int 0, .int 0, .ref a13, .int 0, .ref a14, .ref a15, .int 0, .int 0, .ref a16, .int 0, .ref a17, .ref a18, .int 0, .int (-1), .ref a19, .ref a20, .ref a21, .int 0, .ref a22, .ref a23, .ref a24, .ref a25, .ref a26, .ref a27, .ref a28, .ref a29, .ref a30, .int 0, .int 0, .ref a31]))] := hD
              refine lv_aload_n hx hb dX12_text_212 rfl (lv_at hl 2 rfl) ?_
              refine lv_iconst (v := 0) hx hb dX12_text_213 (by decide) ?_
              refine va_put (D := (dC, dI)) (ci := 12) (v := .int 0) (ty := .int) (C := RX12) (T := TX12) (N := 56) hx hb hU inlX12 tyX12 tyX12_ok nmX12 hown hK hP hD hS 2 rfl rfl 43 (by decide) (hU _ wd_572) (fun _ h9 => h9) rfl (by decide +kernel) rfl rfl (Nat.le_of_ble_eq_true rfl) dX12_text_214 (fun H locs hP hD hS => ?_)
              have hP : va_P (dC, dI) vwCl [(a1, .inl (cI, 1560, .inl g_18)), (a2, .inl (cI, 1560, .inl g_15)), (a0, .inr (12, [.ref a1, .ref a2, .ref a3, .int 0, .ref a4, .int 0, .int 0, .int 0, .int 0, .int 0, .int (-1), .int 0, .int 0, .int 0, .int 0, .ref a5, .ref a6, .ref a7, .ref a8, .ref a9, .ref a10, .ref a11, .ref a12, .int 0, .int 0, .int 0, .int 0, .int 0, .ref a13, .int 0, .ref a14, .ref a15, .int 0, .int 0, .ref a16, .int 0, .ref a17, .ref a18, .int 0, .int (-1), .ref a19, .ref a20, .ref a21, .int 0, .ref a22, .ref a23, .ref a24, .ref a25, .ref a26, .ref a27, .ref a28, .ref a29, .ref a30, .int 0, .int 0, .ref a31]))] H := hP
              have hD : va_D A [(a1, .inl (cI, 1560, .inl g_18)), (a2, .inl (cI, 1560, .inl g_15)), (a0, .inr (12, [.ref a1, .ref a2, .ref a3, .int 0, .ref a4, .int 0, .int 0, .int 0, .int 0, .int 0, .int (-1), .int 0, .int 0, .int 0, .int 0, .ref a5, .ref a6, .ref a7, .ref a8, .ref a9, .ref a10, .ref a11, .ref a12, .int 0, .int 0, .int 0, .int 0, .int 0, .ref a13, .int 0, .ref a14, .ref a15, .int 0, .int 0, .ref a16, .int 0, .ref a17, .ref a18, .int 0, .int (-1), .ref a19, .ref a20, .ref a21, .int 0, .ref a22, .ref a23, .ref a24, .ref a25, .ref a26, .ref a27, .ref a28, .ref a29, .ref a30, .int 0, .int 0, .ref a31]))] := hD
              refine lv_aload_n hx hb dX12_text_217 rfl (lv_at hl 2 rfl) ?_
              refine va_get (D := (dC, dI)) (ci := 12) (v := .ref a1) (C := RX12) (T := TX12) (N := 56) hx hb hU inlX12 hown hK hP 2 rfl rfl 0 (by decide) (hU _ wd_169) (fun _ h9 => h9) rfl dX12_text_218 ?_
              refine lv_bipush (v := 17) hx hb dX12_text_221 (by decide) ?_
              refine va_iald hx hb hK hP 0 0 rfl rfl (vp_in_nI (n := 17) (by decide) (by decide)) dX12_text_223 ?_
              refine tk_topi (y := 0) hg_18_17 ?_
              have hP9 := hP.sub (ws' := []) [] rfl
              have hD9 := hD.sub (ws' := []) [] (by decide) rfl
              refine W.widen (k := 0) (n := 0) (Nat.le_of_ble_eq_true rfl) (Nat.le_of_ble_eq_true rfl) ?_
              exact W.iret (v := 0) hx hb hr (fun t ht hW => ⟨⟨0, [], rfl, ⟨rfl, rfl⟩, by rw [ht]; exact hP9, va_K.moved hW.alike hK, hD9⟩, hS.F ht⟩) hS.2.2 dX12_text_224
            · skip
              have hlt : i_17 < 1560 := by rcases Nat.lt_or_ge i_17 1560 with q | q; exact q; exact absurd (by rw [ex_16]; exact nI_le (a := 1560) q (by omega)) c_19
              refine lv_aload_n hx hb dX12_text_179 rfl (lv_at hl 2 rfl) ?_
              refine va_get (D := (dC, dI)) (ci := 12) (v := .ref a1) (C := RX12) (T := TX12) (N := 56) hx hb hU inlX12 hown hK hP 2 rfl rfl 0 (by decide) (hU _ wd_169) (fun _ h9 => h9) rfl dX12_text_180 ?_
              refine lv_iload_n hx hb dX12_text_183 rfl (lv_at hl 0 rfl) ?_
              refine lv_aload_n hx hb dX12_text_184 rfl (lv_at hl 2 rfl) ?_
              refine va_get (D := (dC, dI)) (ci := 12) (v := .ref a2) (C := RX12) (T := TX12) (N := 56) hx hb hU inlX12 hown hK hP 2 rfl rfl 1 (by decide) (hU _ wd_170) (fun _ h9 => h9) rfl dX12_text_185 ?_
              refine lv_iload_n hx hb dX12_text_188 rfl (lv_at hl 0 rfl) ?_
              refine va_iald hx hb hK hP 1 0 rfl rfl (by rw [ex_16]; exact vp_in_nI (by omega) (by omega)) dX12_text_189 ?_
              refine lv_topi (fun v_20 ev_20 => ?_)
              refine va_iast hx hb hK hP hD hS 0 0 rfl rfl (by rw [ex_16]; exact vp_in_nI (by omega) (by omega)) dX12_text_190 (fun H locs hP hD hS => ?_)
              obtain ⟨g_21, eg_21⟩ : ∃ y : Nat → Int32, upd g_18 (Int32.toNatClampNeg x_16) v_20 = y := ⟨_, rfl⟩
              have hP : va_P (dC, dI) vwCl [(a1, .inl (cI, 1560, .inl g_21)), (a2, .inl (cI, 1560, .inl g_15)), (a0, .inr (12, [.ref a1, .ref a2, .ref a3, .int 0, .ref a4, .int 0, .int 0, .int 0, .int 0, .int 0, .int (-1), .int 0, .int 0, .int 0, .int 0, .ref a5, .ref a6, .ref a7, .ref a8, .ref a9, .ref a10, .ref a11, .ref a12, .int 0, .int 0, .int 0, .int 0, .int 0, .ref a13, .int 0, .ref a14, .ref a15, .int 0, .int 0, .ref a16, .int 0, .ref a17, .ref a18, .int 0, .int (-1), .ref a19, .ref a20, .ref a21, .int 0, .ref a22, .ref a23, .ref a24, .ref a25, .ref a26, .ref a27, .ref a28, .ref a29, .ref a30, .int 0, .int 0, .ref a31]))] H := by rw [eg_21] at hP; exact hP
              have hD : va_D A [(a1, .inl (cI, 1560, .inl g_21)), (a2, .inl (cI, 1560, .inl g_15)), (a0, .inr (12, [.ref a1, .ref a2, .ref a3, .int 0, .ref a4, .int 0, .int 0, .int 0, .int 0, .int 0, .int (-1), .int 0, .int 0, .int 0, .int 0, .ref a5, .ref a6, .ref a7, .ref a8, .ref a9, .ref a10, .ref a11, .ref a12, .int 0, .int 0, .int 0, .int 0, .int 0, .ref a13, .int 0, .ref a14, .ref a15, .int 0, .int 0, .ref a16, .int 0, .ref a17, .ref a18, .int 0, .int (-1), .ref a19, .ref a20, .ref a21, .int 0, .ref a22, .ref a23, .ref a24, .ref a25, .ref a26, .ref a27, .ref a28, .ref a29, .ref a30, .int 0, .int 0, .ref a31]))] := by rw [eg_21] at hD; exact hD
              obtain ⟨x_22, ex_22⟩ : ∃ y : Int32, x_16 + 1 = y := ⟨_, rfl⟩
              refine lv_iinc (v := x_22) (lv' := [(2, .int x_22), (1, .int 1), (0, .ref a0)]) hx hb dX12_text_191 hl (k := 0) rfl ex_22 (by decide) rfl (fun ls hl => ?_)
              refine lv_goto (tgt := 172) hx hb dX12_text_194 (by decide) ?_
              exact ih (i_17 + 1) x_22 (by rw [← ex_22, ex_16]; exact nI_1 i_17) (by omega) (by omega) g_21 (by rw [← eg_21, ev_20, ex_16, nI_clamp (by omega)]; exact up_17 hg_18_17 pg_15_17) _ _ hP hD hS ls (lv_sub hl [0, 1, 2] rfl)
        exact hloop_172 (1560 + 1) 0 0 nI_0.symm (Nat.zero_le _) (by omega) w0 (by decide) _ _ hP hD hS ls hl
      · skip
        have hlt : i_2 < 1560 := by rcases Nat.lt_or_ge i_2 1560 with q | q; exact q; exact absurd (by rw [ex_1]; exact nI_le (a := 1560) q (by omega)) c_3
        refine lv_aload_n hx hb dX12_text_9 rfl (lv_at hl 1 rfl) ?_
        refine va_get (D := (dC, dI)) (ci := 12) (v := .ref a2) (C := RX12) (T := TX12) (N := 56) hx hb hU inlX12 hown hK hP 0 rfl rfl 1 (by decide) (hU _ wd_170) (fun _ h9 => h9) rfl dX12_text_10 ?_
        refine lv_iload_n hx hb dX12_text_13 rfl (lv_at hl 0 rfl) ?_
        refine lv_iconst (v := 0) hx hb dX12_text_14 (by decide) ?_
        refine va_iast hx hb hK hP hD hS 2 0 rfl rfl (by rw [ex_1]; exact vp_in_nI (by omega) (by omega)) dX12_text_15 (fun H locs hP hD hS => ?_)
        have hP : va_P (dC, dI) vwCl [(a0, .inr (12, [.ref a1, .ref a2, .ref a3, .int 0, .ref a4, .int 0, .int 0, .int 0, .int 0, .int 0, .int (-1), .int 0, .int 0, .int 0, .int 0, .ref a5, .ref a6, .ref a7, .ref a8, .ref a9, .ref a10, .ref a11, .ref a12, .int 0, .int 0, .int 0, .int 0, .int 0, .ref a13, .int 0, .ref a14, .ref a15, .int 0, .int 0, .ref a16, .int 0, .ref a17, .ref a18, .int 0, .int (-1), .ref a19, .ref a20, .ref a21, .int 0, .ref a22, .ref a23, .ref a24, .ref a25, .ref a26, .ref a27, .ref a28, .ref a29, .ref a30, .int 0, .int 0, .ref a31])), (a1, .inl (cI, 1560, .inl w0)), (a2, .inl (cI, 1560, .inl z0))] H := by rw [upd_z0] at hP; exact hP
        have hD : va_D A [(a0, .inr (12, [.ref a1, .ref a2, .ref a3, .int 0, .ref a4, .int 0, .int 0, .int 0, .int 0, .int 0, .int (-1), .int 0, .int 0, .int 0, .int 0, .ref a5, .ref a6, .ref a7, .ref a8, .ref a9, .ref a10, .ref a11, .ref a12, .int 0, .int 0, .int 0, .int 0, .int 0, .ref a13, .int 0, .ref a14, .ref a15, .int 0, .int 0, .ref a16, .int 0, .ref a17, .ref a18, .int 0, .int (-1), .ref a19, .ref a20, .ref a21, .int 0, .ref a22, .ref a23, .ref a24, .ref a25, .ref a26, .ref a27, .ref a28, .ref a29, .ref a30, .int 0, .int 0, .ref a31])), (a1, .inl (cI, 1560, .inl w0)), (a2, .inl (cI, 1560, .inl z0))] := by rw [upd_z0] at hD; exact hD
        obtain ⟨x_23, ex_23⟩ : ∃ y : Int32, x_1 + 1 = y := ⟨_, rfl⟩
        refine lv_iinc (v := x_23) (lv' := [(1, .int x_23), (0, .ref a0)]) hx hb dX12_text_16 hl (k := 0) rfl ex_23 (by decide) rfl (fun ls hl => ?_)
        refine lv_goto (tgt := 2) hx hb dX12_text_19 (by decide) ?_
        exact ih (i_2 + 1) x_23 (by rw [← ex_23, ex_1]; exact nI_1 i_2) (by omega) (by omega) _ _ hP hD hS ls (lv_sub hl [0, 1] rfl)
  exact hloop_2 (1560 + 1) 0 0 nI_0.symm (Nat.zero_le _) (by omega) _ _ hP hD hS ls hl
set_option maxHeartbeats 8000000 in
set_option maxRecDepth 100000 in
theorem op_X12_fault (l : Launch) (D : va_G) (cI cL cZ : ClassId) (sz : Nat) (a0 : Nat) (x0 : Int32) (a1 : Nat) (a2 : Nat) (a3 : Nat) (a4 : Nat) (a5 : Nat) (a6 : Nat) (a7 : Nat) (a8 : Nat) (a9 : Nat) (a10 : Nat) (a11 : Nat) (a12 : Nat) (a13 : Nat) (a14 : Nat) (a15 : Nat) (a16 : Nat) (a17 : Nat) (a18 : Nat) (a19 : Nat) (a20 : Nat) (a21 : Nat) (a22 : Nat) (a23 : Nat) (a24 : Nat) (a25 : Nat) (a26 : Nat) (a27 : Nat) (a28 : Nat) (a29 : Nat) (a30 : Nat) (a31 : Nat) : mI l D cI cL cZ yX12_fault cX12_fault 2 (some .int) 0 0 0 0 [.ref a0, .int x0] sz [(a0, .inr (12, [.ref a1, .ref a2, .ref a3, .int 0, .ref a4, .int 0, .int 0, .int 0, .int 0, .int 0, .int (-1), .int 0, .int 0, .int 0, .int 0, .ref a5, .ref a6, .ref a7, .ref a8, .ref a9, .ref a10, .ref a11, .ref a12, .int 0, .int 0, .int 0, .int 0, .int 0, .ref a13, .int 0, .ref a14, .ref a15, .int 0, .int 0, .ref a16, .int 0, .ref a17, .ref a18, .int 0, .int (-1), .ref a19, .ref a20, .ref a21, .int 0, .ref a22, .ref a23, .ref a24, .ref a25, .ref a26, .ref a27, .ref a28, .ref a29, .ref a30, .int 0, .int 0, .ref a31]))] (fun (r : Int32) (w1 : va_W) => r = (an_fault x0) ∧ w1 = ([] : va_W)) := by
  obtain ⟨dC, dI⟩ := D
  refine Met.ofW (cc := cX12_fault) (maxL := 2) (ret := (some .int)) (by decide) rfl ?_
  intro p e s m args below meth c s₁ B hml hv
  obtain ⟨rfl, hsz, hP, hK, hD0, hN⟩ := hv
  have hx := B.exec
  have hb := B.bytes
  have hr := B.returns
  have hU : ∀ w ∈ wsU, w.before _ s = true := fun w h => atoms_spec (ws := wU yX12_fault cX12_fault 2 (some .int)) B.pre w (List.mem_cons_of_mem _ h)
  have hown : s.vm.findClass RX12 = some m.cls := findClass_of_methodNamed B.named
  have hlocks := B.notSynchronized
  subst hsz
  have hD := hD0.self (sz := s.heap.size)
  generalize hAe : va_A [(a0, .inr (12, [.ref a1, .ref a2, .ref a3, .int 0, .ref a4, .int 0, .int 0, .int 0, .int 0, .int 0, .int (-1), .int 0, .int 0, .int 0, .int 0, .ref a5, .ref a6, .ref a7, .ref a8, .ref a9, .ref a10, .ref a11, .ref a12, .int 0, .int 0, .int 0, .int 0, .int 0, .ref a13, .int 0, .ref a14, .ref a15, .int 0, .int 0, .ref a16, .int 0, .ref a17, .ref a18, .int 0, .int (-1), .ref a19, .ref a20, .ref a21, .int 0, .ref a22, .ref a23, .ref a24, .ref a25, .ref a26, .ref a27, .ref a28, .ref a29, .ref a30, .int 0, .int 0, .ref a31]))] s.heap.size = A at hD ⊢
  have hA : ∀ q : Nat, s.heap.size ≤ q → A q := fun q h => by rw [← hAe]; exact Or.inr h
  have hS : va_S A s.heap s.heap [] := va_S.rf
  have hP : va_P (dC, dI) vwCl [(a0, .inr (12, [.ref a1, .ref a2, .ref a3, .int 0, .ref a4, .int 0, .int 0, .int 0, .int 0, .int 0, .int (-1), .int 0, .int 0, .int 0, .int 0, .ref a5, .ref a6, .ref a7, .ref a8, .ref a9, .ref a10, .ref a11, .ref a12, .int 0, .int 0, .int 0, .int 0, .int 0, .ref a13, .int 0, .ref a14, .ref a15, .int 0, .int 0, .ref a16, .int 0, .ref a17, .ref a18, .int 0, .int (-1), .ref a19, .ref a20, .ref a21, .int 0, .ref a22, .ref a23, .ref a24, .ref a25, .ref a26, .ref a27, .ref a28, .ref a29, .ref a30, .int 0, .int 0, .ref a31]))] s.heap := hP
  have hl := lv_entry ([.ref a0, .int x0]) (n := 2) (Nat.le_of_ble_eq_true rfl)
  rw [lg_entry_eq]
  generalize (lg_sl ([.ref a0, .int x0]) ++ List.replicate (2 - (lg_sl ([.ref a0, .int x0])).length) Slot.unset).toArray = ls at hl ⊢
  have hl : lv_has ls 2 [(0, .ref a0), (1, .int x0)] := hl
  by_cases c_1 : x0 = 0
  · subst c_1
    refine lv_iload_n hx hb dX12_fault_0 rfl (lv_at hl 1 rfl) ?_
    refine lv_if_ne (tgt := 11) hx hb dX12_fault_1 (by decide) (fun c9 => absurd (by decide) c9) (fun _ => ?_)
    refine lv_aload_n hx hb dX12_fault_4 rfl (lv_at hl 0 rfl) ?_
    refine va_get (D := (dC, dI)) (ci := 12) (v := .int 0) (C := RX12) (T := TX12) (N := 56) hx hb hU inlX12 hown hK hP 0 rfl rfl 9 (by decide) (hU _ wd_568) (fun _ h9 => h9) rfl dX12_fault_5 ?_
    refine lv_goto (tgt := 24) hx hb dX12_fault_8 (by decide) ?_
    have hP9 := hP.sub (ws' := []) [] rfl
    have hD9 := hD.sub (ws' := []) [] (by decide) rfl
    refine W.widen (k := 0) (n := 0) (Nat.le_of_ble_eq_true rfl) (Nat.le_of_ble_eq_true rfl) ?_
    exact W.iret (v := 0) hx hb hr (fun t ht hW => ⟨⟨0, [], rfl, ⟨by decide, rfl⟩, by rw [ht]; exact hP9, va_K.moved hW.alike hK, hD9⟩, hS.F ht⟩) hS.2.2 dX12_fault_24
  by_cases c_2 : x0 = 1
  · subst c_2
    refine lv_iload_n hx hb dX12_fault_0 rfl (lv_at hl 1 rfl) ?_
    refine lv_if_ne (tgt := 11) hx hb dX12_fault_1 (by decide) (fun _ => ?_) (fun c9 => absurd c9 (by decide)) 
    refine lv_iload_n hx hb dX12_fault_11 rfl (lv_at hl 1 rfl) ?_
    refine lv_iconst (v := 1) hx hb dX12_fault_12 (by decide) ?_
    refine lv_icmp_ne (tgt := 23) hx hb dX12_fault_13 (by decide) (fun c9 => absurd (by decide) c9) (fun _ => ?_)
    refine lv_aload_n hx hb dX12_fault_16 rfl (lv_at hl 0 rfl) ?_
    refine va_get (D := (dC, dI)) (ci := 12) (v := .int (-1)) (C := RX12) (T := TX12) (N := 56) hx hb hU inlX12 hown hK hP 0 rfl rfl 10 (by decide) (hU _ wd_173) (fun _ h9 => h9) rfl dX12_fault_17 ?_
    refine lv_goto (tgt := 24) hx hb dX12_fault_20 (by decide) ?_
    have hP9 := hP.sub (ws' := []) [] rfl
    have hD9 := hD.sub (ws' := []) [] (by decide) rfl
    refine W.widen (k := 0) (n := 0) (Nat.le_of_ble_eq_true rfl) (Nat.le_of_ble_eq_true rfl) ?_
    exact W.iret (v := (-1)) hx hb hr (fun t ht hW => ⟨⟨(-1), [], rfl, ⟨by decide, rfl⟩, by rw [ht]; exact hP9, va_K.moved hW.alike hK, hD9⟩, hS.F ht⟩) hS.2.2 dX12_fault_24
  refine lv_iload_n hx hb dX12_fault_0 rfl (lv_at hl 1 rfl) ?_
  refine lv_if_ne (tgt := 11) hx hb dX12_fault_1 (by decide) (fun c_3 => ?_) (fun c_3 => ?_)
  · skip
    refine lv_iload_n hx hb dX12_fault_11 rfl (lv_at hl 1 rfl) ?_
    refine lv_iconst (v := 1) hx hb dX12_fault_12 (by decide) ?_
    refine lv_icmp_ne (tgt := 23) hx hb dX12_fault_13 (by decide) (fun c_4 => ?_) (fun c_4 => ?_)
    · skip
      refine lv_iconst (v := (-1)) hx hb dX12_fault_23 (by decide) ?_
      have hP9 := hP.sub (ws' := []) [] rfl
      have hD9 := hD.sub (ws' := []) [] (by decide) rfl
      refine W.widen (k := 0) (n := 0) (Nat.le_of_ble_eq_true rfl) (Nat.le_of_ble_eq_true rfl) ?_
      exact W.iret (v := (-1)) hx hb hr (fun t ht hW => ⟨⟨(-1), [], rfl, ⟨by simp [an_fault, c_1, c_2, c_3, c_4], rfl⟩, by rw [ht]; exact hP9, va_K.moved hW.alike hK, hD9⟩, hS.F ht⟩) hS.2.2 dX12_fault_24
    · skip
      exfalso
      simp only [Int32.lt_iff_toInt_lt, Int32.le_iff_toInt_le, ← Int32.toInt_inj, ti_0, ti_1] at c_1 c_2 c_3 c_4
      omega
  · skip
    exfalso
    simp only [Int32.lt_iff_toInt_lt, Int32.le_iff_toInt_le, ← Int32.toInt_inj, ti_0, ti_1] at c_1 c_2 c_3
    omega
set_option maxHeartbeats 8000000 in
set_option maxRecDepth 100000 in
theorem cc_X12_allRules_0 (l : Launch) (D : va_G) (cI cL cZ : ClassId) (sz : Nat) (a0 : Nat) (a1 : Nat) (a2 : Nat) (a3 : Nat) (a4 : Nat) (a5 : Nat) (a6 : Nat) (a7 : Nat) (a8 : Nat) (a9 : Nat) (a10 : Nat) (a11 : Nat) (a12 : Nat) (a13 : Nat) (a14 : Nat) (a15 : Nat) (a16 : Nat) (a17 : Nat) (a18 : Nat) (a19 : Nat) (a20 : Nat) (a21 : Nat) (a22 : Nat) (a23 : Nat) (a24 : Nat) (a25 : Nat) (a26 : Nat) (a27 : Nat) (a28 : Nat) (a29 : Nat) (a30 : Nat) (a31 : Nat) : mI l D cI cL cZ yX12_allRules cX12_allRules 1 (some .int) 0 0 0 0 [.ref a0] sz [(a0, .inr (12, [.ref a1, .ref a2, .ref a3, .int 0, .ref a4, .int 0, .int 0, .int 0, .int 0, .int 0, .int (-1), .int 0, .int 0, .int 0, .int 0, .ref a5, .ref a6, .ref a7, .ref a8, .ref a9, .ref a10, .ref a11, .ref a12, .int 0, .int 0, .int 0, .int 0, .int 0, .ref a13, .int 0, .ref a14, .ref a15, .int 0, .int 0, .ref a16, .int 0, .ref a17, .ref a18, .int 0, .int (-1), .ref a19, .ref a20, .ref a21, .int 0, .ref a22, .ref a23, .ref a24, .ref a25, .ref a26, .ref a27, .ref a28, .ref a29, .ref a30, .int 0, .int 0, .ref a31])), (a1, .inl (cI, 1560, .inl w0))] (fun (r : Int32) (w1 : va_W) => r = 0 ∧ w1 = ([(a0, .inr (12, [.ref a1, .ref a2, .ref a3, .int 0, .ref a4, .int 0, .int 0, .int 0, .int 0, .int 0, .int (-1), .int 0, .int 0, .int 0, .int 0, .ref a5, .ref a6, .ref a7, .ref a8, .ref a9, .ref a10, .ref a11, .ref a12, .int 0, .int 0, .int 0, .int 0, .int 0, .ref a13, .int 0, .ref a14, .ref a15, .int 0, .int 0, .ref a16, .int 0, .ref a17, .ref a18, .int 0, .int (-1), .ref a19, .ref a20, .ref a21, .int 0, .ref a22, .ref a23, .ref a24, .ref a25, .ref a26, .ref a27, .ref a28, .ref a29, .ref a30, .int 0, .int 0, .ref a31])), (a1, .inl (cI, 1560, .inl w0))] : va_W)) := by
  obtain ⟨dC, dI⟩ := D
  refine Met.ofW (cc := cX12_allRules) (maxL := 1) (ret := (some .int)) (by decide) rfl ?_
  intro p e s m args below meth c s₁ B hml hv
  obtain ⟨rfl, hsz, hP, hK, hD0, hN⟩ := hv
  have hx := B.exec
  have hb := B.bytes
  have hr := B.returns
  have hU : ∀ w ∈ wsU, w.before _ s = true := fun w h => atoms_spec (ws := wU yX12_allRules cX12_allRules 1 (some .int)) B.pre w (List.mem_cons_of_mem _ h)
  have hown : s.vm.findClass RX12 = some m.cls := findClass_of_methodNamed B.named
  have hlocks := B.notSynchronized
  subst hsz
  have hD := hD0.self (sz := s.heap.size)
  generalize hAe : va_A [(a0, .inr (12, [.ref a1, .ref a2, .ref a3, .int 0, .ref a4, .int 0, .int 0, .int 0, .int 0, .int 0, .int (-1), .int 0, .int 0, .int 0, .int 0, .ref a5, .ref a6, .ref a7, .ref a8, .ref a9, .ref a10, .ref a11, .ref a12, .int 0, .int 0, .int 0, .int 0, .int 0, .ref a13, .int 0, .ref a14, .ref a15, .int 0, .int 0, .ref a16, .int 0, .ref a17, .ref a18, .int 0, .int (-1), .ref a19, .ref a20, .ref a21, .int 0, .ref a22, .ref a23, .ref a24, .ref a25, .ref a26, .ref a27, .ref a28, .ref a29, .ref a30, .int 0, .int 0, .ref a31])), (a1, .inl (cI, 1560, .inl w0))] s.heap.size = A at hD ⊢
  have hA : ∀ q : Nat, s.heap.size ≤ q → A q := fun q h => by rw [← hAe]; exact Or.inr h
  have hS : va_S A s.heap s.heap [] := va_S.rf
  have hP : va_P (dC, dI) vwCl [(a0, .inr (12, [.ref a1, .ref a2, .ref a3, .int 0, .ref a4, .int 0, .int 0, .int 0, .int 0, .int 0, .int (-1), .int 0, .int 0, .int 0, .int 0, .ref a5, .ref a6, .ref a7, .ref a8, .ref a9, .ref a10, .ref a11, .ref a12, .int 0, .int 0, .int 0, .int 0, .int 0, .ref a13, .int 0, .ref a14, .ref a15, .int 0, .int 0, .ref a16, .int 0, .ref a17, .ref a18, .int 0, .int (-1), .ref a19, .ref a20, .ref a21, .int 0, .ref a22, .ref a23, .ref a24, .ref a25, .ref a26, .ref a27, .ref a28, .ref a29, .ref a30, .int 0, .int 0, .ref a31])), (a1, .inl (cI, 1560, .inl w0))] s.heap := hP
  have hl := lv_entry ([.ref a0]) (n := 1) (Nat.le_of_ble_eq_true rfl)
  rw [lg_entry_eq]
  generalize (lg_sl ([.ref a0]) ++ List.replicate (1 - (lg_sl ([.ref a0])).length) Slot.unset).toArray = ls at hl ⊢
  have hl : lv_has ls 1 [(0, .ref a0)] := hl
  refine lv_iconst (v := 1) hx hb dX12_allRules_0 (by decide) ?_
  refine lv_aload_n hx hb dX12_allRules_1 rfl (lv_at hl 0 rfl) ?_
  refine va_get (D := (dC, dI)) (ci := 12) (v := .ref a1) (C := RX12) (T := TX12) (N := 56) hx hb hU inlX12 hown hK hP 0 rfl rfl 0 (by decide) (hU _ wd_169) (fun _ h9 => h9) rfl dX12_allRules_2 ?_
  refine lv_bipush (v := 17) hx hb dX12_allRules_5 (by decide) ?_
  refine va_iald hx hb hK hP 1 0 rfl rfl (vp_in_nI (n := 17) (by decide) (by decide)) dX12_allRules_7 ?_
  refine tk_topi (y := 0) (by decide) ?_
  refine lv_ishl hx hb dX12_allRules_8 ?_
  refine tk_topi (y := 1) (by decide) ?_
  refine lv_iconst (v := 1) hx hb dX12_allRules_9 (by decide) ?_
  refine lv_isub hx hb dX12_allRules_10 ?_
  refine tk_topi (y := 0) (by decide) ?_
  have hP9 := hP.sub (ws' := [(a0, .inr (12, [.ref a1, .ref a2, .ref a3, .int 0, .ref a4, .int 0, .int 0, .int 0, .int 0, .int 0, .int (-1), .int 0, .int 0, .int 0, .int 0, .ref a5, .ref a6, .ref a7, .ref a8, .ref a9, .ref a10, .ref a11, .ref a12, .int 0, .int 0, .int 0, .int 0, .int 0, .ref a13, .int 0, .ref a14, .ref a15, .int 0, .int 0, .ref a16, .int 0, .ref a17, .ref a18, .int 0, .int (-1), .ref a19, .ref a20, .ref a21, .int 0, .ref a22, .ref a23, .ref a24, .ref a25, .ref a26, .ref a27, .ref a28, .ref a29, .ref a30, .int 0, .int 0, .ref a31])), (a1, .inl (cI, 1560, .inl w0))]) [0, 1] rfl
  have hD9 := hD.sub (ws' := [(a0, .inr (12, [.ref a1, .ref a2, .ref a3, .int 0, .ref a4, .int 0, .int 0, .int 0, .int 0, .int 0, .int (-1), .int 0, .int 0, .int 0, .int 0, .ref a5, .ref a6, .ref a7, .ref a8, .ref a9, .ref a10, .ref a11, .ref a12, .int 0, .int 0, .int 0, .int 0, .int 0, .ref a13, .int 0, .ref a14, .ref a15, .int 0, .int 0, .ref a16, .int 0, .ref a17, .ref a18, .int 0, .int (-1), .ref a19, .ref a20, .ref a21, .int 0, .ref a22, .ref a23, .ref a24, .ref a25, .ref a26, .ref a27, .ref a28, .ref a29, .ref a30, .int 0, .int 0, .ref a31])), (a1, .inl (cI, 1560, .inl w0))]) [0, 1] (by decide) rfl
  refine W.widen (k := 0) (n := 0) (Nat.le_of_ble_eq_true rfl) (Nat.le_of_ble_eq_true rfl) ?_
  exact W.iret (v := 0) hx hb hr (fun t ht hW => ⟨⟨0, [(a0, .inr (12, [.ref a1, .ref a2, .ref a3, .int 0, .ref a4, .int 0, .int 0, .int 0, .int 0, .int 0, .int (-1), .int 0, .int 0, .int 0, .int 0, .ref a5, .ref a6, .ref a7, .ref a8, .ref a9, .ref a10, .ref a11, .ref a12, .int 0, .int 0, .int 0, .int 0, .int 0, .ref a13, .int 0, .ref a14, .ref a15, .int 0, .int 0, .ref a16, .int 0, .ref a17, .ref a18, .int 0, .int (-1), .ref a19, .ref a20, .ref a21, .int 0, .ref a22, .ref a23, .ref a24, .ref a25, .ref a26, .ref a27, .ref a28, .ref a29, .ref a30, .int 0, .int 0, .ref a31])), (a1, .inl (cI, 1560, .inl w0))], rfl, ⟨rfl, rfl⟩, by rw [ht]; exact hP9, va_K.moved hW.alike hK, hD9⟩, hS.F ht⟩) hS.2.2 dX12_allRules_11
