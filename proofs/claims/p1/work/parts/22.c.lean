set_option maxHeartbeats 8000000 in
set_option maxRecDepth 100000 in
theorem op_X11_look (l : Launch) (D : va_G) (cI cL cZ : ClassId) (sz : Nat) (a0 : Nat) (x0 : Int32) (a1 : Nat) (a2 : Nat) (a3 : Nat) (a4 : Nat) (a5 : Nat) (a6 : Nat) (a7 : Nat) (a8 : Nat) (a9 : Nat) (a10 : Nat) (a11 : Nat) (a12 : Nat) (a13 : Nat) (a14 : Nat) (a15 : Nat) (a16 : Nat) (a17 : Nat) (a18 : Nat) (a19 : Nat) (a20 : Nat) (a21 : Nat) (a22 : Nat) (a23 : Nat) (a24 : Nat) (a25 : Nat) (a26 : Nat) (a27 : Nat) (a28 : Nat) (a29 : Nat) (a30 : Nat) (a31 : Nat) (a32 : Nat) (a33 : Nat) (a34 : Nat) (a35 : Nat) (a36 : Nat) (a37 : Nat) (a38 : Nat) : mI l D cI cL cZ yX11_look cX11_look 2 (some .int) 2 42 0 0 [.ref a0, .int x0] sz [(a0, .inr (11, [.ref a1, .int 0, .ref a2, .ref a3, .ref a4, .ref a5, .ref a6, .ref a7, .int 0, .ref a8, .ref a9, .ref a10, .int 0, .int (-1), .ref a11, .int 0, .ref a12, .ref a13, .int 0])), (a3, .inr (7, [.ref a14, .int 0, .ref a15, .ref a16, .ref a17, .ref a18, .int 0, .ref a19, .ref a20, .ref a21, .ref a22, .ref a23, .int 0, .ref a24, .ref a25, .ref a26])), (a15, .inl (cI, 6, .inl z0)), (a24, .inr (9, [.ref a27, .ref a28, .int 0])), (a25, .inr (9, [.ref a29, .ref a30, .int 0])), (a5, .inr (6, [.int 0, .int 1, .ref a31, .ref a32, .ref a33, .int 0, .ref a34, .ref a35, .ref a36])), (a32, .inr (9, [.ref a37, .ref a38, .int 0]))] (fun (r : Int32) (w1 : va_W) => r = (an_look x0) ∧ w1 = ([] : va_W)) := by
  obtain ⟨dC, dI⟩ := D
  refine Met.ofW (cc := cX11_look) (maxL := 2) (ret := (some .int)) (by decide) rfl ?_
  intro p e s m args below meth c s₁ B hml hv
  obtain ⟨rfl, hsz, hP, hK, hD0, hN⟩ := hv
  have hx := B.exec
  have hb := B.bytes
  have hr := B.returns
  have hU : ∀ w ∈ wsU, w.before _ s = true := fun w h => atoms_spec (ws := wU yX11_look cX11_look 2 (some .int)) B.pre w (List.mem_cons_of_mem _ h)
  have hown : s.vm.findClass RX11 = some m.cls := findClass_of_methodNamed B.named
  have hlocks := B.notSynchronized
  subst hsz
  have hD := hD0.self (sz := s.heap.size)
  generalize hAe : va_A [(a0, .inr (11, [.ref a1, .int 0, .ref a2, .ref a3, .ref a4, .ref a5, .ref a6, .ref a7, .int 0, .ref a8, .ref a9, .ref a10, .int 0, .int (-1), .ref a11, .int 0, .ref a12, .ref a13, .int 0])), (a3, .inr (7, [.ref a14, .int 0, .ref a15, .ref a16, .ref a17, .ref a18, .int 0, .ref a19, .ref a20, .ref a21, .ref a22, .ref a23, .int 0, .ref a24, .ref a25, .ref a26])), (a15, .inl (cI, 6, .inl z0)), (a24, .inr (9, [.ref a27, .ref a28, .int 0])), (a25, .inr (9, [.ref a29, .ref a30, .int 0])), (a5, .inr (6, [.int 0, .int 1, .ref a31, .ref a32, .ref a33, .int 0, .ref a34, .ref a35, .ref a36])), (a32, .inr (9, [.ref a37, .ref a38, .int 0]))] s.heap.size = A at hD ⊢
  have hA : ∀ q : Nat, s.heap.size ≤ q → A q := fun q h => by rw [← hAe]; exact Or.inr h
  have hS : va_S A s.heap s.heap [] := va_S.rf
  have hP : va_P (dC, dI) vwCl [(a0, .inr (11, [.ref a1, .int 0, .ref a2, .ref a3, .ref a4, .ref a5, .ref a6, .ref a7, .int 0, .ref a8, .ref a9, .ref a10, .int 0, .int (-1), .ref a11, .int 0, .ref a12, .ref a13, .int 0])), (a3, .inr (7, [.ref a14, .int 0, .ref a15, .ref a16, .ref a17, .ref a18, .int 0, .ref a19, .ref a20, .ref a21, .ref a22, .ref a23, .int 0, .ref a24, .ref a25, .ref a26])), (a15, .inl (cI, 6, .inl z0)), (a24, .inr (9, [.ref a27, .ref a28, .int 0])), (a25, .inr (9, [.ref a29, .ref a30, .int 0])), (a5, .inr (6, [.int 0, .int 1, .ref a31, .ref a32, .ref a33, .int 0, .ref a34, .ref a35, .ref a36])), (a32, .inr (9, [.ref a37, .ref a38, .int 0]))] s.heap := hP
  have hl := lv_entry ([.ref a0, .int x0]) (n := 2) (Nat.le_of_ble_eq_true rfl)
  rw [lg_entry_eq]
  generalize (lg_sl ([.ref a0, .int x0]) ++ List.replicate (2 - (lg_sl ([.ref a0, .int x0])).length) Slot.unset).toArray = ls at hl ⊢
  have hl : lv_has ls 2 [(0, .ref a0), (1, .int x0)] := hl
  by_cases c_1 : x0 = 0
  · subst c_1
    refine lv_iload_n hx hb dX11_look_0 rfl (lv_at hl 1 rfl) ?_
    refine lv_tableIn (tgt := 48) hx hb dX11_look_1 (by decide) (by decide) rfl (by decide) ?_
    refine lv_aload_n hx hb dX11_look_48 rfl (lv_at hl 0 rfl) ?_
    refine va_get (D := (dC, dI)) (ci := 11) (v := .ref a3) (C := RX11) (T := TX11) (N := 19) hx hb hU inlX11 hown hK hP 0 rfl rfl 3 (by decide) (hU _ wd_19) (fun _ h9 => h9) rfl dX11_look_49 ?_
    refine va_get (D := (dC, dI)) (ci := 7) (v := .int 0) (C := RX7) (T := TX7) (N := 16) hx hb hU inlX7 hown hK hP 1 rfl rfl 1 (by decide) (hU _ wd_1151) (fun _ h9 => h9) rfl dX11_look_52 ?_
    have hP9 := hP.sub (ws' := []) [] rfl
    have hD9 := hD.sub (ws' := []) [] (by decide) rfl
    refine W.widen (k := 0) (n := 0) (Nat.le_of_ble_eq_true rfl) (Nat.le_of_ble_eq_true rfl) ?_
    exact W.iret (v := 0) hx hb hr (fun t ht hW => ⟨⟨0, [], rfl, ⟨by decide, rfl⟩, by rw [ht]; exact hP9, va_K.moved hW.alike hK, hD9⟩, hS.F ht⟩) hS.2.2 dX11_look_55
  by_cases c_2 : x0 = 1
  · subst c_2
    refine lv_iload_n hx hb dX11_look_0 rfl (lv_at hl 1 rfl) ?_
    refine lv_tableIn (tgt := 56) hx hb dX11_look_1 (by decide) (by decide) rfl (by decide) ?_
    refine lv_aload_n hx hb dX11_look_56 rfl (lv_at hl 0 rfl) ?_
    refine va_get (D := (dC, dI)) (ci := 11) (v := .ref a3) (C := RX11) (T := TX11) (N := 19) hx hb hU inlX11 hown hK hP 0 rfl rfl 3 (by decide) (hU _ wd_19) (fun _ h9 => h9) rfl dX11_look_57 ?_
    refine va_get (D := (dC, dI)) (ci := 7) (v := .int 0) (C := RX7) (T := TX7) (N := 16) hx hb hU inlX7 hown hK hP 1 rfl rfl 6 (by decide) (hU _ wd_1259) (fun _ h9 => h9) rfl dX11_look_60 ?_
    have hP9 := hP.sub (ws' := []) [] rfl
    have hD9 := hD.sub (ws' := []) [] (by decide) rfl
    refine W.widen (k := 0) (n := 0) (Nat.le_of_ble_eq_true rfl) (Nat.le_of_ble_eq_true rfl) ?_
    exact W.iret (v := 0) hx hb hr (fun t ht hW => ⟨⟨0, [], rfl, ⟨by decide, rfl⟩, by rw [ht]; exact hP9, va_K.moved hW.alike hK, hD9⟩, hS.F ht⟩) hS.2.2 dX11_look_63
  by_cases c_3 : x0 = 2
  · subst c_3
    refine lv_iload_n hx hb dX11_look_0 rfl (lv_at hl 1 rfl) ?_
    refine lv_tableIn (tgt := 64) hx hb dX11_look_1 (by decide) (by decide) rfl (by decide) ?_
    refine lv_aload_n hx hb dX11_look_64 rfl (lv_at hl 0 rfl) ?_
    refine va_get (D := (dC, dI)) (ci := 11) (v := .ref a3) (C := RX11) (T := TX11) (N := 19) hx hb hU inlX11 hown hK hP 0 rfl rfl 3 (by decide) (hU _ wd_19) (fun _ h9 => h9) rfl dX11_look_65 ?_
    refine va_get (D := (dC, dI)) (ci := 7) (v := .int 0) (C := RX7) (T := TX7) (N := 16) hx hb hU inlX7 hown hK hP 1 rfl rfl 12 (by decide) (hU _ wd_235) (fun _ h9 => h9) rfl dX11_look_68 ?_
    have hP9 := hP.sub (ws' := []) [] rfl
    have hD9 := hD.sub (ws' := []) [] (by decide) rfl
    refine W.widen (k := 0) (n := 0) (Nat.le_of_ble_eq_true rfl) (Nat.le_of_ble_eq_true rfl) ?_
    exact W.iret (v := 0) hx hb hr (fun t ht hW => ⟨⟨0, [], rfl, ⟨by decide, rfl⟩, by rw [ht]; exact hP9, va_K.moved hW.alike hK, hD9⟩, hS.F ht⟩) hS.2.2 dX11_look_71
  by_cases c_4 : x0 = 3
  · subst c_4
    refine lv_iload_n hx hb dX11_look_0 rfl (lv_at hl 1 rfl) ?_
    refine lv_tableIn (tgt := 72) hx hb dX11_look_1 (by decide) (by decide) rfl (by decide) ?_
    refine lv_aload_n hx hb dX11_look_72 rfl (lv_at hl 0 rfl) ?_
    refine va_get (D := (dC, dI)) (ci := 11) (v := .ref a3) (C := RX11) (T := TX11) (N := 19) hx hb hU inlX11 hown hK hP 0 rfl rfl 3 (by decide) (hU _ wd_19) (fun _ h9 => h9) rfl dX11_look_73 ?_
    refine va_get (D := (dC, dI)) (ci := 7) (v := .ref a24) (C := RX7) (T := TX7) (N := 16) hx hb hU inlX7 hown hK hP 1 rfl rfl 13 (by decide) (hU _ wd_999) (fun _ h9 => h9) rfl dX11_look_76 ?_
    refine va_get (D := (dC, dI)) (ci := 9) (v := .int 0) (C := RX9) (T := TX9) (N := 3) hx hb hU inlX9 hown hK hP 3 rfl rfl 2 (by decide) (hU _ wd_1000) (fun _ h9 => h9) rfl dX11_look_79 ?_
    have hP9 := hP.sub (ws' := []) [] rfl
    have hD9 := hD.sub (ws' := []) [] (by decide) rfl
    refine W.widen (k := 0) (n := 0) (Nat.le_of_ble_eq_true rfl) (Nat.le_of_ble_eq_true rfl) ?_
    exact W.iret (v := 0) hx hb hr (fun t ht hW => ⟨⟨0, [], rfl, ⟨by decide, rfl⟩, by rw [ht]; exact hP9, va_K.moved hW.alike hK, hD9⟩, hS.F ht⟩) hS.2.2 dX11_look_82
  by_cases c_5 : x0 = 4
  · subst c_5
    refine lv_iload_n hx hb dX11_look_0 rfl (lv_at hl 1 rfl) ?_
    refine lv_tableIn (tgt := 83) hx hb dX11_look_1 (by decide) (by decide) rfl (by decide) ?_
    refine lv_aload_n hx hb dX11_look_83 rfl (lv_at hl 0 rfl) ?_
    refine va_get (D := (dC, dI)) (ci := 11) (v := .ref a3) (C := RX11) (T := TX11) (N := 19) hx hb hU inlX11 hown hK hP 0 rfl rfl 3 (by decide) (hU _ wd_19) (fun _ h9 => h9) rfl dX11_look_84 ?_
    refine va_get (D := (dC, dI)) (ci := 7) (v := .ref a25) (C := RX7) (T := TX7) (N := 16) hx hb hU inlX7 hown hK hP 1 rfl rfl 14 (by decide) (hU _ wd_1001) (fun _ h9 => h9) rfl dX11_look_87 ?_
    refine va_get (D := (dC, dI)) (ci := 9) (v := .int 0) (C := RX9) (T := TX9) (N := 3) hx hb hU inlX9 hown hK hP 4 rfl rfl 2 (by decide) (hU _ wd_1000) (fun _ h9 => h9) rfl dX11_look_90 ?_
    have hP9 := hP.sub (ws' := []) [] rfl
    have hD9 := hD.sub (ws' := []) [] (by decide) rfl
    refine W.widen (k := 0) (n := 0) (Nat.le_of_ble_eq_true rfl) (Nat.le_of_ble_eq_true rfl) ?_
    exact W.iret (v := 0) hx hb hr (fun t ht hW => ⟨⟨0, [], rfl, ⟨by decide, rfl⟩, by rw [ht]; exact hP9, va_K.moved hW.alike hK, hD9⟩, hS.F ht⟩) hS.2.2 dX11_look_93
  by_cases c_6 : x0 = 5
  · subst c_6
    refine lv_iload_n hx hb dX11_look_0 rfl (lv_at hl 1 rfl) ?_
    refine lv_tableIn (tgt := 94) hx hb dX11_look_1 (by decide) (by decide) rfl (by decide) ?_
    refine lv_aload_n hx hb dX11_look_94 rfl (lv_at hl 0 rfl) ?_
    refine va_get (D := (dC, dI)) (ci := 11) (v := .ref a5) (C := RX11) (T := TX11) (N := 19) hx hb hU inlX11 hown hK hP 0 rfl rfl 5 (by decide) (hU _ wd_25) (fun _ h9 => h9) rfl dX11_look_95 ?_
    refine va_get (D := (dC, dI)) (ci := 6) (v := .int 0) (C := RX6) (T := TX6) (N := 9) hx hb hU inlX6 hown hK hP 5 rfl rfl 0 (by decide) (hU _ wd_677) (fun _ h9 => h9) rfl dX11_look_98 ?_
    have hP9 := hP.sub (ws' := []) [] rfl
    have hD9 := hD.sub (ws' := []) [] (by decide) rfl
    refine W.widen (k := 0) (n := 0) (Nat.le_of_ble_eq_true rfl) (Nat.le_of_ble_eq_true rfl) ?_
    exact W.iret (v := 0) hx hb hr (fun t ht hW => ⟨⟨0, [], rfl, ⟨by decide, rfl⟩, by rw [ht]; exact hP9, va_K.moved hW.alike hK, hD9⟩, hS.F ht⟩) hS.2.2 dX11_look_101
  by_cases c_7 : x0 = 6
  · subst c_7
    refine lv_iload_n hx hb dX11_look_0 rfl (lv_at hl 1 rfl) ?_
    refine lv_tableIn (tgt := 102) hx hb dX11_look_1 (by decide) (by decide) rfl (by decide) ?_
    refine lv_aload_n hx hb dX11_look_102 rfl (lv_at hl 0 rfl) ?_
    refine va_get (D := (dC, dI)) (ci := 11) (v := .ref a5) (C := RX11) (T := TX11) (N := 19) hx hb hU inlX11 hown hK hP 0 rfl rfl 5 (by decide) (hU _ wd_25) (fun _ h9 => h9) rfl dX11_look_103 ?_
    refine va_get (D := (dC, dI)) (ci := 6) (v := .int 1) (C := RX6) (T := TX6) (N := 9) hx hb hU inlX6 hown hK hP 5 rfl rfl 1 (by decide) (hU _ wd_694) (fun _ h9 => h9) rfl dX11_look_106 ?_
    have hP9 := hP.sub (ws' := []) [] rfl
    have hD9 := hD.sub (ws' := []) [] (by decide) rfl
    refine W.widen (k := 0) (n := 0) (Nat.le_of_ble_eq_true rfl) (Nat.le_of_ble_eq_true rfl) ?_
    exact W.iret (v := 1) hx hb hr (fun t ht hW => ⟨⟨1, [], rfl, ⟨by decide, rfl⟩, by rw [ht]; exact hP9, va_K.moved hW.alike hK, hD9⟩, hS.F ht⟩) hS.2.2 dX11_look_109
  by_cases c_8 : x0 = 7
  · subst c_8
    refine lv_iload_n hx hb dX11_look_0 rfl (lv_at hl 1 rfl) ?_
    refine lv_tableIn (tgt := 110) hx hb dX11_look_1 (by decide) (by decide) rfl (by decide) ?_
    refine lv_aload_n hx hb dX11_look_110 rfl (lv_at hl 0 rfl) ?_
    refine va_get (D := (dC, dI)) (ci := 11) (v := .ref a5) (C := RX11) (T := TX11) (N := 19) hx hb hU inlX11 hown hK hP 0 rfl rfl 5 (by decide) (hU _ wd_25) (fun _ h9 => h9) rfl dX11_look_111 ?_
    refine va_get (D := (dC, dI)) (ci := 6) (v := .ref a32) (C := RX6) (T := TX6) (N := 9) hx hb hU inlX6 hown hK hP 5 rfl rfl 3 (by decide) (hU _ wd_1387) (fun _ h9 => h9) rfl dX11_look_114 ?_
    refine va_get (D := (dC, dI)) (ci := 9) (v := .int 0) (C := RX9) (T := TX9) (N := 3) hx hb hU inlX9 hown hK hP 6 rfl rfl 2 (by decide) (hU _ wd_1000) (fun _ h9 => h9) rfl dX11_look_117 ?_
    have hP9 := hP.sub (ws' := []) [] rfl
    have hD9 := hD.sub (ws' := []) [] (by decide) rfl
    refine W.widen (k := 0) (n := 0) (Nat.le_of_ble_eq_true rfl) (Nat.le_of_ble_eq_true rfl) ?_
    exact W.iret (v := 0) hx hb hr (fun t ht hW => ⟨⟨0, [], rfl, ⟨by decide, rfl⟩, by rw [ht]; exact hP9, va_K.moved hW.alike hK, hD9⟩, hS.F ht⟩) hS.2.2 dX11_look_120
  by_cases c_9 : x0 = 10
  · subst c_9
    refine lv_iload_n hx hb dX11_look_0 rfl (lv_at hl 1 rfl) ?_
    refine lv_tableOut (tgt := 121) hx hb dX11_look_1 (by decide) (by decide) ?_
    refine lv_aload_n hx hb dX11_look_121 rfl (lv_at hl 0 rfl) ?_
    refine lv_iload_n hx hb dX11_look_122 rfl (lv_at hl 1 rfl) ?_
    refine tk_ri (wr := [(a24, .inr (9, [.ref a27, .ref a28, .int 0])), (a25, .inr (9, [.ref a29, .ref a30, .int 0])), (a5, .inr (6, [.int 0, .int 1, .ref a31, .ref a32, .ref a33, .int 0, .ref a34, .ref a35, .ref a36])), (a32, .inr (9, [.ref a37, .ref a38, .int 0]))]) (tk_V (As := [.int 10]) (rest := []) (n := 1) hx hb hml hown hU hN (cc_X11_lookFurther_0 l (dC, dI) cI cL cZ s.heap.size a0 a1 a2 a3 a4 a5 a6 a7 a8 a9 a10 a11 a12 a13 a14 a15 a16 a17 a18 a19 a20 a21 a22 a23 a24 a25 a26) wd_1488 wd_1489 wd_1490 wd_2 wd_1491 (by decide +kernel) ⟨Nat.le_of_ble_eq_true rfl, Nat.le_of_ble_eq_true rfl⟩ hK hP hD [0, 1, 2] (by decide) rfl 0 11 rfl rfl rfl rfl hl.1 rfl (Nat.le_of_ble_eq_true rfl) dX11_look_123 ⟨Nat.le_of_ble_eq_true rfl, Nat.le_of_ble_eq_true rfl⟩) hP hD hS hA [0, 1, 2] [3, 4, 5, 6] rfl rfl (by decide) (by decide) (fun r_10 w_11 H locs hw hP hD hS => ?_)
    obtain ⟨rfl, rfl⟩ := hw
    have hP : va_P (dC, dI) vwCl [(a24, .inr (9, [.ref a27, .ref a28, .int 0])), (a25, .inr (9, [.ref a29, .ref a30, .int 0])), (a5, .inr (6, [.int 0, .int 1, .ref a31, .ref a32, .ref a33, .int 0, .ref a34, .ref a35, .ref a36])), (a32, .inr (9, [.ref a37, .ref a38, .int 0])), (a0, .inr (11, [.ref a1, .int 0, .ref a2, .ref a3, .ref a4, .ref a5, .ref a6, .ref a7, .int 0, .ref a8, .ref a9, .ref a10, .int 0, .int (-1), .ref a11, .int 0, .ref a12, .ref a13, .int 0])), (a3, .inr (7, [.ref a14, .int 0, .ref a15, .ref a16, .ref a17, .ref a18, .int 0, .ref a19, .ref a20, .ref a21, .ref a22, .ref a23, .int 0, .ref a24, .ref a25, .ref a26])), (a15, .inl (cI, 6, .inl z0))] H := hP
    have hD : va_D A [(a24, .inr (9, [.ref a27, .ref a28, .int 0])), (a25, .inr (9, [.ref a29, .ref a30, .int 0])), (a5, .inr (6, [.int 0, .int 1, .ref a31, .ref a32, .ref a33, .int 0, .ref a34, .ref a35, .ref a36])), (a32, .inr (9, [.ref a37, .ref a38, .int 0])), (a0, .inr (11, [.ref a1, .int 0, .ref a2, .ref a3, .ref a4, .ref a5, .ref a6, .ref a7, .int 0, .ref a8, .ref a9, .ref a10, .int 0, .int (-1), .ref a11, .int 0, .ref a12, .ref a13, .int 0])), (a3, .inr (7, [.ref a14, .int 0, .ref a15, .ref a16, .ref a17, .ref a18, .int 0, .ref a19, .ref a20, .ref a21, .ref a22, .ref a23, .int 0, .ref a24, .ref a25, .ref a26])), (a15, .inl (cI, 6, .inl z0))] := hD
    have hP9 := hP.sub (ws' := []) [] rfl
    have hD9 := hD.sub (ws' := []) [] (by decide) rfl
    refine W.widen (k := 0) (n := 0) (Nat.le_of_ble_eq_true rfl) (Nat.le_of_ble_eq_true rfl) ?_
    exact W.iret (v := 0) hx hb hr (fun t ht hW => ⟨⟨0, [], rfl, ⟨by decide, rfl⟩, by rw [ht]; exact hP9, va_K.moved hW.alike hK, hD9⟩, hS.F ht⟩) hS.2.2 dX11_look_126
  by_cases c_12 : x0 = 11
  · subst c_12
    refine lv_iload_n hx hb dX11_look_0 rfl (lv_at hl 1 rfl) ?_
    refine lv_tableOut (tgt := 121) hx hb dX11_look_1 (by decide) (by decide) ?_
    refine lv_aload_n hx hb dX11_look_121 rfl (lv_at hl 0 rfl) ?_
    refine lv_iload_n hx hb dX11_look_122 rfl (lv_at hl 1 rfl) ?_
    refine tk_ri (wr := [(a24, .inr (9, [.ref a27, .ref a28, .int 0])), (a25, .inr (9, [.ref a29, .ref a30, .int 0])), (a5, .inr (6, [.int 0, .int 1, .ref a31, .ref a32, .ref a33, .int 0, .ref a34, .ref a35, .ref a36])), (a32, .inr (9, [.ref a37, .ref a38, .int 0]))]) (tk_V (As := [.int 11]) (rest := []) (n := 1) hx hb hml hown hU hN (cc_X11_lookFurther_1 l (dC, dI) cI cL cZ s.heap.size a0 a1 a2 a3 a4 a5 a6 a7 a8 a9 a10 a11 a12 a13 a14 a15 a16 a17 a18 a19 a20 a21 a22 a23 a24 a25 a26) wd_1488 wd_1489 wd_1490 wd_2 wd_1491 (by decide +kernel) ⟨Nat.le_of_ble_eq_true rfl, Nat.le_of_ble_eq_true rfl⟩ hK hP hD [0, 1, 2] (by decide) rfl 0 11 rfl rfl rfl rfl hl.1 rfl (Nat.le_of_ble_eq_true rfl) dX11_look_123 ⟨Nat.le_of_ble_eq_true rfl, Nat.le_of_ble_eq_true rfl⟩) hP hD hS hA [0, 1, 2] [3, 4, 5, 6] rfl rfl (by decide) (by decide) (fun r_13 w_14 H locs hw hP hD hS => ?_)
    obtain ⟨rfl, rfl⟩ := hw
    have hP : va_P (dC, dI) vwCl [(a24, .inr (9, [.ref a27, .ref a28, .int 0])), (a25, .inr (9, [.ref a29, .ref a30, .int 0])), (a5, .inr (6, [.int 0, .int 1, .ref a31, .ref a32, .ref a33, .int 0, .ref a34, .ref a35, .ref a36])), (a32, .inr (9, [.ref a37, .ref a38, .int 0])), (a0, .inr (11, [.ref a1, .int 0, .ref a2, .ref a3, .ref a4, .ref a5, .ref a6, .ref a7, .int 0, .ref a8, .ref a9, .ref a10, .int 0, .int (-1), .ref a11, .int 0, .ref a12, .ref a13, .int 0])), (a3, .inr (7, [.ref a14, .int 0, .ref a15, .ref a16, .ref a17, .ref a18, .int 0, .ref a19, .ref a20, .ref a21, .ref a22, .ref a23, .int 0, .ref a24, .ref a25, .ref a26])), (a15, .inl (cI, 6, .inl z0))] H := hP
    have hD : va_D A [(a24, .inr (9, [.ref a27, .ref a28, .int 0])), (a25, .inr (9, [.ref a29, .ref a30, .int 0])), (a5, .inr (6, [.int 0, .int 1, .ref a31, .ref a32, .ref a33, .int 0, .ref a34, .ref a35, .ref a36])), (a32, .inr (9, [.ref a37, .ref a38, .int 0])), (a0, .inr (11, [.ref a1, .int 0, .ref a2, .ref a3, .ref a4, .ref a5, .ref a6, .ref a7, .int 0, .ref a8, .ref a9, .ref a10, .int 0, .int (-1), .ref a11, .int 0, .ref a12, .ref a13, .int 0])), (a3, .inr (7, [.ref a14, .int 0, .ref a15, .ref a16, .ref a17, .ref a18, .int 0, .ref a19, .ref a20, .ref a21, .ref a22, .ref a23, .int 0, .ref a24, .ref a25, .ref a26])), (a15, .inl (cI, 6, .inl z0))] := hD
    have hP9 := hP.sub (ws' := []) [] rfl
    have hD9 := hD.sub (ws' := []) [] (by decide) rfl
    refine W.widen (k := 0) (n := 0) (Nat.le_of_ble_eq_true rfl) (Nat.le_of_ble_eq_true rfl) ?_
    exact W.iret (v := 0) hx hb hr (fun t ht hW => ⟨⟨0, [], rfl, ⟨by decide, rfl⟩, by rw [ht]; exact hP9, va_K.moved hW.alike hK, hD9⟩, hS.F ht⟩) hS.2.2 dX11_look_126
  by_cases c_15 : x0 = 12
  · subst c_15
    refine lv_iload_n hx hb dX11_look_0 rfl (lv_at hl 1 rfl) ?_
    refine lv_tableOut (tgt := 121) hx hb dX11_look_1 (by decide) (by decide) ?_
    refine lv_aload_n hx hb dX11_look_121 rfl (lv_at hl 0 rfl) ?_
    refine lv_iload_n hx hb dX11_look_122 rfl (lv_at hl 1 rfl) ?_
    refine tk_ri (wr := [(a24, .inr (9, [.ref a27, .ref a28, .int 0])), (a25, .inr (9, [.ref a29, .ref a30, .int 0])), (a5, .inr (6, [.int 0, .int 1, .ref a31, .ref a32, .ref a33, .int 0, .ref a34, .ref a35, .ref a36])), (a32, .inr (9, [.ref a37, .ref a38, .int 0]))]) (tk_V (As := [.int 12]) (rest := []) (n := 1) hx hb hml hown hU hN (cc_X11_lookFurther_2 l (dC, dI) cI cL cZ s.heap.size a0 a1 a2 a3 a4 a5 a6 a7 a8 a9 a10 a11 a12 a13 a14 a15 a16 a17 a18 a19 a20 a21 a22 a23 a24 a25 a26) wd_1488 wd_1489 wd_1490 wd_2 wd_1491 (by decide +kernel) ⟨Nat.le_of_ble_eq_true rfl, Nat.le_of_ble_eq_true rfl⟩ hK hP hD [0, 1, 2] (by decide) rfl 0 11 rfl rfl rfl rfl hl.1 rfl (Nat.le_of_ble_eq_true rfl) dX11_look_123 ⟨Nat.le_of_ble_eq_true rfl, Nat.le_of_ble_eq_true rfl⟩) hP hD hS hA [0, 1, 2] [3, 4, 5, 6] rfl rfl (by decide) (by decide) (fun r_16 w_17 H locs hw hP hD hS => ?_)
    obtain ⟨rfl, rfl⟩ := hw
    have hP : va_P (dC, dI) vwCl [(a24, .inr (9, [.ref a27, .ref a28, .int 0])), (a25, .inr (9, [.ref a29, .ref a30, .int 0])), (a5, .inr (6, [.int 0, .int 1, .ref a31, .ref a32, .ref a33, .int 0, .ref a34, .ref a35, .ref a36])), (a32, .inr (9, [.ref a37, .ref a38, .int 0])), (a0, .inr (11, [.ref a1, .int 0, .ref a2, .ref a3, .ref a4, .ref a5, .ref a6, .ref a7, .int 0, .ref a8, .ref a9, .ref a10, .int 0, .int (-1), .ref a11, .int 0, .ref a12, .ref a13, .int 0])), (a3, .inr (7, [.ref a14, .int 0, .ref a15, .ref a16, .ref a17, .ref a18, .int 0, .ref a19, .ref a20, .ref a21, .ref a22, .ref a23, .int 0, .ref a24, .ref a25, .ref a26])), (a15, .inl (cI, 6, .inl z0))] H := hP
    have hD : va_D A [(a24, .inr (9, [.ref a27, .ref a28, .int 0])), (a25, .inr (9, [.ref a29, .ref a30, .int 0])), (a5, .inr (6, [.int 0, .int 1, .ref a31, .ref a32, .ref a33, .int 0, .ref a34, .ref a35, .ref a36])), (a32, .inr (9, [.ref a37, .ref a38, .int 0])), (a0, .inr (11, [.ref a1, .int 0, .ref a2, .ref a3, .ref a4, .ref a5, .ref a6, .ref a7, .int 0, .ref a8, .ref a9, .ref a10, .int 0, .int (-1), .ref a11, .int 0, .ref a12, .ref a13, .int 0])), (a3, .inr (7, [.ref a14, .int 0, .ref a15, .ref a16, .ref a17, .ref a18, .int 0, .ref a19, .ref a20, .ref a21, .ref a22, .ref a23, .int 0, .ref a24, .ref a25, .ref a26])), (a15, .inl (cI, 6, .inl z0))] := hD
    have hP9 := hP.sub (ws' := []) [] rfl
    have hD9 := hD.sub (ws' := []) [] (by decide) rfl
    refine W.widen (k := 0) (n := 0) (Nat.le_of_ble_eq_true rfl) (Nat.le_of_ble_eq_true rfl) ?_
    exact W.iret (v := 0) hx hb hr (fun t ht hW => ⟨⟨0, [], rfl, ⟨by decide, rfl⟩, by rw [ht]; exact hP9, va_K.moved hW.alike hK, hD9⟩, hS.F ht⟩) hS.2.2 dX11_look_126
  by_cases c_18 : x0 = 13
  · subst c_18
    refine lv_iload_n hx hb dX11_look_0 rfl (lv_at hl 1 rfl) ?_
    refine lv_tableOut (tgt := 121) hx hb dX11_look_1 (by decide) (by decide) ?_
    refine lv_aload_n hx hb dX11_look_121 rfl (lv_at hl 0 rfl) ?_
    refine lv_iload_n hx hb dX11_look_122 rfl (lv_at hl 1 rfl) ?_
    refine tk_ri (wr := [(a24, .inr (9, [.ref a27, .ref a28, .int 0])), (a25, .inr (9, [.ref a29, .ref a30, .int 0])), (a5, .inr (6, [.int 0, .int 1, .ref a31, .ref a32, .ref a33, .int 0, .ref a34, .ref a35, .ref a36])), (a32, .inr (9, [.ref a37, .ref a38, .int 0]))]) (tk_V (As := [.int 13]) (rest := []) (n := 1) hx hb hml hown hU hN (cc_X11_lookFurther_3 l (dC, dI) cI cL cZ s.heap.size a0 a1 a2 a3 a4 a5 a6 a7 a8 a9 a10 a11 a12 a13 a14 a15 a16 a17 a18 a19 a20 a21 a22 a23 a24 a25 a26) wd_1488 wd_1489 wd_1490 wd_2 wd_1491 (by decide +kernel) ⟨Nat.le_of_ble_eq_true rfl, Nat.le_of_ble_eq_true rfl⟩ hK hP hD [0, 1, 2] (by decide) rfl 0 11 rfl rfl rfl rfl hl.1 rfl (Nat.le_of_ble_eq_true rfl) dX11_look_123 ⟨Nat.le_of_ble_eq_true rfl, Nat.le_of_ble_eq_true rfl⟩) hP hD hS hA [0, 1, 2] [3, 4, 5, 6] rfl rfl (by decide) (by decide) (fun r_19 w_20 H locs hw hP hD hS => ?_)
    obtain ⟨rfl, rfl⟩ := hw
    have hP : va_P (dC, dI) vwCl [(a24, .inr (9, [.ref a27, .ref a28, .int 0])), (a25, .inr (9, [.ref a29, .ref a30, .int 0])), (a5, .inr (6, [.int 0, .int 1, .ref a31, .ref a32, .ref a33, .int 0, .ref a34, .ref a35, .ref a36])), (a32, .inr (9, [.ref a37, .ref a38, .int 0])), (a0, .inr (11, [.ref a1, .int 0, .ref a2, .ref a3, .ref a4, .ref a5, .ref a6, .ref a7, .int 0, .ref a8, .ref a9, .ref a10, .int 0, .int (-1), .ref a11, .int 0, .ref a12, .ref a13, .int 0])), (a3, .inr (7, [.ref a14, .int 0, .ref a15, .ref a16, .ref a17, .ref a18, .int 0, .ref a19, .ref a20, .ref a21, .ref a22, .ref a23, .int 0, .ref a24, .ref a25, .ref a26])), (a15, .inl (cI, 6, .inl z0))] H := hP
    have hD : va_D A [(a24, .inr (9, [.ref a27, .ref a28, .int 0])), (a25, .inr (9, [.ref a29, .ref a30, .int 0])), (a5, .inr (6, [.int 0, .int 1, .ref a31, .ref a32, .ref a33, .int 0, .ref a34, .ref a35, .ref a36])), (a32, .inr (9, [.ref a37, .ref a38, .int 0])), (a0, .inr (11, [.ref a1, .int 0, .ref a2, .ref a3, .ref a4, .ref a5, .ref a6, .ref a7, .int 0, .ref a8, .ref a9, .ref a10, .int 0, .int (-1), .ref a11, .int 0, .ref a12, .ref a13, .int 0])), (a3, .inr (7, [.ref a14, .int 0, .ref a15, .ref a16, .ref a17, .ref a18, .int 0, .ref a19, .ref a20, .ref a21, .ref a22, .ref a23, .int 0, .ref a24, .ref a25, .ref a26])), (a15, .inl (cI, 6, .inl z0))] := hD
    have hP9 := hP.sub (ws' := []) [] rfl
    have hD9 := hD.sub (ws' := []) [] (by decide) rfl
    refine W.widen (k := 0) (n := 0) (Nat.le_of_ble_eq_true rfl) (Nat.le_of_ble_eq_true rfl) ?_
    exact W.iret (v := 0) hx hb hr (fun t ht hW => ⟨⟨0, [], rfl, ⟨by decide, rfl⟩, by rw [ht]; exact hP9, va_K.moved hW.alike hK, hD9⟩, hS.F ht⟩) hS.2.2 dX11_look_126
  by_cases c_21 : x0 = 14
  · subst c_21
    refine lv_iload_n hx hb dX11_look_0 rfl (lv_at hl 1 rfl) ?_
    refine lv_tableOut (tgt := 121) hx hb dX11_look_1 (by decide) (by decide) ?_
    refine lv_aload_n hx hb dX11_look_121 rfl (lv_at hl 0 rfl) ?_
    refine lv_iload_n hx hb dX11_look_122 rfl (lv_at hl 1 rfl) ?_
    refine tk_ri (wr := [(a24, .inr (9, [.ref a27, .ref a28, .int 0])), (a25, .inr (9, [.ref a29, .ref a30, .int 0])), (a5, .inr (6, [.int 0, .int 1, .ref a31, .ref a32, .ref a33, .int 0, .ref a34, .ref a35, .ref a36])), (a32, .inr (9, [.ref a37, .ref a38, .int 0]))]) (tk_V (As := [.int 14]) (rest := []) (n := 1) hx hb hml hown hU hN (cc_X11_lookFurther_4 l (dC, dI) cI cL cZ s.heap.size a0 a1 a2 a3 a4 a5 a6 a7 a8 a9 a10 a11 a12 a13 a14 a15 a16 a17 a18 a19 a20 a21 a22 a23 a24 a25 a26) wd_1488 wd_1489 wd_1490 wd_2 wd_1491 (by decide +kernel) ⟨Nat.le_of_ble_eq_true rfl, Nat.le_of_ble_eq_true rfl⟩ hK hP hD [0, 1, 2] (by decide) rfl 0 11 rfl rfl rfl rfl hl.1 rfl (Nat.le_of_ble_eq_true rfl) dX11_look_123 ⟨Nat.le_of_ble_eq_true rfl, Nat.le_of_ble_eq_true rfl⟩) hP hD hS hA [0, 1, 2] [3, 4, 5, 6] rfl rfl (by decide) (by decide) (fun r_22 w_23 H locs hw hP hD hS => ?_)
    obtain ⟨rfl, rfl⟩ := hw
    have hP : va_P (dC, dI) vwCl [(a24, .inr (9, [.ref a27, .ref a28, .int 0])), (a25, .inr (9, [.ref a29, .ref a30, .int 0])), (a5, .inr (6, [.int 0, .int 1, .ref a31, .ref a32, .ref a33, .int 0, .ref a34, .ref a35, .ref a36])), (a32, .inr (9, [.ref a37, .ref a38, .int 0])), (a0, .inr (11, [.ref a1, .int 0, .ref a2, .ref a3, .ref a4, .ref a5, .ref a6, .ref a7, .int 0, .ref a8, .ref a9, .ref a10, .int 0, .int (-1), .ref a11, .int 0, .ref a12, .ref a13, .int 0])), (a3, .inr (7, [.ref a14, .int 0, .ref a15, .ref a16, .ref a17, .ref a18, .int 0, .ref a19, .ref a20, .ref a21, .ref a22, .ref a23, .int 0, .ref a24, .ref a25, .ref a26])), (a15, .inl (cI, 6, .inl z0))] H := hP
    have hD : va_D A [(a24, .inr (9, [.ref a27, .ref a28, .int 0])), (a25, .inr (9, [.ref a29, .ref a30, .int 0])), (a5, .inr (6, [.int 0, .int 1, .ref a31, .ref a32, .ref a33, .int 0, .ref a34, .ref a35, .ref a36])), (a32, .inr (9, [.ref a37, .ref a38, .int 0])), (a0, .inr (11, [.ref a1, .int 0, .ref a2, .ref a3, .ref a4, .ref a5, .ref a6, .ref a7, .int 0, .ref a8, .ref a9, .ref a10, .int 0, .int (-1), .ref a11, .int 0, .ref a12, .ref a13, .int 0])), (a3, .inr (7, [.ref a14, .int 0, .ref a15, .ref a16, .ref a17, .ref a18, .int 0, .ref a19, .ref a20, .ref a21, .ref a22, .ref a23, .int 0, .ref a24, .ref a25, .ref a26])), (a15, .inl (cI, 6, .inl z0))] := hD
    have hP9 := hP.sub (ws' := []) [] rfl
    have hD9 := hD.sub (ws' := []) [] (by decide) rfl
    refine W.widen (k := 0) (n := 0) (Nat.le_of_ble_eq_true rfl) (Nat.le_of_ble_eq_true rfl) ?_
    exact W.iret (v := 0) hx hb hr (fun t ht hW => ⟨⟨0, [], rfl, ⟨by decide, rfl⟩, by rw [ht]; exact hP9, va_K.moved hW.alike hK, hD9⟩, hS.F ht⟩) hS.2.2 dX11_look_126
  by_cases c_24 : x0 = 15
  · subst c_24
    refine lv_iload_n hx hb dX11_look_0 rfl (lv_at hl 1 rfl) ?_
    refine lv_tableOut (tgt := 121) hx hb dX11_look_1 (by decide) (by decide) ?_
    refine lv_aload_n hx hb dX11_look_121 rfl (lv_at hl 0 rfl) ?_
    refine lv_iload_n hx hb dX11_look_122 rfl (lv_at hl 1 rfl) ?_
    refine tk_ri (wr := [(a24, .inr (9, [.ref a27, .ref a28, .int 0])), (a25, .inr (9, [.ref a29, .ref a30, .int 0])), (a5, .inr (6, [.int 0, .int 1, .ref a31, .ref a32, .ref a33, .int 0, .ref a34, .ref a35, .ref a36])), (a32, .inr (9, [.ref a37, .ref a38, .int 0]))]) (tk_V (As := [.int 15]) (rest := []) (n := 1) hx hb hml hown hU hN (cc_X11_lookFurther_5 l (dC, dI) cI cL cZ s.heap.size a0 a1 a2 a3 a4 a5 a6 a7 a8 a9 a10 a11 a12 a13 a14 a15 a16 a17 a18 a19 a20 a21 a22 a23 a24 a25 a26) wd_1488 wd_1489 wd_1490 wd_2 wd_1491 (by decide +kernel) ⟨Nat.le_of_ble_eq_true rfl, Nat.le_of_ble_eq_true rfl⟩ hK hP hD [0, 1, 2] (by decide) rfl 0 11 rfl rfl rfl rfl hl.1 rfl (Nat.le_of_ble_eq_true rfl) dX11_look_123 ⟨Nat.le_of_ble_eq_true rfl, Nat.le_of_ble_eq_true rfl⟩) hP hD hS hA [0, 1, 2] [3, 4, 5, 6] rfl rfl (by decide) (by decide) (fun r_25 w_26 H locs hw hP hD hS => ?_)
    obtain ⟨rfl, rfl⟩ := hw
    have hP : va_P (dC, dI) vwCl [(a24, .inr (9, [.ref a27, .ref a28, .int 0])), (a25, .inr (9, [.ref a29, .ref a30, .int 0])), (a5, .inr (6, [.int 0, .int 1, .ref a31, .ref a32, .ref a33, .int 0, .ref a34, .ref a35, .ref a36])), (a32, .inr (9, [.ref a37, .ref a38, .int 0])), (a0, .inr (11, [.ref a1, .int 0, .ref a2, .ref a3, .ref a4, .ref a5, .ref a6, .ref a7, .int 0, .ref a8, .ref a9, .ref a10, .int 0, .int (-1), .ref a11, .int 0, .ref a12, .ref a13, .int 0])), (a3, .inr (7, [.ref a14, .int 0, .ref a15, .ref a16, .ref a17, .ref a18, .int 0, .ref a19, .ref a20, .ref a21, .ref a22, .ref a23, .int 0, .ref a24, .ref a25, .ref a26])), (a15, .inl (cI, 6, .inl z0))] H := hP
    have hD : va_D A [(a24, .inr (9, [.ref a27, .ref a28, .int 0])), (a25, .inr (9, [.ref a29, .ref a30, .int 0])), (a5, .inr (6, [.int 0, .int 1, .ref a31, .ref a32, .ref a33, .int 0, .ref a34, .ref a35, .ref a36])), (a32, .inr (9, [.ref a37, .ref a38, .int 0])), (a0, .inr (11, [.ref a1, .int 0, .ref a2, .ref a3, .ref a4, .ref a5, .ref a6, .ref a7, .int 0, .ref a8, .ref a9, .ref a10, .int 0, .int (-1), .ref a11, .int 0, .ref a12, .ref a13, .int 0])), (a3, .inr (7, [.ref a14, .int 0, .ref a15, .ref a16, .ref a17, .ref a18, .int 0, .ref a19, .ref a20, .ref a21, .ref a22, .ref a23, .int 0, .ref a24, .ref a25, .ref a26])), (a15, .inl (cI, 6, .inl z0))] := hD
    have hP9 := hP.sub (ws' := []) [] rfl
    have hD9 := hD.sub (ws' := []) [] (by decide) rfl
    refine W.widen (k := 0) (n := 0) (Nat.le_of_ble_eq_true rfl) (Nat.le_of_ble_eq_true rfl) ?_
    exact W.iret (v := 0) hx hb hr (fun t ht hW => ⟨⟨0, [], rfl, ⟨by decide, rfl⟩, by rw [ht]; exact hP9, va_K.moved hW.alike hK, hD9⟩, hS.F ht⟩) hS.2.2 dX11_look_126
  refine lv_iload_n hx hb dX11_look_0 rfl (lv_at hl 1 rfl) ?_
  have ho : x0.toInt < 0 ∨ 7 < x0.toInt := by
    simp only [Int32.lt_iff_toInt_lt, Int32.le_iff_toInt_le, ← Int32.toInt_inj, ti_0, ti_1, ti_2, ti_3, ti_4, ti_5, ti_6, ti_7, ti_10, ti_11, ti_12, ti_13, ti_14, ti_15] at c_1 c_2 c_3 c_4 c_5 c_6 c_7 c_8 c_9 c_12 c_15 c_18 c_21 c_24
    omega
  refine lv_tableOut (tgt := 121) hx hb dX11_look_1 ho (by decide) ?_
  refine lv_aload_n hx hb dX11_look_121 rfl (lv_at hl 0 rfl) ?_
  refine lv_iload_n hx hb dX11_look_122 rfl (lv_at hl 1 rfl) ?_
  refine tk_ri (wr := [(a5, .inr (6, [.int 0, .int 1, .ref a31, .ref a32, .ref a33, .int 0, .ref a34, .ref a35, .ref a36])), (a32, .inr (9, [.ref a37, .ref a38, .int 0]))]) (tk_V (As := [.int x0]) (rest := []) (n := 1) hx hb hml hown hU hN (cc_X11_lookFurther_6 l (dC, dI) cI cL cZ s.heap.size a0 x0 a1 a2 a3 a4 a5 a6 a7 a8 a9 a10 a11 a12 a13 a14 a15 a16 a17 a18 a19 a20 a21 a22 a23 a24 a25 a26 a27 a28 a29 a30) wd_1488 wd_1489 wd_1490 wd_2 wd_1491 (by decide +kernel) ⟨Nat.le_of_ble_eq_true rfl, Nat.le_of_ble_eq_true rfl⟩ hK hP hD [0, 1, 2, 3, 4] (by decide) rfl 0 11 rfl rfl rfl rfl hl.1 rfl (Nat.le_of_ble_eq_true rfl) dX11_look_123 ⟨Nat.le_of_ble_eq_true rfl, Nat.le_of_ble_eq_true rfl⟩) hP hD hS hA [0, 1, 2, 3, 4] [5, 6] rfl rfl (by decide) (by decide) (fun r_27 w_28 H locs hw hP hD hS => ?_)
  rcases hw with ⟨c_29, c_30, c_31, c_32, rfl, rfl⟩ | ⟨c_33, c_34, c_35, c_36, c_37, rfl, rfl⟩ | ⟨c_38, c_39, c_40, c_41, c_42, c_43, c_44, c_45, rfl, rfl⟩ | ⟨c_46, c_47, c_48, c_49, c_50, c_51, rfl, rfl⟩ | ⟨c_52, c_53, c_54, c_55, rfl, rfl⟩ | ⟨c_56, c_57, rfl, rfl⟩
  · skip
    have hP : va_P (dC, dI) vwCl [(a5, .inr (6, [.int 0, .int 1, .ref a31, .ref a32, .ref a33, .int 0, .ref a34, .ref a35, .ref a36])), (a32, .inr (9, [.ref a37, .ref a38, .int 0])), (a0, .inr (11, [.ref a1, .int 0, .ref a2, .ref a3, .ref a4, .ref a5, .ref a6, .ref a7, .int 0, .ref a8, .ref a9, .ref a10, .int 0, .int (-1), .ref a11, .int 0, .ref a12, .ref a13, .int 0])), (a3, .inr (7, [.ref a14, .int 0, .ref a15, .ref a16, .ref a17, .ref a18, .int 0, .ref a19, .ref a20, .ref a21, .ref a22, .ref a23, .int 0, .ref a24, .ref a25, .ref a26])), (a15, .inl (cI, 6, .inl z0)), (a24, .inr (9, [.ref a27, .ref a28, .int 0])), (a25, .inr (9, [.ref a29, .ref a30, .int 0]))] H := hP
    have hD : va_D A [(a5, .inr (6, [.int 0, .int 1, .ref a31, .ref a32, .ref a33, .int 0, .ref a34, .ref a35, .ref a36])), (a32, .inr (9, [.ref a37, .ref a38, .int 0])), (a0, .inr (11, [.ref a1, .int 0, .ref a2, .ref a3, .ref a4, .ref a5, .ref a6, .ref a7, .int 0, .ref a8, .ref a9, .ref a10, .int 0, .int (-1), .ref a11, .int 0, .ref a12, .ref a13, .int 0])), (a3, .inr (7, [.ref a14, .int 0, .ref a15, .ref a16, .ref a17, .ref a18, .int 0, .ref a19, .ref a20, .ref a21, .ref a22, .ref a23, .int 0, .ref a24, .ref a25, .ref a26])), (a15, .inl (cI, 6, .inl z0)), (a24, .inr (9, [.ref a27, .ref a28, .int 0])), (a25, .inr (9, [.ref a29, .ref a30, .int 0]))] := hD
    have hP9 := hP.sub (ws' := []) [] rfl
    have hD9 := hD.sub (ws' := []) [] (by decide) rfl
    refine W.widen (k := 0) (n := 0) (Nat.le_of_ble_eq_true rfl) (Nat.le_of_ble_eq_true rfl) ?_
    exact W.iret (v := (-1)) hx hb hr (fun t ht hW => ⟨⟨(-1), [], rfl, ⟨by simp [an_look, c_1, c_2, c_3, c_4, c_5, c_6, c_7, c_8, c_9, c_12, c_15, c_18, c_21, c_24], rfl⟩, by rw [ht]; exact hP9, va_K.moved hW.alike hK, hD9⟩, hS.F ht⟩) hS.2.2 dX11_look_126
  · skip
    have hP : va_P (dC, dI) vwCl [(a5, .inr (6, [.int 0, .int 1, .ref a31, .ref a32, .ref a33, .int 0, .ref a34, .ref a35, .ref a36])), (a32, .inr (9, [.ref a37, .ref a38, .int 0])), (a0, .inr (11, [.ref a1, .int 0, .ref a2, .ref a3, .ref a4, .ref a5, .ref a6, .ref a7, .int 0, .ref a8, .ref a9, .ref a10, .int 0, .int (-1), .ref a11, .int 0, .ref a12, .ref a13, .int 0])), (a3, .inr (7, [.ref a14, .int 0, .ref a15, .ref a16, .ref a17, .ref a18, .int 0, .ref a19, .ref a20, .ref a21, .ref a22, .ref a23, .int 0, .ref a24, .ref a25, .ref a26])), (a15, .inl (cI, 6, .inl z0)), (a24, .inr (9, [.ref a27, .ref a28, .int 0])), (a25, .inr (9, [.ref a29, .ref a30, .int 0]))] H := hP
    have hD : va_D A [(a5, .inr (6, [.int 0, .int 1, .ref a31, .ref a32, .ref a33, .int 0, .ref a34, .ref a35, .ref a36])), (a32, .inr (9, [.ref a37, .ref a38, .int 0])), (a0, .inr (11, [.ref a1, .int 0, .ref a2, .ref a3, .ref a4, .ref a5, .ref a6, .ref a7, .int 0, .ref a8, .ref a9, .ref a10, .int 0, .int (-1), .ref a11, .int 0, .ref a12, .ref a13, .int 0])), (a3, .inr (7, [.ref a14, .int 0, .ref a15, .ref a16, .ref a17, .ref a18, .int 0, .ref a19, .ref a20, .ref a21, .ref a22, .ref a23, .int 0, .ref a24, .ref a25, .ref a26])), (a15, .inl (cI, 6, .inl z0)), (a24, .inr (9, [.ref a27, .ref a28, .int 0])), (a25, .inr (9, [.ref a29, .ref a30, .int 0]))] := hD
    have hP9 := hP.sub (ws' := []) [] rfl
    have hD9 := hD.sub (ws' := []) [] (by decide) rfl
    refine W.widen (k := 0) (n := 0) (Nat.le_of_ble_eq_true rfl) (Nat.le_of_ble_eq_true rfl) ?_
    exact W.iret (v := (-1)) hx hb hr (fun t ht hW => ⟨⟨(-1), [], rfl, ⟨by simp [an_look, c_1, c_2, c_3, c_4, c_5, c_6, c_7, c_8, c_9, c_12, c_15, c_18, c_21, c_24], rfl⟩, by rw [ht]; exact hP9, va_K.moved hW.alike hK, hD9⟩, hS.F ht⟩) hS.2.2 dX11_look_126
  · skip
    have hP : va_P (dC, dI) vwCl [(a5, .inr (6, [.int 0, .int 1, .ref a31, .ref a32, .ref a33, .int 0, .ref a34, .ref a35, .ref a36])), (a32, .inr (9, [.ref a37, .ref a38, .int 0])), (a0, .inr (11, [.ref a1, .int 0, .ref a2, .ref a3, .ref a4, .ref a5, .ref a6, .ref a7, .int 0, .ref a8, .ref a9, .ref a10, .int 0, .int (-1), .ref a11, .int 0, .ref a12, .ref a13, .int 0])), (a3, .inr (7, [.ref a14, .int 0, .ref a15, .ref a16, .ref a17, .ref a18, .int 0, .ref a19, .ref a20, .ref a21, .ref a22, .ref a23, .int 0, .ref a24, .ref a25, .ref a26])), (a15, .inl (cI, 6, .inl z0)), (a24, .inr (9, [.ref a27, .ref a28, .int 0])), (a25, .inr (9, [.ref a29, .ref a30, .int 0]))] H := hP
    have hD : va_D A [(a5, .inr (6, [.int 0, .int 1, .ref a31, .ref a32, .ref a33, .int 0, .ref a34, .ref a35, .ref a36])), (a32, .inr (9, [.ref a37, .ref a38, .int 0])), (a0, .inr (11, [.ref a1, .int 0, .ref a2, .ref a3, .ref a4, .ref a5, .ref a6, .ref a7, .int 0, .ref a8, .ref a9, .ref a10, .int 0, .int (-1), .ref a11, .int 0, .ref a12, .ref a13, .int 0])), (a3, .inr (7, [.ref a14, .int 0, .ref a15, .ref a16, .ref a17, .ref a18, .int 0, .ref a19, .ref a20, .ref a21, .ref a22, .ref a23, .int 0, .ref a24, .ref a25, .ref a26])), (a15, .inl (cI, 6, .inl z0)), (a24, .inr (9, [.ref a27, .ref a28, .int 0])), (a25, .inr (9, [.ref a29, .ref a30, .int 0]))] := hD
    have hP9 := hP.sub (ws' := []) [] rfl
    have hD9 := hD.sub (ws' := []) [] (by decide) rfl
    refine W.widen (k := 0) (n := 0) (Nat.le_of_ble_eq_true rfl) (Nat.le_of_ble_eq_true rfl) ?_
    exact W.iret (v := (-1)) hx hb hr (fun t ht hW => ⟨⟨(-1), [], rfl, ⟨by simp [an_look, c_1, c_2, c_3, c_4, c_5, c_6, c_7, c_8, c_9, c_12, c_15, c_18, c_21, c_24], rfl⟩, by rw [ht]; exact hP9, va_K.moved hW.alike hK, hD9⟩, hS.F ht⟩) hS.2.2 dX11_look_126
  · skip
    have hP : va_P (dC, dI) vwCl [(a5, .inr (6, [.int 0, .int 1, .ref a31, .ref a32, .ref a33, .int 0, .ref a34, .ref a35, .ref a36])), (a32, .inr (9, [.ref a37, .ref a38, .int 0])), (a0, .inr (11, [.ref a1, .int 0, .ref a2, .ref a3, .ref a4, .ref a5, .ref a6, .ref a7, .int 0, .ref a8, .ref a9, .ref a10, .int 0, .int (-1), .ref a11, .int 0, .ref a12, .ref a13, .int 0])), (a3, .inr (7, [.ref a14, .int 0, .ref a15, .ref a16, .ref a17, .ref a18, .int 0, .ref a19, .ref a20, .ref a21, .ref a22, .ref a23, .int 0, .ref a24, .ref a25, .ref a26])), (a15, .inl (cI, 6, .inl z0)), (a24, .inr (9, [.ref a27, .ref a28, .int 0])), (a25, .inr (9, [.ref a29, .ref a30, .int 0]))] H := hP
    have hD : va_D A [(a5, .inr (6, [.int 0, .int 1, .ref a31, .ref a32, .ref a33, .int 0, .ref a34, .ref a35, .ref a36])), (a32, .inr (9, [.ref a37, .ref a38, .int 0])), (a0, .inr (11, [.ref a1, .int 0, .ref a2, .ref a3, .ref a4, .ref a5, .ref a6, .ref a7, .int 0, .ref a8, .ref a9, .ref a10, .int 0, .int (-1), .ref a11, .int 0, .ref a12, .ref a13, .int 0])), (a3, .inr (7, [.ref a14, .int 0, .ref a15, .ref a16, .ref a17, .ref a18, .int 0, .ref a19, .ref a20, .ref a21, .ref a22, .ref a23, .int 0, .ref a24, .ref a25, .ref a26])), (a15, .inl (cI, 6, .inl z0)), (a24, .inr (9, [.ref a27, .ref a28, .int 0])), (a25, .inr (9, [.ref a29, .ref a30, .int 0]))] := hD
    have hP9 := hP.sub (ws' := []) [] rfl
    have hD9 := hD.sub (ws' := []) [] (by decide) rfl
    refine W.widen (k := 0) (n := 0) (Nat.le_of_ble_eq_true rfl) (Nat.le_of_ble_eq_true rfl) ?_
    exact W.iret (v := (-1)) hx hb hr (fun t ht hW => ⟨⟨(-1), [], rfl, ⟨by simp [an_look, c_1, c_2, c_3, c_4, c_5, c_6, c_7, c_8, c_9, c_12, c_15, c_18, c_21, c_24], rfl⟩, by rw [ht]; exact hP9, va_K.moved hW.alike hK, hD9⟩, hS.F ht⟩) hS.2.2 dX11_look_126
  · skip
    have hP : va_P (dC, dI) vwCl [(a5, .inr (6, [.int 0, .int 1, .ref a31, .ref a32, .ref a33, .int 0, .ref a34, .ref a35, .ref a36])), (a32, .inr (9, [.ref a37, .ref a38, .int 0])), (a0, .inr (11, [.ref a1, .int 0, .ref a2, .ref a3, .ref a4, .ref a5, .ref a6, .ref a7, .int 0, .ref a8, .ref a9, .ref a10, .int 0, .int (-1), .ref a11, .int 0, .ref a12, .ref a13, .int 0])), (a3, .inr (7, [.ref a14, .int 0, .ref a15, .ref a16, .ref a17, .ref a18, .int 0, .ref a19, .ref a20, .ref a21, .ref a22, .ref a23, .int 0, .ref a24, .ref a25, .ref a26])), (a15, .inl (cI, 6, .inl z0)), (a25, .inr (9, [.ref a29, .ref a30, .int 0])), (a24, .inr (9, [.ref a27, .ref a28, .int 0]))] H := hP
    have hD : va_D A [(a5, .inr (6, [.int 0, .int 1, .ref a31, .ref a32, .ref a33, .int 0, .ref a34, .ref a35, .ref a36])), (a32, .inr (9, [.ref a37, .ref a38, .int 0])), (a0, .inr (11, [.ref a1, .int 0, .ref a2, .ref a3, .ref a4, .ref a5, .ref a6, .ref a7, .int 0, .ref a8, .ref a9, .ref a10, .int 0, .int (-1), .ref a11, .int 0, .ref a12, .ref a13, .int 0])), (a3, .inr (7, [.ref a14, .int 0, .ref a15, .ref a16, .ref a17, .ref a18, .int 0, .ref a19, .ref a20, .ref a21, .ref a22, .ref a23, .int 0, .ref a24, .ref a25, .ref a26])), (a15, .inl (cI, 6, .inl z0)), (a25, .inr (9, [.ref a29, .ref a30, .int 0])), (a24, .inr (9, [.ref a27, .ref a28, .int 0]))] := hD
    have hP9 := hP.sub (ws' := []) [] rfl
    have hD9 := hD.sub (ws' := []) [] (by decide) rfl
    refine W.widen (k := 0) (n := 0) (Nat.le_of_ble_eq_true rfl) (Nat.le_of_ble_eq_true rfl) ?_
    exact W.iret (v := (-1)) hx hb hr (fun t ht hW => ⟨⟨(-1), [], rfl, ⟨by simp [an_look, c_1, c_2, c_3, c_4, c_5, c_6, c_7, c_8, c_9, c_12, c_15, c_18, c_21, c_24], rfl⟩, by rw [ht]; exact hP9, va_K.moved hW.alike hK, hD9⟩, hS.F ht⟩) hS.2.2 dX11_look_126
  · skip
    exfalso
    simp only [Int32.lt_iff_toInt_lt, Int32.le_iff_toInt_le, ← Int32.toInt_inj, ti_0, ti_1, ti_2, ti_3, ti_4, ti_5, ti_6, ti_7, ti_10, ti_11, ti_12, ti_13, ti_14, ti_15, ti_16] at c_1 c_2 c_3 c_4 c_5 c_6 c_7 c_8 c_9 c_12 c_15 c_18 c_21 c_24 c_56 c_57
    omega
set_option maxHeartbeats 8000000 in
set_option maxRecDepth 100000 in
theorem op_X12_feed (l : Launch) (D : va_G) (cI cL cZ : ClassId) (sz : Nat) (a0 : Nat) (x0 : Int32) (x1 : Int32) (x2 : Int32) (x3 : Int32) (x4 : Int32) (a1 : Nat) (a2 : Nat) (a3 : Nat) (a4 : Nat) (a5 : Nat) (a6 : Nat) (a7 : Nat) (a8 : Nat) (a9 : Nat) (a10 : Nat) (a11 : Nat) (a12 : Nat) (a13 : Nat) (a14 : Nat) (a15 : Nat) (a16 : Nat) (a17 : Nat) (a18 : Nat) (a19 : Nat) (a20 : Nat) (a21 : Nat) (a22 : Nat) (a23 : Nat) (a24 : Nat) (a25 : Nat) (a26 : Nat) (a27 : Nat) (a28 : Nat) (a29 : Nat) (a30 : Nat) (a31 : Nat) : mI l D cI cL cZ yX12_feed cX12_feed 8 (some .int) 0 0 0 0 [.ref a0, .int x0, .int x1, .int x2, .int x3, .int x4] sz [(a0, .inr (12, [.ref a1, .ref a2, .ref a3, .int 0, .ref a4, .int 0, .int 0, .int 0, .int 0, .int 0, .int (-1), .int 0, .int 0, .int 0, .int 0, .ref a5, .ref a6, .ref a7, .ref a8, .ref a9, .ref a10, .ref a11, .ref a12, .int 0, .int 0, .int 0, .int 0, .int 0, .ref a13, .int 0, .ref a14, .ref a15, .int 0, .int 0, .ref a16, .int 0, .ref a17, .ref a18, .int 0, .int (-1), .ref a19, .ref a20, .ref a21, .int 0, .ref a22, .ref a23, .ref a24, .ref a25, .ref a26, .ref a27, .ref a28, .ref a29, .ref a30, .int 0, .int 0, .ref a31])), (a4, .inl (cI, 600, .inl z0))] (fun (r : Int32) (w1 : va_W) => r = 20 ∧ w1 = ([] : va_W)) := by
  obtain ⟨dC, dI⟩ := D
  refine Met.ofW (cc := cX12_feed) (maxL := 8) (ret := (some .int)) (by decide) rfl ?_
  intro p e s m args below meth c s₁ B hml hv
  obtain ⟨rfl, hsz, hP, hK, hD0, hN⟩ := hv
  have hx := B.exec
  have hb := B.bytes
  have hr := B.returns
  have hU : ∀ w ∈ wsU, w.before _ s = true := fun w h => atoms_spec (ws := wU yX12_feed cX12_feed 8 (some .int)) B.pre w (List.mem_cons_of_mem _ h)
  have hown : s.vm.findClass RX12 = some m.cls := findClass_of_methodNamed B.named
  have hlocks := B.notSynchronized
  subst hsz
  have hD := hD0.self (sz := s.heap.size)
  generalize hAe : va_A [(a0, .inr (12, [.ref a1, .ref a2, .ref a3, .int 0, .ref a4, .int 0, .int 0, .int 0, .int 0, .int 0, .int (-1), .int 0, .int 0, .int 0, .int 0, .ref a5, .ref a6, .ref a7, .ref a8, .ref a9, .ref a10, .ref a11, .ref a12, .int 0, .int 0, .int 0, .int 0, .int 0, .ref a13, .int 0, .ref a14, .ref a15, .int 0, .int 0, .ref a16, .int 0, .ref a17, .ref a18, .int 0, .int (-1), .ref a19, .ref a20, .ref a21, .int 0, .ref a22, .ref a23, .ref a24, .ref a25, .ref a26, .ref a27, .ref a28, .ref a29, .ref a30, .int 0, .int 0, .ref a31])), (a4, .inl (cI, 600, .inl z0))] s.heap.size = A at hD ⊢
  have hA : ∀ q : Nat, s.heap.size ≤ q → A q := fun q h => by rw [← hAe]; exact Or.inr h
  have hS : va_S A s.heap s.heap [] := va_S.rf
  have hP : va_P (dC, dI) vwCl [(a0, .inr (12, [.ref a1, .ref a2, .ref a3, .int 0, .ref a4, .int 0, .int 0, .int 0, .int 0, .int 0, .int (-1), .int 0, .int 0, .int 0, .int 0, .ref a5, .ref a6, .ref a7, .ref a8, .ref a9, .ref a10, .ref a11, .ref a12, .int 0, .int 0, .int 0, .int 0, .int 0, .ref a13, .int 0, .ref a14, .ref a15, .int 0, .int 0, .ref a16, .int 0, .ref a17, .ref a18, .int 0, .int (-1), .ref a19, .ref a20, .ref a21, .int 0, .ref a22, .ref a23, .ref a24, .ref a25, .ref a26, .ref a27, .ref a28, .ref a29, .ref a30, .int 0, .int 0, .ref a31])), (a4, .inl (cI, 600, .inl z0))] s.heap := hP
  have hl := lv_entry ([.ref a0, .int x0, .int x1, .int x2, .int x3, .int x4]) (n := 8) (Nat.le_of_ble_eq_true rfl)
  rw [lg_entry_eq]
  generalize (lg_sl ([.ref a0, .int x0, .int x1, .int x2, .int x3, .int x4]) ++ List.replicate (8 - (lg_sl ([.ref a0, .int x0, .int x1, .int x2, .int x3, .int x4])).length) Slot.unset).toArray = ls at hl ⊢
  have hl : lv_has ls 8 [(0, .ref a0), (1, .int x0), (2, .int x1), (3, .int x2), (4, .int x3), (5, .int x4)] := hl
  refine lv_aload_n hx hb dX12_feed_0 rfl (lv_at hl 0 rfl) ?_
  refine va_get (D := (dC, dI)) (ci := 12) (v := .int 0) (C := RX12) (T := TX12) (N := 56) hx hb hU inlX12 hown hK hP 0 rfl rfl 5 (by decide) (hU _ wd_218) (fun _ h9 => h9) rfl dX12_feed_1 ?_
  refine lv_bipush (v := 20) hx hb dX12_feed_4 (by decide) ?_
  refine lv_iadd hx hb dX12_feed_6 ?_
  refine tk_topi (y := 20) (by decide) ?_
  refine lv_sipush (v := 600) hx hb dX12_feed_7 (by decide) ?_
  refine lv_icmp_le (tgt := 15) hx hb dX12_feed_10 (by decide) (fun _ => ?_) (fun c9 => absurd (by decide) c9) 
  refine lv_iconst (v := 0) hx hb dX12_feed_15 (by decide) ?_
  refine lv_istore (lv' := [(6, .int 0), (0, .ref a0), (1, .int x0), (2, .int x1), (3, .int x2), (4, .int x3), (5, .int x4)]) hx hb dX12_feed_16 hl (by decide) rfl (fun ls hl => ?_)
  refine lv_iload hx hb dX12_feed_18 (lv_at hl 0 rfl) ?_
  refine lv_bipush (v := 20) hx hb dX12_feed_20 (by decide) ?_
  refine lv_icmp_ge (tgt := 115) hx hb dX12_feed_22 (by decide) (fun c9 => absurd c9 (by decide)) (fun _ => ?_)
  refine lv_iload hx hb dX12_feed_25 (lv_at hl 0 rfl) ?_
  refine lv_iconst (v := 4) hx hb dX12_feed_27 (by decide) ?_
  refine lv_icmp_ge (tgt := 35) hx hb dX12_feed_28 (by decide) (fun c9 => absurd c9 (by decide)) (fun _ => ?_)
  refine lv_iload_n hx hb dX12_feed_31 rfl (lv_at hl 2 rfl) ?_
  refine lv_goto (tgt := 71) hx hb dX12_feed_32 (by decide) ?_
  refine lv_istore (lv' := [(7, .int x0), (6, .int 0), (0, .ref a0), (1, .int x0), (2, .int x1), (3, .int x2), (4, .int x3), (5, .int x4)]) hx hb dX12_feed_71 hl (by decide) rfl (fun ls hl => ?_)
  refine lv_aload_n hx hb dX12_feed_73 rfl (lv_at hl 2 rfl) ?_
  refine va_get (D := (dC, dI)) (ci := 12) (v := .ref a4) (C := RX12) (T := TX12) (N := 56) hx hb hU inlX12 hown hK hP 0 rfl rfl 4 (by decide) (hU _ wd_172) (fun _ h9 => h9) rfl dX12_feed_74 ?_
  refine lv_aload_n hx hb dX12_feed_77 rfl (lv_at hl 2 rfl) ?_
  refine va_get (D := (dC, dI)) (ci := 12) (v := .int 0) (C := RX12) (T := TX12) (N := 56) hx hb hU inlX12 hown hK hP 0 rfl rfl 5 (by decide) (hU _ wd_218) (fun _ h9 => h9) rfl dX12_feed_78 ?_
  refine lv_iload hx hb dX12_feed_81 (lv_at hl 0 rfl) ?_
  refine lv_bipush (v := 24) hx hb dX12_feed_83 (by decide) ?_
  refine lv_bipush (v := 8) hx hb dX12_feed_85 (by decide) ?_
  refine lv_iload hx hb dX12_feed_87 (lv_at hl 1 rfl) ?_
  refine lv_iconst (v := 4) hx hb dX12_feed_89 (by decide) ?_
  refine lv_irem hx hb dX12_feed_90 (by decide) ?_
  refine tk_topi (y := 0) (by decide) ?_
  refine lv_imul hx hb dX12_feed_91 ?_
  refine tk_topi (y := 0) (by decide) ?_
  refine lv_isub hx hb dX12_feed_92 ?_
  refine tk_topi (y := 24) (by decide) ?_
  refine lv_ishr hx hb dX12_feed_93 ?_
  refine lv_sipush (v := 255) hx hb dX12_feed_94 (by decide) ?_
  refine lv_iand hx hb dX12_feed_97 ?_
  refine va_iast hx hb hK hP hD hS 1 0 rfl rfl (vp_in_nI (n := 0) (by decide) (by decide)) dX12_feed_98 (fun H locs hP hD hS => ?_)
  obtain ⟨g_1, eg_1⟩ : ∃ y : Nat → Int32, upd z0 (Int32.toNatClampNeg 0) ((x0 >>> (24 &&& 31)) &&& 255) = y := ⟨_, rfl⟩
  have hP : va_P (dC, dI) vwCl [(a0, .inr (12, [.ref a1, .ref a2, .ref a3, .int 0, .ref a4, .int 0, .int 0, .int 0, .int 0, .int 0, .int (-1), .int 0, .int 0, .int 0, .int 0, .ref a5, .ref a6, .ref a7, .ref a8, .ref a9, .ref a10, .ref a11, .ref a12, .int 0, .int 0, .int 0, .int 0, .int 0, .ref a13, .int 0, .ref a14, .ref a15, .int 0, .int 0, .ref a16, .int 0, .ref a17, .ref a18, .int 0, .int (-1), .ref a19, .ref a20, .ref a21, .int 0, .ref a22, .ref a23, .ref a24, .ref a25, .ref a26, .ref a27, .ref a28, .ref a29, .ref a30, .int 0, .int 0, .ref a31])), (a4, .inl (cI, 600, .inl g_1))] H := by rw [eg_1] at hP; exact hP
  have hD : va_D A [(a0, .inr (12, [.ref a1, .ref a2, .ref a3, .int 0, .ref a4, .int 0, .int 0, .int 0, .int 0, .int 0, .int (-1), .int 0, .int 0, .int 0, .int 0, .ref a5, .ref a6, .ref a7, .ref a8, .ref a9, .ref a10, .ref a11, .ref a12, .int 0, .int 0, .int 0, .int 0, .int 0, .ref a13, .int 0, .ref a14, .ref a15, .int 0, .int 0, .ref a16, .int 0, .ref a17, .ref a18, .int 0, .int (-1), .ref a19, .ref a20, .ref a21, .int 0, .ref a22, .ref a23, .ref a24, .ref a25, .ref a26, .ref a27, .ref a28, .ref a29, .ref a30, .int 0, .int 0, .ref a31])), (a4, .inl (cI, 600, .inl g_1))] := by rw [eg_1] at hD; exact hD
  refine lv_aload_n hx hb dX12_feed_99 rfl (lv_at hl 2 rfl) ?_
  refine lv_dup hx hb dX12_feed_100 rfl ?_
  refine va_get (D := (dC, dI)) (ci := 12) (v := .int 0) (C := RX12) (T := TX12) (N := 56) hx hb hU inlX12 hown hK hP 0 rfl rfl 5 (by decide) (hU _ wd_218) (fun _ h9 => h9) rfl dX12_feed_101 ?_
  refine lv_iconst (v := 1) hx hb dX12_feed_104 (by decide) ?_
  refine lv_iadd hx hb dX12_feed_105 ?_
  refine tk_topi (y := 1) (by decide) ?_
  refine va_put (D := (dC, dI)) (ci := 12) (v := .int 1) (ty := .int) (C := RX12) (T := TX12) (N := 56) hx hb hU inlX12 tyX12 tyX12_ok nmX12 hown hK hP hD hS 0 rfl rfl 5 (by decide) (hU _ wd_218) (fun _ h9 => h9) rfl (by decide +kernel) rfl rfl (Nat.le_of_ble_eq_true rfl) dX12_feed_106 (fun H locs hP hD hS => ?_)
  have hP : va_P (dC, dI) vwCl [(a0, .inr (12, [.ref a1, .ref a2, .ref a3, .int 0, .ref a4, .int 1, .int 0, .int 0, .int 0, .int 0, .int (-1), .int 0, .int 0, .int 0, .int 0, .ref a5, .ref a6, .ref a7, .ref a8, .ref a9, .ref a10, .ref a11, .ref a12, .int 0, .int 0, .int 0, .int 0, .int 0, .ref a13, .int 0, .ref a14, .ref a15, .int 0, .int 0, .ref a16, .int 0, .ref a17, .ref a18, .int 0, .int (-1), .ref a19, .ref a20, .ref a21, .int 0, .ref a22, .ref a23, .ref a24, .ref a25, .ref a26, .ref a27, .ref a28, .ref a29, .ref a30, .int 0, .int 0, .ref a31])), (a4, .inl (cI, 600, .inl g_1))] H := hP
  have hD : va_D A [(a0, .inr (12, [.ref a1, .ref a2, .ref a3, .int 0, .ref a4, .int 1, .int 0, .int 0, .int 0, .int 0, .int (-1), .int 0, .int 0, .int 0, .int 0, .ref a5, .ref a6, .ref a7, .ref a8, .ref a9, .ref a10, .ref a11, .ref a12, .int 0, .int 0, .int 0, .int 0, .int 0, .ref a13, .int 0, .ref a14, .ref a15, .int 0, .int 0, .ref a16, .int 0, .ref a17, .ref a18, .int 0, .int (-1), .ref a19, .ref a20, .ref a21, .int 0, .ref a22, .ref a23, .ref a24, .ref a25, .ref a26, .ref a27, .ref a28, .ref a29, .ref a30, .int 0, .int 0, .ref a31])), (a4, .inl (cI, 600, .inl g_1))] := hD
  refine lv_iinc (v := 1) (lv' := [(6, .int 1), (7, .int x0), (0, .ref a0), (1, .int x0), (2, .int x1), (3, .int x2), (4, .int x3), (5, .int x4)]) hx hb dX12_feed_109 hl (k := 1) rfl (by decide) (by decide) rfl (fun ls hl => ?_)
  refine lv_goto (tgt := 18) hx hb dX12_feed_112 (by decide) ?_
  refine lv_iload hx hb dX12_feed_18 (lv_at hl 0 rfl) ?_
  refine lv_bipush (v := 20) hx hb dX12_feed_20 (by decide) ?_
  refine lv_icmp_ge (tgt := 115) hx hb dX12_feed_22 (by decide) (fun c9 => absurd c9 (by decide)) (fun _ => ?_)
  refine lv_iload hx hb dX12_feed_25 (lv_at hl 0 rfl) ?_
  refine lv_iconst (v := 4) hx hb dX12_feed_27 (by decide) ?_
  refine lv_icmp_ge (tgt := 35) hx hb dX12_feed_28 (by decide) (fun c9 => absurd c9 (by decide)) (fun _ => ?_)
  refine lv_iload_n hx hb dX12_feed_31 rfl (lv_at hl 3 rfl) ?_
  refine lv_goto (tgt := 71) hx hb dX12_feed_32 (by decide) ?_
  refine lv_istore (lv' := [(7, .int x0), (6, .int 1), (0, .ref a0), (1, .int x0), (2, .int x1), (3, .int x2), (4, .int x3), (5, .int x4)]) hx hb dX12_feed_71 hl (by decide) rfl (fun ls hl => ?_)
  refine lv_aload_n hx hb dX12_feed_73 rfl (lv_at hl 2 rfl) ?_
  refine va_get (D := (dC, dI)) (ci := 12) (v := .ref a4) (C := RX12) (T := TX12) (N := 56) hx hb hU inlX12 hown hK hP 0 rfl rfl 4 (by decide) (hU _ wd_172) (fun _ h9 => h9) rfl dX12_feed_74 ?_
  refine lv_aload_n hx hb dX12_feed_77 rfl (lv_at hl 2 rfl) ?_
  refine va_get (D := (dC, dI)) (ci := 12) (v := .int 1) (C := RX12) (T := TX12) (N := 56) hx hb hU inlX12 hown hK hP 0 rfl rfl 5 (by decide) (hU _ wd_218) (fun _ h9 => h9) rfl dX12_feed_78 ?_
  refine lv_iload hx hb dX12_feed_81 (lv_at hl 0 rfl) ?_
  refine lv_bipush (v := 24) hx hb dX12_feed_83 (by decide) ?_
  refine lv_bipush (v := 8) hx hb dX12_feed_85 (by decide) ?_
  refine lv_iload hx hb dX12_feed_87 (lv_at hl 1 rfl) ?_
  refine lv_iconst (v := 4) hx hb dX12_feed_89 (by decide) ?_
  refine lv_irem hx hb dX12_feed_90 (by decide) ?_
  refine tk_topi (y := 1) (by decide) ?_
  refine lv_imul hx hb dX12_feed_91 ?_
  refine tk_topi (y := 8) (by decide) ?_
  refine lv_isub hx hb dX12_feed_92 ?_
  refine tk_topi (y := 16) (by decide) ?_
  refine lv_ishr hx hb dX12_feed_93 ?_
  refine lv_sipush (v := 255) hx hb dX12_feed_94 (by decide) ?_
  refine lv_iand hx hb dX12_feed_97 ?_
  refine va_iast hx hb hK hP hD hS 1 0 rfl rfl (vp_in_nI (n := 1) (by decide) (by decide)) dX12_feed_98 (fun H locs hP hD hS => ?_)
  obtain ⟨g_2, eg_2⟩ : ∃ y : Nat → Int32, upd g_1 (Int32.toNatClampNeg 1) ((x0 >>> (16 &&& 31)) &&& 255) = y := ⟨_, rfl⟩
  have hP : va_P (dC, dI) vwCl [(a0, .inr (12, [.ref a1, .ref a2, .ref a3, .int 0, .ref a4, .int 1, .int 0, .int 0, .int 0, .int 0, .int (-1), .int 0, .int 0, .int 0, .int 0, .ref a5, .ref a6, .ref a7, .ref a8, .ref a9, .ref a10, .ref a11, .ref a12, .int 0, .int 0, .int 0, .int 0, .int 0, .ref a13, .int 0, .ref a14, .ref a15, .int 0, .int 0, .ref a16, .int 0, .ref a17, .ref a18, .int 0, .int (-1), .ref a19, .ref a20, .ref a21, .int 0, .ref a22, .ref a23, .ref a24, .ref a25, .ref a26, .ref a27, .ref a28, .ref a29, .ref a30, .int 0, .int 0, .ref a31])), (a4, .inl (cI, 600, .inl g_2))] H := by rw [eg_2] at hP; exact hP
  have hD : va_D A [(a0, .inr (12, [.ref a1, .ref a2, .ref a3, .int 0, .ref a4, .int 1, .int 0, .int 0, .int 0, .int 0, .int (-1), .int 0, .int 0, .int 0, .int 0, .ref a5, .ref a6, .ref a7, .ref a8, .ref a9, .ref a10, .ref a11, .ref a12, .int 0, .int 0, .int 0, .int 0, .int 0, .ref a13, .int 0, .ref a14, .ref a15, .int 0, .int 0, .ref a16, .int 0, .ref a17, .ref a18, .int 0, .int (-1), .ref a19, .ref a20, .ref a21, .int 0, .ref a22, .ref a23, .ref a24, .ref a25, .ref a26, .ref a27, .ref a28, .ref a29, .ref a30, .int 0, .int 0, .ref a31])), (a4, .inl (cI, 600, .inl g_2))] := by rw [eg_2] at hD; exact hD
  refine lv_aload_n hx hb dX12_feed_99 rfl (lv_at hl 2 rfl) ?_
  refine lv_dup hx hb dX12_feed_100 rfl ?_
  refine va_get (D := (dC, dI)) (ci := 12) (v := .int 1) (C := RX12) (T := TX12) (N := 56) hx hb hU inlX12 hown hK hP 0 rfl rfl 5 (by decide) (hU _ wd_218) (fun _ h9 => h9) rfl dX12_feed_101 ?_
  refine lv_iconst (v := 1) hx hb dX12_feed_104 (by decide) ?_
  refine lv_iadd hx hb dX12_feed_105 ?_
  refine tk_topi (y := 2) (by decide) ?_
  refine va_put (D := (dC, dI)) (ci := 12) (v := .int 2) (ty := .int) (C := RX12) (T := TX12) (N := 56) hx hb hU inlX12 tyX12 tyX12_ok nmX12 hown hK hP hD hS 0 rfl rfl 5 (by decide) (hU _ wd_218) (fun _ h9 => h9) rfl (by decide +kernel) rfl rfl (Nat.le_of_ble_eq_true rfl) dX12_feed_106 (fun H locs hP hD hS => ?_)
  have hP : va_P (dC, dI) vwCl [(a0, .inr (12, [.ref a1, .ref a2, .ref a3, .int 0, .ref a4, .int 2, .int 0, .int 0, .int 0, .int 0, .int (-1), .int 0, .int 0, .int 0, .int 0, .ref a5, .ref a6, .ref a7, .ref a8, .ref a9, .ref a10, .ref a11, .ref a12, .int 0, .int 0, .int 0, .int 0, .int 0, .ref a13, .int 0, .ref a14, .ref a15, .int 0, .int 0, .ref a16, .int 0, .ref a17, .ref a18, .int 0, .int (-1), .ref a19, .ref a20, .ref a21, .int 0, .ref a22, .ref a23, .ref a24, .ref a25, .ref a26, .ref a27, .ref a28, .ref a29, .ref a30, .int 0, .int 0, .ref a31])), (a4, .inl (cI, 600, .inl g_2))] H := hP
  have hD : va_D A [(a0, .inr (12, [.ref a1, .ref a2, .ref a3, .int 0, .ref a4, .int 2, .int 0, .int 0, .int 0, .int 0, .int (-1), .int 0, .int 0, .int 0, .int 0, .ref a5, .ref a6, .ref a7, .ref a8, .ref a9, .ref a10, .ref a11, .ref a12, .int 0, .int 0, .int 0, .int 0, .int 0, .ref a13, .int 0, .ref a14, .ref a15, .int 0, .int 0, .ref a16, .int 0, .ref a17, .ref a18, .int 0, .int (-1), .ref a19, .ref a20, .ref a21, .int 0, .ref a22, .ref a23, .ref a24, .ref a25, .ref a26, .ref a27, .ref a28, .ref a29, .ref a30, .int 0, .int 0, .ref a31])), (a4, .inl (cI, 600, .inl g_2))] := hD
  refine lv_iinc (v := 2) (lv' := [(6, .int 2), (7, .int x0), (0, .ref a0), (1, .int x0), (2, .int x1), (3, .int x2), (4, .int x3), (5, .int x4)]) hx hb dX12_feed_109 hl (k := 1) rfl (by decide) (by decide) rfl (fun ls hl => ?_)
  refine lv_goto (tgt := 18) hx hb dX12_feed_112 (by decide) ?_
  refine lv_iload hx hb dX12_feed_18 (lv_at hl 0 rfl) ?_
  refine lv_bipush (v := 20) hx hb dX12_feed_20 (by decide) ?_
  refine lv_icmp_ge (tgt := 115) hx hb dX12_feed_22 (by decide) (fun c9 => absurd c9 (by decide)) (fun _ => ?_)
  refine lv_iload hx hb dX12_feed_25 (lv_at hl 0 rfl) ?_
  refine lv_iconst (v := 4) hx hb dX12_feed_27 (by decide) ?_
  refine lv_icmp_ge (tgt := 35) hx hb dX12_feed_28 (by decide) (fun c9 => absurd c9 (by decide)) (fun _ => ?_)
  refine lv_iload_n hx hb dX12_feed_31 rfl (lv_at hl 3 rfl) ?_
  refine lv_goto (tgt := 71) hx hb dX12_feed_32 (by decide) ?_
  refine lv_istore (lv' := [(7, .int x0), (6, .int 2), (0, .ref a0), (1, .int x0), (2, .int x1), (3, .int x2), (4, .int x3), (5, .int x4)]) hx hb dX12_feed_71 hl (by decide) rfl (fun ls hl => ?_)
  refine lv_aload_n hx hb dX12_feed_73 rfl (lv_at hl 2 rfl) ?_
  refine va_get (D := (dC, dI)) (ci := 12) (v := .ref a4) (C := RX12) (T := TX12) (N := 56) hx hb hU inlX12 hown hK hP 0 rfl rfl 4 (by decide) (hU _ wd_172) (fun _ h9 => h9) rfl dX12_feed_74 ?_
  refine lv_aload_n hx hb dX12_feed_77 rfl (lv_at hl 2 rfl) ?_
  refine va_get (D := (dC, dI)) (ci := 12) (v := .int 2) (C := RX12) (T := TX12) (N := 56) hx hb hU inlX12 hown hK hP 0 rfl rfl 5 (by decide) (hU _ wd_218) (fun _ h9 => h9) rfl dX12_feed_78 ?_
  refine lv_iload hx hb dX12_feed_81 (lv_at hl 0 rfl) ?_
  refine lv_bipush (v := 24) hx hb dX12_feed_83 (by decide) ?_
  refine lv_bipush (v := 8) hx hb dX12_feed_85 (by decide) ?_
  refine lv_iload hx hb dX12_feed_87 (lv_at hl 1 rfl) ?_
  refine lv_iconst (v := 4) hx hb dX12_feed_89 (by decide) ?_
  refine lv_irem hx hb dX12_feed_90 (by decide) ?_
  refine tk_topi (y := 2) (by decide) ?_
  refine lv_imul hx hb dX12_feed_91 ?_
  refine tk_topi (y := 16) (by decide) ?_
  refine lv_isub hx hb dX12_feed_92 ?_
  refine tk_topi (y := 8) (by decide) ?_
  refine lv_ishr hx hb dX12_feed_93 ?_
  refine lv_sipush (v := 255) hx hb dX12_feed_94 (by decide) ?_
  refine lv_iand hx hb dX12_feed_97 ?_
  refine va_iast hx hb hK hP hD hS 1 0 rfl rfl (vp_in_nI (n := 2) (by decide) (by decide)) dX12_feed_98 (fun H locs hP hD hS => ?_)
  obtain ⟨g_3, eg_3⟩ : ∃ y : Nat → Int32, upd g_2 (Int32.toNatClampNeg 2) ((x0 >>> (8 &&& 31)) &&& 255) = y := ⟨_, rfl⟩
  have hP : va_P (dC, dI) vwCl [(a0, .inr (12, [.ref a1, .ref a2, .ref a3, .int 0, .ref a4, .int 2, .int 0, .int 0, .int 0, .int 0, .int (-1), .int 0, .int 0, .int 0, .int 0, .ref a5, .ref a6, .ref a7, .ref a8, .ref a9, .ref a10, .ref a11, .ref a12, .int 0, .int 0, .int 0, .int 0, .int 0, .ref a13, .int 0, .ref a14, .ref a15, .int 0, .int 0, .ref a16, .int 0, .ref a17, .ref a18, .int 0, .int (-1), .ref a19, .ref a20, .ref a21, .int 0, .ref a22, .ref a23, .ref a24, .ref a25, .ref a26, .ref a27, .ref a28, .ref a29, .ref a30, .int 0, .int 0, .ref a31])), (a4, .inl (cI, 600, .inl g_3))] H := by rw [eg_3] at hP; exact hP
  have hD : va_D A [(a0, .inr (12, [.ref a1, .ref a2, .ref a3, .int 0, .ref a4, .int 2, .int 0, .int 0, .int 0, .int 0, .int (-1), .int 0, .int 0, .int 0, .int 0, .ref a5, .ref a6, .ref a7, .ref a8, .ref a9, .ref a10, .ref a11, .ref a12, .int 0, .int 0, .int 0, .int 0, .int 0, .ref a13, .int 0, .ref a14, .ref a15, .int 0, .int 0, .ref a16, .int 0, .ref a17, .ref a18, .int 0, .int (-1), .ref a19, .ref a20, .ref a21, .int 0, .ref a22, .ref a23, .ref a24, .ref a25, .ref a26, .ref a27, .ref a28, .ref a29, .ref a30, .int 0, .int 0, .ref a31])), (a4, .inl (cI, 600, .inl g_3))] := by rw [eg_3] at hD; exact hD
  refine lv_aload_n hx hb dX12_feed_99 rfl (lv_at hl 2 rfl) ?_
  refine lv_dup hx hb dX12_feed_100 rfl ?_
  refine va_get (D := (dC, dI)) (ci := 12) (v := .int 2) (C := RX12) (T := TX12) (N := 56) hx hb hU inlX12 hown hK hP 0 rfl rfl 5 (by decide) (hU _ wd_218) (fun _ h9 => h9) rfl dX12_feed_101 ?_
  refine lv_iconst (v := 1) hx hb dX12_feed_104 (by decide) ?_
  refine lv_iadd hx hb dX12_feed_105 ?_
  refine tk_topi (y := 3) (by decide) ?_
  refine va_put (D := (dC, dI)) (ci := 12) (v := .int 3) (ty := .int) (C := RX12) (T := TX12) (N := 56) hx hb hU inlX12 tyX12 tyX12_ok nmX12 hown hK hP hD hS 0 rfl rfl 5 (by decide) (hU _ wd_218) (fun _ h9 => h9) rfl (by decide +kernel) rfl rfl (Nat.le_of_ble_eq_true rfl) dX12_feed_106 (fun H locs hP hD hS => ?_)
  have hP : va_P (dC, dI) vwCl [(a0, .inr (12, [.ref a1, .ref a2, .ref a3, .int 0, .ref a4, .int 3, .int 0, .int 0, .int 0, .int 0, .int (-1), .int 0, .int 0, .int 0, .int 0, .ref a5, .ref a6, .ref a7, .ref a8, .ref a9, .ref a10, .ref a11, .ref a12, .int 0, .int 0, .int 0, .int 0, .int 0, .ref a13, .int 0, .ref a14, .ref a15, .int 0, .int 0, .ref a16, .int 0, .ref a17, .ref a18, .int 0, .int (-1), .ref a19, .ref a20, .ref a21, .int 0, .ref a22, .ref a23, .ref a24, .ref a25, .ref a26, .ref a27, .ref a28, .ref a29, .ref a30, .int 0, .int 0, .ref a31])), (a4, .inl (cI, 600, .inl g_3))] H := hP
  have hD : va_D A [(a0, .inr (12, [.ref a1, .ref a2, .ref a3, .int 0, .ref a4, .int 3, .int 0, .int 0, .int 0, .int 0, .int (-1), .int 0, .int 0, .int 0, .int 0, .ref a5, .ref a6, .ref a7, .ref a8, .ref a9, .ref a10, .ref a11, .ref a12, .int 0, .int 0, .int 0, .int 0, .int 0, .ref a13, .int 0, .ref a14, .ref a15, .int 0, .int 0, .ref a16, .int 0, .ref a17, .ref a18, .int 0, .int (-1), .ref a19, .ref a20, .ref a21, .int 0, .ref a22, .ref a23, .ref a24, .ref a25, .ref a26, .ref a27, .ref a28, .ref a29, .ref a30, .int 0, .int 0, .ref a31])), (a4, .inl (cI, 600, .inl g_3))] := hD
  refine lv_iinc (v := 3) (lv' := [(6, .int 3), (7, .int x0), (0, .ref a0), (1, .int x0), (2, .int x1), (3, .int x2), (4, .int x3), (5, .int x4)]) hx hb dX12_feed_109 hl (k := 1) rfl (by decide) (by decide) rfl (fun ls hl => ?_)
  refine lv_goto (tgt := 18) hx hb dX12_feed_112 (by decide) ?_
  refine lv_iload hx hb dX12_feed_18 (lv_at hl 0 rfl) ?_
  refine lv_bipush (v := 20) hx hb dX12_feed_20 (by decide) ?_
  refine lv_icmp_ge (tgt := 115) hx hb dX12_feed_22 (by decide) (fun c9 => absurd c9 (by decide)) (fun _ => ?_)
  refine lv_iload hx hb dX12_feed_25 (lv_at hl 0 rfl) ?_
  refine lv_iconst (v := 4) hx hb dX12_feed_27 (by decide) ?_
  refine lv_icmp_ge (tgt := 35) hx hb dX12_feed_28 (by decide) (fun c9 => absurd c9 (by decide)) (fun _ => ?_)
  refine lv_iload_n hx hb dX12_feed_31 rfl (lv_at hl 3 rfl) ?_
  refine lv_goto (tgt := 71) hx hb dX12_feed_32 (by decide) ?_
  refine lv_istore (lv' := [(7, .int x0), (6, .int 3), (0, .ref a0), (1, .int x0), (2, .int x1), (3, .int x2), (4, .int x3), (5, .int x4)]) hx hb dX12_feed_71 hl (by decide) rfl (fun ls hl => ?_)
  refine lv_aload_n hx hb dX12_feed_73 rfl (lv_at hl 2 rfl) ?_
  refine va_get (D := (dC, dI)) (ci := 12) (v := .ref a4) (C := RX12) (T := TX12) (N := 56) hx hb hU inlX12 hown hK hP 0 rfl rfl 4 (by decide) (hU _ wd_172) (fun _ h9 => h9) rfl dX12_feed_74 ?_
  refine lv_aload_n hx hb dX12_feed_77 rfl (lv_at hl 2 rfl) ?_
  refine va_get (D := (dC, dI)) (ci := 12) (v := .int 3) (C := RX12) (T := TX12) (N := 56) hx hb hU inlX12 hown hK hP 0 rfl rfl 5 (by decide) (hU _ wd_218) (fun _ h9 => h9) rfl dX12_feed_78 ?_
  refine lv_iload hx hb dX12_feed_81 (lv_at hl 0 rfl) ?_
  refine lv_bipush (v := 24) hx hb dX12_feed_83 (by decide) ?_
  refine lv_bipush (v := 8) hx hb dX12_feed_85 (by decide) ?_
  refine lv_iload hx hb dX12_feed_87 (lv_at hl 1 rfl) ?_
  refine lv_iconst (v := 4) hx hb dX12_feed_89 (by decide) ?_
  refine lv_irem hx hb dX12_feed_90 (by decide) ?_
  refine tk_topi (y := 3) (by decide) ?_
  refine lv_imul hx hb dX12_feed_91 ?_
  refine tk_topi (y := 24) (by decide) ?_
  refine lv_isub hx hb dX12_feed_92 ?_
  refine tk_topi (y := 0) (by decide) ?_
  refine lv_ishr hx hb dX12_feed_93 ?_
  refine lv_sipush (v := 255) hx hb dX12_feed_94 (by decide) ?_
  refine lv_iand hx hb dX12_feed_97 ?_
  refine va_iast hx hb hK hP hD hS 1 0 rfl rfl (vp_in_nI (n := 3) (by decide) (by decide)) dX12_feed_98 (fun H locs hP hD hS => ?_)
  obtain ⟨g_4, eg_4⟩ : ∃ y : Nat → Int32, upd g_3 (Int32.toNatClampNeg 3) ((x0 >>> (0 &&& 31)) &&& 255) = y := ⟨_, rfl⟩
  have hP : va_P (dC, dI) vwCl [(a0, .inr (12, [.ref a1, .ref a2, .ref a3, .int 0, .ref a4, .int 3, .int 0, .int 0, .int 0, .int 0, .int (-1), .int 0, .int 0, .int 0, .int 0, .ref a5, .ref a6, .ref a7, .ref a8, .ref a9, .ref a10, .ref a11, .ref a12, .int 0, .int 0, .int 0, .int 0, .int 0, .ref a13, .int 0, .ref a14, .ref a15, .int 0, .int 0, .ref a16, .int 0, .ref a17, .ref a18, .int 0, .int (-1), .ref a19, .ref a20, .ref a21, .int 0, .ref a22, .ref a23, .ref a24, .ref a25, .ref a26, .ref a27, .ref a28, .ref a29, .ref a30, .int 0, .int 0, .ref a31])), (a4, .inl (cI, 600, .inl g_4))] H := by rw [eg_4] at hP; exact hP
  have hD : va_D A [(a0, .inr (12, [.ref a1, .ref a2, .ref a3, .int 0, .ref a4, .int 3, .int 0, .int 0, .int 0, .int 0, .int (-1), .int 0, .int 0, .int 0, .int 0, .ref a5, .ref a6, .ref a7, .ref a8, .ref a9, .ref a10, .ref a11, .ref a12, .int 0, .int 0, .int 0, .int 0, .int 0, .ref a13, .int 0, .ref a14, .ref a15, .int 0, .int 0, .ref a16, .int 0, .ref a17, .ref a18, .int 0, .int (-1), .ref a19, .ref a20, .ref a21, .int 0, .ref a22, .ref a23, .ref a24, .ref a25, .ref a26, .ref a27, .ref a28, .ref a29, .ref a30, .int 0, .int 0, .ref a31])), (a4, .inl (cI, 600, .inl g_4))] := by rw [eg_4] at hD; exact hD
  refine lv_aload_n hx hb dX12_feed_99 rfl (lv_at hl 2 rfl) ?_
  refine lv_dup hx hb dX12_feed_100 rfl ?_
  refine va_get (D := (dC, dI)) (ci := 12) (v := .int 3) (C := RX12) (T := TX12) (N := 56) hx hb hU inlX12 hown hK hP 0 rfl rfl 5 (by decide) (hU _ wd_218) (fun _ h9 => h9) rfl dX12_feed_101 ?_
  refine lv_iconst (v := 1) hx hb dX12_feed_104 (by decide) ?_
  refine lv_iadd hx hb dX12_feed_105 ?_
  refine tk_topi (y := 4) (by decide) ?_
  refine va_put (D := (dC, dI)) (ci := 12) (v := .int 4) (ty := .int) (C := RX12) (T := TX12) (N := 56) hx hb hU inlX12 tyX12 tyX12_ok nmX12 hown hK hP hD hS 0 rfl rfl 5 (by decide) (hU _ wd_218) (fun _ h9 => h9) rfl (by decide +kernel) rfl rfl (Nat.le_of_ble_eq_true rfl) dX12_feed_106 (fun H locs hP hD hS => ?_)
  have hP : va_P (dC, dI) vwCl [(a0, .inr (12, [.ref a1, .ref a2, .ref a3, .int 0, .ref a4, .int 4, .int 0, .int 0, .int 0, .int 0, .int (-1), .int 0, .int 0, .int 0, .int 0, .ref a5, .ref a6, .ref a7, .ref a8, .ref a9, .ref a10, .ref a11, .ref a12, .int 0, .int 0, .int 0, .int 0, .int 0, .ref a13, .int 0, .ref a14, .ref a15, .int 0, .int 0, .ref a16, .int 0, .ref a17, .ref a18, .int 0, .int (-1), .ref a19, .ref a20, .ref a21, .int 0, .ref a22, .ref a23, .ref a24, .ref a25, .ref a26, .ref a27, .ref a28, .ref a29, .ref a30, .int 0, .int 0, .ref a31])), (a4, .inl (cI, 600, .inl g_4))] H := hP
  have hD : va_D A [(a0, .inr (12, [.ref a1, .ref a2, .ref a3, .int 0, .ref a4, .int 4, .int 0, .int 0, .int 0, .int 0, .int (-1), .int 0, .int 0, .int 0, .int 0, .ref a5, .ref a6, .ref a7, .ref a8, .ref a9, .ref a10, .ref a11, .ref a12, .int 0, .int 0, .int 0, .int 0, .int 0, .ref a13, .int 0, .ref a14, .ref a15, .int 0, .int 0, .ref a16, .int 0, .ref a17, .ref a18, .int 0, .int (-1), .ref a19, .ref a20, .ref a21, .int 0, .ref a22, .ref a23, .ref a24, .ref a25, .ref a26, .ref a27, .ref a28, .ref a29, .ref a30, .int 0, .int 0, .ref a31])), (a4, .inl (cI, 600, .inl g_4))] := hD
  refine lv_iinc (v := 4) (lv' := [(6, .int 4), (7, .int x0), (0, .ref a0), (1, .int x0), (2, .int x1), (3, .int x2), (4, .int x3), (5, .int x4)]) hx hb dX12_feed_109 hl (k := 1) rfl (by decide) (by decide) rfl (fun ls hl => ?_)
  refine lv_goto (tgt := 18) hx hb dX12_feed_112 (by decide) ?_
  refine lv_iload hx hb dX12_feed_18 (lv_at hl 0 rfl) ?_
  refine lv_bipush (v := 20) hx hb dX12_feed_20 (by decide) ?_
  refine lv_icmp_ge (tgt := 115) hx hb dX12_feed_22 (by decide) (fun c9 => absurd c9 (by decide)) (fun _ => ?_)
  refine lv_iload hx hb dX12_feed_25 (lv_at hl 0 rfl) ?_
  refine lv_iconst (v := 4) hx hb dX12_feed_27 (by decide) ?_
  refine lv_icmp_ge (tgt := 35) hx hb dX12_feed_28 (by decide) (fun _ => ?_) (fun c9 => absurd (by decide) c9) 
  refine lv_iload hx hb dX12_feed_35 (lv_at hl 0 rfl) ?_
  refine lv_bipush (v := 8) hx hb dX12_feed_37 (by decide) ?_
  refine lv_icmp_ge (tgt := 46) hx hb dX12_feed_39 (by decide) (fun c9 => absurd c9 (by decide)) (fun _ => ?_)
  refine lv_iload_n hx hb dX12_feed_42 rfl (lv_at hl 4 rfl) ?_
  refine lv_goto (tgt := 71) hx hb dX12_feed_43 (by decide) ?_
  refine lv_istore (lv' := [(7, .int x1), (6, .int 4), (0, .ref a0), (1, .int x0), (2, .int x1), (3, .int x2), (4, .int x3), (5, .int x4)]) hx hb dX12_feed_71 hl (by decide) rfl (fun ls hl => ?_)
  refine lv_aload_n hx hb dX12_feed_73 rfl (lv_at hl 2 rfl) ?_
  refine va_get (D := (dC, dI)) (ci := 12) (v := .ref a4) (C := RX12) (T := TX12) (N := 56) hx hb hU inlX12 hown hK hP 0 rfl rfl 4 (by decide) (hU _ wd_172) (fun _ h9 => h9) rfl dX12_feed_74 ?_
  refine lv_aload_n hx hb dX12_feed_77 rfl (lv_at hl 2 rfl) ?_
  refine va_get (D := (dC, dI)) (ci := 12) (v := .int 4) (C := RX12) (T := TX12) (N := 56) hx hb hU inlX12 hown hK hP 0 rfl rfl 5 (by decide) (hU _ wd_218) (fun _ h9 => h9) rfl dX12_feed_78 ?_
  refine lv_iload hx hb dX12_feed_81 (lv_at hl 0 rfl) ?_
  refine lv_bipush (v := 24) hx hb dX12_feed_83 (by decide) ?_
  refine lv_bipush (v := 8) hx hb dX12_feed_85 (by decide) ?_
  refine lv_iload hx hb dX12_feed_87 (lv_at hl 1 rfl) ?_
  refine lv_iconst (v := 4) hx hb dX12_feed_89 (by decide) ?_
  refine lv_irem hx hb dX12_feed_90 (by decide) ?_
  refine tk_topi (y := 0) (by decide) ?_
  refine lv_imul hx hb dX12_feed_91 ?_
  refine tk_topi (y := 0) (by decide) ?_
  refine lv_isub hx hb dX12_feed_92 ?_
  refine tk_topi (y := 24) (by decide) ?_
  refine lv_ishr hx hb dX12_feed_93 ?_
  refine lv_sipush (v := 255) hx hb dX12_feed_94 (by decide) ?_
  refine lv_iand hx hb dX12_feed_97 ?_
  refine va_iast hx hb hK hP hD hS 1 0 rfl rfl (vp_in_nI (n := 4) (by decide) (by decide)) dX12_feed_98 (fun H locs hP hD hS => ?_)
  obtain ⟨g_5, eg_5⟩ : ∃ y : Nat → Int32, upd g_4 (Int32.toNatClampNeg 4) ((x1 >>> (24 &&& 31)) &&& 255) = y := ⟨_, rfl⟩
  have hP : va_P (dC, dI) vwCl [(a0, .inr (12, [.ref a1, .ref a2, .ref a3, .int 0, .ref a4, .int 4, .int 0, .int 0, .int 0, .int 0, .int (-1), .int 0, .int 0, .int 0, .int 0, .ref a5, .ref a6, .ref a7, .ref a8, .ref a9, .ref a10, .ref a11, .ref a12, .int 0, .int 0, .int 0, .int 0, .int 0, .ref a13, .int 0, .ref a14, .ref a15, .int 0, .int 0, .ref a16, .int 0, .ref a17, .ref a18, .int 0, .int (-1), .ref a19, .ref a20, .ref a21, .int 0, .ref a22, .ref a23, .ref a24, .ref a25, .ref a26, .ref a27, .ref a28, .ref a29, .ref a30, .int 0, .int 0, .ref a31])), (a4, .inl (cI, 600, .inl g_5))] H := by rw [eg_5] at hP; exact hP
  have hD : va_D A [(a0, .inr (12, [.ref a1, .ref a2, .ref a3, .int 0, .ref a4, .int 4, .int 0, .int 0, .int 0, .int 0, .int (-1), .int 0, .int 0, .int 0, .int 0, .ref a5, .ref a6, .ref a7, .ref a8, .ref a9, .ref a10, .ref a11, .ref a12, .int 0, .int 0, .int 0, .int 0, .int 0, .ref a13, .int 0, .ref a14, .ref a15, .int 0, .int 0, .ref a16, .int 0, .ref a17, .ref a18, .int 0, .int (-1), .ref a19, .ref a20, .ref a21, .int 0, .ref a22, .ref a23, .ref a24, .ref a25, .ref a26, .ref a27, .ref a28, .ref a29, .ref a30, .int 0, .int 0, .ref a31])), (a4, .inl (cI, 600, .inl g_5))] := by rw [eg_5] at hD; exact hD
  refine lv_aload_n hx hb dX12_feed_99 rfl (lv_at hl 2 rfl) ?_
  refine lv_dup hx hb dX12_feed_100 rfl ?_
  refine va_get (D := (dC, dI)) (ci := 12) (v := .int 4) (C := RX12) (T := TX12) (N := 56) hx hb hU inlX12 hown hK hP 0 rfl rfl 5 (by decide) (hU _ wd_218) (fun _ h9 => h9) rfl dX12_feed_101 ?_
  refine lv_iconst (v := 1) hx hb dX12_feed_104 (by decide) ?_
  refine lv_iadd hx hb dX12_feed_105 ?_
  refine tk_topi (y := 5) (by decide) ?_
  refine va_put (D := (dC, dI)) (ci := 12) (v := .int 5) (ty := .int) (C := RX12) (T := TX12) (N := 56) hx hb hU inlX12 tyX12 tyX12_ok nmX12 hown hK hP hD hS 0 rfl rfl 5 (by decide) (hU _ wd_218) (fun _ h9 => h9) rfl (by decide +kernel) rfl rfl (Nat.le_of_ble_eq_true rfl) dX12_feed_106 (fun H locs hP hD hS => ?_)
  have hP : va_P (dC, dI) vwCl [(a0, .inr (12, [.ref a1, .ref a2, .ref a3, .int 0, .ref a4, .int 5, .int 0, .int 0, .int 0, .int 0, .int (-1), .int 0, .int 0, .int 0, .int 0, .ref a5, .ref a6, .ref a7, .ref a8, .ref a9, .ref a10, .ref a11, .ref a12, .int 0, .int 0, .int 0, .int 0, .int 0, .ref a13, .int 0, .ref a14, .ref a15, .int 0, .int 0, .ref a16, .int 0, .ref a17, .ref a18, .int 0, .int (-1), .ref a19, .ref a20, .ref a21, .int 0, .ref a22, .ref a23, .ref a24, .ref a25, .ref a26, .ref a27, .ref a28, .ref a29, .ref a30, .int 0, .int 0, .ref a31])), (a4, .inl (cI, 600, .inl g_5))] H := hP
  have hD : va_D A [(a0, .inr (12, [.ref a1, .ref a2, .ref a3, .int 0, .ref a4, .int 5, .int 0, .int 0, .int 0, .int 0, .int (-1), .int 0, .int 0, .int 0, .int 0, .ref a5, .ref a6, .ref a7, .ref a8, .ref a9, .ref a10, .ref a11, .ref a12, .int 0, .int 0, .int 0, .int 0, .int 0, .ref a13, .int 0, .ref a14, .ref a15, .int 0, .int 0, .ref a16, .int 0, .ref a17, .ref a18, .int 0, .int (-1), .ref a19, .ref a20, .ref a21, .int 0, .ref a22, .ref a23, .ref a24, .ref a25, .ref a26, .ref a27, .ref a28, .ref a29, .ref a30, .int 0, .int 0, .ref a31])), (a4, .inl (cI, 600, .inl g_5))] := hD
  refine lv_iinc (v := 5) (lv' := [(6, .int 5), (7, .int x1), (0, .ref a0), (1, .int x0), (2, .int x1), (3, .int x2), (4, .int x3), (5, .int x4)]) hx hb dX12_feed_109 hl (k := 1) rfl (by decide) (by decide) rfl (fun ls hl => ?_)
  refine lv_goto (tgt := 18) hx hb dX12_feed_112 (by decide) ?_
  refine lv_iload hx hb dX12_feed_18 (lv_at hl 0 rfl) ?_
  refine lv_bipush (v := 20) hx hb dX12_feed_20 (by decide) ?_
  refine lv_icmp_ge (tgt := 115) hx hb dX12_feed_22 (by decide) (fun c9 => absurd c9 (by decide)) (fun _ => ?_)
  refine lv_iload hx hb dX12_feed_25 (lv_at hl 0 rfl) ?_
  refine lv_iconst (v := 4) hx hb dX12_feed_27 (by decide) ?_
  refine lv_icmp_ge (tgt := 35) hx hb dX12_feed_28 (by decide) (fun _ => ?_) (fun c9 => absurd (by decide) c9) 
  refine lv_iload hx hb dX12_feed_35 (lv_at hl 0 rfl) ?_
  refine lv_bipush (v := 8) hx hb dX12_feed_37 (by decide) ?_
  refine lv_icmp_ge (tgt := 46) hx hb dX12_feed_39 (by decide) (fun c9 => absurd c9 (by decide)) (fun _ => ?_)
  refine lv_iload_n hx hb dX12_feed_42 rfl (lv_at hl 4 rfl) ?_
  refine lv_goto (tgt := 71) hx hb dX12_feed_43 (by decide) ?_
  refine lv_istore (lv' := [(7, .int x1), (6, .int 5), (0, .ref a0), (1, .int x0), (2, .int x1), (3, .int x2), (4, .int x3), (5, .int x4)]) hx hb dX12_feed_71 hl (by decide) rfl (fun ls hl => ?_)
  refine lv_aload_n hx hb dX12_feed_73 rfl (lv_at hl 2 rfl) ?_
  refine va_get (D := (dC, dI)) (ci := 12) (v := .ref a4) (C := RX12) (T := TX12) (N := 56) hx hb hU inlX12 hown hK hP 0 rfl rfl 4 (by decide) (hU _ wd_172) (fun _ h9 => h9) rfl dX12_feed_74 ?_
  refine lv_aload_n hx hb dX12_feed_77 rfl (lv_at hl 2 rfl) ?_
  refine va_get (D := (dC, dI)) (ci := 12) (v := .int 5) (C := RX12) (T := TX12) (N := 56) hx hb hU inlX12 hown hK hP 0 rfl rfl 5 (by decide) (hU _ wd_218) (fun _ h9 => h9) rfl dX12_feed_78 ?_
  refine lv_iload hx hb dX12_feed_81 (lv_at hl 0 rfl) ?_
  refine lv_bipush (v := 24) hx hb dX12_feed_83 (by decide) ?_
  refine lv_bipush (v := 8) hx hb dX12_feed_85 (by decide) ?_
  refine lv_iload hx hb dX12_feed_87 (lv_at hl 1 rfl) ?_
  refine lv_iconst (v := 4) hx hb dX12_feed_89 (by decide) ?_
  refine lv_irem hx hb dX12_feed_90 (by decide) ?_
  refine tk_topi (y := 1) (by decide) ?_
  refine lv_imul hx hb dX12_feed_91 ?_
  refine tk_topi (y := 8) (by decide) ?_
  refine lv_isub hx hb dX12_feed_92 ?_
  refine tk_topi (y := 16) (by decide) ?_
  refine lv_ishr hx hb dX12_feed_93 ?_
  refine lv_sipush (v := 255) hx hb dX12_feed_94 (by decide) ?_
  refine lv_iand hx hb dX12_feed_97 ?_
  refine va_iast hx hb hK hP hD hS 1 0 rfl rfl (vp_in_nI (n := 5) (by decide) (by decide)) dX12_feed_98 (fun H locs hP hD hS => ?_)
  obtain ⟨g_6, eg_6⟩ : ∃ y : Nat → Int32, upd g_5 (Int32.toNatClampNeg 5) ((x1 >>> (16 &&& 31)) &&& 255) = y := ⟨_, rfl⟩
  have hP : va_P (dC, dI) vwCl [(a0, .inr (12, [.ref a1, .ref a2, .ref a3, .int 0, .ref a4, .int 5, .int 0, .int 0, .int 0, .int 0, .int (-1), .int 0, .int 0, .int 0, .int 0, .ref a5, .ref a6, .ref a7, .ref a8, .ref a9, .ref a10, .ref a11, .ref a12, .int 0, .int 0, .int 0, .int 0, .int 0, .ref a13, .int 0, .ref a14, .ref a15, .int 0, .int 0, .ref a16, .int 0, .ref a17, .ref a18, .int 0, .int (-1), .ref a19, .ref a20, .ref a21, .int 0, .ref a22, .ref a23, .ref a24, .ref a25, .ref a26, .ref a27, .ref a28, .ref a29, .ref a30, .int 0, .int 0, .ref a31])), (a4, .inl (cI, 600, .inl g_6))] H := by rw [eg_6] at hP; exact hP
  have hD : va_D A [(a0, .inr (12, [.ref a1, .ref a2, .ref a3, .int 0, .ref a4, .int 5, .int 0, .int 0, .int 0, .int 0, .int (-1), .int 0, .int 0, .int 0, .int 0, .ref a5, .ref a6, .ref a7, .ref a8, .ref a9, .ref a10, .ref a11, .ref a12, .int 0, .int 0, .int 0, .int 0, .int 0, .ref a13, .int 0, .ref a14, .ref a15, .int 0, .int 0, .ref a16, .int 0, .ref a17, .ref a18, .int 0, .int (-1), .ref a19, .ref a20, .ref a21, .int 0, .ref a22, .ref a23, .ref a24, .ref a25, .ref a26, .ref a27, .ref a28, .ref a29, .ref a30, .int 0, .int 0, .ref a31])), (a4, .inl (cI, 600, .inl g_6))] := by rw [eg_6] at hD; exact hD
  refine lv_aload_n hx hb dX12_feed_99 rfl (lv_at hl 2 rfl) ?_
  refine lv_dup hx hb dX12_feed_100 rfl ?_
  refine va_get (D := (dC, dI)) (ci := 12) (v := .int 5) (C := RX12) (T := TX12) (N := 56) hx hb hU inlX12 hown hK hP 0 rfl rfl 5 (by decide) (hU _ wd_218) (fun _ h9 => h9) rfl dX12_feed_101 ?_
  refine lv_iconst (v := 1) hx hb dX12_feed_104 (by decide) ?_
  refine lv_iadd hx hb dX12_feed_105 ?_
  refine tk_topi (y := 6) (by decide) ?_
  refine va_put (D := (dC, dI)) (ci := 12) (v := .int 6) (ty := .int) (C := RX12) (T := TX12) (N := 56) hx hb hU inlX12 tyX12 tyX12_ok nmX12 hown hK hP hD hS 0 rfl rfl 5 (by decide) (hU _ wd_218) (fun _ h9 => h9) rfl (by decide +kernel) rfl rfl (Nat.le_of_ble_eq_true rfl) dX12_feed_106 (fun H locs hP hD hS => ?_)
  have hP : va_P (dC, dI) vwCl [(a0, .inr (12, [.ref a1, .ref a2, .ref a3, .int 0, .ref a4, .int 6, .int 0, .int 0, .int 0, .int 0, .int (-1), .int 0, .int 0, .int 0, .int 0, .ref a5, .ref a6, .ref a7, .ref a8, .ref a9, .ref a10, .ref a11, .ref a12, .int 0, .int 0, .int 0, .int 0, .int 0, .ref a13, .int 0, .ref a14, .ref a15, .int 0, .int 0, .ref a16, .int 0, .ref a17, .ref a18, .int 0, .int (-1), .ref a19, .ref a20, .ref a21, .int 0, .ref a22, .ref a23, .ref a24, .ref a25, .ref a26, .ref a27, .ref a28, .ref a29, .ref a30, .int 0, .int 0, .ref a31])), (a4, .inl (cI, 600, .inl g_6))] H := hP
  have hD : va_D A [(a0, .inr (12, [.ref a1, .ref a2, .ref a3, .int 0, .ref a4, .int 6, .int 0, .int 0, .int 0, .int 0, .int (-1), .int 0, .int 0, .int 0, .int 0, .ref a5, .ref a6, .ref a7, .ref a8, .ref a9, .ref a10, .ref a11, .ref a12, .int 0, .int 0, .int 0, .int 0, .int 0, .ref a13, .int 0, .ref a14, .ref a15, .int 0, .int 0, .ref a16, .int 0, .ref a17, .ref a18, .int 0, .int (-1), .ref a19, .ref a20, .ref a21, .int 0, .ref a22, .ref a23, .ref a24, .ref a25, .ref a26, .ref a27, .ref a28, .ref a29, .ref a30, .int 0, .int 0, .ref a31])), (a4, .inl (cI, 600, .inl g_6))] := hD
  refine lv_iinc (v := 6) (lv' := [(6, .int 6), (7, .int x1), (0, .ref a0), (1, .int x0), (2, .int x1), (3, .int x2), (4, .int x3), (5, .int x4)]) hx hb dX12_feed_109 hl (k := 1) rfl (by decide) (by decide) rfl (fun ls hl => ?_)
  refine lv_goto (tgt := 18) hx hb dX12_feed_112 (by decide) ?_
  refine lv_iload hx hb dX12_feed_18 (lv_at hl 0 rfl) ?_
  refine lv_bipush (v := 20) hx hb dX12_feed_20 (by decide) ?_
  refine lv_icmp_ge (tgt := 115) hx hb dX12_feed_22 (by decide) (fun c9 => absurd c9 (by decide)) (fun _ => ?_)
  refine lv_iload hx hb dX12_feed_25 (lv_at hl 0 rfl) ?_
  refine lv_iconst (v := 4) hx hb dX12_feed_27 (by decide) ?_
  refine lv_icmp_ge (tgt := 35) hx hb dX12_feed_28 (by decide) (fun _ => ?_) (fun c9 => absurd (by decide) c9) 
  refine lv_iload hx hb dX12_feed_35 (lv_at hl 0 rfl) ?_
  refine lv_bipush (v := 8) hx hb dX12_feed_37 (by decide) ?_
  refine lv_icmp_ge (tgt := 46) hx hb dX12_feed_39 (by decide) (fun c9 => absurd c9 (by decide)) (fun _ => ?_)
  refine lv_iload_n hx hb dX12_feed_42 rfl (lv_at hl 4 rfl) ?_
  refine lv_goto (tgt := 71) hx hb dX12_feed_43 (by decide) ?_
  refine lv_istore (lv' := [(7, .int x1), (6, .int 6), (0, .ref a0), (1, .int x0), (2, .int x1), (3, .int x2), (4, .int x3), (5, .int x4)]) hx hb dX12_feed_71 hl (by decide) rfl (fun ls hl => ?_)
  refine lv_aload_n hx hb dX12_feed_73 rfl (lv_at hl 2 rfl) ?_
  refine va_get (D := (dC, dI)) (ci := 12) (v := .ref a4) (C := RX12) (T := TX12) (N := 56) hx hb hU inlX12 hown hK hP 0 rfl rfl 4 (by decide) (hU _ wd_172) (fun _ h9 => h9) rfl dX12_feed_74 ?_
  refine lv_aload_n hx hb dX12_feed_77 rfl (lv_at hl 2 rfl) ?_
  refine va_get (D := (dC, dI)) (ci := 12) (v := .int 6) (C := RX12) (T := TX12) (N := 56) hx hb hU inlX12 hown hK hP 0 rfl rfl 5 (by decide) (hU _ wd_218) (fun _ h9 => h9) rfl dX12_feed_78 ?_
  refine lv_iload hx hb dX12_feed_81 (lv_at hl 0 rfl) ?_
  refine lv_bipush (v := 24) hx hb dX12_feed_83 (by decide) ?_
  refine lv_bipush (v := 8) hx hb dX12_feed_85 (by decide) ?_
  refine lv_iload hx hb dX12_feed_87 (lv_at hl 1 rfl) ?_
  refine lv_iconst (v := 4) hx hb dX12_feed_89 (by decide) ?_
  refine lv_irem hx hb dX12_feed_90 (by decide) ?_
  refine tk_topi (y := 2) (by decide) ?_
  refine lv_imul hx hb dX12_feed_91 ?_
  refine tk_topi (y := 16) (by decide) ?_
  refine lv_isub hx hb dX12_feed_92 ?_
  refine tk_topi (y := 8) (by decide) ?_
  refine lv_ishr hx hb dX12_feed_93 ?_
  refine lv_sipush (v := 255) hx hb dX12_feed_94 (by decide) ?_
  refine lv_iand hx hb dX12_feed_97 ?_
  refine va_iast hx hb hK hP hD hS 1 0 rfl rfl (vp_in_nI (n := 6) (by decide) (by decide)) dX12_feed_98 (fun H locs hP hD hS => ?_)
  obtain ⟨g_7, eg_7⟩ : ∃ y : Nat → Int32, upd g_6 (Int32.toNatClampNeg 6) ((x1 >>> (8 &&& 31)) &&& 255) = y := ⟨_, rfl⟩
  have hP : va_P (dC, dI) vwCl [(a0, .inr (12, [.ref a1, .ref a2, .ref a3, .int 0, .ref a4, .int 6, .int 0, .int 0, .int 0, .int 0, .int (-1), .int 0, .int 0, .int 0, .int 0, .ref a5, .ref a6, .ref a7, .ref a8, .ref a9, .ref a10, .ref a11, .ref a12, .int 0, .int 0, .int 0, .int 0, .int 0, .ref a13, .int 0, .ref a14, .ref a15, .int 0, .int 0, .ref a16, .int 0, .ref a17, .ref a18, .int 0, .int (-1), .ref a19, .ref a20, .ref a21, .int 0, .ref a22, .ref a23, .ref a24, .ref a25, .ref a26, .ref a27, .ref a28, .ref a29, .ref a30, .int 0, .int 0, .ref a31])), (a4, .inl (cI, 600, .inl g_7))] H := by rw [eg_7] at hP; exact hP
  have hD : va_D A [(a0, .inr (12, [.ref a1, .ref a2, .ref a3, .int 0, .ref a4, .int 6, .int 0, .int 0, .int 0, .int 0, .int (-1), .int 0, .int 0, .int 0, .int 0, .ref a5, .ref a6, .ref a7, .ref a8, .ref a9, .ref a10, .ref a11, .ref a12, .int 0, .int 0, .int 0, .int 0, .int 0, .ref a13, .int 0, .ref a14, .ref a15, .int 0, .int 0, .ref a16, .int 0, .ref a17, .ref a18, .int 0, .int (-1), .ref a19, .ref a20, .ref a21, .int 0, .ref a22, .ref a23, .ref a24, .ref a25, .ref a26, .ref a27, .ref a28, .ref a29, .ref a30, .int 0, .int 0, .ref a31])), (a4, .inl (cI, 600, .inl g_7))] := by rw [eg_7] at hD; exact hD
  refine lv_aload_n hx hb dX12_feed_99 rfl (lv_at hl 2 rfl) ?_
  refine lv_dup hx hb dX12_feed_100 rfl ?_
  refine va_get (D := (dC, dI)) (ci := 12) (v := .int 6) (C := RX12) (T := TX12) (N := 56) hx hb hU inlX12 hown hK hP 0 rfl rfl 5 (by decide) (hU _ wd_218) (fun _ h9 => h9) rfl dX12_feed_101 ?_
  refine lv_iconst (v := 1) hx hb dX12_feed_104 (by decide) ?_
  refine lv_iadd hx hb dX12_feed_105 ?_
  refine tk_topi (y := 7) (by decide) ?_
  refine va_put (D := (dC, dI)) (ci := 12) (v := .int 7) (ty := .int) (C := RX12) (T := TX12) (N := 56) hx hb hU inlX12 tyX12 tyX12_ok nmX12 hown hK hP hD hS 0 rfl rfl 5 (by decide) (hU _ wd_218) (fun _ h9 => h9) rfl (by decide +kernel) rfl rfl (Nat.le_of_ble_eq_true rfl) dX12_feed_106 (fun H locs hP hD hS => ?_)
  have hP : va_P (dC, dI) vwCl [(a0, .inr (12, [.ref a1, .ref a2, .ref a3, .int 0, .ref a4, .int 7, .int 0, .int 0, .int 0, .int 0, .int (-1), .int 0, .int 0, .int 0, .int 0, .ref a5, .ref a6, .ref a7, .ref a8, .ref a9, .ref a10, .ref a11, .ref a12, .int 0, .int 0, .int 0, .int 0, .int 0, .ref a13, .int 0, .ref a14, .ref a15, .int 0, .int 0, .ref a16, .int 0, .ref a17, .ref a18, .int 0, .int (-1), .ref a19, .ref a20, .ref a21, .int 0, .ref a22, .ref a23, .ref a24, .ref a25, .ref a26, .ref a27, .ref a28, .ref a29, .ref a30, .int 0, .int 0, .ref a31])), (a4, .inl (cI, 600, .inl g_7))] H := hP
  have hD : va_D A [(a0, .inr (12, [.ref a1, .ref a2, .ref a3, .int 0, .ref a4, .int 7, .int 0, .int 0, .int 0, .int 0, .int (-1), .int 0, .int 0, .int 0, .int 0, .ref a5, .ref a6, .ref a7, .ref a8, .ref a9, .ref a10, .ref a11, .ref a12, .int 0, .int 0, .int 0, .int 0, .int 0, .ref a13, .int 0, .ref a14, .ref a15, .int 0, .int 0, .ref a16, .int 0, .ref a17, .ref a18, .int 0, .int (-1), .ref a19, .ref a20, .ref a21, .int 0, .ref a22, .ref a23, .ref a24, .ref a25, .ref a26, .ref a27, .ref a28, .ref a29, .ref a30, .int 0, .int 0, .ref a31])), (a4, .inl (cI, 600, .inl g_7))] := hD
  refine lv_iinc (v := 7) (lv' := [(6, .int 7), (7, .int x1), (0, .ref a0), (1, .int x0), (2, .int x1), (3, .int x2), (4, .int x3), (5, .int x4)]) hx hb dX12_feed_109 hl (k := 1) rfl (by decide) (by decide) rfl (fun ls hl => ?_)
  refine lv_goto (tgt := 18) hx hb dX12_feed_112 (by decide) ?_
  refine lv_iload hx hb dX12_feed_18 (lv_at hl 0 rfl) ?_
  refine lv_bipush (v := 20) hx hb dX12_feed_20 (by decide) ?_
  refine lv_icmp_ge (tgt := 115) hx hb dX12_feed_22 (by decide) (fun c9 => absurd c9 (by decide)) (fun _ => ?_)
  refine lv_iload hx hb dX12_feed_25 (lv_at hl 0 rfl) ?_
  refine lv_iconst (v := 4) hx hb dX12_feed_27 (by decide) ?_
  refine lv_icmp_ge (tgt := 35) hx hb dX12_feed_28 (by decide) (fun _ => ?_) (fun c9 => absurd (by decide) c9) 
  refine lv_iload hx hb dX12_feed_35 (lv_at hl 0 rfl) ?_
  refine lv_bipush (v := 8) hx hb dX12_feed_37 (by decide) ?_
  refine lv_icmp_ge (tgt := 46) hx hb dX12_feed_39 (by decide) (fun c9 => absurd c9 (by decide)) (fun _ => ?_)
  refine lv_iload_n hx hb dX12_feed_42 rfl (lv_at hl 4 rfl) ?_
  refine lv_goto (tgt := 71) hx hb dX12_feed_43 (by decide) ?_
  refine lv_istore (lv' := [(7, .int x1), (6, .int 7), (0, .ref a0), (1, .int x0), (2, .int x1), (3, .int x2), (4, .int x3), (5, .int x4)]) hx hb dX12_feed_71 hl (by decide) rfl (fun ls hl => ?_)
  refine lv_aload_n hx hb dX12_feed_73 rfl (lv_at hl 2 rfl) ?_
  refine va_get (D := (dC, dI)) (ci := 12) (v := .ref a4) (C := RX12) (T := TX12) (N := 56) hx hb hU inlX12 hown hK hP 0 rfl rfl 4 (by decide) (hU _ wd_172) (fun _ h9 => h9) rfl dX12_feed_74 ?_
  refine lv_aload_n hx hb dX12_feed_77 rfl (lv_at hl 2 rfl) ?_
  refine va_get (D := (dC, dI)) (ci := 12) (v := .int 7) (C := RX12) (T := TX12) (N := 56) hx hb hU inlX12 hown hK hP 0 rfl rfl 5 (by decide) (hU _ wd_218) (fun _ h9 => h9) rfl dX12_feed_78 ?_
  refine lv_iload hx hb dX12_feed_81 (lv_at hl 0 rfl) ?_
  refine lv_bipush (v := 24) hx hb dX12_feed_83 (by decide) ?_
  refine lv_bipush (v := 8) hx hb dX12_feed_85 (by decide) ?_
  refine lv_iload hx hb dX12_feed_87 (lv_at hl 1 rfl) ?_
  refine lv_iconst (v := 4) hx hb dX12_feed_89 (by decide) ?_
  refine lv_irem hx hb dX12_feed_90 (by decide) ?_
  refine tk_topi (y := 3) (by decide) ?_
  refine lv_imul hx hb dX12_feed_91 ?_
  refine tk_topi (y := 24) (by decide) ?_
  refine lv_isub hx hb dX12_feed_92 ?_
  refine tk_topi (y := 0) (by decide) ?_
  refine lv_ishr hx hb dX12_feed_93 ?_
  refine lv_sipush (v := 255) hx hb dX12_feed_94 (by decide) ?_
  refine lv_iand hx hb dX12_feed_97 ?_
  refine va_iast hx hb hK hP hD hS 1 0 rfl rfl (vp_in_nI (n := 7) (by decide) (by decide)) dX12_feed_98 (fun H locs hP hD hS => ?_)
  obtain ⟨g_8, eg_8⟩ : ∃ y : Nat → Int32, upd g_7 (Int32.toNatClampNeg 7) ((x1 >>> (0 &&& 31)) &&& 255) = y := ⟨_, rfl⟩
  have hP : va_P (dC, dI) vwCl [(a0, .inr (12, [.ref a1, .ref a2, .ref a3, .int 0, .ref a4, .int 7, .int 0, .int 0, .int 0, .int 0, .int (-1), .int 0, .int 0, .int 0, .int 0, .ref a5, .ref a6, .ref a7, .ref a8, .ref a9, .ref a10, .ref a11, .ref a12, .int 0, .int 0, .int 0, .int 0, .int 0, .ref a13, .int 0, .ref a14, .ref a15, .int 0, .int 0, .ref a16, .int 0, .ref a17, .ref a18, .int 0, .int (-1), .ref a19, .ref a20, .ref a21, .int 0, .ref a22, .ref a23, .ref a24, .ref a25, .ref a26, .ref a27, .ref a28, .ref a29, .ref a30, .int 0, .int 0, .ref a31])), (a4, .inl (cI, 600, .inl g_8))] H := by rw [eg_8] at hP; exact hP
  have hD : va_D A [(a0, .inr (12, [.ref a1, .ref a2, .ref a3, .int 0, .ref a4, .int 7, .int 0, .int 0, .int 0, .int 0, .int (-1), .int 0, .int 0, .int 0, .int 0, .ref a5, .ref a6, .ref a7, .ref a8, .ref a9, .ref a10, .ref a11, .ref a12, .int 0, .int 0, .int 0, .int 0, .int 0, .ref a13, .int 0, .ref a14, .ref a15, .int 0, .int 0, .ref a16, .int 0, .ref a17, .ref a18, .int 0, .int (-1), .ref a19, .ref a20, .ref a21, .int 0, .ref a22, .ref a23, .ref a24, .ref a25, .ref a26, .ref a27, .ref a28, .ref a29, .ref a30, .int 0, .int 0, .ref a31])), (a4, .inl (cI, 600, .inl g_8))] := by rw [eg_8] at hD; exact hD
  refine lv_aload_n hx hb dX12_feed_99 rfl (lv_at hl 2 rfl) ?_
  refine lv_dup hx hb dX12_feed_100 rfl ?_
  refine va_get (D := (dC, dI)) (ci := 12) (v := .int 7) (C := RX12) (T := TX12) (N := 56) hx hb hU inlX12 hown hK hP 0 rfl rfl 5 (by decide) (hU _ wd_218) (fun _ h9 => h9) rfl dX12_feed_101 ?_
  refine lv_iconst (v := 1) hx hb dX12_feed_104 (by decide) ?_
  refine lv_iadd hx hb dX12_feed_105 ?_
  refine tk_topi (y := 8) (by decide) ?_
  refine va_put (D := (dC, dI)) (ci := 12) (v := .int 8) (ty := .int) (C := RX12) (T := TX12) (N := 56) hx hb hU inlX12 tyX12 tyX12_ok nmX12 hown hK hP hD hS 0 rfl rfl 5 (by decide) (hU _ wd_218) (fun _ h9 => h9) rfl (by decide +kernel) rfl rfl (Nat.le_of_ble_eq_true rfl) dX12_feed_106 (fun H locs hP hD hS => ?_)
  have hP : va_P (dC, dI) vwCl [(a0, .inr (12, [.ref a1, .ref a2, .ref a3, .int 0, .ref a4, .int 8, .int 0, .int 0, .int 0, .int 0, .int (-1), .int 0, .int 0, .int 0, .int 0, .ref a5, .ref a6, .ref a7, .ref a8, .ref a9, .ref a10, .ref a11, .ref a12, .int 0, .int 0, .int 0, .int 0, .int 0, .ref a13, .int 0, .ref a14, .ref a15, .int 0, .int 0, .ref a16, .int 0, .ref a17, .ref a18, .int 0, .int (-1), .ref a19, .ref a20, .ref a21, .int 0, .ref a22, .ref a23, .ref a24, .ref a25, .ref a26, .ref a27, .ref a28, .ref a29, .ref a30, .int 0, .int 0, .ref a31])), (a4, .inl (cI, 600, .inl g_8))] H := hP
  have hD : va_D A [(a0, .inr (12, [.ref a1, .ref a2, .ref a3, .int 0, .ref a4, .int 8, .int 0, .int 0, .int 0, .int 0, .int (-1), .int 0, .int 0, .int 0, .int 0, .ref a5, .ref a6, .ref a7, .ref a8, .ref a9, .ref a10, .ref a11, .ref a12, .int 0, .int 0, .int 0, .int 0, .int 0, .ref a13, .int 0, .ref a14, .ref a15, .int 0, .int 0, .ref a16, .int 0, .ref a17, .ref a18, .int 0, .int (-1), .ref a19, .ref a20, .ref a21, .int 0, .ref a22, .ref a23, .ref a24, .ref a25, .ref a26, .ref a27, .ref a28, .ref a29, .ref a30, .int 0, .int 0, .ref a31])), (a4, .inl (cI, 600, .inl g_8))] := hD
  refine lv_iinc (v := 8) (lv' := [(6, .int 8), (7, .int x1), (0, .ref a0), (1, .int x0), (2, .int x1), (3, .int x2), (4, .int x3), (5, .int x4)]) hx hb dX12_feed_109 hl (k := 1) rfl (by decide) (by decide) rfl (fun ls hl => ?_)
  refine lv_goto (tgt := 18) hx hb dX12_feed_112 (by decide) ?_
  refine lv_iload hx hb dX12_feed_18 (lv_at hl 0 rfl) ?_
  refine lv_bipush (v := 20) hx hb dX12_feed_20 (by decide) ?_
  refine lv_icmp_ge (tgt := 115) hx hb dX12_feed_22 (by decide) (fun c9 => absurd c9 (by decide)) (fun _ => ?_)
  refine lv_iload hx hb dX12_feed_25 (lv_at hl 0 rfl) ?_
  refine lv_iconst (v := 4) hx hb dX12_feed_27 (by decide) ?_
  refine lv_icmp_ge (tgt := 35) hx hb dX12_feed_28 (by decide) (fun _ => ?_) (fun c9 => absurd (by decide) c9) 
  refine lv_iload hx hb dX12_feed_35 (lv_at hl 0 rfl) ?_
  refine lv_bipush (v := 8) hx hb dX12_feed_37 (by decide) ?_
  refine lv_icmp_ge (tgt := 46) hx hb dX12_feed_39 (by decide) (fun _ => ?_) (fun c9 => absurd (by decide) c9) 
  refine lv_iload hx hb dX12_feed_46 (lv_at hl 0 rfl) ?_
  refine lv_bipush (v := 12) hx hb dX12_feed_48 (by decide) ?_
  refine lv_icmp_ge (tgt := 57) hx hb dX12_feed_50 (by decide) (fun c9 => absurd c9 (by decide)) (fun _ => ?_)
  refine lv_iload_n hx hb dX12_feed_53 rfl (lv_at hl 5 rfl) ?_
  refine lv_goto (tgt := 71) hx hb dX12_feed_54 (by decide) ?_
  refine lv_istore (lv' := [(7, .int x2), (6, .int 8), (0, .ref a0), (1, .int x0), (2, .int x1), (3, .int x2), (4, .int x3), (5, .int x4)]) hx hb dX12_feed_71 hl (by decide) rfl (fun ls hl => ?_)
  refine lv_aload_n hx hb dX12_feed_73 rfl (lv_at hl 2 rfl) ?_
  refine va_get (D := (dC, dI)) (ci := 12) (v := .ref a4) (C := RX12) (T := TX12) (N := 56) hx hb hU inlX12 hown hK hP 0 rfl rfl 4 (by decide) (hU _ wd_172) (fun _ h9 => h9) rfl dX12_feed_74 ?_
  refine lv_aload_n hx hb dX12_feed_77 rfl (lv_at hl 2 rfl) ?_
  refine va_get (D := (dC, dI)) (ci := 12) (v := .int 8) (C := RX12) (T := TX12) (N := 56) hx hb hU inlX12 hown hK hP 0 rfl rfl 5 (by decide) (hU _ wd_218) (fun _ h9 => h9) rfl dX12_feed_78 ?_
  refine lv_iload hx hb dX12_feed_81 (lv_at hl 0 rfl) ?_
  refine lv_bipush (v := 24) hx hb dX12_feed_83 (by decide) ?_
  refine lv_bipush (v := 8) hx hb dX12_feed_85 (by decide) ?_
  refine lv_iload hx hb dX12_feed_87 (lv_at hl 1 rfl) ?_
  refine lv_iconst (v := 4) hx hb dX12_feed_89 (by decide) ?_
  refine lv_irem hx hb dX12_feed_90 (by decide) ?_
  refine tk_topi (y := 0) (by decide) ?_
  refine lv_imul hx hb dX12_feed_91 ?_
  refine tk_topi (y := 0) (by decide) ?_
  refine lv_isub hx hb dX12_feed_92 ?_
  refine tk_topi (y := 24) (by decide) ?_
  refine lv_ishr hx hb dX12_feed_93 ?_
  refine lv_sipush (v := 255) hx hb dX12_feed_94 (by decide) ?_
  refine lv_iand hx hb dX12_feed_97 ?_
  refine va_iast hx hb hK hP hD hS 1 0 rfl rfl (vp_in_nI (n := 8) (by decide) (by decide)) dX12_feed_98 (fun H locs hP hD hS => ?_)
  obtain ⟨g_9, eg_9⟩ : ∃ y : Nat → Int32, upd g_8 (Int32.toNatClampNeg 8) ((x2 >>> (24 &&& 31)) &&& 255) = y := ⟨_, rfl⟩
  have hP : va_P (dC, dI) vwCl [(a0, .inr (12, [.ref a1, .ref a2, .ref a3, .int 0, .ref a4, .int 8, .int 0, .int 0, .int 0, .int 0, .int (-1), .int 0, .int 0, .int 0, .int 0, .ref a5, .ref a6, .ref a7, .ref a8, .ref a9, .ref a10, .ref a11, .ref a12, .int 0, .int 0, .int 0, .int 0, .int 0, .ref a13, .int 0, .ref a14, .ref a15, .int 0, .int 0, .ref a16, .int 0, .ref a17, .ref a18, .int 0, .int (-1), .ref a19, .ref a20, .ref a21, .int 0, .ref a22, .ref a23, .ref a24, .ref a25, .ref a26, .ref a27, .ref a28, .ref a29, .ref a30, .int 0, .int 0, .ref a31])), (a4, .inl (cI, 600, .inl g_9))] H := by rw [eg_9] at hP; exact hP
  have hD : va_D A [(a0, .inr (12, [.ref a1, .ref a2, .ref a3, .int 0, .ref a4, .int 8, .int 0, .int 0, .int 0, .int 0, .int (-1), .int 0, .int 0, .int 0, .int 0, .ref a5, .ref a6, .ref a7, .ref a8, .ref a9, .ref a10, .ref a11, .ref a12, .int 0, .int 0, .int 0, .int 0, .int 0, .ref a13, .int 0, .ref a14, .ref a15, .int 0, .int 0, .ref a16, .int 0, .ref a17, .ref a18, .int 0, .int (-1), .ref a19, .ref a20, .ref a21, .int 0, .ref a22, .ref a23, .ref a24, .ref a25, .ref a26, .ref a27, .ref a28, .ref a29, .ref a30, .int 0, .int 0, .ref a31])), (a4, .inl (cI, 600, .inl g_9))] := by rw [eg_9] at hD; exact hD
  refine lv_aload_n hx hb dX12_feed_99 rfl (lv_at hl 2 rfl) ?_
  refine lv_dup hx hb dX12_feed_100 rfl ?_
  refine va_get (D := (dC, dI)) (ci := 12) (v := .int 8) (C := RX12) (T := TX12) (N := 56) hx hb hU inlX12 hown hK hP 0 rfl rfl 5 (by decide) (hU _ wd_218) (fun _ h9 => h9) rfl dX12_feed_101 ?_
  refine lv_iconst (v := 1) hx hb dX12_feed_104 (by decide) ?_
  refine lv_iadd hx hb dX12_feed_105 ?_
  refine tk_topi (y := 9) (by decide) ?_
  refine va_put (D := (dC, dI)) (ci := 12) (v := .int 9) (ty := .int) (C := RX12) (T := TX12) (N := 56) hx hb hU inlX12 tyX12 tyX12_ok nmX12 hown hK hP hD hS 0 rfl rfl 5 (by decide) (hU _ wd_218) (fun _ h9 => h9) rfl (by decide +kernel) rfl rfl (Nat.le_of_ble_eq_true rfl) dX12_feed_106 (fun H locs hP hD hS => ?_)
  have hP : va_P (dC, dI) vwCl [(a0, .inr (12, [.ref a1, .ref a2, .ref a3, .int 0, .ref a4, .int 9, .int 0, .int 0, .int 0, .int 0, .int (-1), .int 0, .int 0, .int 0, .int 0, .ref a5, .ref a6, .ref a7, .ref a8, .ref a9, .ref a10, .ref a11, .ref a12, .int 0, .int 0, .int 0, .int 0, .int 0, .ref a13, .int 0, .ref a14, .ref a15, .int 0, .int 0, .ref a16, .int 0, .ref a17, .ref a18, .int 0, .int (-1), .ref a19, .ref a20, .ref a21, .int 0, .ref a22, .ref a23, .ref a24, .ref a25, .ref a26, .ref a27, .ref a28, .ref a29, .ref a30, .int 0, .int 0, .ref a31])), (a4, .inl (cI, 600, .inl g_9))] H := hP
  have hD : va_D A [(a0, .inr (12, [.ref a1, .ref a2, .ref a3, .int 0, .ref a4, .int 9, .int 0, .int 0, .int 0, .int 0, .int (-1), .int 0, .int 0, .int 0, .int 0, .ref a5, .ref a6, .ref a7, .ref a8, .ref a9, .ref a10, .ref a11, .ref a12, .int 0, .int 0, .int 0, .int 0, .int 0, .ref a13, .int 0, .ref a14, .ref a15, .int 0, .int 0, .ref a16, .int 0, .ref a17, .ref a18, .int 0, .int (-1), .ref a19, .ref a20, .ref a21, .int 0, .ref a22, .ref a23, .ref a24, .ref a25, .ref a26, .ref a27, .ref a28, .ref a29, .ref a30, .int 0, .int 0, .ref a31])), (a4, .inl (cI, 600, .inl g_9))] := hD
  refine lv_iinc (v := 9) (lv' := [(6, .int 9), (7, .int x2), (0, .ref a0), (1, .int x0), (2, .int x1), (3, .int x2), (4, .int x3), (5, .int x4)]) hx hb dX12_feed_109 hl (k := 1) rfl (by decide) (by decide) rfl (fun ls hl => ?_)
  refine lv_goto (tgt := 18) hx hb dX12_feed_112 (by decide) ?_
  refine lv_iload hx hb dX12_feed_18 (lv_at hl 0 rfl) ?_
  refine lv_bipush (v := 20) hx hb dX12_feed_20 (by decide) ?_
  refine lv_icmp_ge (tgt := 115) hx hb dX12_feed_22 (by decide) (fun c9 => absurd c9 (by decide)) (fun _ => ?_)
  refine lv_iload hx hb dX12_feed_25 (lv_at hl 0 rfl) ?_
  refine lv_iconst (v := 4) hx hb dX12_feed_27 (by decide) ?_
  refine lv_icmp_ge (tgt := 35) hx hb dX12_feed_28 (by decide) (fun _ => ?_) (fun c9 => absurd (by decide) c9) 
  refine lv_iload hx hb dX12_feed_35 (lv_at hl 0 rfl) ?_
  refine lv_bipush (v := 8) hx hb dX12_feed_37 (by decide) ?_
  refine lv_icmp_ge (tgt := 46) hx hb dX12_feed_39 (by decide) (fun _ => ?_) (fun c9 => absurd (by decide) c9) 
  refine lv_iload hx hb dX12_feed_46 (lv_at hl 0 rfl) ?_
  refine lv_bipush (v := 12) hx hb dX12_feed_48 (by decide) ?_
  refine lv_icmp_ge (tgt := 57) hx hb dX12_feed_50 (by decide) (fun c9 => absurd c9 (by decide)) (fun _ => ?_)
  refine lv_iload_n hx hb dX12_feed_53 rfl (lv_at hl 5 rfl) ?_
  refine lv_goto (tgt := 71) hx hb dX12_feed_54 (by decide) ?_
  refine lv_istore (lv' := [(7, .int x2), (6, .int 9), (0, .ref a0), (1, .int x0), (2, .int x1), (3, .int x2), (4, .int x3), (5, .int x4)]) hx hb dX12_feed_71 hl (by decide) rfl (fun ls hl => ?_)
  refine lv_aload_n hx hb dX12_feed_73 rfl (lv_at hl 2 rfl) ?_
  refine va_get (D := (dC, dI)) (ci := 12) (v := .ref a4) (C := RX12) (T := TX12) (N := 56) hx hb hU inlX12 hown hK hP 0 rfl rfl 4 (by decide) (hU _ wd_172) (fun _ h9 => h9) rfl dX12_feed_74 ?_
  refine lv_aload_n hx hb dX12_feed_77 rfl (lv_at hl 2 rfl) ?_
  refine va_get (D := (dC, dI)) (ci := 12) (v := .int 9) (C := RX12) (T := TX12) (N := 56) hx hb hU inlX12 hown hK hP 0 rfl rfl 5 (by decide) (hU _ wd_218) (fun _ h9 => h9) rfl dX12_feed_78 ?_
  refine lv_iload hx hb dX12_feed_81 (lv_at hl 0 rfl) ?_
  refine lv_bipush (v := 24) hx hb dX12_feed_83 (by decide) ?_
  refine lv_bipush (v := 8) hx hb dX12_feed_85 (by decide) ?_
  refine lv_iload hx hb dX12_feed_87 (lv_at hl 1 rfl) ?_
  refine lv_iconst (v := 4) hx hb dX12_feed_89 (by decide) ?_
  refine lv_irem hx hb dX12_feed_90 (by decide) ?_
  refine tk_topi (y := 1) (by decide) ?_
  refine lv_imul hx hb dX12_feed_91 ?_
  refine tk_topi (y := 8) (by decide) ?_
  refine lv_isub hx hb dX12_feed_92 ?_
  refine tk_topi (y := 16) (by decide) ?_
  refine lv_ishr hx hb dX12_feed_93 ?_
  refine lv_sipush (v := 255) hx hb dX12_feed_94 (by decide) ?_
  refine lv_iand hx hb dX12_feed_97 ?_
  refine va_iast hx hb hK hP hD hS 1 0 rfl rfl (vp_in_nI (n := 9) (by decide) (by decide)) dX12_feed_98 (fun H locs hP hD hS => ?_)
  obtain ⟨g_10, eg_10⟩ : ∃ y : Nat → Int32, upd g_9 (Int32.toNatClampNeg 9) ((x2 >>> (16 &&& 31)) &&& 255) = y := ⟨_, rfl⟩
  have hP : va_P (dC, dI) vwCl [(a0, .inr (12, [.ref a1, .ref a2, .ref a3, .int 0, .ref a4, .int 9, .int 0, .int 0, .int 0, .int 0, .int (-1), .int 0, .int 0, .int 0, .int 0, .ref a5, .ref a6, .ref a7, .ref a8, .ref a9, .ref a10, .ref a11, .ref a12, .int 0, .int 0, .int 0, .int 0, .int 0, .ref a13, .int 0, .ref a14, .ref a15, .int 0, .int 0, .ref a16, .int 0, .ref a17, .ref a18, .int 0, .int (-1), .ref a19, .ref a20, .ref a21, .int 0, .ref a22, .ref a23, .ref a24, .ref a25, .ref a26, .ref a27, .ref a28, .ref a29, .ref a30, .int 0, .int 0, .ref a31])), (a4, .inl (cI, 600, .inl g_10))] H := by rw [eg_10] at hP; exact hP
  have hD : va_D A [(a0, .inr (12, [.ref a1, .ref a2, .ref a3, .int 0, .ref a4, .int 9, .int 0, .int 0, .int 0, .int 0, .int (-1), .int 0, .int 0, .int 0, .int 0, .ref a5, .ref a6, .ref a7, .ref a8, .ref a9, .ref a10, .ref a11, .ref a12, .int 0, .int 0, .int 0, .int 0, .int 0, .ref a13, .int 0, .ref a14, .ref a15, .int 0, .int 0, .ref a16, .int 0, .ref a17, .ref a18, .int 0, .int (-1), .ref a19, .ref a20, .ref a21, .int 0, .ref a22, .ref a23, .ref a24, .ref a25, .ref a26, .ref a27, .ref a28, .ref a29, .ref a30, .int 0, .int 0, .ref a31])), (a4, .inl (cI, 600, .inl g_10))] := by rw [eg_10] at hD; exact hD
  refine lv_aload_n hx hb dX12_feed_99 rfl (lv_at hl 2 rfl) ?_
  refine lv_dup hx hb dX12_feed_100 rfl ?_
  refine va_get (D := (dC, dI)) (ci := 12) (v := .int 9) (C := RX12) (T := TX12) (N := 56) hx hb hU inlX12 hown hK hP 0 rfl rfl 5 (by decide) (hU _ wd_218) (fun _ h9 => h9) rfl dX12_feed_101 ?_
  refine lv_iconst (v := 1) hx hb dX12_feed_104 (by decide) ?_
  refine lv_iadd hx hb dX12_feed_105 ?_
  refine tk_topi (y := 10) (by decide) ?_
  refine va_put (D := (dC, dI)) (ci := 12) (v := .int 10) (ty := .int) (C := RX12) (T := TX12) (N := 56) hx hb hU inlX12 tyX12 tyX12_ok nmX12 hown hK hP hD hS 0 rfl rfl 5 (by decide) (hU _ wd_218) (fun _ h9 => h9) rfl (by decide +kernel) rfl rfl (Nat.le_of_ble_eq_true rfl) dX12_feed_106 (fun H locs hP hD hS => ?_)
  have hP : va_P (dC, dI) vwCl [(a0, .inr (12, [.ref a1, .ref a2, .ref a3, .int 0, .ref a4, .int 10, .int 0, .int 0, .int 0, .int 0, .int (-1), .int 0, .int 0, .int 0, .int 0, .ref a5, .ref a6, .ref a7, .ref a8, .ref a9, .ref a10, .ref a11, .ref a12, .int 0, .int 0, .int 0, .int 0, .int 0, .ref a13, .int 0, .ref a14, .ref a15, .int 0, .int 0, .ref a16, .int 0, .ref a17, .ref a18, .int 0, .int (-1), .ref a19, .ref a20, .ref a21, .int 0, .ref a22, .ref a23, .ref a24, .ref a25, .ref a26, .ref a27, .ref a28, .ref a29, .ref a30, .int 0, .int 0, .ref a31])), (a4, .inl (cI, 600, .inl g_10))] H := hP
  have hD : va_D A [(a0, .inr (12, [.ref a1, .ref a2, .ref a3, .int 0, .ref a4, .int 10, .int 0, .int 0, .int 0, .int 0, .int (-1), .int 0, .int 0, .int 0, .int 0, .ref a5, .ref a6, .ref a7, .ref a8, .ref a9, .ref a10, .ref a11, .ref a12, .int 0, .int 0, .int 0, .int 0, .int 0, .ref a13, .int 0, .ref a14, .ref a15, .int 0, .int 0, .ref a16, .int 0, .ref a17, .ref a18, .int 0, .int (-1), .ref a19, .ref a20, .ref a21, .int 0, .ref a22, .ref a23, .ref a24, .ref a25, .ref a26, .ref a27, .ref a28, .ref a29, .ref a30, .int 0, .int 0, .ref a31])), (a4, .inl (cI, 600, .inl g_10))] := hD
  refine lv_iinc (v := 10) (lv' := [(6, .int 10), (7, .int x2), (0, .ref a0), (1, .int x0), (2, .int x1), (3, .int x2), (4, .int x3), (5, .int x4)]) hx hb dX12_feed_109 hl (k := 1) rfl (by decide) (by decide) rfl (fun ls hl => ?_)
  refine lv_goto (tgt := 18) hx hb dX12_feed_112 (by decide) ?_
  refine lv_iload hx hb dX12_feed_18 (lv_at hl 0 rfl) ?_
  refine lv_bipush (v := 20) hx hb dX12_feed_20 (by decide) ?_
  refine lv_icmp_ge (tgt := 115) hx hb dX12_feed_22 (by decide) (fun c9 => absurd c9 (by decide)) (fun _ => ?_)
  refine lv_iload hx hb dX12_feed_25 (lv_at hl 0 rfl) ?_
  refine lv_iconst (v := 4) hx hb dX12_feed_27 (by decide) ?_
  refine lv_icmp_ge (tgt := 35) hx hb dX12_feed_28 (by decide) (fun _ => ?_) (fun c9 => absurd (by decide) c9) 
  refine lv_iload hx hb dX12_feed_35 (lv_at hl 0 rfl) ?_
  refine lv_bipush (v := 8) hx hb dX12_feed_37 (by decide) ?_
  refine lv_icmp_ge (tgt := 46) hx hb dX12_feed_39 (by decide) (fun _ => ?_) (fun c9 => absurd (by decide) c9) 
  refine lv_iload hx hb dX12_feed_46 (lv_at hl 0 rfl) ?_
  refine lv_bipush (v := 12) hx hb dX12_feed_48 (by decide) ?_
  refine lv_icmp_ge (tgt := 57) hx hb dX12_feed_50 (by decide) (fun c9 => absurd c9 (by decide)) (fun _ => ?_)
  refine lv_iload_n hx hb dX12_feed_53 rfl (lv_at hl 5 rfl) ?_
  refine lv_goto (tgt := 71) hx hb dX12_feed_54 (by decide) ?_
  refine lv_istore (lv' := [(7, .int x2), (6, .int 10), (0, .ref a0), (1, .int x0), (2, .int x1), (3, .int x2), (4, .int x3), (5, .int x4)]) hx hb dX12_feed_71 hl (by decide) rfl (fun ls hl => ?_)
  refine lv_aload_n hx hb dX12_feed_73 rfl (lv_at hl 2 rfl) ?_
  refine va_get (D := (dC, dI)) (ci := 12) (v := .ref a4) (C := RX12) (T := TX12) (N := 56) hx hb hU inlX12 hown hK hP 0 rfl rfl 4 (by decide) (hU _ wd_172) (fun _ h9 => h9) rfl dX12_feed_74 ?_
  refine lv_aload_n hx hb dX12_feed_77 rfl (lv_at hl 2 rfl) ?_
  refine va_get (D := (dC, dI)) (ci := 12) (v := .int 10) (C := RX12) (T := TX12) (N := 56) hx hb hU inlX12 hown hK hP 0 rfl rfl 5 (by decide) (hU _ wd_218) (fun _ h9 => h9) rfl dX12_feed_78 ?_
  refine lv_iload hx hb dX12_feed_81 (lv_at hl 0 rfl) ?_
  refine lv_bipush (v := 24) hx hb dX12_feed_83 (by decide) ?_
  refine lv_bipush (v := 8) hx hb dX12_feed_85 (by decide) ?_
  refine lv_iload hx hb dX12_feed_87 (lv_at hl 1 rfl) ?_
  refine lv_iconst (v := 4) hx hb dX12_feed_89 (by decide) ?_
  refine lv_irem hx hb dX12_feed_90 (by decide) ?_
  refine tk_topi (y := 2) (by decide) ?_
  refine lv_imul hx hb dX12_feed_91 ?_
  refine tk_topi (y := 16) (by decide) ?_
  refine lv_isub hx hb dX12_feed_92 ?_
  refine tk_topi (y := 8) (by decide) ?_
  refine lv_ishr hx hb dX12_feed_93 ?_
  refine lv_sipush (v := 255) hx hb dX12_feed_94 (by decide) ?_
  refine lv_iand hx hb dX12_feed_97 ?_
  refine va_iast hx hb hK hP hD hS 1 0 rfl rfl (vp_in_nI (n := 10) (by decide) (by decide)) dX12_feed_98 (fun H locs hP hD hS => ?_)
  obtain ⟨g_11, eg_11⟩ : ∃ y : Nat → Int32, upd g_10 (Int32.toNatClampNeg 10) ((x2 >>> (8 &&& 31)) &&& 255) = y := ⟨_, rfl⟩
  have hP : va_P (dC, dI) vwCl [(a0, .inr (12, [.ref a1, .ref a2, .ref a3, .int 0, .ref a4, .int 10, .int 0, .int 0, .int 0, .int 0, .int (-1), .int 0, .int 0, .int 0, .int 0, .ref a5, .ref a6, .ref a7, .ref a8, .ref a9, .ref a10, .ref a11, .ref a12, .int 0, .int 0, .int 0, .int 0, .int 0, .ref a13, .int 0, .ref a14, .ref a15, .int 0, .int 0, .ref a16, .int 0, .ref a17, .ref a18, .int 0, .int (-1), .ref a19, .ref a20, .ref a21, .int 0, .ref a22, .ref a23, .ref a24, .ref a25, .ref a26, .ref a27, .ref a28, .ref a29, .ref a30, .int 0, .int 0, .ref a31])), (a4, .inl (cI, 600, .inl g_11))] H := by rw [eg_11] at hP; exact hP
  have hD : va_D A [(a0, .inr (12, [.ref a1, .ref a2, .ref a3, .int 0, .ref a4, .int 10, .int 0, .int 0, .int 0, .int 0, .int (-1), .int 0, .int 0, .int 0, .int 0, .ref a5, .ref a6, .ref a7, .ref a8, .ref a9, .ref a10, .ref a11, .ref a12, .int 0, .int 0, .int 0, .int 0, .int 0, .ref a13, .int 0, .ref a14, .ref a15, .int 0, .int 0, .ref a16, .int 0, .ref a17, .ref a18, .int 0, .int (-1), .ref a19, .ref a20, .ref a21, .int 0, .ref a22, .ref a23, .ref a24, .ref a25, .ref a26, .ref a27, .ref a28, .ref a29, .ref a30, .int 0, .int 0, .ref a31])), (a4, .inl (cI, 600, .inl g_11))] := by rw [eg_11] at hD; exact hD
  refine lv_aload_n hx hb dX12_feed_99 rfl (lv_at hl 2 rfl) ?_
  refine lv_dup hx hb dX12_feed_100 rfl ?_
  refine va_get (D := (dC, dI)) (ci := 12) (v := .int 10) (C := RX12) (T := TX12) (N := 56) hx hb hU inlX12 hown hK hP 0 rfl rfl 5 (by decide) (hU _ wd_218) (fun _ h9 => h9) rfl dX12_feed_101 ?_
  refine lv_iconst (v := 1) hx hb dX12_feed_104 (by decide) ?_
  refine lv_iadd hx hb dX12_feed_105 ?_
  refine tk_topi (y := 11) (by decide) ?_
  refine va_put (D := (dC, dI)) (ci := 12) (v := .int 11) (ty := .int) (C := RX12) (T := TX12) (N := 56) hx hb hU inlX12 tyX12 tyX12_ok nmX12 hown hK hP hD hS 0 rfl rfl 5 (by decide) (hU _ wd_218) (fun _ h9 => h9) rfl (by decide +kernel) rfl rfl (Nat.le_of_ble_eq_true rfl) dX12_feed_106 (fun H locs hP hD hS => ?_)
  have hP : va_P (dC, dI) vwCl [(a0, .inr (12, [.ref a1, .ref a2, .ref a3, .int 0, .ref a4, .int 11, .int 0, .int 0, .int 0, .int 0, .int (-1), .int 0, .int 0, .int 0, .int 0, .ref a5, .ref a6, .ref a7, .ref a8, .ref a9, .ref a10, .ref a11, .ref a12, .int 0, .int 0, .int 0, .int 0, .int 0, .ref a13, .int 0, .ref a14, .ref a15, .int 0, .int 0, .ref a16, .int 0, .ref a17, .ref a18, .int 0, .int (-1), .ref a19, .ref a20, .ref a21, .int 0, .ref a22, .ref a23, .ref a24, .ref a25, .ref a26, .ref a27, .ref a28, .ref a29, .ref a30, .int 0, .int 0, .ref a31])), (a4, .inl (cI, 600, .inl g_11))] H := hP
  have hD : va_D A [(a0, .inr (12, [.ref a1, .ref a2, .ref a3, .int 0, .ref a4, .int 11, .int 0, .int 0, .int 0, .int 0, .int (-1), .int 0, .int 0, .int 0, .int 0, .ref a5, .ref a6, .ref a7, .ref a8, .ref a9, .ref a10, .ref a11, .ref a12, .int 0, .int 0, .int 0, .int 0, .int 0, .ref a13, .int 0, .ref a14, .ref a15, .int 0, .int 0, .ref a16, .int 0, .ref a17, .ref a18, .int 0, .int (-1), .ref a19, .ref a20, .ref a21, .int 0, .ref a22, .ref a23, .ref a24, .ref a25, .ref a26, .ref a27, .ref a28, .ref a29, .ref a30, .int 0, .int 0, .ref a31])), (a4, .inl (cI, 600, .inl g_11))] := hD
  refine lv_iinc (v := 11) (lv' := [(6, .int 11), (7, .int x2), (0, .ref a0), (1, .int x0), (2, .int x1), (3, .int x2), (4, .int x3), (5, .int x4)]) hx hb dX12_feed_109 hl (k := 1) rfl (by decide) (by decide) rfl (fun ls hl => ?_)
  refine lv_goto (tgt := 18) hx hb dX12_feed_112 (by decide) ?_
  refine lv_iload hx hb dX12_feed_18 (lv_at hl 0 rfl) ?_
  refine lv_bipush (v := 20) hx hb dX12_feed_20 (by decide) ?_
  refine lv_icmp_ge (tgt := 115) hx hb dX12_feed_22 (by decide) (fun c9 => absurd c9 (by decide)) (fun _ => ?_)
  refine lv_iload hx hb dX12_feed_25 (lv_at hl 0 rfl) ?_
  refine lv_iconst (v := 4) hx hb dX12_feed_27 (by decide) ?_
  refine lv_icmp_ge (tgt := 35) hx hb dX12_feed_28 (by decide) (fun _ => ?_) (fun c9 => absurd (by decide) c9) 
  refine lv_iload hx hb dX12_feed_35 (lv_at hl 0 rfl) ?_
  refine lv_bipush (v := 8) hx hb dX12_feed_37 (by decide) ?_
  refine lv_icmp_ge (tgt := 46) hx hb dX12_feed_39 (by decide) (fun _ => ?_) (fun c9 => absurd (by decide) c9) 
  refine lv_iload hx hb dX12_feed_46 (lv_at hl 0 rfl) ?_
  refine lv_bipush (v := 12) hx hb dX12_feed_48 (by decide) ?_
  refine lv_icmp_ge (tgt := 57) hx hb dX12_feed_50 (by decide) (fun c9 => absurd c9 (by decide)) (fun _ => ?_)
  refine lv_iload_n hx hb dX12_feed_53 rfl (lv_at hl 5 rfl) ?_
  refine lv_goto (tgt := 71) hx hb dX12_feed_54 (by decide) ?_
  refine lv_istore (lv' := [(7, .int x2), (6, .int 11), (0, .ref a0), (1, .int x0), (2, .int x1), (3, .int x2), (4, .int x3), (5, .int x4)]) hx hb dX12_feed_71 hl (by decide) rfl (fun ls hl => ?_)
  refine lv_aload_n hx hb dX12_feed_73 rfl (lv_at hl 2 rfl) ?_
  refine va_get (D := (dC, dI)) (ci := 12) (v := .ref a4) (C := RX12) (T := TX12) (N := 56) hx hb hU inlX12 hown hK hP 0 rfl rfl 4 (by decide) (hU _ wd_172) (fun _ h9 => h9) rfl dX12_feed_74 ?_
  refine lv_aload_n hx hb dX12_feed_77 rfl (lv_at hl 2 rfl) ?_
  refine va_get (D := (dC, dI)) (ci := 12) (v := .int 11) (C := RX12) (T := TX12) (N := 56) hx hb hU inlX12 hown hK hP 0 rfl rfl 5 (by decide) (hU _ wd_218) (fun _ h9 => h9) rfl dX12_feed_78 ?_
  refine lv_iload hx hb dX12_feed_81 (lv_at hl 0 rfl) ?_
  refine lv_bipush (v := 24) hx hb dX12_feed_83 (by decide) ?_
  refine lv_bipush (v := 8) hx hb dX12_feed_85 (by decide) ?_
  refine lv_iload hx hb dX12_feed_87 (lv_at hl 1 rfl) ?_
  refine lv_iconst (v := 4) hx hb dX12_feed_89 (by decide) ?_
  refine lv_irem hx hb dX12_feed_90 (by decide) ?_
  refine tk_topi (y := 3) (by decide) ?_
  refine lv_imul hx hb dX12_feed_91 ?_
  refine tk_topi (y := 24) (by decide) ?_
  refine lv_isub hx hb dX12_feed_92 ?_
  refine tk_topi (y := 0) (by decide) ?_
  refine lv_ishr hx hb dX12_feed_93 ?_
  refine lv_sipush (v := 255) hx hb dX12_feed_94 (by decide) ?_
  refine lv_iand hx hb dX12_feed_97 ?_
  refine va_iast hx hb hK hP hD hS 1 0 rfl rfl (vp_in_nI (n := 11) (by decide) (by decide)) dX12_feed_98 (fun H locs hP hD hS => ?_)
  obtain ⟨g_12, eg_12⟩ : ∃ y : Nat → Int32, upd g_11 (Int32.toNatClampNeg 11) ((x2 >>> (0 &&& 31)) &&& 255) = y := ⟨_, rfl⟩
  have hP : va_P (dC, dI) vwCl [(a0, .inr (12, [.ref a1, .ref a2, .ref a3, .int 0, .ref a4, .int 11, .int 0, .int 0, .int 0, .int 0, .int (-1), .int 0, .int 0, .int 0, .int 0, .ref a5, .ref a6, .ref a7, .ref a8, .ref a9, .ref a10, .ref a11, .ref a12, .int 0, .int 0, .int 0, .int 0, .int 0, .ref a13, .int 0, .ref a14, .ref a15, .int 0, .int 0, .ref a16, .int 0, .ref a17, .ref a18, .int 0, .int (-1), .ref a19, .ref a20, .ref a21, .int 0, .ref a22, .ref a23, .ref a24, .ref a25, .ref a26, .ref a27, .ref a28, .ref a29, .ref a30, .int 0, .int 0, .ref a31])), (a4, .inl (cI, 600, .inl g_12))] H := by rw [eg_12] at hP; exact hP
  have hD : va_D A [(a0, .inr (12, [.ref a1, .ref a2, .ref a3, .int 0, .ref a4, .int 11, .int 0, .int 0, .int 0, .int 0, .int (-1), .int 0, .int 0, .int 0, .int 0, .ref a5, .ref a6, .ref a7, .ref a8, .ref a9, .ref a10, .ref a11, .ref a12, .int 0, .int 0, .int 0, .int 0, .int 0, .ref a13, .int 0, .ref a14, .ref a15, .int 0, .int 0, .ref a16, .int 0, .ref a17, .ref a18, .int 0, .int (-1), .ref a19, .ref a20, .ref a21, .int 0, .ref a22, .ref a23, .ref a24, .ref a25, .ref a26, .ref a27, .ref a28, .ref a29, .ref a30, .int 0, .int 0, .ref a31])), (a4, .inl (cI, 600, .inl g_12))] := by rw [eg_12] at hD; exact hD
  refine lv_aload_n hx hb dX12_feed_99 rfl (lv_at hl 2 rfl) ?_
  refine lv_dup hx hb dX12_feed_100 rfl ?_
  refine va_get (D := (dC, dI)) (ci := 12) (v := .int 11) (C := RX12) (T := TX12) (N := 56) hx hb hU inlX12 hown hK hP 0 rfl rfl 5 (by decide) (hU _ wd_218) (fun _ h9 => h9) rfl dX12_feed_101 ?_
  refine lv_iconst (v := 1) hx hb dX12_feed_104 (by decide) ?_
  refine lv_iadd hx hb dX12_feed_105 ?_
  refine tk_topi (y := 12) (by decide) ?_
  refine va_put (D := (dC, dI)) (ci := 12) (v := .int 12) (ty := .int) (C := RX12) (T := TX12) (N := 56) hx hb hU inlX12 tyX12 tyX12_ok nmX12 hown hK hP hD hS 0 rfl rfl 5 (by decide) (hU _ wd_218) (fun _ h9 => h9) rfl (by decide +kernel) rfl rfl (Nat.le_of_ble_eq_true rfl) dX12_feed_106 (fun H locs hP hD hS => ?_)
  have hP : va_P (dC, dI) vwCl [(a0, .inr (12, [.ref a1, .ref a2, .ref a3, .int 0, .ref a4, .int 12, .int 0, .int 0, .int 0, .int 0, .int (-1), .int 0, .int 0, .int 0, .int 0, .ref a5, .ref a6, .ref a7, .ref a8, .ref a9, .ref a10, .ref a11, .ref a12, .int 0, .int 0, .int 0, .int 0, .int 0, .ref a13, .int 0, .ref a14, .ref a15, .int 0, .int 0, .ref a16, .int 0, .ref a17, .ref a18, .int 0, .int (-1), .ref a19, .ref a20, .ref a21, .int 0, .ref a22, .ref a23, .ref a24, .ref a25, .ref a26, .ref a27, .ref a28, .ref a29, .ref a30, .int 0, .int 0, .ref a31])), (a4, .inl (cI, 600, .inl g_12))] H := hP
  have hD : va_D A [(a0, .inr (12, [.ref a1, .ref a2, .ref a3, .int 0, .ref a4, .int 12, .int 0, .int 0, .int 0, .int 0, .int (-1), .int 0, .int 0, .int 0, .int 0, .ref a5, .ref a6, .ref a7, .ref a8, .ref a9, .ref a10, .ref a11, .ref a12, .int 0, .int 0, .int 0, .int 0, .int 0, .ref a13, .int 0, .ref a14, .ref a15, .int 0, .int 0, .ref a16, .int 0, .ref a17, .ref a18, .int 0, .int (-1), .ref a19, .ref a20, .ref a21, .int 0, .ref a22, .ref a23, .ref a24, .ref a25, .ref a26, .ref a27, .ref a28, .ref a29, .ref a30, .int 0, .int 0, .ref a31])), (a4, .inl (cI, 600, .inl g_12))] := hD
  refine lv_iinc (v := 12) (lv' := [(6, .int 12), (7, .int x2), (0, .ref a0), (1, .int x0), (2, .int x1), (3, .int x2), (4, .int x3), (5, .int x4)]) hx hb dX12_feed_109 hl (k := 1) rfl (by decide) (by decide) rfl (fun ls hl => ?_)
  refine lv_goto (tgt := 18) hx hb dX12_feed_112 (by decide) ?_
  refine lv_iload hx hb dX12_feed_18 (lv_at hl 0 rfl) ?_
  refine lv_bipush (v := 20) hx hb dX12_feed_20 (by decide) ?_
  refine lv_icmp_ge (tgt := 115) hx hb dX12_feed_22 (by decide) (fun c9 => absurd c9 (by decide)) (fun _ => ?_)
  refine lv_iload hx hb dX12_feed_25 (lv_at hl 0 rfl) ?_
  refine lv_iconst (v := 4) hx hb dX12_feed_27 (by decide) ?_
  refine lv_icmp_ge (tgt := 35) hx hb dX12_feed_28 (by decide) (fun _ => ?_) (fun c9 => absurd (by decide) c9) 
  refine lv_iload hx hb dX12_feed_35 (lv_at hl 0 rfl) ?_
  refine lv_bipush (v := 8) hx hb dX12_feed_37 (by decide) ?_
  refine lv_icmp_ge (tgt := 46) hx hb dX12_feed_39 (by decide) (fun _ => ?_) (fun c9 => absurd (by decide) c9) 
  refine lv_iload hx hb dX12_feed_46 (lv_at hl 0 rfl) ?_
  refine lv_bipush (v := 12) hx hb dX12_feed_48 (by decide) ?_
  refine lv_icmp_ge (tgt := 57) hx hb dX12_feed_50 (by decide) (fun _ => ?_) (fun c9 => absurd (by decide) c9) 
  refine lv_iload hx hb dX12_feed_57 (lv_at hl 0 rfl) ?_
  refine lv_bipush (v := 16) hx hb dX12_feed_59 (by decide) ?_
  refine lv_icmp_ge (tgt := 69) hx hb dX12_feed_61 (by decide) (fun c9 => absurd c9 (by decide)) (fun _ => ?_)
  refine lv_iload hx hb dX12_feed_64 (lv_at hl 6 rfl) ?_
  refine lv_goto (tgt := 71) hx hb dX12_feed_66 (by decide) ?_
  refine lv_istore (lv' := [(7, .int x3), (6, .int 12), (0, .ref a0), (1, .int x0), (2, .int x1), (3, .int x2), (4, .int x3), (5, .int x4)]) hx hb dX12_feed_71 hl (by decide) rfl (fun ls hl => ?_)
  refine lv_aload_n hx hb dX12_feed_73 rfl (lv_at hl 2 rfl) ?_
  refine va_get (D := (dC, dI)) (ci := 12) (v := .ref a4) (C := RX12) (T := TX12) (N := 56) hx hb hU inlX12 hown hK hP 0 rfl rfl 4 (by decide) (hU _ wd_172) (fun _ h9 => h9) rfl dX12_feed_74 ?_
  refine lv_aload_n hx hb dX12_feed_77 rfl (lv_at hl 2 rfl) ?_
  refine va_get (D := (dC, dI)) (ci := 12) (v := .int 12) (C := RX12) (T := TX12) (N := 56) hx hb hU inlX12 hown hK hP 0 rfl rfl 5 (by decide) (hU _ wd_218) (fun _ h9 => h9) rfl dX12_feed_78 ?_
  refine lv_iload hx hb dX12_feed_81 (lv_at hl 0 rfl) ?_
  refine lv_bipush (v := 24) hx hb dX12_feed_83 (by decide) ?_
  refine lv_bipush (v := 8) hx hb dX12_feed_85 (by decide) ?_
  refine lv_iload hx hb dX12_feed_87 (lv_at hl 1 rfl) ?_
  refine lv_iconst (v := 4) hx hb dX12_feed_89 (by decide) ?_
  refine lv_irem hx hb dX12_feed_90 (by decide) ?_
  refine tk_topi (y := 0) (by decide) ?_
  refine lv_imul hx hb dX12_feed_91 ?_
  refine tk_topi (y := 0) (by decide) ?_
  refine lv_isub hx hb dX12_feed_92 ?_
  refine tk_topi (y := 24) (by decide) ?_
  refine lv_ishr hx hb dX12_feed_93 ?_
  refine lv_sipush (v := 255) hx hb dX12_feed_94 (by decide) ?_
  refine lv_iand hx hb dX12_feed_97 ?_
  refine va_iast hx hb hK hP hD hS 1 0 rfl rfl (vp_in_nI (n := 12) (by decide) (by decide)) dX12_feed_98 (fun H locs hP hD hS => ?_)
  obtain ⟨g_13, eg_13⟩ : ∃ y : Nat → Int32, upd g_12 (Int32.toNatClampNeg 12) ((x3 >>> (24 &&& 31)) &&& 255) = y := ⟨_, rfl⟩
  have hP : va_P (dC, dI) vwCl [(a0, .inr (12, [.ref a1, .ref a2, .ref a3, .int 0, .ref a4, .int 12, .int 0, .int 0, .int 0, .int 0, .int (-1), .int 0, .int 0, .int 0, .int 0, .ref a5, .ref a6, .ref a7, .ref a8, .ref a9, .ref a10, .ref a11, .ref a12, .int 0, .int 0, .int 0, .int 0, .int 0, .ref a13, .int 0, .ref a14, .ref a15, .int 0, .int 0, .ref a16, .int 0, .ref a17, .ref a18, .int 0, .int (-1), .ref a19, .ref a20, .ref a21, .int 0, .ref a22, .ref a23, .ref a24, .ref a25, .ref a26, .ref a27, .ref a28, .ref a29, .ref a30, .int 0, .int 0, .ref a31])), (a4, .inl (cI, 600, .inl g_13))] H := by rw [eg_13] at hP; exact hP
  have hD : va_D A [(a0, .inr (12, [.ref a1, .ref a2, .ref a3, .int 0, .ref a4, .int 12, .int 0, .int 0, .int 0, .int 0, .int (-1), .int 0, .int 0, .int 0, .int 0, .ref a5, .ref a6, .ref a7, .ref a8, .ref a9, .ref a10, .ref a11, .ref a12, .int 0, .int 0, .int 0, .int 0, .int 0, .ref a13, .int 0, .ref a14, .ref a15, .int 0, .int 0, .ref a16, .int 0, .ref a17, .ref a18, .int 0, .int (-1), .ref a19, .ref a20, .ref a21, .int 0, .ref a22, .ref a23, .ref a24, .ref a25, .ref a26, .ref a27, .ref a28, .ref a29, .ref a30, .int 0, .int 0, .ref a31])), (a4, .inl (cI, 600, .inl g_13))] := by rw [eg_13] at hD; exact hD
  refine lv_aload_n hx hb dX12_feed_99 rfl (lv_at hl 2 rfl) ?_
  refine lv_dup hx hb dX12_feed_100 rfl ?_
  refine va_get (D := (dC, dI)) (ci := 12) (v := .int 12) (C := RX12) (T := TX12) (N := 56) hx hb hU inlX12 hown hK hP 0 rfl rfl 5 (by decide) (hU _ wd_218) (fun _ h9 => h9) rfl dX12_feed_101 ?_
  refine lv_iconst (v := 1) hx hb dX12_feed_104 (by decide) ?_
  refine lv_iadd hx hb dX12_feed_105 ?_
  refine tk_topi (y := 13) (by decide) ?_
  refine va_put (D := (dC, dI)) (ci := 12) (v := .int 13) (ty := .int) (C := RX12) (T := TX12) (N := 56) hx hb hU inlX12 tyX12 tyX12_ok nmX12 hown hK hP hD hS 0 rfl rfl 5 (by decide) (hU _ wd_218) (fun _ h9 => h9) rfl (by decide +kernel) rfl rfl (Nat.le_of_ble_eq_true rfl) dX12_feed_106 (fun H locs hP hD hS => ?_)
  have hP : va_P (dC, dI) vwCl [(a0, .inr (12, [.ref a1, .ref a2, .ref a3, .int 0, .ref a4, .int 13, .int 0, .int 0, .int 0, .int 0, .int (-1), .int 0, .int 0, .int 0, .int 0, .ref a5, .ref a6, .ref a7, .ref a8, .ref a9, .ref a10, .ref a11, .ref a12, .int 0, .int 0, .int 0, .int 0, .int 0, .ref a13, .int 0, .ref a14, .ref a15, .int 0, .int 0, .ref a16, .int 0, .ref a17, .ref a18, .int 0, .int (-1), .ref a19, .ref a20, .ref a21, .int 0, .ref a22, .ref a23, .ref a24, .ref a25, .ref a26, .ref a27, .ref a28, .ref a29, .ref a30, .int 0, .int 0, .ref a31])), (a4, .inl (cI, 600, .inl g_13))] H := hP
  have hD : va_D A [(a0, .inr (12, [.ref a1, .ref a2, .ref a3, .int 0, .ref a4, .int 13, .int 0, .int 0, .int 0, .int 0, .int (-1), .int 0, .int 0, .int 0, .int 0, .ref a5, .ref a6, .ref a7, .ref a8, .ref a9, .ref a10, .ref a11, .ref a12, .int 0, .int 0, .int 0, .int 0, .int 0, .ref a13, .int 0, .ref a14, .ref a15, .int 0, .int 0, .ref a16, .int 0, .ref a17, .ref a18, .int 0, .int (-1), .ref a19, .ref a20, .ref a21, .int 0, .ref a22, .ref a23, .ref a24, .ref a25, .ref a26, .ref a27, .ref a28, .ref a29, .ref a30, .int 0, .int 0, .ref a31])), (a4, .inl (cI, 600, .inl g_13))] := hD
  refine lv_iinc (v := 13) (lv' := [(6, .int 13), (7, .int x3), (0, .ref a0), (1, .int x0), (2, .int x1), (3, .int x2), (4, .int x3), (5, .int x4)]) hx hb dX12_feed_109 hl (k := 1) rfl (by decide) (by decide) rfl (fun ls hl => ?_)
  refine lv_goto (tgt := 18) hx hb dX12_feed_112 (by decide) ?_
  refine lv_iload hx hb dX12_feed_18 (lv_at hl 0 rfl) ?_
  refine lv_bipush (v := 20) hx hb dX12_feed_20 (by decide) ?_
  refine lv_icmp_ge (tgt := 115) hx hb dX12_feed_22 (by decide) (fun c9 => absurd c9 (by decide)) (fun _ => ?_)
  refine lv_iload hx hb dX12_feed_25 (lv_at hl 0 rfl) ?_
  refine lv_iconst (v := 4) hx hb dX12_feed_27 (by decide) ?_
  refine lv_icmp_ge (tgt := 35) hx hb dX12_feed_28 (by decide) (fun _ => ?_) (fun c9 => absurd (by decide) c9) 
  refine lv_iload hx hb dX12_feed_35 (lv_at hl 0 rfl) ?_
  refine lv_bipush (v := 8) hx hb dX12_feed_37 (by decide) ?_
  refine lv_icmp_ge (tgt := 46) hx hb dX12_feed_39 (by decide) (fun _ => ?_) (fun c9 => absurd (by decide) c9) 
  refine lv_iload hx hb dX12_feed_46 (lv_at hl 0 rfl) ?_
  refine lv_bipush (v := 12) hx hb dX12_feed_48 (by decide) ?_
  refine lv_icmp_ge (tgt := 57) hx hb dX12_feed_50 (by decide) (fun _ => ?_) (fun c9 => absurd (by decide) c9) 
  refine lv_iload hx hb dX12_feed_57 (lv_at hl 0 rfl) ?_
  refine lv_bipush (v := 16) hx hb dX12_feed_59 (by decide) ?_
  refine lv_icmp_ge (tgt := 69) hx hb dX12_feed_61 (by decide) (fun c9 => absurd c9 (by decide)) (fun _ => ?_)
  refine lv_iload hx hb dX12_feed_64 (lv_at hl 6 rfl) ?_
  refine lv_goto (tgt := 71) hx hb dX12_feed_66 (by decide) ?_
  refine lv_istore (lv' := [(7, .int x3), (6, .int 13), (0, .ref a0), (1, .int x0), (2, .int x1), (3, .int x2), (4, .int x3), (5, .int x4)]) hx hb dX12_feed_71 hl (by decide) rfl (fun ls hl => ?_)
  refine lv_aload_n hx hb dX12_feed_73 rfl (lv_at hl 2 rfl) ?_
  refine va_get (D := (dC, dI)) (ci := 12) (v := .ref a4) (C := RX12) (T := TX12) (N := 56) hx hb hU inlX12 hown hK hP 0 rfl rfl 4 (by decide) (hU _ wd_172) (fun _ h9 => h9) rfl dX12_feed_74 ?_
  refine lv_aload_n hx hb dX12_feed_77 rfl (lv_at hl 2 rfl) ?_
  refine va_get (D := (dC, dI)) (ci := 12) (v := .int 13) (C := RX12) (T := TX12) (N := 56) hx hb hU inlX12 hown hK hP 0 rfl rfl 5 (by decide) (hU _ wd_218) (fun _ h9 => h9) rfl dX12_feed_78 ?_
  refine lv_iload hx hb dX12_feed_81 (lv_at hl 0 rfl) ?_
  refine lv_bipush (v := 24) hx hb dX12_feed_83 (by decide) ?_
  refine lv_bipush (v := 8) hx hb dX12_feed_85 (by decide) ?_
  refine lv_iload hx hb dX12_feed_87 (lv_at hl 1 rfl) ?_
  refine lv_iconst (v := 4) hx hb dX12_feed_89 (by decide) ?_
  refine lv_irem hx hb dX12_feed_90 (by decide) ?_
  refine tk_topi (y := 1) (by decide) ?_
  refine lv_imul hx hb dX12_feed_91 ?_
  refine tk_topi (y := 8) (by decide) ?_
  refine lv_isub hx hb dX12_feed_92 ?_
  refine tk_topi (y := 16) (by decide) ?_
  refine lv_ishr hx hb dX12_feed_93 ?_
  refine lv_sipush (v := 255) hx hb dX12_feed_94 (by decide) ?_
  refine lv_iand hx hb dX12_feed_97 ?_
  refine va_iast hx hb hK hP hD hS 1 0 rfl rfl (vp_in_nI (n := 13) (by decide) (by decide)) dX12_feed_98 (fun H locs hP hD hS => ?_)
  obtain ⟨g_14, eg_14⟩ : ∃ y : Nat → Int32, upd g_13 (Int32.toNatClampNeg 13) ((x3 >>> (16 &&& 31)) &&& 255) = y := ⟨_, rfl⟩
  have hP : va_P (dC, dI) vwCl [(a0, .inr (12, [.ref a1, .ref a2, .ref a3, .int 0, .ref a4, .int 13, .int 0, .int 0, .int 0, .int 0, .int (-1), .int 0, .int 0, .int 0, .int 0, .ref a5, .ref a6, .ref a7, .ref a8, .ref a9, .ref a10, .ref a11, .ref a12, .int 0, .int 0, .int 0, .int 0, .int 0, .ref a13, .int 0, .ref a14, .ref a15, .int 0, .int 0, .ref a16, .int 0, .ref a17, .ref a18, .int 0, .int (-1), .ref a19, .ref a20, .ref a21, .int 0, .ref a22, .ref a23, .ref a24, .ref a25, .ref a26, .ref a27, .ref a28, .ref a29, .ref a30, .int 0, .int 0, .ref a31])), (a4, .inl (cI, 600, .inl g_14))] H := by rw [eg_14] at hP; exact hP
  have hD : va_D A [(a0, .inr (12, [.ref a1, .ref a2, .ref a3, .int 0, .ref a4, .int 13, .int 0, .int 0, .int 0, .int 0, .int (-1), .int 0, .int 0, .int 0, .int 0, .ref a5, .ref a6, .ref a7, .ref a8, .ref a9, .ref a10, .ref a11, .ref a12, .int 0, .int 0, .int 0, .int 0, .int 0, .ref a13, .int 0, .ref a14, .ref a15, .int 0, .int 0, .ref a16, .int 0, .ref a17, .ref a18, .int 0, .int (-1), .ref a19, .ref a20, .ref a21, .int 0, .ref a22, .ref a23, .ref a24, .ref a25, .ref a26, .ref a27, .ref a28, .ref a29, .ref a30, .int 0, .int 0, .ref a31])), (a4, .inl (cI, 600, .inl g_14))] := by rw [eg_14] at hD; exact hD
  refine lv_aload_n hx hb dX12_feed_99 rfl (lv_at hl 2 rfl) ?_
  refine lv_dup hx hb dX12_feed_100 rfl ?_
  refine va_get (D := (dC, dI)) (ci := 12) (v := .int 13) (C := RX12) (T := TX12) (N := 56) hx hb hU inlX12 hown hK hP 0 rfl rfl 5 (by decide) (hU _ wd_218) (fun _ h9 => h9) rfl dX12_feed_101 ?_
  refine lv_iconst (v := 1) hx hb dX12_feed_104 (by decide) ?_
  refine lv_iadd hx hb dX12_feed_105 ?_
  refine tk_topi (y := 14) (by decide) ?_
  refine va_put (D := (dC, dI)) (ci := 12) (v := .int 14) (ty := .int) (C := RX12) (T := TX12) (N := 56) hx hb hU inlX12 tyX12 tyX12_ok nmX12 hown hK hP hD hS 0 rfl rfl 5 (by decide) (hU _ wd_218) (fun _ h9 => h9) rfl (by decide +kernel) rfl rfl (Nat.le_of_ble_eq_true rfl) dX12_feed_106 (fun H locs hP hD hS => ?_)
  have hP : va_P (dC, dI) vwCl [(a0, .inr (12, [.ref a1, .ref a2, .ref a3, .int 0, .ref a4, .int 14, .int 0, .int 0, .int 0, .int 0, .int (-1), .int 0, .int 0, .int 0, .int 0, .ref a5, .ref a6, .ref a7, .ref a8, .ref a9, .ref a10, .ref a11, .ref a12, .int 0, .int 0, .int 0, .int 0, .int 0, .ref a13, .int 0, .ref a14, .ref a15, .int 0, .int 0, .ref a16, .int 0, .ref a17, .ref a18, .int 0, .int (-1), .ref a19, .ref a20, .ref a21, .int 0, .ref a22, .ref a23, .ref a24, .ref a25, .ref a26, .ref a27, .ref a28, .ref a29, .ref a30, .int 0, .int 0, .ref a31])), (a4, .inl (cI, 600, .inl g_14))] H := hP
  have hD : va_D A [(a0, .inr (12, [.ref a1, .ref a2, .ref a3, .int 0, .ref a4, .int 14, .int 0, .int 0, .int 0, .int 0, .int (-1), .int 0, .int 0, .int 0, .int 0, .ref a5, .ref a6, .ref a7, .ref a8, .ref a9, .ref a10, .ref a11, .ref a12, .int 0, .int 0, .int 0, .int 0, .int 0, .ref a13, .int 0, .ref a14, .ref a15, .int 0, .int 0, .ref a16, .int 0, .ref a17, .ref a18, .int 0, .int (-1), .ref a19, .ref a20, .ref a21, .int 0, .ref a22, .ref a23, .ref a24, .ref a25, .ref a26, .ref a27, .ref a28, .ref a29, .ref a30, .int 0, .int 0, .ref a31])), (a4, .inl (cI, 600, .inl g_14))] := hD
  refine lv_iinc (v := 14) (lv' := [(6, .int 14), (7, .int x3), (0, .ref a0), (1, .int x0), (2, .int x1), (3, .int x2), (4, .int x3), (5, .int x4)]) hx hb dX12_feed_109 hl (k := 1) rfl (by decide) (by decide) rfl (fun ls hl => ?_)
  refine lv_goto (tgt := 18) hx hb dX12_feed_112 (by decide) ?_
  refine lv_iload hx hb dX12_feed_18 (lv_at hl 0 rfl) ?_
  refine lv_bipush (v := 20) hx hb dX12_feed_20 (by decide) ?_
  refine lv_icmp_ge (tgt := 115) hx hb dX12_feed_22 (by decide) (fun c9 => absurd c9 (by decide)) (fun _ => ?_)
  refine lv_iload hx hb dX12_feed_25 (lv_at hl 0 rfl) ?_
  refine lv_iconst (v := 4) hx hb dX12_feed_27 (by decide) ?_
  refine lv_icmp_ge (tgt := 35) hx hb dX12_feed_28 (by decide) (fun _ => ?_) (fun c9 => absurd (by decide) c9) 
  refine lv_iload hx hb dX12_feed_35 (lv_at hl 0 rfl) ?_
  refine lv_bipush (v := 8) hx hb dX12_feed_37 (by decide) ?_
  refine lv_icmp_ge (tgt := 46) hx hb dX12_feed_39 (by decide) (fun _ => ?_) (fun c9 => absurd (by decide) c9) 
  refine lv_iload hx hb dX12_feed_46 (lv_at hl 0 rfl) ?_
  refine lv_bipush (v := 12) hx hb dX12_feed_48 (by decide) ?_
  refine lv_icmp_ge (tgt := 57) hx hb dX12_feed_50 (by decide) (fun _ => ?_) (fun c9 => absurd (by decide) c9) 
  refine lv_iload hx hb dX12_feed_57 (lv_at hl 0 rfl) ?_
  refine lv_bipush (v := 16) hx hb dX12_feed_59 (by decide) ?_
  refine lv_icmp_ge (tgt := 69) hx hb dX12_feed_61 (by decide) (fun c9 => absurd c9 (by decide)) (fun _ => ?_)
  refine lv_iload hx hb dX12_feed_64 (lv_at hl 6 rfl) ?_
  refine lv_goto (tgt := 71) hx hb dX12_feed_66 (by decide) ?_
  refine lv_istore (lv' := [(7, .int x3), (6, .int 14), (0, .ref a0), (1, .int x0), (2, .int x1), (3, .int x2), (4, .int x3), (5, .int x4)]) hx hb dX12_feed_71 hl (by decide) rfl (fun ls hl => ?_)
  refine lv_aload_n hx hb dX12_feed_73 rfl (lv_at hl 2 rfl) ?_
  refine va_get (D := (dC, dI)) (ci := 12) (v := .ref a4) (C := RX12) (T := TX12) (N := 56) hx hb hU inlX12 hown hK hP 0 rfl rfl 4 (by decide) (hU _ wd_172) (fun _ h9 => h9) rfl dX12_feed_74 ?_
  refine lv_aload_n hx hb dX12_feed_77 rfl (lv_at hl 2 rfl) ?_
  refine va_get (D := (dC, dI)) (ci := 12) (v := .int 14) (C := RX12) (T := TX12) (N := 56) hx hb hU inlX12 hown hK hP 0 rfl rfl 5 (by decide) (hU _ wd_218) (fun _ h9 => h9) rfl dX12_feed_78 ?_
  refine lv_iload hx hb dX12_feed_81 (lv_at hl 0 rfl) ?_
  refine lv_bipush (v := 24) hx hb dX12_feed_83 (by decide) ?_
  refine lv_bipush (v := 8) hx hb dX12_feed_85 (by decide) ?_
  refine lv_iload hx hb dX12_feed_87 (lv_at hl 1 rfl) ?_
  refine lv_iconst (v := 4) hx hb dX12_feed_89 (by decide) ?_
  refine lv_irem hx hb dX12_feed_90 (by decide) ?_
  refine tk_topi (y := 2) (by decide) ?_
  refine lv_imul hx hb dX12_feed_91 ?_
  refine tk_topi (y := 16) (by decide) ?_
  refine lv_isub hx hb dX12_feed_92 ?_
  refine tk_topi (y := 8) (by decide) ?_
  refine lv_ishr hx hb dX12_feed_93 ?_
  refine lv_sipush (v := 255) hx hb dX12_feed_94 (by decide) ?_
  refine lv_iand hx hb dX12_feed_97 ?_
  refine va_iast hx hb hK hP hD hS 1 0 rfl rfl (vp_in_nI (n := 14) (by decide) (by decide)) dX12_feed_98 (fun H locs hP hD hS => ?_)
  obtain ⟨g_15, eg_15⟩ : ∃ y : Nat → Int32, upd g_14 (Int32.toNatClampNeg 14) ((x3 >>> (8 &&& 31)) &&& 255) = y := ⟨_, rfl⟩
  have hP : va_P (dC, dI) vwCl [(a0, .inr (12, [.ref a1, .ref a2, .ref a3, .int 0, .ref a4, .int 14, .int 0, .int 0, .int 0, .int 0, .int (-1), .int 0, .int 0, .int 0, .int 0, .ref a5, .ref a6, .ref a7, .ref a8, .ref a9, .ref a10, .ref a11, .ref a12, .int 0, .int 0, .int 0, .int 0, .int 0, .ref a13, .int 0, .ref a14, .ref a15, .int 0, .int 0, .ref a16, .int 0, .ref a17, .ref a18, .int 0, .int (-1), .ref a19, .ref a20, .ref a21, .int 0, .ref a22, .ref a23, .ref a24, .ref a25, .ref a26, .ref a27, .ref a28, .ref a29, .ref a30, .int 0, .int 0, .ref a31])), (a4, .inl (cI, 600, .inl g_15))] H := by rw [eg_15] at hP; exact hP
  have hD : va_D A [(a0, .inr (12, [.ref a1, .ref a2, .ref a3, .int 0, .ref a4, .int 14, .int 0, .int 0, .int 0, .int 0, .int (-1), .int 0, .int 0, .int 0, .int 0, .ref a5, .ref a6, .ref a7, .ref a8, .ref a9, .ref a10, .ref a11, .ref a12, .int 0, .int 0, .int 0, .int 0, .int 0, .ref a13, .int 0, .ref a14, .ref a15, .int 0, .int 0, .ref a16, .int 0, .ref a17, .ref a18, .int 0, .int (-1), .ref a19, .ref a20, .ref a21, .int 0, .ref a22, .ref a23, .ref a24, .ref a25, .ref a26, .ref a27, .ref a28, .ref a29, .ref a30, .int 0, .int 0, .ref a31])), (a4, .inl (cI, 600, .inl g_15))] := by rw [eg_15] at hD; exact hD
  refine lv_aload_n hx hb dX12_feed_99 rfl (lv_at hl 2 rfl) ?_
  refine lv_dup hx hb dX12_feed_100 rfl ?_
  refine va_get (D := (dC, dI)) (ci := 12) (v := .int 14) (C := RX12) (T := TX12) (N := 56) hx hb hU inlX12 hown hK hP 0 rfl rfl 5 (by decide) (hU _ wd_218) (fun _ h9 => h9) rfl dX12_feed_101 ?_
  refine lv_iconst (v := 1) hx hb dX12_feed_104 (by decide) ?_
  refine lv_iadd hx hb dX12_feed_105 ?_
  refine tk_topi (y := 15) (by decide) ?_
  refine va_put (D := (dC, dI)) (ci := 12) (v := .int 15) (ty := .int) (C := RX12) (T := TX12) (N := 56) hx hb hU inlX12 tyX12 tyX12_ok nmX12 hown hK hP hD hS 0 rfl rfl 5 (by decide) (hU _ wd_218) (fun _ h9 => h9) rfl (by decide +kernel) rfl rfl (Nat.le_of_ble_eq_true rfl) dX12_feed_106 (fun H locs hP hD hS => ?_)
  have hP : va_P (dC, dI) vwCl [(a0, .inr (12, [.ref a1, .ref a2, .ref a3, .int 0, .ref a4, .int 15, .int 0, .int 0, .int 0, .int 0, .int (-1), .int 0, .int 0, .int 0, .int 0, .ref a5, .ref a6, .ref a7, .ref a8, .ref a9, .ref a10, .ref a11, .ref a12, .int 0, .int 0, .int 0, .int 0, .int 0, .ref a13, .int 0, .ref a14, .ref a15, .int 0, .int 0, .ref a16, .int 0, .ref a17, .ref a18, .int 0, .int (-1), .ref a19, .ref a20, .ref a21, .int 0, .ref a22, .ref a23, .ref a24, .ref a25, .ref a26, .ref a27, .ref a28, .ref a29, .ref a30, .int 0, .int 0, .ref a31])), (a4, .inl (cI, 600, .inl g_15))] H := hP
  have hD : va_D A [(a0, .inr (12, [.ref a1, .ref a2, .ref a3, .int 0, .ref a4, .int 15, .int 0, .int 0, .int 0, .int 0, .int (-1), .int 0, .int 0, .int 0, .int 0, .ref a5, .ref a6, .ref a7, .ref a8, .ref a9, .ref a10, .ref a11, .ref a12, .int 0, .int 0, .int 0, .int 0, .int 0, .ref a13, .int 0, .ref a14, .ref a15, .int 0, .int 0, .ref a16, .int 0, .ref a17, .ref a18, .int 0, .int (-1), .ref a19, .ref a20, .ref a21, .int 0, .ref a22, .ref a23, .ref a24, .ref a25, .ref a26, .ref a27, .ref a28, .ref a29, .ref a30, .int 0, .int 0, .ref a31])), (a4, .inl (cI, 600, .inl g_15))] := hD
  refine lv_iinc (v := 15) (lv' := [(6, .int 15), (7, .int x3), (0, .ref a0), (1, .int x0), (2, .int x1), (3, .int x2), (4, .int x3), (5, .int x4)]) hx hb dX12_feed_109 hl (k := 1) rfl (by decide) (by decide) rfl (fun ls hl => ?_)
  refine lv_goto (tgt := 18) hx hb dX12_feed_112 (by decide) ?_
  refine lv_iload hx hb dX12_feed_18 (lv_at hl 0 rfl) ?_
  refine lv_bipush (v := 20) hx hb dX12_feed_20 (by decide) ?_
  refine lv_icmp_ge (tgt := 115) hx hb dX12_feed_22 (by decide) (fun c9 => absurd c9 (by decide)) (fun _ => ?_)
  refine lv_iload hx hb dX12_feed_25 (lv_at hl 0 rfl) ?_
  refine lv_iconst (v := 4) hx hb dX12_feed_27 (by decide) ?_
  refine lv_icmp_ge (tgt := 35) hx hb dX12_feed_28 (by decide) (fun _ => ?_) (fun c9 => absurd (by decide) c9) 
  refine lv_iload hx hb dX12_feed_35 (lv_at hl 0 rfl) ?_
  refine lv_bipush (v := 8) hx hb dX12_feed_37 (by decide) ?_
  refine lv_icmp_ge (tgt := 46) hx hb dX12_feed_39 (by decide) (fun _ => ?_) (fun c9 => absurd (by decide) c9) 
  refine lv_iload hx hb dX12_feed_46 (lv_at hl 0 rfl) ?_
  refine lv_bipush (v := 12) hx hb dX12_feed_48 (by decide) ?_
  refine lv_icmp_ge (tgt := 57) hx hb dX12_feed_50 (by decide) (fun _ => ?_) (fun c9 => absurd (by decide) c9) 
  refine lv_iload hx hb dX12_feed_57 (lv_at hl 0 rfl) ?_
  refine lv_bipush (v := 16) hx hb dX12_feed_59 (by decide) ?_
  refine lv_icmp_ge (tgt := 69) hx hb dX12_feed_61 (by decide) (fun c9 => absurd c9 (by decide)) (fun _ => ?_)
  refine lv_iload hx hb dX12_feed_64 (lv_at hl 6 rfl) ?_
  refine lv_goto (tgt := 71) hx hb dX12_feed_66 (by decide) ?_
  refine lv_istore (lv' := [(7, .int x3), (6, .int 15), (0, .ref a0), (1, .int x0), (2, .int x1), (3, .int x2), (4, .int x3), (5, .int x4)]) hx hb dX12_feed_71 hl (by decide) rfl (fun ls hl => ?_)
  refine lv_aload_n hx hb dX12_feed_73 rfl (lv_at hl 2 rfl) ?_
  refine va_get (D := (dC, dI)) (ci := 12) (v := .ref a4) (C := RX12) (T := TX12) (N := 56) hx hb hU inlX12 hown hK hP 0 rfl rfl 4 (by decide) (hU _ wd_172) (fun _ h9 => h9) rfl dX12_feed_74 ?_
  refine lv_aload_n hx hb dX12_feed_77 rfl (lv_at hl 2 rfl) ?_
  refine va_get (D := (dC, dI)) (ci := 12) (v := .int 15) (C := RX12) (T := TX12) (N := 56) hx hb hU inlX12 hown hK hP 0 rfl rfl 5 (by decide) (hU _ wd_218) (fun _ h9 => h9) rfl dX12_feed_78 ?_
  refine lv_iload hx hb dX12_feed_81 (lv_at hl 0 rfl) ?_
  refine lv_bipush (v := 24) hx hb dX12_feed_83 (by decide) ?_
  refine lv_bipush (v := 8) hx hb dX12_feed_85 (by decide) ?_
  refine lv_iload hx hb dX12_feed_87 (lv_at hl 1 rfl) ?_
  refine lv_iconst (v := 4) hx hb dX12_feed_89 (by decide) ?_
  refine lv_irem hx hb dX12_feed_90 (by decide) ?_
  refine tk_topi (y := 3) (by decide) ?_
  refine lv_imul hx hb dX12_feed_91 ?_
  refine tk_topi (y := 24) (by decide) ?_
  refine lv_isub hx hb dX12_feed_92 ?_
  refine tk_topi (y := 0) (by decide) ?_
  refine lv_ishr hx hb dX12_feed_93 ?_
  refine lv_sipush (v := 255) hx hb dX12_feed_94 (by decide) ?_
  refine lv_iand hx hb dX12_feed_97 ?_
  refine va_iast hx hb hK hP hD hS 1 0 rfl rfl (vp_in_nI (n := 15) (by decide) (by decide)) dX12_feed_98 (fun H locs hP hD hS => ?_)
  obtain ⟨g_16, eg_16⟩ : ∃ y : Nat → Int32, upd g_15 (Int32.toNatClampNeg 15) ((x3 >>> (0 &&& 31)) &&& 255) = y := ⟨_, rfl⟩
  have hP : va_P (dC, dI) vwCl [(a0, .inr (12, [.ref a1, .ref a2, .ref a3, .int 0, .ref a4, .int 15, .int 0, .int 0, .int 0, .int 0, .int (-1), .int 0, .int 0, .int 0, .int 0, .ref a5, .ref a6, .ref a7, .ref a8, .ref a9, .ref a10, .ref a11, .ref a12, .int 0, .int 0, .int 0, .int 0, .int 0, .ref a13, .int 0, .ref a14, .ref a15, .int 0, .int 0, .ref a16, .int 0, .ref a17, .ref a18, .int 0, .int (-1), .ref a19, .ref a20, .ref a21, .int 0, .ref a22, .ref a23, .ref a24, .ref a25, .ref a26, .ref a27, .ref a28, .ref a29, .ref a30, .int 0, .int 0, .ref a31])), (a4, .inl (cI, 600, .inl g_16))] H := by rw [eg_16] at hP; exact hP
  have hD : va_D A [(a0, .inr (12, [.ref a1, .ref a2, .ref a3, .int 0, .ref a4, .int 15, .int 0, .int 0, .int 0, .int 0, .int (-1), .int 0, .int 0, .int 0, .int 0, .ref a5, .ref a6, .ref a7, .ref a8, .ref a9, .ref a10, .ref a11, .ref a12, .int 0, .int 0, .int 0, .int 0, .int 0, .ref a13, .int 0, .ref a14, .ref a15, .int 0, .int 0, .ref a16, .int 0, .ref a17, .ref a18, .int 0, .int (-1), .ref a19, .ref a20, .ref a21, .int 0, .ref a22, .ref a23, .ref a24, .ref a25, .ref a26, .ref a27, .ref a28, .ref a29, .ref a30, .int 0, .int 0, .ref a31])), (a4, .inl (cI, 600, .inl g_16))] := by rw [eg_16] at hD; exact hD
  refine lv_aload_n hx hb dX12_feed_99 rfl (lv_at hl 2 rfl) ?_
  refine lv_dup hx hb dX12_feed_100 rfl ?_
  refine va_get (D := (dC, dI)) (ci := 12) (v := .int 15) (C := RX12) (T := TX12) (N := 56) hx hb hU inlX12 hown hK hP 0 rfl rfl 5 (by decide) (hU _ wd_218) (fun _ h9 => h9) rfl dX12_feed_101 ?_
  refine lv_iconst (v := 1) hx hb dX12_feed_104 (by decide) ?_
  refine lv_iadd hx hb dX12_feed_105 ?_
  refine tk_topi (y := 16) (by decide) ?_
  refine va_put (D := (dC, dI)) (ci := 12) (v := .int 16) (ty := .int) (C := RX12) (T := TX12) (N := 56) hx hb hU inlX12 tyX12 tyX12_ok nmX12 hown hK hP hD hS 0 rfl rfl 5 (by decide) (hU _ wd_218) (fun _ h9 => h9) rfl (by decide +kernel) rfl rfl (Nat.le_of_ble_eq_true rfl) dX12_feed_106 (fun H locs hP hD hS => ?_)
  have hP : va_P (dC, dI) vwCl [(a0, .inr (12, [.ref a1, .ref a2, .ref a3, .int 0, .ref a4, .int 16, .int 0, .int 0, .int 0, .int 0, .int (-1), .int 0, .int 0, .int 0, .int 0, .ref a5, .ref a6, .ref a7, .ref a8, .ref a9, .ref a10, .ref a11, .ref a12, .int 0, .int 0, .int 0, .int 0, .int 0, .ref a13, .int 0, .ref a14, .ref a15, .int 0, .int 0, .ref a16, .int 0, .ref a17, .ref a18, .int 0, .int (-1), .ref a19, .ref a20, .ref a21, .int 0, .ref a22, .ref a23, .ref a24, .ref a25, .ref a26, .ref a27, .ref a28, .ref a29, .ref a30, .int 0, .int 0, .ref a31])), (a4, .inl (cI, 600, .inl g_16))] H := hP
  have hD : va_D A [(a0, .inr (12, [.ref a1, .ref a2, .ref a3, .int 0, .ref a4, .int 16, .int 0, .int 0, .int 0, .int 0, .int (-1), .int 0, .int 0, .int 0, .int 0, .ref a5, .ref a6, .ref a7, .ref a8, .ref a9, .ref a10, .ref a11, .ref a12, .int 0, .int 0, .int 0, .int 0, .int 0, .ref a13, .int 0, .ref a14, .ref a15, .int 0, .int 0, .ref a16, .int 0, .ref a17, .ref a18, .int 0, .int (-1), .ref a19, .ref a20, .ref a21, .int 0, .ref a22, .ref a23, .ref a24, .ref a25, .ref a26, .ref a27, .ref a28, .ref a29, .ref a30, .int 0, .int 0, .ref a31])), (a4, .inl (cI, 600, .inl g_16))] := hD
  refine lv_iinc (v := 16) (lv' := [(6, .int 16), (7, .int x3), (0, .ref a0), (1, .int x0), (2, .int x1), (3, .int x2), (4, .int x3), (5, .int x4)]) hx hb dX12_feed_109 hl (k := 1) rfl (by decide) (by decide) rfl (fun ls hl => ?_)
  refine lv_goto (tgt := 18) hx hb dX12_feed_112 (by decide) ?_
  refine lv_iload hx hb dX12_feed_18 (lv_at hl 0 rfl) ?_
  refine lv_bipush (v := 20) hx hb dX12_feed_20 (by decide) ?_
  refine lv_icmp_ge (tgt := 115) hx hb dX12_feed_22 (by decide) (fun c9 => absurd c9 (by decide)) (fun _ => ?_)
  refine lv_iload hx hb dX12_feed_25 (lv_at hl 0 rfl) ?_
  refine lv_iconst (v := 4) hx hb dX12_feed_27 (by decide) ?_
  refine lv_icmp_ge (tgt := 35) hx hb dX12_feed_28 (by decide) (fun _ => ?_) (fun c9 => absurd (by decide) c9) 
  refine lv_iload hx hb dX12_feed_35 (lv_at hl 0 rfl) ?_
  refine lv_bipush (v := 8) hx hb dX12_feed_37 (by decide) ?_
  refine lv_icmp_ge (tgt := 46) hx hb dX12_feed_39 (by decide) (fun _ => ?_) (fun c9 => absurd (by decide) c9) 
  refine lv_iload hx hb dX12_feed_46 (lv_at hl 0 rfl) ?_
  refine lv_bipush (v := 12) hx hb dX12_feed_48 (by decide) ?_
  refine lv_icmp_ge (tgt := 57) hx hb dX12_feed_50 (by decide) (fun _ => ?_) (fun c9 => absurd (by decide) c9) 
  refine lv_iload hx hb dX12_feed_57 (lv_at hl 0 rfl) ?_
  refine lv_bipush (v := 16) hx hb dX12_feed_59 (by decide) ?_
  refine lv_icmp_ge (tgt := 69) hx hb dX12_feed_61 (by decide) (fun _ => ?_) (fun c9 => absurd (by decide) c9) 
  refine lv_iload hx hb dX12_feed_69 (lv_at hl 7 rfl) ?_
  refine lv_istore (lv' := [(7, .int x4), (6, .int 16), (0, .ref a0), (1, .int x0), (2, .int x1), (3, .int x2), (4, .int x3), (5, .int x4)]) hx hb dX12_feed_71 hl (by decide) rfl (fun ls hl => ?_)
  refine lv_aload_n hx hb dX12_feed_73 rfl (lv_at hl 2 rfl) ?_
  refine va_get (D := (dC, dI)) (ci := 12) (v := .ref a4) (C := RX12) (T := TX12) (N := 56) hx hb hU inlX12 hown hK hP 0 rfl rfl 4 (by decide) (hU _ wd_172) (fun _ h9 => h9) rfl dX12_feed_74 ?_
  refine lv_aload_n hx hb dX12_feed_77 rfl (lv_at hl 2 rfl) ?_
  refine va_get (D := (dC, dI)) (ci := 12) (v := .int 16) (C := RX12) (T := TX12) (N := 56) hx hb hU inlX12 hown hK hP 0 rfl rfl 5 (by decide) (hU _ wd_218) (fun _ h9 => h9) rfl dX12_feed_78 ?_
  refine lv_iload hx hb dX12_feed_81 (lv_at hl 0 rfl) ?_
  refine lv_bipush (v := 24) hx hb dX12_feed_83 (by decide) ?_
  refine lv_bipush (v := 8) hx hb dX12_feed_85 (by decide) ?_
  refine lv_iload hx hb dX12_feed_87 (lv_at hl 1 rfl) ?_
  refine lv_iconst (v := 4) hx hb dX12_feed_89 (by decide) ?_
  refine lv_irem hx hb dX12_feed_90 (by decide) ?_
  refine tk_topi (y := 0) (by decide) ?_
  refine lv_imul hx hb dX12_feed_91 ?_
  refine tk_topi (y := 0) (by decide) ?_
  refine lv_isub hx hb dX12_feed_92 ?_
  refine tk_topi (y := 24) (by decide) ?_
  refine lv_ishr hx hb dX12_feed_93 ?_
  refine lv_sipush (v := 255) hx hb dX12_feed_94 (by decide) ?_
  refine lv_iand hx hb dX12_feed_97 ?_
  refine va_iast hx hb hK hP hD hS 1 0 rfl rfl (vp_in_nI (n := 16) (by decide) (by decide)) dX12_feed_98 (fun H locs hP hD hS => ?_)
  obtain ⟨g_17, eg_17⟩ : ∃ y : Nat → Int32, upd g_16 (Int32.toNatClampNeg 16) ((x4 >>> (24 &&& 31)) &&& 255) = y := ⟨_, rfl⟩
  have hP : va_P (dC, dI) vwCl [(a0, .inr (12, [.ref a1, .ref a2, .ref a3, .int 0, .ref a4, .int 16, .int 0, .int 0, .int 0, .int 0, .int (-1), .int 0, .int 0, .int 0, .int 0, .ref a5, .ref a6, .ref a7, .ref a8, .ref a9, .ref a10, .ref a11, .ref a12, .int 0, .int 0, .int 0, .int 0, .int 0, .ref a13, .int 0, .ref a14, .ref a15, .int 0, .int 0, .ref a16, .int 0, .ref a17, .ref a18, .int 0, .int (-1), .ref a19, .ref a20, .ref a21, .int 0, .ref a22, .ref a23, .ref a24, .ref a25, .ref a26, .ref a27, .ref a28, .ref a29, .ref a30, .int 0, .int 0, .ref a31])), (a4, .inl (cI, 600, .inl g_17))] H := by rw [eg_17] at hP; exact hP
  have hD : va_D A [(a0, .inr (12, [.ref a1, .ref a2, .ref a3, .int 0, .ref a4, .int 16, .int 0, .int 0, .int 0, .int 0, .int (-1), .int 0, .int 0, .int 0, .int 0, .ref a5, .ref a6, .ref a7, .ref a8, .ref a9, .ref a10, .ref a11, .ref a12, .int 0, .int 0, .int 0, .int 0, .int 0, .ref a13, .int 0, .ref a14, .ref a15, .int 0, .int 0, .ref a16, .int 0, .ref a17, .ref a18, .int 0, .int (-1), .ref a19, .ref a20, .ref a21, .int 0, .ref a22, .ref a23, .ref a24, .ref a25, .ref a26, .ref a27, .ref a28, .ref a29, .ref a30, .int 0, .int 0, .ref a31])), (a4, .inl (cI, 600, .inl g_17))] := by rw [eg_17] at hD; exact hD
  refine lv_aload_n hx hb dX12_feed_99 rfl (lv_at hl 2 rfl) ?_
  refine lv_dup hx hb dX12_feed_100 rfl ?_
  refine va_get (D := (dC, dI)) (ci := 12) (v := .int 16) (C := RX12) (T := TX12) (N := 56) hx hb hU inlX12 hown hK hP 0 rfl rfl 5 (by decide) (hU _ wd_218) (fun _ h9 => h9) rfl dX12_feed_101 ?_
  refine lv_iconst (v := 1) hx hb dX12_feed_104 (by decide) ?_
  refine lv_iadd hx hb dX12_feed_105 ?_
  refine tk_topi (y := 17) (by decide) ?_
  refine va_put (D := (dC, dI)) (ci := 12) (v := .int 17) (ty := .int) (C := RX12) (T := TX12) (N := 56) hx hb hU inlX12 tyX12 tyX12_ok nmX12 hown hK hP hD hS 0 rfl rfl 5 (by decide) (hU _ wd_218) (fun _ h9 => h9) rfl (by decide +kernel) rfl rfl (Nat.le_of_ble_eq_true rfl) dX12_feed_106 (fun H locs hP hD hS => ?_)
  have hP : va_P (dC, dI) vwCl [(a0, .inr (12, [.ref a1, .ref a2, .ref a3, .int 0, .ref a4, .int 17, .int 0, .int 0, .int 0, .int 0, .int (-1), .int 0, .int 0, .int 0, .int 0, .ref a5, .ref a6, .ref a7, .ref a8, .ref a9, .ref a10, .ref a11, .ref a12, .int 0, .int 0, .int 0, .int 0, .int 0, .ref a13, .int 0, .ref a14, .ref a15, .int 0, .int 0, .ref a16, .int 0, .ref a17, .ref a18, .int 0, .int (-1), .ref a19, .ref a20, .ref a21, .int 0, .ref a22, .ref a23, .ref a24, .ref a25, .ref a26, .ref a27, .ref a28, .ref a29, .ref a30, .int 0, .int 0, .ref a31])), (a4, .inl (cI, 600, .inl g_17))] H := hP
  have hD : va_D A [(a0, .inr (12, [.ref a1, .ref a2, .ref a3, .int 0, .ref a4, .int 17, .int 0, .int 0, .int 0, .int 0, .int (-1), .int 0, .int 0, .int 0, .int 0, .ref a5, .ref a6, .ref a7, .ref a8, .ref a9, .ref a10, .ref a11, .ref a12, .int 0, .int 0, .int 0, .int 0, .int 0, .ref a13, .int 0, .ref a14, .ref a15, .int 0, .int 0, .ref a16, .int 0, .ref a17, .ref a18, .int 0, .int (-1), .ref a19, .ref a20, .ref a21, .int 0, .ref a22, .ref a23, .ref a24, .ref a25, .ref a26, .ref a27, .ref a28, .ref a29, .ref a30, .int 0, .int 0, .ref a31])), (a4, .inl (cI, 600, .inl g_17))] := hD
  refine lv_iinc (v := 17) (lv' := [(6, .int 17), (7, .int x4), (0, .ref a0), (1, .int x0), (2, .int x1), (3, .int x2), (4, .int x3), (5, .int x4)]) hx hb dX12_feed_109 hl (k := 1) rfl (by decide) (by decide) rfl (fun ls hl => ?_)
  refine lv_goto (tgt := 18) hx hb dX12_feed_112 (by decide) ?_
  refine lv_iload hx hb dX12_feed_18 (lv_at hl 0 rfl) ?_
  refine lv_bipush (v := 20) hx hb dX12_feed_20 (by decide) ?_
  refine lv_icmp_ge (tgt := 115) hx hb dX12_feed_22 (by decide) (fun c9 => absurd c9 (by decide)) (fun _ => ?_)
  refine lv_iload hx hb dX12_feed_25 (lv_at hl 0 rfl) ?_
  refine lv_iconst (v := 4) hx hb dX12_feed_27 (by decide) ?_
  refine lv_icmp_ge (tgt := 35) hx hb dX12_feed_28 (by decide) (fun _ => ?_) (fun c9 => absurd (by decide) c9) 
  refine lv_iload hx hb dX12_feed_35 (lv_at hl 0 rfl) ?_
  refine lv_bipush (v := 8) hx hb dX12_feed_37 (by decide) ?_
  refine lv_icmp_ge (tgt := 46) hx hb dX12_feed_39 (by decide) (fun _ => ?_) (fun c9 => absurd (by decide) c9) 
  refine lv_iload hx hb dX12_feed_46 (lv_at hl 0 rfl) ?_
  refine lv_bipush (v := 12) hx hb dX12_feed_48 (by decide) ?_
  refine lv_icmp_ge (tgt := 57) hx hb dX12_feed_50 (by decide) (fun _ => ?_) (fun c9 => absurd (by decide) c9) 
  refine lv_iload hx hb dX12_feed_57 (lv_at hl 0 rfl) ?_
  refine lv_bipush (v := 16) hx hb dX12_feed_59 (by decide) ?_
  refine lv_icmp_ge (tgt := 69) hx hb dX12_feed_61 (by decide) (fun _ => ?_) (fun c9 => absurd (by decide) c9) 
  refine lv_iload hx hb dX12_feed_69 (lv_at hl 7 rfl) ?_
  refine lv_istore (lv' := [(7, .int x4), (6, .int 17), (0, .ref a0), (1, .int x0), (2, .int x1), (3, .int x2), (4, .int x3), (5, .int x4)]) hx hb dX12_feed_71 hl (by decide) rfl (fun ls hl => ?_)
  refine lv_aload_n hx hb dX12_feed_73 rfl (lv_at hl 2 rfl) ?_
  refine va_get (D := (dC, dI)) (ci := 12) (v := .ref a4) (C := RX12) (T := TX12) (N := 56) hx hb hU inlX12 hown hK hP 0 rfl rfl 4 (by decide) (hU _ wd_172) (fun _ h9 => h9) rfl dX12_feed_74 ?_
  refine lv_aload_n hx hb dX12_feed_77 rfl (lv_at hl 2 rfl) ?_
  refine va_get (D := (dC, dI)) (ci := 12) (v := .int 17) (C := RX12) (T := TX12) (N := 56) hx hb hU inlX12 hown hK hP 0 rfl rfl 5 (by decide) (hU _ wd_218) (fun _ h9 => h9) rfl dX12_feed_78 ?_
  refine lv_iload hx hb dX12_feed_81 (lv_at hl 0 rfl) ?_
  refine lv_bipush (v := 24) hx hb dX12_feed_83 (by decide) ?_
  refine lv_bipush (v := 8) hx hb dX12_feed_85 (by decide) ?_
  refine lv_iload hx hb dX12_feed_87 (lv_at hl 1 rfl) ?_
  refine lv_iconst (v := 4) hx hb dX12_feed_89 (by decide) ?_
  refine lv_irem hx hb dX12_feed_90 (by decide) ?_
  refine tk_topi (y := 1) (by decide) ?_
  refine lv_imul hx hb dX12_feed_91 ?_
  refine tk_topi (y := 8) (by decide) ?_
  refine lv_isub hx hb dX12_feed_92 ?_
  refine tk_topi (y := 16) (by decide) ?_
  refine lv_ishr hx hb dX12_feed_93 ?_
  refine lv_sipush (v := 255) hx hb dX12_feed_94 (by decide) ?_
  refine lv_iand hx hb dX12_feed_97 ?_
  refine va_iast hx hb hK hP hD hS 1 0 rfl rfl (vp_in_nI (n := 17) (by decide) (by decide)) dX12_feed_98 (fun H locs hP hD hS => ?_)
  obtain ⟨g_18, eg_18⟩ : ∃ y : Nat → Int32, upd g_17 (Int32.toNatClampNeg 17) ((x4 >>> (16 &&& 31)) &&& 255) = y := ⟨_, rfl⟩
  have hP : va_P (dC, dI) vwCl [(a0, .inr (12, [.ref a1, .ref a2, .ref a3, .int 0, .ref a4, .int 17, .int 0, .int 0, .int 0, .int 0, .int (-1), .int 0, .int 0, .int 0, .int 0, .ref a5, .ref a6, .ref a7, .ref a8, .ref a9, .ref a10, .ref a11, .ref a12, .int 0, .int 0, .int 0, .int 0, .int 0, .ref a13, .int 0, .ref a14, .ref a15, .int 0, .int 0, .ref a16, .int 0, .ref a17, .ref a18, .int 0, .int (-1), .ref a19, .ref a20, .ref a21, .int 0, .ref a22, .ref a23, .ref a24, .ref a25, .ref a26, .ref a27, .ref a28, .ref a29, .ref a30, .int 0, .int 0, .ref a31])), (a4, .inl (cI, 600, .inl g_18))] H := by rw [eg_18] at hP; exact hP
  have hD : va_D A [(a0, .inr (12, [.ref a1, .ref a2, .ref a3, .int 0, .ref a4, .int 17, .int 0, .int 0, .int 0, .int 0, .int (-1), .int 0, .int 0, .int 0, .int 0, .ref a5, .ref a6, .ref a7, .ref a8, .ref a9, .ref a10, .ref a11, .ref a12, .int 0, .int 0, .int 0, .int 0, .int 0, .ref a13, .int 0, .ref a14, .ref a15, .int 0, .int 0, .ref a16, .int 0, .ref a17, .ref a18, .int 0, .int (-1), .ref a19, .ref a20, .ref a21, .int 0, .ref a22, .ref a23, .ref a24, .ref a25, .ref a26, .ref a27, .ref a28, .ref a29, .ref a30, .int 0, .int 0, .ref a31])), (a4, .inl (cI, 600, .inl g_18))] := by rw [eg_18] at hD; exact hD
  refine lv_aload_n hx hb dX12_feed_99 rfl (lv_at hl 2 rfl) ?_
  refine lv_dup hx hb dX12_feed_100 rfl ?_
  refine va_get (D := (dC, dI)) (ci := 12) (v := .int 17) (C := RX12) (T := TX12) (N := 56) hx hb hU inlX12 hown hK hP 0 rfl rfl 5 (by decide) (hU _ wd_218) (fun _ h9 => h9) rfl dX12_feed_101 ?_
  refine lv_iconst (v := 1) hx hb dX12_feed_104 (by decide) ?_
  refine lv_iadd hx hb dX12_feed_105 ?_
  refine tk_topi (y := 18) (by decide) ?_
  refine va_put (D := (dC, dI)) (ci := 12) (v := .int 18) (ty := .int) (C := RX12) (T := TX12) (N := 56) hx hb hU inlX12 tyX12 tyX12_ok nmX12 hown hK hP hD hS 0 rfl rfl 5 (by decide) (hU _ wd_218) (fun _ h9 => h9) rfl (by decide +kernel) rfl rfl (Nat.le_of_ble_eq_true rfl) dX12_feed_106 (fun H locs hP hD hS => ?_)
  have hP : va_P (dC, dI) vwCl [(a0, .inr (12, [.ref a1, .ref a2, .ref a3, .int 0, .ref a4, .int 18, .int 0, .int 0, .int 0, .int 0, .int (-1), .int 0, .int 0, .int 0, .int 0, .ref a5, .ref a6, .ref a7, .ref a8, .ref a9, .ref a10, .ref a11, .ref a12, .int 0, .int 0, .int 0, .int 0, .int 0, .ref a13, .int 0, .ref a14, .ref a15, .int 0, .int 0, .ref a16, .int 0, .ref a17, .ref a18, .int 0, .int (-1), .ref a19, .ref a20, .ref a21, .int 0, .ref a22, .ref a23, .ref a24, .ref a25, .ref a26, .ref a27, .ref a28, .ref a29, .ref a30, .int 0, .int 0, .ref a31])), (a4, .inl (cI, 600, .inl g_18))] H := hP
  have hD : va_D A [(a0, .inr (12, [.ref a1, .ref a2, .ref a3, .int 0, .ref a4, .int 18, .int 0, .int 0, .int 0, .int 0, .int (-1), .int 0, .int 0, .int 0, .int 0, .ref a5, .ref a6, .ref a7, .ref a8, .ref a9, .ref a10, .ref a11, .ref a12, .int 0, .int 0, .int 0, .int 0, .int 0, .ref a13, .int 0, .ref a14, .ref a15, .int 0, .int 0, .ref a16, .int 0, .ref a17, .ref a18, .int 0, .int (-1), .ref a19, .ref a20, .ref a21, .int 0, .ref a22, .ref a23, .ref a24, .ref a25, .ref a26, .ref a27, .ref a28, .ref a29, .ref a30, .int 0, .int 0, .ref a31])), (a4, .inl (cI, 600, .inl g_18))] := hD
  refine lv_iinc (v := 18) (lv' := [(6, .int 18), (7, .int x4), (0, .ref a0), (1, .int x0), (2, .int x1), (3, .int x2), (4, .int x3), (5, .int x4)]) hx hb dX12_feed_109 hl (k := 1) rfl (by decide) (by decide) rfl (fun ls hl => ?_)
  refine lv_goto (tgt := 18) hx hb dX12_feed_112 (by decide) ?_
  refine lv_iload hx hb dX12_feed_18 (lv_at hl 0 rfl) ?_
  refine lv_bipush (v := 20) hx hb dX12_feed_20 (by decide) ?_
  refine lv_icmp_ge (tgt := 115) hx hb dX12_feed_22 (by decide) (fun c9 => absurd c9 (by decide)) (fun _ => ?_)
  refine lv_iload hx hb dX12_feed_25 (lv_at hl 0 rfl) ?_
  refine lv_iconst (v := 4) hx hb dX12_feed_27 (by decide) ?_
  refine lv_icmp_ge (tgt := 35) hx hb dX12_feed_28 (by decide) (fun _ => ?_) (fun c9 => absurd (by decide) c9) 
  refine lv_iload hx hb dX12_feed_35 (lv_at hl 0 rfl) ?_
  refine lv_bipush (v := 8) hx hb dX12_feed_37 (by decide) ?_
  refine lv_icmp_ge (tgt := 46) hx hb dX12_feed_39 (by decide) (fun _ => ?_) (fun c9 => absurd (by decide) c9) 
  refine lv_iload hx hb dX12_feed_46 (lv_at hl 0 rfl) ?_
  refine lv_bipush (v := 12) hx hb dX12_feed_48 (by decide) ?_
  refine lv_icmp_ge (tgt := 57) hx hb dX12_feed_50 (by decide) (fun _ => ?_) (fun c9 => absurd (by decide) c9) 
  refine lv_iload hx hb dX12_feed_57 (lv_at hl 0 rfl) ?_
  refine lv_bipush (v := 16) hx hb dX12_feed_59 (by decide) ?_
  refine lv_icmp_ge (tgt := 69) hx hb dX12_feed_61 (by decide) (fun _ => ?_) (fun c9 => absurd (by decide) c9) 
  refine lv_iload hx hb dX12_feed_69 (lv_at hl 7 rfl) ?_
  refine lv_istore (lv' := [(7, .int x4), (6, .int 18), (0, .ref a0), (1, .int x0), (2, .int x1), (3, .int x2), (4, .int x3), (5, .int x4)]) hx hb dX12_feed_71 hl (by decide) rfl (fun ls hl => ?_)
  refine lv_aload_n hx hb dX12_feed_73 rfl (lv_at hl 2 rfl) ?_
  refine va_get (D := (dC, dI)) (ci := 12) (v := .ref a4) (C := RX12) (T := TX12) (N := 56) hx hb hU inlX12 hown hK hP 0 rfl rfl 4 (by decide) (hU _ wd_172) (fun _ h9 => h9) rfl dX12_feed_74 ?_
  refine lv_aload_n hx hb dX12_feed_77 rfl (lv_at hl 2 rfl) ?_
  refine va_get (D := (dC, dI)) (ci := 12) (v := .int 18) (C := RX12) (T := TX12) (N := 56) hx hb hU inlX12 hown hK hP 0 rfl rfl 5 (by decide) (hU _ wd_218) (fun _ h9 => h9) rfl dX12_feed_78 ?_
  refine lv_iload hx hb dX12_feed_81 (lv_at hl 0 rfl) ?_
  refine lv_bipush (v := 24) hx hb dX12_feed_83 (by decide) ?_
  refine lv_bipush (v := 8) hx hb dX12_feed_85 (by decide) ?_
  refine lv_iload hx hb dX12_feed_87 (lv_at hl 1 rfl) ?_
  refine lv_iconst (v := 4) hx hb dX12_feed_89 (by decide) ?_
  refine lv_irem hx hb dX12_feed_90 (by decide) ?_
  refine tk_topi (y := 2) (by decide) ?_
  refine lv_imul hx hb dX12_feed_91 ?_
  refine tk_topi (y := 16) (by decide) ?_
  refine lv_isub hx hb dX12_feed_92 ?_
  refine tk_topi (y := 8) (by decide) ?_
  refine lv_ishr hx hb dX12_feed_93 ?_
  refine lv_sipush (v := 255) hx hb dX12_feed_94 (by decide) ?_
  refine lv_iand hx hb dX12_feed_97 ?_
  refine va_iast hx hb hK hP hD hS 1 0 rfl rfl (vp_in_nI (n := 18) (by decide) (by decide)) dX12_feed_98 (fun H locs hP hD hS => ?_)
  obtain ⟨g_19, eg_19⟩ : ∃ y : Nat → Int32, upd g_18 (Int32.toNatClampNeg 18) ((x4 >>> (8 &&& 31)) &&& 255) = y := ⟨_, rfl⟩
  have hP : va_P (dC, dI) vwCl [(a0, .inr (12, [.ref a1, .ref a2, .ref a3, .int 0, .ref a4, .int 18, .int 0, .int 0, .int 0, .int 0, .int (-1), .int 0, .int 0, .int 0, .int 0, .ref a5, .ref a6, .ref a7, .ref a8, .ref a9, .ref a10, .ref a11, .ref a12, .int 0, .int 0, .int 0, .int 0, .int 0, .ref a13, .int 0, .ref a14, .ref a15, .int 0, .int 0, .ref a16, .int 0, .ref a17, .ref a18, .int 0, .int (-1), .ref a19, .ref a20, .ref a21, .int 0, .ref a22, .ref a23, .ref a24, .ref a25, .ref a26, .ref a27, .ref a28, .ref a29, .ref a30, .int 0, .int 0, .ref a31])), (a4, .inl (cI, 600, .inl g_19))] H := by rw [eg_19] at hP; exact hP
  have hD : va_D A [(a0, .inr (12, [.ref a1, .ref a2, .ref a3, .int 0, .ref a4, .int 18, .int 0, .int 0, .int 0, .int 0, .int (-1), .int 0, .int 0, .int 0, .int 0, .ref a5, .ref a6, .ref a7, .ref a8, .ref a9, .ref a10, .ref a11, .ref a12, .int 0, .int 0, .int 0, .int 0, .int 0, .ref a13, .int 0, .ref a14, .ref a15, .int 0, .int 0, .ref a16, .int 0, .ref a17, .ref a18, .int 0, .int (-1), .ref a19, .ref a20, .ref a21, .int 0, .ref a22, .ref a23, .ref a24, .ref a25, .ref a26, .ref a27, .ref a28, .ref a29, .ref a30, .int 0, .int 0, .ref a31])), (a4, .inl (cI, 600, .inl g_19))] := by rw [eg_19] at hD; exact hD
  refine lv_aload_n hx hb dX12_feed_99 rfl (lv_at hl 2 rfl) ?_
  refine lv_dup hx hb dX12_feed_100 rfl ?_
  refine va_get (D := (dC, dI)) (ci := 12) (v := .int 18) (C := RX12) (T := TX12) (N := 56) hx hb hU inlX12 hown hK hP 0 rfl rfl 5 (by decide) (hU _ wd_218) (fun _ h9 => h9) rfl dX12_feed_101 ?_
  refine lv_iconst (v := 1) hx hb dX12_feed_104 (by decide) ?_
  refine lv_iadd hx hb dX12_feed_105 ?_
  refine tk_topi (y := 19) (by decide) ?_
  refine va_put (D := (dC, dI)) (ci := 12) (v := .int 19) (ty := .int) (C := RX12) (T := TX12) (N := 56) hx hb hU inlX12 tyX12 tyX12_ok nmX12 hown hK hP hD hS 0 rfl rfl 5 (by decide) (hU _ wd_218) (fun _ h9 => h9) rfl (by decide +kernel) rfl rfl (Nat.le_of_ble_eq_true rfl) dX12_feed_106 (fun H locs hP hD hS => ?_)
  have hP : va_P (dC, dI) vwCl [(a0, .inr (12, [.ref a1, .ref a2, .ref a3, .int 0, .ref a4, .int 19, .int 0, .int 0, .int 0, .int 0, .int (-1), .int 0, .int 0, .int 0, .int 0, .ref a5, .ref a6, .ref a7, .ref a8, .ref a9, .ref a10, .ref a11, .ref a12, .int 0, .int 0, .int 0, .int 0, .int 0, .ref a13, .int 0, .ref a14, .ref a15, .int 0, .int 0, .ref a16, .int 0, .ref a17, .ref a18, .int 0, .int (-1), .ref a19, .ref a20, .ref a21, .int 0, .ref a22, .ref a23, .ref a24, .ref a25, .ref a26, .ref a27, .ref a28, .ref a29, .ref a30, .int 0, .int 0, .ref a31])), (a4, .inl (cI, 600, .inl g_19))] H := hP
  have hD : va_D A [(a0, .inr (12, [.ref a1, .ref a2, .ref a3, .int 0, .ref a4, .int 19, .int 0, .int 0, .int 0, .int 0, .int (-1), .int 0, .int 0, .int 0, .int 0, .ref a5, .ref a6, .ref a7, .ref a8, .ref a9, .ref a10, .ref a11, .ref a12, .int 0, .int 0, .int 0, .int 0, .int 0, .ref a13, .int 0, .ref a14, .ref a15, .int 0, .int 0, .ref a16, .int 0, .ref a17, .ref a18, .int 0, .int (-1), .ref a19, .ref a20, .ref a21, .int 0, .ref a22, .ref a23, .ref a24, .ref a25, .ref a26, .ref a27, .ref a28, .ref a29, .ref a30, .int 0, .int 0, .ref a31])), (a4, .inl (cI, 600, .inl g_19))] := hD
  refine lv_iinc (v := 19) (lv' := [(6, .int 19), (7, .int x4), (0, .ref a0), (1, .int x0), (2, .int x1), (3, .int x2), (4, .int x3), (5, .int x4)]) hx hb dX12_feed_109 hl (k := 1) rfl (by decide) (by decide) rfl (fun ls hl => ?_)
  refine lv_goto (tgt := 18) hx hb dX12_feed_112 (by decide) ?_
  refine lv_iload hx hb dX12_feed_18 (lv_at hl 0 rfl) ?_
  refine lv_bipush (v := 20) hx hb dX12_feed_20 (by decide) ?_
  refine lv_icmp_ge (tgt := 115) hx hb dX12_feed_22 (by decide) (fun c9 => absurd c9 (by decide)) (fun _ => ?_)
  refine lv_iload hx hb dX12_feed_25 (lv_at hl 0 rfl) ?_
  refine lv_iconst (v := 4) hx hb dX12_feed_27 (by decide) ?_
  refine lv_icmp_ge (tgt := 35) hx hb dX12_feed_28 (by decide) (fun _ => ?_) (fun c9 => absurd (by decide) c9) 
  refine lv_iload hx hb dX12_feed_35 (lv_at hl 0 rfl) ?_
  refine lv_bipush (v := 8) hx hb dX12_feed_37 (by decide) ?_
  refine lv_icmp_ge (tgt := 46) hx hb dX12_feed_39 (by decide) (fun _ => ?_) (fun c9 => absurd (by decide) c9) 
  refine lv_iload hx hb dX12_feed_46 (lv_at hl 0 rfl) ?_
  refine lv_bipush (v := 12) hx hb dX12_feed_48 (by decide) ?_
  refine lv_icmp_ge (tgt := 57) hx hb dX12_feed_50 (by decide) (fun _ => ?_) (fun c9 => absurd (by decide) c9) 
  refine lv_iload hx hb dX12_feed_57 (lv_at hl 0 rfl) ?_
  refine lv_bipush (v := 16) hx hb dX12_feed_59 (by decide) ?_
  refine lv_icmp_ge (tgt := 69) hx hb dX12_feed_61 (by decide) (fun _ => ?_) (fun c9 => absurd (by decide) c9) 
  refine lv_iload hx hb dX12_feed_69 (lv_at hl 7 rfl) ?_
  refine lv_istore (lv' := [(7, .int x4), (6, .int 19), (0, .ref a0), (1, .int x0), (2, .int x1), (3, .int x2), (4, .int x3), (5, .int x4)]) hx hb dX12_feed_71 hl (by decide) rfl (fun ls hl => ?_)
  refine lv_aload_n hx hb dX12_feed_73 rfl (lv_at hl 2 rfl) ?_
  refine va_get (D := (dC, dI)) (ci := 12) (v := .ref a4) (C := RX12) (T := TX12) (N := 56) hx hb hU inlX12 hown hK hP 0 rfl rfl 4 (by decide) (hU _ wd_172) (fun _ h9 => h9) rfl dX12_feed_74 ?_
  refine lv_aload_n hx hb dX12_feed_77 rfl (lv_at hl 2 rfl) ?_
  refine va_get (D := (dC, dI)) (ci := 12) (v := .int 19) (C := RX12) (T := TX12) (N := 56) hx hb hU inlX12 hown hK hP 0 rfl rfl 5 (by decide) (hU _ wd_218) (fun _ h9 => h9) rfl dX12_feed_78 ?_
  refine lv_iload hx hb dX12_feed_81 (lv_at hl 0 rfl) ?_
  refine lv_bipush (v := 24) hx hb dX12_feed_83 (by decide) ?_
  refine lv_bipush (v := 8) hx hb dX12_feed_85 (by decide) ?_
  refine lv_iload hx hb dX12_feed_87 (lv_at hl 1 rfl) ?_
  refine lv_iconst (v := 4) hx hb dX12_feed_89 (by decide) ?_
  refine lv_irem hx hb dX12_feed_90 (by decide) ?_
  refine tk_topi (y := 3) (by decide) ?_
  refine lv_imul hx hb dX12_feed_91 ?_
  refine tk_topi (y := 24) (by decide) ?_
  refine lv_isub hx hb dX12_feed_92 ?_
  refine tk_topi (y := 0) (by decide) ?_
  refine lv_ishr hx hb dX12_feed_93 ?_
  refine lv_sipush (v := 255) hx hb dX12_feed_94 (by decide) ?_
  refine lv_iand hx hb dX12_feed_97 ?_
  refine va_iast hx hb hK hP hD hS 1 0 rfl rfl (vp_in_nI (n := 19) (by decide) (by decide)) dX12_feed_98 (fun H locs hP hD hS => ?_)
  obtain ⟨g_20, eg_20⟩ : ∃ y : Nat → Int32, upd g_19 (Int32.toNatClampNeg 19) ((x4 >>> (0 &&& 31)) &&& 255) = y := ⟨_, rfl⟩
  have hP : va_P (dC, dI) vwCl [(a0, .inr (12, [.ref a1, .ref a2, .ref a3, .int 0, .ref a4, .int 19, .int 0, .int 0, .int 0, .int 0, .int (-1), .int 0, .int 0, .int 0, .int 0, .ref a5, .ref a6, .ref a7, .ref a8, .ref a9, .ref a10, .ref a11, .ref a12, .int 0, .int 0, .int 0, .int 0, .int 0, .ref a13, .int 0, .ref a14, .ref a15, .int 0, .int 0, .ref a16, .int 0, .ref a17, .ref a18, .int 0, .int (-1), .ref a19, .ref a20, .ref a21, .int 0, .ref a22, .ref a23, .ref a24, .ref a25, .ref a26, .ref a27, .ref a28, .ref a29, .ref a30, .int 0, .int 0, .ref a31])), (a4, .inl (cI, 600, .inl g_20))] H := by rw [eg_20] at hP; exact hP
  have hD : va_D A [(a0, .inr (12, [.ref a1, .ref a2, .ref a3, .int 0, .ref a4, .int 19, .int 0, .int 0, .int 0, .int 0, .int (-1), .int 0, .int 0, .int 0, .int 0, .ref a5, .ref a6, .ref a7, .ref a8, .ref a9, .ref a10, .ref a11, .ref a12, .int 0, .int 0, .int 0, .int 0, .int 0, .ref a13, .int 0, .ref a14, .ref a15, .int 0, .int 0, .ref a16, .int 0, .ref a17, .ref a18, .int 0, .int (-1), .ref a19, .ref a20, .ref a21, .int 0, .ref a22, .ref a23, .ref a24, .ref a25, .ref a26, .ref a27, .ref a28, .ref a29, .ref a30, .int 0, .int 0, .ref a31])), (a4, .inl (cI, 600, .inl g_20))] := by rw [eg_20] at hD; exact hD
  refine lv_aload_n hx hb dX12_feed_99 rfl (lv_at hl 2 rfl) ?_
  refine lv_dup hx hb dX12_feed_100 rfl ?_
  refine va_get (D := (dC, dI)) (ci := 12) (v := .int 19) (C := RX12) (T := TX12) (N := 56) hx hb hU inlX12 hown hK hP 0 rfl rfl 5 (by decide) (hU _ wd_218) (fun _ h9 => h9) rfl dX12_feed_101 ?_
  refine lv_iconst (v := 1) hx hb dX12_feed_104 (by decide) ?_
  refine lv_iadd hx hb dX12_feed_105 ?_
  refine tk_topi (y := 20) (by decide) ?_
  refine va_put (D := (dC, dI)) (ci := 12) (v := .int 20) (ty := .int) (C := RX12) (T := TX12) (N := 56) hx hb hU inlX12 tyX12 tyX12_ok nmX12 hown hK hP hD hS 0 rfl rfl 5 (by decide) (hU _ wd_218) (fun _ h9 => h9) rfl (by decide +kernel) rfl rfl (Nat.le_of_ble_eq_true rfl) dX12_feed_106 (fun H locs hP hD hS => ?_)
  have hP : va_P (dC, dI) vwCl [(a0, .inr (12, [.ref a1, .ref a2, .ref a3, .int 0, .ref a4, .int 20, .int 0, .int 0, .int 0, .int 0, .int (-1), .int 0, .int 0, .int 0, .int 0, .ref a5, .ref a6, .ref a7, .ref a8, .ref a9, .ref a10, .ref a11, .ref a12, .int 0, .int 0, .int 0, .int 0, .int 0, .ref a13, .int 0, .ref a14, .ref a15, .int 0, .int 0, .ref a16, .int 0, .ref a17, .ref a18, .int 0, .int (-1), .ref a19, .ref a20, .ref a21, .int 0, .ref a22, .ref a23, .ref a24, .ref a25, .ref a26, .ref a27, .ref a28, .ref a29, .ref a30, .int 0, .int 0, .ref a31])), (a4, .inl (cI, 600, .inl g_20))] H := hP
  have hD : va_D A [(a0, .inr (12, [.ref a1, .ref a2, .ref a3, .int 0, .ref a4, .int 20, .int 0, .int 0, .int 0, .int 0, .int (-1), .int 0, .int 0, .int 0, .int 0, .ref a5, .ref a6, .ref a7, .ref a8, .ref a9, .ref a10, .ref a11, .ref a12, .int 0, .int 0, .int 0, .int 0, .int 0, .ref a13, .int 0, .ref a14, .ref a15, .int 0, .int 0, .ref a16, .int 0, .ref a17, .ref a18, .int 0, .int (-1), .ref a19, .ref a20, .ref a21, .int 0, .ref a22, .ref a23, .ref a24, .ref a25, .ref a26, .ref a27, .ref a28, .ref a29, .ref a30, .int 0, .int 0, .ref a31])), (a4, .inl (cI, 600, .inl g_20))] := hD
  refine lv_iinc (v := 20) (lv' := [(6, .int 20), (7, .int x4), (0, .ref a0), (1, .int x0), (2, .int x1), (3, .int x2), (4, .int x3), (5, .int x4)]) hx hb dX12_feed_109 hl (k := 1) rfl (by decide) (by decide) rfl (fun ls hl => ?_)
  refine lv_goto (tgt := 18) hx hb dX12_feed_112 (by decide) ?_
  refine lv_iload hx hb dX12_feed_18 (lv_at hl 0 rfl) ?_
  refine lv_bipush (v := 20) hx hb dX12_feed_20 (by decide) ?_
  refine lv_icmp_ge (tgt := 115) hx hb dX12_feed_22 (by decide) (fun _ => ?_) (fun c9 => absurd (by decide) c9) 
  refine lv_aload_n hx hb dX12_feed_115 rfl (lv_at hl 2 rfl) ?_
  refine va_get (D := (dC, dI)) (ci := 12) (v := .int 20) (C := RX12) (T := TX12) (N := 56) hx hb hU inlX12 hown hK hP 0 rfl rfl 5 (by decide) (hU _ wd_218) (fun _ h9 => h9) rfl dX12_feed_116 ?_
  have hP9 := hP.sub (ws' := []) [] rfl
  have hD9 := hD.sub (ws' := []) [] (by decide) rfl
  refine W.widen (k := 0) (n := 0) (Nat.le_of_ble_eq_true rfl) (Nat.le_of_ble_eq_true rfl) ?_
  exact W.iret (v := 20) hx hb hr (fun t ht hW => ⟨⟨20, [], rfl, ⟨rfl, rfl⟩, by rw [ht]; exact hP9, va_K.moved hW.alike hK, hD9⟩, hS.F ht⟩) hS.2.2 dX12_feed_119
