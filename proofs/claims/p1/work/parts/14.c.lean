set_option maxHeartbeats 8000000 in
set_option maxRecDepth 100000 in
theorem cc_X11_putNumber_0 (l : Launch) (D : va_G) (cI cL cZ : ClassId) (sz : Nat) (a0 : Nat) (x0 : Int32) (a1 : Nat) (a2 : Nat) (a3 : Nat) (a4 : Nat) (a5 : Nat) (a6 : Nat) (a7 : Nat) (a8 : Nat) (a9 : Nat) (a10 : Nat) (a11 : Nat) (a12 : Nat) (a13 : Nat) : mV l D cI cL cZ yX11_putNumber cX11_putNumber 3 none 0 0 0 0 [.ref a0, .int x0] sz [(a0, .inr (11, [.ref a1, .int 0, .ref a2, .ref a3, .ref a4, .ref a5, .ref a6, .ref a7, .int 0, .ref a8, .ref a9, .ref a10, .int 0, .int (-1), .ref a11, .int 0, .ref a12, .ref a13, .int 0])), (a1, .inl (cI, 600, .inl z0))] (fun (w1 : va_W) => ∃ (g_8 : Nat → Int32), w1 = ([(a0, .inr (11, [.ref a1, .int 4, .ref a2, .ref a3, .ref a4, .ref a5, .ref a6, .ref a7, .int 0, .ref a8, .ref a9, .ref a10, .int 0, .int (-1), .ref a11, .int 0, .ref a12, .ref a13, .int 0])), (a1, .inl (cI, 600, .inl g_8))] : va_W)) := by
  obtain ⟨dC, dI⟩ := D
  refine Met.ofW (cc := cX11_putNumber) (maxL := 3) (ret := none) (by decide) rfl ?_
  intro p e s m args below meth c s₁ B hml hv
  obtain ⟨rfl, hsz, hP, hK, hD0, hN⟩ := hv
  have hx := B.exec
  have hb := B.bytes
  have hr := B.returns
  have hU : ∀ w ∈ wsU, w.before _ s = true := fun w h => atoms_spec (ws := wU yX11_putNumber cX11_putNumber 3 none) B.pre w (List.mem_cons_of_mem _ h)
  have hown : s.vm.findClass RX11 = some m.cls := findClass_of_methodNamed B.named
  have hlocks := B.notSynchronized
  subst hsz
  have hD := hD0.self (sz := s.heap.size)
  generalize hAe : va_A [(a0, .inr (11, [.ref a1, .int 0, .ref a2, .ref a3, .ref a4, .ref a5, .ref a6, .ref a7, .int 0, .ref a8, .ref a9, .ref a10, .int 0, .int (-1), .ref a11, .int 0, .ref a12, .ref a13, .int 0])), (a1, .inl (cI, 600, .inl z0))] s.heap.size = A at hD ⊢
  have hA : ∀ q : Nat, s.heap.size ≤ q → A q := fun q h => by rw [← hAe]; exact Or.inr h
  have hS : va_S A s.heap s.heap [] := va_S.rf
  have hP : va_P (dC, dI) vwCl [(a0, .inr (11, [.ref a1, .int 0, .ref a2, .ref a3, .ref a4, .ref a5, .ref a6, .ref a7, .int 0, .ref a8, .ref a9, .ref a10, .int 0, .int (-1), .ref a11, .int 0, .ref a12, .ref a13, .int 0])), (a1, .inl (cI, 600, .inl z0))] s.heap := hP
  have hl := lv_entry ([.ref a0, .int x0]) (n := 3) (Nat.le_of_ble_eq_true rfl)
  rw [lg_entry_eq]
  generalize (lg_sl ([.ref a0, .int x0]) ++ List.replicate (3 - (lg_sl ([.ref a0, .int x0])).length) Slot.unset).toArray = ls at hl ⊢
  have hl : lv_has ls 3 [(0, .ref a0), (1, .int x0)] := hl
  refine lv_bipush (v := 24) hx hb dX11_putNumber_0 (by decide) ?_
  refine lv_istore_n (lv' := [(2, .int 24), (0, .ref a0), (1, .int x0)]) hx hb dX11_putNumber_2 rfl hl (by decide) rfl (fun ls hl => ?_)
  refine lv_iload_n hx hb dX11_putNumber_3 rfl (lv_at hl 0 rfl) ?_
  refine lv_if_lt (tgt := 39) hx hb dX11_putNumber_4 (by decide) (fun c9 => absurd c9 (by decide)) (fun _ => ?_)
  refine lv_aload_n hx hb dX11_putNumber_7 rfl (lv_at hl 1 rfl) ?_
  refine va_get (D := (dC, dI)) (ci := 11) (v := .ref a1) (C := RX11) (T := TX11) (N := 19) hx hb hU inlX11 hown hK hP 0 rfl rfl 0 (by decide) (hU _ wd_13) (fun _ h9 => h9) rfl dX11_putNumber_8 ?_
  refine lv_aload_n hx hb dX11_putNumber_11 rfl (lv_at hl 1 rfl) ?_
  refine va_get (D := (dC, dI)) (ci := 11) (v := .int 0) (C := RX11) (T := TX11) (N := 19) hx hb hU inlX11 hown hK hP 0 rfl rfl 1 (by decide) (hU _ wd_209) (fun _ h9 => h9) rfl dX11_putNumber_12 ?_
  refine lv_iload_n hx hb dX11_putNumber_15 rfl (lv_at hl 2 rfl) ?_
  refine lv_iload_n hx hb dX11_putNumber_16 rfl (lv_at hl 0 rfl) ?_
  refine lv_iushr hx hb dX11_putNumber_17 rfl ?_
  refine lv_topi (fun u_1 eu_1 => ?_)
  refine lv_sipush (v := 255) hx hb dX11_putNumber_18 (by decide) ?_
  refine lv_iand hx hb dX11_putNumber_21 ?_
  refine va_iast hx hb hK hP hD hS 1 0 rfl rfl (vp_in_nI (n := 0) (by decide) (by decide)) dX11_putNumber_22 (fun H locs hP hD hS => ?_)
  obtain ⟨g_2, eg_2⟩ : ∃ y : Nat → Int32, upd z0 (Int32.toNatClampNeg 0) (u_1 &&& 255) = y := ⟨_, rfl⟩
  have hP : va_P (dC, dI) vwCl [(a0, .inr (11, [.ref a1, .int 0, .ref a2, .ref a3, .ref a4, .ref a5, .ref a6, .ref a7, .int 0, .ref a8, .ref a9, .ref a10, .int 0, .int (-1), .ref a11, .int 0, .ref a12, .ref a13, .int 0])), (a1, .inl (cI, 600, .inl g_2))] H := by rw [eg_2] at hP; exact hP
  have hD : va_D A [(a0, .inr (11, [.ref a1, .int 0, .ref a2, .ref a3, .ref a4, .ref a5, .ref a6, .ref a7, .int 0, .ref a8, .ref a9, .ref a10, .int 0, .int (-1), .ref a11, .int 0, .ref a12, .ref a13, .int 0])), (a1, .inl (cI, 600, .inl g_2))] := by rw [eg_2] at hD; exact hD
  refine lv_aload_n hx hb dX11_putNumber_23 rfl (lv_at hl 1 rfl) ?_
  refine lv_dup hx hb dX11_putNumber_24 rfl ?_
  refine va_get (D := (dC, dI)) (ci := 11) (v := .int 0) (C := RX11) (T := TX11) (N := 19) hx hb hU inlX11 hown hK hP 0 rfl rfl 1 (by decide) (hU _ wd_209) (fun _ h9 => h9) rfl dX11_putNumber_25 ?_
  refine lv_iconst (v := 1) hx hb dX11_putNumber_28 (by decide) ?_
  refine lv_iadd hx hb dX11_putNumber_29 ?_
  refine tk_topi (y := 1) (by decide) ?_
  refine va_put (D := (dC, dI)) (ci := 11) (v := .int 1) (ty := .int) (C := RX11) (T := TX11) (N := 19) hx hb hU inlX11 tyX11 tyX11_ok nmX11 hown hK hP hD hS 0 rfl rfl 1 (by decide) (hU _ wd_209) (fun _ h9 => h9) rfl (by decide +kernel) rfl rfl (Nat.le_of_ble_eq_true rfl) dX11_putNumber_30 (fun H locs hP hD hS => ?_)
  have hP : va_P (dC, dI) vwCl [(a0, .inr (11, [.ref a1, .int 1, .ref a2, .ref a3, .ref a4, .ref a5, .ref a6, .ref a7, .int 0, .ref a8, .ref a9, .ref a10, .int 0, .int (-1), .ref a11, .int 0, .ref a12, .ref a13, .int 0])), (a1, .inl (cI, 600, .inl g_2))] H := hP
  have hD : va_D A [(a0, .inr (11, [.ref a1, .int 1, .ref a2, .ref a3, .ref a4, .ref a5, .ref a6, .ref a7, .int 0, .ref a8, .ref a9, .ref a10, .int 0, .int (-1), .ref a11, .int 0, .ref a12, .ref a13, .int 0])), (a1, .inl (cI, 600, .inl g_2))] := hD
  refine lv_iinc (v := 16) (lv' := [(2, .int 16), (0, .ref a0), (1, .int x0)]) hx hb dX11_putNumber_33 hl (k := 0) rfl (by decide) (by decide) rfl (fun ls hl => ?_)
  refine lv_goto (tgt := 3) hx hb dX11_putNumber_36 (by decide) ?_
  refine lv_iload_n hx hb dX11_putNumber_3 rfl (lv_at hl 0 rfl) ?_
  refine lv_if_lt (tgt := 39) hx hb dX11_putNumber_4 (by decide) (fun c9 => absurd c9 (by decide)) (fun _ => ?_)
  refine lv_aload_n hx hb dX11_putNumber_7 rfl (lv_at hl 1 rfl) ?_
  refine va_get (D := (dC, dI)) (ci := 11) (v := .ref a1) (C := RX11) (T := TX11) (N := 19) hx hb hU inlX11 hown hK hP 0 rfl rfl 0 (by decide) (hU _ wd_13) (fun _ h9 => h9) rfl dX11_putNumber_8 ?_
  refine lv_aload_n hx hb dX11_putNumber_11 rfl (lv_at hl 1 rfl) ?_
  refine va_get (D := (dC, dI)) (ci := 11) (v := .int 1) (C := RX11) (T := TX11) (N := 19) hx hb hU inlX11 hown hK hP 0 rfl rfl 1 (by decide) (hU _ wd_209) (fun _ h9 => h9) rfl dX11_putNumber_12 ?_
  refine lv_iload_n hx hb dX11_putNumber_15 rfl (lv_at hl 2 rfl) ?_
  refine lv_iload_n hx hb dX11_putNumber_16 rfl (lv_at hl 0 rfl) ?_
  refine lv_iushr hx hb dX11_putNumber_17 rfl ?_
  refine lv_topi (fun u_3 eu_3 => ?_)
  refine lv_sipush (v := 255) hx hb dX11_putNumber_18 (by decide) ?_
  refine lv_iand hx hb dX11_putNumber_21 ?_
  refine va_iast hx hb hK hP hD hS 1 0 rfl rfl (vp_in_nI (n := 1) (by decide) (by decide)) dX11_putNumber_22 (fun H locs hP hD hS => ?_)
  obtain ⟨g_4, eg_4⟩ : ∃ y : Nat → Int32, upd g_2 (Int32.toNatClampNeg 1) (u_3 &&& 255) = y := ⟨_, rfl⟩
  have hP : va_P (dC, dI) vwCl [(a0, .inr (11, [.ref a1, .int 1, .ref a2, .ref a3, .ref a4, .ref a5, .ref a6, .ref a7, .int 0, .ref a8, .ref a9, .ref a10, .int 0, .int (-1), .ref a11, .int 0, .ref a12, .ref a13, .int 0])), (a1, .inl (cI, 600, .inl g_4))] H := by rw [eg_4] at hP; exact hP
  have hD : va_D A [(a0, .inr (11, [.ref a1, .int 1, .ref a2, .ref a3, .ref a4, .ref a5, .ref a6, .ref a7, .int 0, .ref a8, .ref a9, .ref a10, .int 0, .int (-1), .ref a11, .int 0, .ref a12, .ref a13, .int 0])), (a1, .inl (cI, 600, .inl g_4))] := by rw [eg_4] at hD; exact hD
  refine lv_aload_n hx hb dX11_putNumber_23 rfl (lv_at hl 1 rfl) ?_
  refine lv_dup hx hb dX11_putNumber_24 rfl ?_
  refine va_get (D := (dC, dI)) (ci := 11) (v := .int 1) (C := RX11) (T := TX11) (N := 19) hx hb hU inlX11 hown hK hP 0 rfl rfl 1 (by decide) (hU _ wd_209) (fun _ h9 => h9) rfl dX11_putNumber_25 ?_
  refine lv_iconst (v := 1) hx hb dX11_putNumber_28 (by decide) ?_
  refine lv_iadd hx hb dX11_putNumber_29 ?_
  refine tk_topi (y := 2) (by decide) ?_
  refine va_put (D := (dC, dI)) (ci := 11) (v := .int 2) (ty := .int) (C := RX11) (T := TX11) (N := 19) hx hb hU inlX11 tyX11 tyX11_ok nmX11 hown hK hP hD hS 0 rfl rfl 1 (by decide) (hU _ wd_209) (fun _ h9 => h9) rfl (by decide +kernel) rfl rfl (Nat.le_of_ble_eq_true rfl) dX11_putNumber_30 (fun H locs hP hD hS => ?_)
  have hP : va_P (dC, dI) vwCl [(a0, .inr (11, [.ref a1, .int 2, .ref a2, .ref a3, .ref a4, .ref a5, .ref a6, .ref a7, .int 0, .ref a8, .ref a9, .ref a10, .int 0, .int (-1), .ref a11, .int 0, .ref a12, .ref a13, .int 0])), (a1, .inl (cI, 600, .inl g_4))] H := hP
  have hD : va_D A [(a0, .inr (11, [.ref a1, .int 2, .ref a2, .ref a3, .ref a4, .ref a5, .ref a6, .ref a7, .int 0, .ref a8, .ref a9, .ref a10, .int 0, .int (-1), .ref a11, .int 0, .ref a12, .ref a13, .int 0])), (a1, .inl (cI, 600, .inl g_4))] := hD
  refine lv_iinc (v := 8) (lv' := [(2, .int 8), (0, .ref a0), (1, .int x0)]) hx hb dX11_putNumber_33 hl (k := 0) rfl (by decide) (by decide) rfl (fun ls hl => ?_)
  refine lv_goto (tgt := 3) hx hb dX11_putNumber_36 (by decide) ?_
  refine lv_iload_n hx hb dX11_putNumber_3 rfl (lv_at hl 0 rfl) ?_
  refine lv_if_lt (tgt := 39) hx hb dX11_putNumber_4 (by decide) (fun c9 => absurd c9 (by decide)) (fun _ => ?_)
  refine lv_aload_n hx hb dX11_putNumber_7 rfl (lv_at hl 1 rfl) ?_
  refine va_get (D := (dC, dI)) (ci := 11) (v := .ref a1) (C := RX11) (T := TX11) (N := 19) hx hb hU inlX11 hown hK hP 0 rfl rfl 0 (by decide) (hU _ wd_13) (fun _ h9 => h9) rfl dX11_putNumber_8 ?_
  refine lv_aload_n hx hb dX11_putNumber_11 rfl (lv_at hl 1 rfl) ?_
  refine va_get (D := (dC, dI)) (ci := 11) (v := .int 2) (C := RX11) (T := TX11) (N := 19) hx hb hU inlX11 hown hK hP 0 rfl rfl 1 (by decide) (hU _ wd_209) (fun _ h9 => h9) rfl dX11_putNumber_12 ?_
  refine lv_iload_n hx hb dX11_putNumber_15 rfl (lv_at hl 2 rfl) ?_
  refine lv_iload_n hx hb dX11_putNumber_16 rfl (lv_at hl 0 rfl) ?_
  refine lv_iushr hx hb dX11_putNumber_17 rfl ?_
  refine lv_topi (fun u_5 eu_5 => ?_)
  refine lv_sipush (v := 255) hx hb dX11_putNumber_18 (by decide) ?_
  refine lv_iand hx hb dX11_putNumber_21 ?_
  refine va_iast hx hb hK hP hD hS 1 0 rfl rfl (vp_in_nI (n := 2) (by decide) (by decide)) dX11_putNumber_22 (fun H locs hP hD hS => ?_)
  obtain ⟨g_6, eg_6⟩ : ∃ y : Nat → Int32, upd g_4 (Int32.toNatClampNeg 2) (u_5 &&& 255) = y := ⟨_, rfl⟩
  have hP : va_P (dC, dI) vwCl [(a0, .inr (11, [.ref a1, .int 2, .ref a2, .ref a3, .ref a4, .ref a5, .ref a6, .ref a7, .int 0, .ref a8, .ref a9, .ref a10, .int 0, .int (-1), .ref a11, .int 0, .ref a12, .ref a13, .int 0])), (a1, .inl (cI, 600, .inl g_6))] H := by rw [eg_6] at hP; exact hP
  have hD : va_D A [(a0, .inr (11, [.ref a1, .int 2, .ref a2, .ref a3, .ref a4, .ref a5, .ref a6, .ref a7, .int 0, .ref a8, .ref a9, .ref a10, .int 0, .int (-1), .ref a11, .int 0, .ref a12, .ref a13, .int 0])), (a1, .inl (cI, 600, .inl g_6))] := by rw [eg_6] at hD; exact hD
  refine lv_aload_n hx hb dX11_putNumber_23 rfl (lv_at hl 1 rfl) ?_
  refine lv_dup hx hb dX11_putNumber_24 rfl ?_
  refine va_get (D := (dC, dI)) (ci := 11) (v := .int 2) (C := RX11) (T := TX11) (N := 19) hx hb hU inlX11 hown hK hP 0 rfl rfl 1 (by decide) (hU _ wd_209) (fun _ h9 => h9) rfl dX11_putNumber_25 ?_
  refine lv_iconst (v := 1) hx hb dX11_putNumber_28 (by decide) ?_
  refine lv_iadd hx hb dX11_putNumber_29 ?_
  refine tk_topi (y := 3) (by decide) ?_
  refine va_put (D := (dC, dI)) (ci := 11) (v := .int 3) (ty := .int) (C := RX11) (T := TX11) (N := 19) hx hb hU inlX11 tyX11 tyX11_ok nmX11 hown hK hP hD hS 0 rfl rfl 1 (by decide) (hU _ wd_209) (fun _ h9 => h9) rfl (by decide +kernel) rfl rfl (Nat.le_of_ble_eq_true rfl) dX11_putNumber_30 (fun H locs hP hD hS => ?_)
  have hP : va_P (dC, dI) vwCl [(a0, .inr (11, [.ref a1, .int 3, .ref a2, .ref a3, .ref a4, .ref a5, .ref a6, .ref a7, .int 0, .ref a8, .ref a9, .ref a10, .int 0, .int (-1), .ref a11, .int 0, .ref a12, .ref a13, .int 0])), (a1, .inl (cI, 600, .inl g_6))] H := hP
  have hD : va_D A [(a0, .inr (11, [.ref a1, .int 3, .ref a2, .ref a3, .ref a4, .ref a5, .ref a6, .ref a7, .int 0, .ref a8, .ref a9, .ref a10, .int 0, .int (-1), .ref a11, .int 0, .ref a12, .ref a13, .int 0])), (a1, .inl (cI, 600, .inl g_6))] := hD
  refine lv_iinc (v := 0) (lv' := [(2, .int 0), (0, .ref a0), (1, .int x0)]) hx hb dX11_putNumber_33 hl (k := 0) rfl (by decide) (by decide) rfl (fun ls hl => ?_)
  refine lv_goto (tgt := 3) hx hb dX11_putNumber_36 (by decide) ?_
  refine lv_iload_n hx hb dX11_putNumber_3 rfl (lv_at hl 0 rfl) ?_
  refine lv_if_lt (tgt := 39) hx hb dX11_putNumber_4 (by decide) (fun c9 => absurd c9 (by decide)) (fun _ => ?_)
  refine lv_aload_n hx hb dX11_putNumber_7 rfl (lv_at hl 1 rfl) ?_
  refine va_get (D := (dC, dI)) (ci := 11) (v := .ref a1) (C := RX11) (T := TX11) (N := 19) hx hb hU inlX11 hown hK hP 0 rfl rfl 0 (by decide) (hU _ wd_13) (fun _ h9 => h9) rfl dX11_putNumber_8 ?_
  refine lv_aload_n hx hb dX11_putNumber_11 rfl (lv_at hl 1 rfl) ?_
  refine va_get (D := (dC, dI)) (ci := 11) (v := .int 3) (C := RX11) (T := TX11) (N := 19) hx hb hU inlX11 hown hK hP 0 rfl rfl 1 (by decide) (hU _ wd_209) (fun _ h9 => h9) rfl dX11_putNumber_12 ?_
  refine lv_iload_n hx hb dX11_putNumber_15 rfl (lv_at hl 2 rfl) ?_
  refine lv_iload_n hx hb dX11_putNumber_16 rfl (lv_at hl 0 rfl) ?_
  refine lv_iushr hx hb dX11_putNumber_17 rfl ?_
  refine lv_topi (fun u_7 eu_7 => ?_)
  refine lv_sipush (v := 255) hx hb dX11_putNumber_18 (by decide) ?_
  refine lv_iand hx hb dX11_putNumber_21 ?_
  refine va_iast hx hb hK hP hD hS 1 0 rfl rfl (vp_in_nI (n := 3) (by decide) (by decide)) dX11_putNumber_22 (fun H locs hP hD hS => ?_)
  obtain ⟨g_8, eg_8⟩ : ∃ y : Nat → Int32, upd g_6 (Int32.toNatClampNeg 3) (u_7 &&& 255) = y := ⟨_, rfl⟩
  have hP : va_P (dC, dI) vwCl [(a0, .inr (11, [.ref a1, .int 3, .ref a2, .ref a3, .ref a4, .ref a5, .ref a6, .ref a7, .int 0, .ref a8, .ref a9, .ref a10, .int 0, .int (-1), .ref a11, .int 0, .ref a12, .ref a13, .int 0])), (a1, .inl (cI, 600, .inl g_8))] H := by rw [eg_8] at hP; exact hP
  have hD : va_D A [(a0, .inr (11, [.ref a1, .int 3, .ref a2, .ref a3, .ref a4, .ref a5, .ref a6, .ref a7, .int 0, .ref a8, .ref a9, .ref a10, .int 0, .int (-1), .ref a11, .int 0, .ref a12, .ref a13, .int 0])), (a1, .inl (cI, 600, .inl g_8))] := by rw [eg_8] at hD; exact hD
  refine lv_aload_n hx hb dX11_putNumber_23 rfl (lv_at hl 1 rfl) ?_
  refine lv_dup hx hb dX11_putNumber_24 rfl ?_
  refine va_get (D := (dC, dI)) (ci := 11) (v := .int 3) (C := RX11) (T := TX11) (N := 19) hx hb hU inlX11 hown hK hP 0 rfl rfl 1 (by decide) (hU _ wd_209) (fun _ h9 => h9) rfl dX11_putNumber_25 ?_
  refine lv_iconst (v := 1) hx hb dX11_putNumber_28 (by decide) ?_
  refine lv_iadd hx hb dX11_putNumber_29 ?_
  refine tk_topi (y := 4) (by decide) ?_
  refine va_put (D := (dC, dI)) (ci := 11) (v := .int 4) (ty := .int) (C := RX11) (T := TX11) (N := 19) hx hb hU inlX11 tyX11 tyX11_ok nmX11 hown hK hP hD hS 0 rfl rfl 1 (by decide) (hU _ wd_209) (fun _ h9 => h9) rfl (by decide +kernel) rfl rfl (Nat.le_of_ble_eq_true rfl) dX11_putNumber_30 (fun H locs hP hD hS => ?_)
  have hP : va_P (dC, dI) vwCl [(a0, .inr (11, [.ref a1, .int 4, .ref a2, .ref a3, .ref a4, .ref a5, .ref a6, .ref a7, .int 0, .ref a8, .ref a9, .ref a10, .int 0, .int (-1), .ref a11, .int 0, .ref a12, .ref a13, .int 0])), (a1, .inl (cI, 600, .inl g_8))] H := hP
  have hD : va_D A [(a0, .inr (11, [.ref a1, .int 4, .ref a2, .ref a3, .ref a4, .ref a5, .ref a6, .ref a7, .int 0, .ref a8, .ref a9, .ref a10, .int 0, .int (-1), .ref a11, .int 0, .ref a12, .ref a13, .int 0])), (a1, .inl (cI, 600, .inl g_8))] := hD
  refine lv_iinc (v := (-8)) (lv' := [(2, .int (-8)), (0, .ref a0), (1, .int x0)]) hx hb dX11_putNumber_33 hl (k := 0) rfl (by decide) (by decide) rfl (fun ls hl => ?_)
  refine lv_goto (tgt := 3) hx hb dX11_putNumber_36 (by decide) ?_
  refine lv_iload_n hx hb dX11_putNumber_3 rfl (lv_at hl 0 rfl) ?_
  refine lv_if_lt (tgt := 39) hx hb dX11_putNumber_4 (by decide) (fun _ => ?_) (fun c9 => absurd (by decide) c9) 
  have hP9 := hP.sub (ws' := [(a0, .inr (11, [.ref a1, .int 4, .ref a2, .ref a3, .ref a4, .ref a5, .ref a6, .ref a7, .int 0, .ref a8, .ref a9, .ref a10, .int 0, .int (-1), .ref a11, .int 0, .ref a12, .ref a13, .int 0])), (a1, .inl (cI, 600, .inl g_8))]) [0, 1] rfl
  have hD9 := hD.sub (ws' := [(a0, .inr (11, [.ref a1, .int 4, .ref a2, .ref a3, .ref a4, .ref a5, .ref a6, .ref a7, .int 0, .ref a8, .ref a9, .ref a10, .int 0, .int (-1), .ref a11, .int 0, .ref a12, .ref a13, .int 0])), (a1, .inl (cI, 600, .inl g_8))]) [0, 1] (by decide) rfl
  refine W.widen (k := 0) (n := 0) (Nat.le_of_ble_eq_true rfl) (Nat.le_of_ble_eq_true rfl) ?_
  exact W.vret hx hb hr (fun t ht hW => ⟨⟨[(a0, .inr (11, [.ref a1, .int 4, .ref a2, .ref a3, .ref a4, .ref a5, .ref a6, .ref a7, .int 0, .ref a8, .ref a9, .ref a10, .int 0, .int (-1), .ref a11, .int 0, .ref a12, .ref a13, .int 0])), (a1, .inl (cI, 600, .inl g_8))], rfl, ⟨g_8, rfl⟩, by rw [ht]; exact hP9, va_K.moved hW.alike hK, hD9⟩, hS.F ht⟩) hS.2.2 dX11_putNumber_39
set_option maxHeartbeats 8000000 in
set_option maxRecDepth 100000 in
theorem cc_X11_putNumber_1 (l : Launch) (D : va_G) (cI cL cZ : ClassId) (sz : Nat) (a0 : Nat) (x0 : Int32) (a1 : Nat) (a2 : Nat) (a3 : Nat) (a4 : Nat) (a5 : Nat) (a6 : Nat) (a7 : Nat) (a8 : Nat) (a9 : Nat) (a10 : Nat) (a11 : Nat) (a12 : Nat) (a13 : Nat) (f0 : Nat → Int32) : mV l D cI cL cZ yX11_putNumber cX11_putNumber 3 none 0 0 0 0 [.ref a0, .int x0] sz [(a0, .inr (11, [.ref a1, .int 4, .ref a2, .ref a3, .ref a4, .ref a5, .ref a6, .ref a7, .int 0, .ref a8, .ref a9, .ref a10, .int 0, .int (-1), .ref a11, .int 0, .ref a12, .ref a13, .int 0])), (a1, .inl (cI, 600, .inl f0))] (fun (w1 : va_W) => ∃ (g_8 : Nat → Int32), w1 = ([(a0, .inr (11, [.ref a1, .int 8, .ref a2, .ref a3, .ref a4, .ref a5, .ref a6, .ref a7, .int 0, .ref a8, .ref a9, .ref a10, .int 0, .int (-1), .ref a11, .int 0, .ref a12, .ref a13, .int 0])), (a1, .inl (cI, 600, .inl g_8))] : va_W)) := by
  obtain ⟨dC, dI⟩ := D
  refine Met.ofW (cc := cX11_putNumber) (maxL := 3) (ret := none) (by decide) rfl ?_
  intro p e s m args below meth c s₁ B hml hv
  obtain ⟨rfl, hsz, hP, hK, hD0, hN⟩ := hv
  have hx := B.exec
  have hb := B.bytes
  have hr := B.returns
  have hU : ∀ w ∈ wsU, w.before _ s = true := fun w h => atoms_spec (ws := wU yX11_putNumber cX11_putNumber 3 none) B.pre w (List.mem_cons_of_mem _ h)
  have hown : s.vm.findClass RX11 = some m.cls := findClass_of_methodNamed B.named
  have hlocks := B.notSynchronized
  subst hsz
  have hD := hD0.self (sz := s.heap.size)
  generalize hAe : va_A [(a0, .inr (11, [.ref a1, .int 4, .ref a2, .ref a3, .ref a4, .ref a5, .ref a6, .ref a7, .int 0, .ref a8, .ref a9, .ref a10, .int 0, .int (-1), .ref a11, .int 0, .ref a12, .ref a13, .int 0])), (a1, .inl (cI, 600, .inl f0))] s.heap.size = A at hD ⊢
  have hA : ∀ q : Nat, s.heap.size ≤ q → A q := fun q h => by rw [← hAe]; exact Or.inr h
  have hS : va_S A s.heap s.heap [] := va_S.rf
  have hP : va_P (dC, dI) vwCl [(a0, .inr (11, [.ref a1, .int 4, .ref a2, .ref a3, .ref a4, .ref a5, .ref a6, .ref a7, .int 0, .ref a8, .ref a9, .ref a10, .int 0, .int (-1), .ref a11, .int 0, .ref a12, .ref a13, .int 0])), (a1, .inl (cI, 600, .inl f0))] s.heap := hP
  have hl := lv_entry ([.ref a0, .int x0]) (n := 3) (Nat.le_of_ble_eq_true rfl)
  rw [lg_entry_eq]
  generalize (lg_sl ([.ref a0, .int x0]) ++ List.replicate (3 - (lg_sl ([.ref a0, .int x0])).length) Slot.unset).toArray = ls at hl ⊢
  have hl : lv_has ls 3 [(0, .ref a0), (1, .int x0)] := hl
  refine lv_bipush (v := 24) hx hb dX11_putNumber_0 (by decide) ?_
  refine lv_istore_n (lv' := [(2, .int 24), (0, .ref a0), (1, .int x0)]) hx hb dX11_putNumber_2 rfl hl (by decide) rfl (fun ls hl => ?_)
  refine lv_iload_n hx hb dX11_putNumber_3 rfl (lv_at hl 0 rfl) ?_
  refine lv_if_lt (tgt := 39) hx hb dX11_putNumber_4 (by decide) (fun c9 => absurd c9 (by decide)) (fun _ => ?_)
  refine lv_aload_n hx hb dX11_putNumber_7 rfl (lv_at hl 1 rfl) ?_
  refine va_get (D := (dC, dI)) (ci := 11) (v := .ref a1) (C := RX11) (T := TX11) (N := 19) hx hb hU inlX11 hown hK hP 0 rfl rfl 0 (by decide) (hU _ wd_13) (fun _ h9 => h9) rfl dX11_putNumber_8 ?_
  refine lv_aload_n hx hb dX11_putNumber_11 rfl (lv_at hl 1 rfl) ?_
  refine va_get (D := (dC, dI)) (ci := 11) (v := .int 4) (C := RX11) (T := TX11) (N := 19) hx hb hU inlX11 hown hK hP 0 rfl rfl 1 (by decide) (hU _ wd_209) (fun _ h9 => h9) rfl dX11_putNumber_12 ?_
  refine lv_iload_n hx hb dX11_putNumber_15 rfl (lv_at hl 2 rfl) ?_
  refine lv_iload_n hx hb dX11_putNumber_16 rfl (lv_at hl 0 rfl) ?_
  refine lv_iushr hx hb dX11_putNumber_17 rfl ?_
  refine lv_topi (fun u_1 eu_1 => ?_)
  refine lv_sipush (v := 255) hx hb dX11_putNumber_18 (by decide) ?_
  refine lv_iand hx hb dX11_putNumber_21 ?_
  refine va_iast hx hb hK hP hD hS 1 0 rfl rfl (vp_in_nI (n := 4) (by decide) (by decide)) dX11_putNumber_22 (fun H locs hP hD hS => ?_)
  obtain ⟨g_2, eg_2⟩ : ∃ y : Nat → Int32, upd f0 (Int32.toNatClampNeg 4) (u_1 &&& 255) = y := ⟨_, rfl⟩
  have hP : va_P (dC, dI) vwCl [(a0, .inr (11, [.ref a1, .int 4, .ref a2, .ref a3, .ref a4, .ref a5, .ref a6, .ref a7, .int 0, .ref a8, .ref a9, .ref a10, .int 0, .int (-1), .ref a11, .int 0, .ref a12, .ref a13, .int 0])), (a1, .inl (cI, 600, .inl g_2))] H := by rw [eg_2] at hP; exact hP
  have hD : va_D A [(a0, .inr (11, [.ref a1, .int 4, .ref a2, .ref a3, .ref a4, .ref a5, .ref a6, .ref a7, .int 0, .ref a8, .ref a9, .ref a10, .int 0, .int (-1), .ref a11, .int 0, .ref a12, .ref a13, .int 0])), (a1, .inl (cI, 600, .inl g_2))] := by rw [eg_2] at hD; exact hD
  refine lv_aload_n hx hb dX11_putNumber_23 rfl (lv_at hl 1 rfl) ?_
  refine lv_dup hx hb dX11_putNumber_24 rfl ?_
  refine va_get (D := (dC, dI)) (ci := 11) (v := .int 4) (C := RX11) (T := TX11) (N := 19) hx hb hU inlX11 hown hK hP 0 rfl rfl 1 (by decide) (hU _ wd_209) (fun _ h9 => h9) rfl dX11_putNumber_25 ?_
  refine lv_iconst (v := 1) hx hb dX11_putNumber_28 (by decide) ?_
  refine lv_iadd hx hb dX11_putNumber_29 ?_
  refine tk_topi (y := 5) (by decide) ?_
  refine va_put (D := (dC, dI)) (ci := 11) (v := .int 5) (ty := .int) (C := RX11) (T := TX11) (N := 19) hx hb hU inlX11 tyX11 tyX11_ok nmX11 hown hK hP hD hS 0 rfl rfl 1 (by decide) (hU _ wd_209) (fun _ h9 => h9) rfl (by decide +kernel) rfl rfl (Nat.le_of_ble_eq_true rfl) dX11_putNumber_30 (fun H locs hP hD hS => ?_)
  have hP : va_P (dC, dI) vwCl [(a0, .inr (11, [.ref a1, .int 5, .ref a2, .ref a3, .ref a4, .ref a5, .ref a6, .ref a7, .int 0, .ref a8, .ref a9, .ref a10, .int 0, .int (-1), .ref a11, .int 0, .ref a12, .ref a13, .int 0])), (a1, .inl (cI, 600, .inl g_2))] H := hP
  have hD : va_D A [(a0, .inr (11, [.ref a1, .int 5, .ref a2, .ref a3, .ref a4, .ref a5, .ref a6, .ref a7, .int 0, .ref a8, .ref a9, .ref a10, .int 0, .int (-1), .ref a11, .int 0, .ref a12, .ref a13, .int 0])), (a1, .inl (cI, 600, .inl g_2))] := hD
  refine lv_iinc (v := 16) (lv' := [(2, .int 16), (0, .ref a0), (1, .int x0)]) hx hb dX11_putNumber_33 hl (k := 0) rfl (by decide) (by decide) rfl (fun ls hl => ?_)
  refine lv_goto (tgt := 3) hx hb dX11_putNumber_36 (by decide) ?_
  refine lv_iload_n hx hb dX11_putNumber_3 rfl (lv_at hl 0 rfl) ?_
  refine lv_if_lt (tgt := 39) hx hb dX11_putNumber_4 (by decide) (fun c9 => absurd c9 (by decide)) (fun _ => ?_)
  refine lv_aload_n hx hb dX11_putNumber_7 rfl (lv_at hl 1 rfl) ?_
  refine va_get (D := (dC, dI)) (ci := 11) (v := .ref a1) (C := RX11) (T := TX11) (N := 19) hx hb hU inlX11 hown hK hP 0 rfl rfl 0 (by decide) (hU _ wd_13) (fun _ h9 => h9) rfl dX11_putNumber_8 ?_
  refine lv_aload_n hx hb dX11_putNumber_11 rfl (lv_at hl 1 rfl) ?_
  refine va_get (D := (dC, dI)) (ci := 11) (v := .int 5) (C := RX11) (T := TX11) (N := 19) hx hb hU inlX11 hown hK hP 0 rfl rfl 1 (by decide) (hU _ wd_209) (fun _ h9 => h9) rfl dX11_putNumber_12 ?_
  refine lv_iload_n hx hb dX11_putNumber_15 rfl (lv_at hl 2 rfl) ?_
  refine lv_iload_n hx hb dX11_putNumber_16 rfl (lv_at hl 0 rfl) ?_
  refine lv_iushr hx hb dX11_putNumber_17 rfl ?_
  refine lv_topi (fun u_3 eu_3 => ?_)
  refine lv_sipush (v := 255) hx hb dX11_putNumber_18 (by decide) ?_
  refine lv_iand hx hb dX11_putNumber_21 ?_
  refine va_iast hx hb hK hP hD hS 1 0 rfl rfl (vp_in_nI (n := 5) (by decide) (by decide)) dX11_putNumber_22 (fun H locs hP hD hS => ?_)
  obtain ⟨g_4, eg_4⟩ : ∃ y : Nat → Int32, upd g_2 (Int32.toNatClampNeg 5) (u_3 &&& 255) = y := ⟨_, rfl⟩
  have hP : va_P (dC, dI) vwCl [(a0, .inr (11, [.ref a1, .int 5, .ref a2, .ref a3, .ref a4, .ref a5, .ref a6, .ref a7, .int 0, .ref a8, .ref a9, .ref a10, .int 0, .int (-1), .ref a11, .int 0, .ref a12, .ref a13, .int 0])), (a1, .inl (cI, 600, .inl g_4))] H := by rw [eg_4] at hP; exact hP
  have hD : va_D A [(a0, .inr (11, [.ref a1, .int 5, .ref a2, .ref a3, .ref a4, .ref a5, .ref a6, .ref a7, .int 0, .ref a8, .ref a9, .ref a10, .int 0, .int (-1), .ref a11, .int 0, .ref a12, .ref a13, .int 0])), (a1, .inl (cI, 600, .inl g_4))] := by rw [eg_4] at hD; exact hD
  refine lv_aload_n hx hb dX11_putNumber_23 rfl (lv_at hl 1 rfl) ?_
  refine lv_dup hx hb dX11_putNumber_24 rfl ?_
  refine va_get (D := (dC, dI)) (ci := 11) (v := .int 5) (C := RX11) (T := TX11) (N := 19) hx hb hU inlX11 hown hK hP 0 rfl rfl 1 (by decide) (hU _ wd_209) (fun _ h9 => h9) rfl dX11_putNumber_25 ?_
  refine lv_iconst (v := 1) hx hb dX11_putNumber_28 (by decide) ?_
  refine lv_iadd hx hb dX11_putNumber_29 ?_
  refine tk_topi (y := 6) (by decide) ?_
  refine va_put (D := (dC, dI)) (ci := 11) (v := .int 6) (ty := .int) (C := RX11) (T := TX11) (N := 19) hx hb hU inlX11 tyX11 tyX11_ok nmX11 hown hK hP hD hS 0 rfl rfl 1 (by decide) (hU _ wd_209) (fun _ h9 => h9) rfl (by decide +kernel) rfl rfl (Nat.le_of_ble_eq_true rfl) dX11_putNumber_30 (fun H locs hP hD hS => ?_)
  have hP : va_P (dC, dI) vwCl [(a0, .inr (11, [.ref a1, .int 6, .ref a2, .ref a3, .ref a4, .ref a5, .ref a6, .ref a7, .int 0, .ref a8, .ref a9, .ref a10, .int 0, .int (-1), .ref a11, .int 0, .ref a12, .ref a13, .int 0])), (a1, .inl (cI, 600, .inl g_4))] H := hP
  have hD : va_D A [(a0, .inr (11, [.ref a1, .int 6, .ref a2, .ref a3, .ref a4, .ref a5, .ref a6, .ref a7, .int 0, .ref a8, .ref a9, .ref a10, .int 0, .int (-1), .ref a11, .int 0, .ref a12, .ref a13, .int 0])), (a1, .inl (cI, 600, .inl g_4))] := hD
  refine lv_iinc (v := 8) (lv' := [(2, .int 8), (0, .ref a0), (1, .int x0)]) hx hb dX11_putNumber_33 hl (k := 0) rfl (by decide) (by decide) rfl (fun ls hl => ?_)
  refine lv_goto (tgt := 3) hx hb dX11_putNumber_36 (by decide) ?_
  refine lv_iload_n hx hb dX11_putNumber_3 rfl (lv_at hl 0 rfl) ?_
  refine lv_if_lt (tgt := 39) hx hb dX11_putNumber_4 (by decide) (fun c9 => absurd c9 (by decide)) (fun _ => ?_)
  refine lv_aload_n hx hb dX11_putNumber_7 rfl (lv_at hl 1 rfl) ?_
  refine va_get (D := (dC, dI)) (ci := 11) (v := .ref a1) (C := RX11) (T := TX11) (N := 19) hx hb hU inlX11 hown hK hP 0 rfl rfl 0 (by decide) (hU _ wd_13) (fun _ h9 => h9) rfl dX11_putNumber_8 ?_
  refine lv_aload_n hx hb dX11_putNumber_11 rfl (lv_at hl 1 rfl) ?_
  refine va_get (D := (dC, dI)) (ci := 11) (v := .int 6) (C := RX11) (T := TX11) (N := 19) hx hb hU inlX11 hown hK hP 0 rfl rfl 1 (by decide) (hU _ wd_209) (fun _ h9 => h9) rfl dX11_putNumber_12 ?_
  refine lv_iload_n hx hb dX11_putNumber_15 rfl (lv_at hl 2 rfl) ?_
  refine lv_iload_n hx hb dX11_putNumber_16 rfl (lv_at hl 0 rfl) ?_
  refine lv_iushr hx hb dX11_putNumber_17 rfl ?_
  refine lv_topi (fun u_5 eu_5 => ?_)
  refine lv_sipush (v := 255) hx hb dX11_putNumber_18 (by decide) ?_
  refine lv_iand hx hb dX11_putNumber_21 ?_
  refine va_iast hx hb hK hP hD hS 1 0 rfl rfl (vp_in_nI (n := 6) (by decide) (by decide)) dX11_putNumber_22 (fun H locs hP hD hS => ?_)
  obtain ⟨g_6, eg_6⟩ : ∃ y : Nat → Int32, upd g_4 (Int32.toNatClampNeg 6) (u_5 &&& 255) = y := ⟨_, rfl⟩
  have hP : va_P (dC, dI) vwCl [(a0, .inr (11, [.ref a1, .int 6, .ref a2, .ref a3, .ref a4, .ref a5, .ref a6, .ref a7, .int 0, .ref a8, .ref a9, .ref a10, .int 0, .int (-1), .ref a11, .int 0, .ref a12, .ref a13, .int 0])), (a1, .inl (cI, 600, .inl g_6))] H := by rw [eg_6] at hP; exact hP
  have hD : va_D A [(a0, .inr (11, [.ref a1, .int 6, .ref a2, .ref a3, .ref a4, .ref a5, .ref a6, .ref a7, .int 0, .ref a8, .ref a9, .ref a10, .int 0, .int (-1), .ref a11, .int 0, .ref a12, .ref a13, .int 0])), (a1, .inl (cI, 600, .inl g_6))] := by rw [eg_6] at hD; exact hD
  refine lv_aload_n hx hb dX11_putNumber_23 rfl (lv_at hl 1 rfl) ?_
  refine lv_dup hx hb dX11_putNumber_24 rfl ?_
  refine va_get (D := (dC, dI)) (ci := 11) (v := .int 6) (C := RX11) (T := TX11) (N := 19) hx hb hU inlX11 hown hK hP 0 rfl rfl 1 (by decide) (hU _ wd_209) (fun _ h9 => h9) rfl dX11_putNumber_25 ?_
  refine lv_iconst (v := 1) hx hb dX11_putNumber_28 (by decide) ?_
  refine lv_iadd hx hb dX11_putNumber_29 ?_
  refine tk_topi (y := 7) (by decide) ?_
  refine va_put (D := (dC, dI)) (ci := 11) (v := .int 7) (ty := .int) (C := RX11) (T := TX11) (N := 19) hx hb hU inlX11 tyX11 tyX11_ok nmX11 hown hK hP hD hS 0 rfl rfl 1 (by decide) (hU _ wd_209) (fun _ h9 => h9) rfl (by decide +kernel) rfl rfl (Nat.le_of_ble_eq_true rfl) dX11_putNumber_30 (fun H locs hP hD hS => ?_)
  have hP : va_P (dC, dI) vwCl [(a0, .inr (11, [.ref a1, .int 7, .ref a2, .ref a3, .ref a4, .ref a5, .ref a6, .ref a7, .int 0, .ref a8, .ref a9, .ref a10, .int 0, .int (-1), .ref a11, .int 0, .ref a12, .ref a13, .int 0])), (a1, .inl (cI, 600, .inl g_6))] H := hP
  have hD : va_D A [(a0, .inr (11, [.ref a1, .int 7, .ref a2, .ref a3, .ref a4, .ref a5, .ref a6, .ref a7, .int 0, .ref a8, .ref a9, .ref a10, .int 0, .int (-1), .ref a11, .int 0, .ref a12, .ref a13, .int 0])), (a1, .inl (cI, 600, .inl g_6))] := hD
  refine lv_iinc (v := 0) (lv' := [(2, .int 0), (0, .ref a0), (1, .int x0)]) hx hb dX11_putNumber_33 hl (k := 0) rfl (by decide) (by decide) rfl (fun ls hl => ?_)
  refine lv_goto (tgt := 3) hx hb dX11_putNumber_36 (by decide) ?_
  refine lv_iload_n hx hb dX11_putNumber_3 rfl (lv_at hl 0 rfl) ?_
  refine lv_if_lt (tgt := 39) hx hb dX11_putNumber_4 (by decide) (fun c9 => absurd c9 (by decide)) (fun _ => ?_)
  refine lv_aload_n hx hb dX11_putNumber_7 rfl (lv_at hl 1 rfl) ?_
  refine va_get (D := (dC, dI)) (ci := 11) (v := .ref a1) (C := RX11) (T := TX11) (N := 19) hx hb hU inlX11 hown hK hP 0 rfl rfl 0 (by decide) (hU _ wd_13) (fun _ h9 => h9) rfl dX11_putNumber_8 ?_
  refine lv_aload_n hx hb dX11_putNumber_11 rfl (lv_at hl 1 rfl) ?_
  refine va_get (D := (dC, dI)) (ci := 11) (v := .int 7) (C := RX11) (T := TX11) (N := 19) hx hb hU inlX11 hown hK hP 0 rfl rfl 1 (by decide) (hU _ wd_209) (fun _ h9 => h9) rfl dX11_putNumber_12 ?_
  refine lv_iload_n hx hb dX11_putNumber_15 rfl (lv_at hl 2 rfl) ?_
  refine lv_iload_n hx hb dX11_putNumber_16 rfl (lv_at hl 0 rfl) ?_
  refine lv_iushr hx hb dX11_putNumber_17 rfl ?_
  refine lv_topi (fun u_7 eu_7 => ?_)
  refine lv_sipush (v := 255) hx hb dX11_putNumber_18 (by decide) ?_
  refine lv_iand hx hb dX11_putNumber_21 ?_
  refine va_iast hx hb hK hP hD hS 1 0 rfl rfl (vp_in_nI (n := 7) (by decide) (by decide)) dX11_putNumber_22 (fun H locs hP hD hS => ?_)
  obtain ⟨g_8, eg_8⟩ : ∃ y : Nat → Int32, upd g_6 (Int32.toNatClampNeg 7) (u_7 &&& 255) = y := ⟨_, rfl⟩
  have hP : va_P (dC, dI) vwCl [(a0, .inr (11, [.ref a1, .int 7, .ref a2, .ref a3, .ref a4, .ref a5, .ref a6, .ref a7, .int 0, .ref a8, .ref a9, .ref a10, .int 0, .int (-1), .ref a11, .int 0, .ref a12, .ref a13, .int 0])), (a1, .inl (cI, 600, .inl g_8))] H := by rw [eg_8] at hP; exact hP
  have hD : va_D A [(a0, .inr (11, [.ref a1, .int 7, .ref a2, .ref a3, .ref a4, .ref a5, .ref a6, .ref a7, .int 0, .ref a8, .ref a9, .ref a10, .int 0, .int (-1), .ref a11, .int 0, .ref a12, .ref a13, .int 0])), (a1, .inl (cI, 600, .inl g_8))] := by rw [eg_8] at hD; exact hD
  refine lv_aload_n hx hb dX11_putNumber_23 rfl (lv_at hl 1 rfl) ?_
  refine lv_dup hx hb dX11_putNumber_24 rfl ?_
  refine va_get (D := (dC, dI)) (ci := 11) (v := .int 7) (C := RX11) (T := TX11) (N := 19) hx hb hU inlX11 hown hK hP 0 rfl rfl 1 (by decide) (hU _ wd_209) (fun _ h9 => h9) rfl dX11_putNumber_25 ?_
  refine lv_iconst (v := 1) hx hb dX11_putNumber_28 (by decide) ?_
  refine lv_iadd hx hb dX11_putNumber_29 ?_
  refine tk_topi (y := 8) (by decide) ?_
  refine va_put (D := (dC, dI)) (ci := 11) (v := .int 8) (ty := .int) (C := RX11) (T := TX11) (N := 19) hx hb hU inlX11 tyX11 tyX11_ok nmX11 hown hK hP hD hS 0 rfl rfl 1 (by decide) (hU _ wd_209) (fun _ h9 => h9) rfl (by decide +kernel) rfl rfl (Nat.le_of_ble_eq_true rfl) dX11_putNumber_30 (fun H locs hP hD hS => ?_)
  have hP : va_P (dC, dI) vwCl [(a0, .inr (11, [.ref a1, .int 8, .ref a2, .ref a3, .ref a4, .ref a5, .ref a6, .ref a7, .int 0, .ref a8, .ref a9, .ref a10, .int 0, .int (-1), .ref a11, .int 0, .ref a12, .ref a13, .int 0])), (a1, .inl (cI, 600, .inl g_8))] H := hP
  have hD : va_D A [(a0, .inr (11, [.ref a1, .int 8, .ref a2, .ref a3, .ref a4, .ref a5, .ref a6, .ref a7, .int 0, .ref a8, .ref a9, .ref a10, .int 0, .int (-1), .ref a11, .int 0, .ref a12, .ref a13, .int 0])), (a1, .inl (cI, 600, .inl g_8))] := hD
  refine lv_iinc (v := (-8)) (lv' := [(2, .int (-8)), (0, .ref a0), (1, .int x0)]) hx hb dX11_putNumber_33 hl (k := 0) rfl (by decide) (by decide) rfl (fun ls hl => ?_)
  refine lv_goto (tgt := 3) hx hb dX11_putNumber_36 (by decide) ?_
  refine lv_iload_n hx hb dX11_putNumber_3 rfl (lv_at hl 0 rfl) ?_
  refine lv_if_lt (tgt := 39) hx hb dX11_putNumber_4 (by decide) (fun _ => ?_) (fun c9 => absurd (by decide) c9) 
  have hP9 := hP.sub (ws' := [(a0, .inr (11, [.ref a1, .int 8, .ref a2, .ref a3, .ref a4, .ref a5, .ref a6, .ref a7, .int 0, .ref a8, .ref a9, .ref a10, .int 0, .int (-1), .ref a11, .int 0, .ref a12, .ref a13, .int 0])), (a1, .inl (cI, 600, .inl g_8))]) [0, 1] rfl
  have hD9 := hD.sub (ws' := [(a0, .inr (11, [.ref a1, .int 8, .ref a2, .ref a3, .ref a4, .ref a5, .ref a6, .ref a7, .int 0, .ref a8, .ref a9, .ref a10, .int 0, .int (-1), .ref a11, .int 0, .ref a12, .ref a13, .int 0])), (a1, .inl (cI, 600, .inl g_8))]) [0, 1] (by decide) rfl
  refine W.widen (k := 0) (n := 0) (Nat.le_of_ble_eq_true rfl) (Nat.le_of_ble_eq_true rfl) ?_
  exact W.vret hx hb hr (fun t ht hW => ⟨⟨[(a0, .inr (11, [.ref a1, .int 8, .ref a2, .ref a3, .ref a4, .ref a5, .ref a6, .ref a7, .int 0, .ref a8, .ref a9, .ref a10, .int 0, .int (-1), .ref a11, .int 0, .ref a12, .ref a13, .int 0])), (a1, .inl (cI, 600, .inl g_8))], rfl, ⟨g_8, rfl⟩, by rw [ht]; exact hP9, va_K.moved hW.alike hK, hD9⟩, hS.F ht⟩) hS.2.2 dX11_putNumber_39
set_option maxHeartbeats 8000000 in
set_option maxRecDepth 100000 in
theorem cc_X11_putNumber_2 (l : Launch) (D : va_G) (cI cL cZ : ClassId) (sz : Nat) (a0 : Nat) (x0 : Int32) (a1 : Nat) (a2 : Nat) (a3 : Nat) (a4 : Nat) (a5 : Nat) (a6 : Nat) (a7 : Nat) (a8 : Nat) (a9 : Nat) (a10 : Nat) (a11 : Nat) (a12 : Nat) (a13 : Nat) (f0 : Nat → Int32) : mV l D cI cL cZ yX11_putNumber cX11_putNumber 3 none 0 0 0 0 [.ref a0, .int x0] sz [(a0, .inr (11, [.ref a1, .int 8, .ref a2, .ref a3, .ref a4, .ref a5, .ref a6, .ref a7, .int 0, .ref a8, .ref a9, .ref a10, .int 0, .int (-1), .ref a11, .int 0, .ref a12, .ref a13, .int 0])), (a1, .inl (cI, 600, .inl f0))] (fun (w1 : va_W) => ∃ (g_8 : Nat → Int32), w1 = ([(a0, .inr (11, [.ref a1, .int 12, .ref a2, .ref a3, .ref a4, .ref a5, .ref a6, .ref a7, .int 0, .ref a8, .ref a9, .ref a10, .int 0, .int (-1), .ref a11, .int 0, .ref a12, .ref a13, .int 0])), (a1, .inl (cI, 600, .inl g_8))] : va_W)) := by
  obtain ⟨dC, dI⟩ := D
  refine Met.ofW (cc := cX11_putNumber) (maxL := 3) (ret := none) (by decide) rfl ?_
  intro p e s m args below meth c s₁ B hml hv
  obtain ⟨rfl, hsz, hP, hK, hD0, hN⟩ := hv
  have hx := B.exec
  have hb := B.bytes
  have hr := B.returns
  have hU : ∀ w ∈ wsU, w.before _ s = true := fun w h => atoms_spec (ws := wU yX11_putNumber cX11_putNumber 3 none) B.pre w (List.mem_cons_of_mem _ h)
  have hown : s.vm.findClass RX11 = some m.cls := findClass_of_methodNamed B.named
  have hlocks := B.notSynchronized
  subst hsz
  have hD := hD0.self (sz := s.heap.size)
  generalize hAe : va_A [(a0, .inr (11, [.ref a1, .int 8, .ref a2, .ref a3, .ref a4, .ref a5, .ref a6, .ref a7, .int 0, .ref a8, .ref a9, .ref a10, .int 0, .int (-1), .ref a11, .int 0, .ref a12, .ref a13, .int 0])), (a1, .inl (cI, 600, .inl f0))] s.heap.size = A at hD ⊢
  have hA : ∀ q : Nat, s.heap.size ≤ q → A q := fun q h => by rw [← hAe]; exact Or.inr h
  have hS : va_S A s.heap s.heap [] := va_S.rf
  have hP : va_P (dC, dI) vwCl [(a0, .inr (11, [.ref a1, .int 8, .ref a2, .ref a3, .ref a4, .ref a5, .ref a6, .ref a7, .int 0, .ref a8, .ref a9, .ref a10, .int 0, .int (-1), .ref a11, .int 0, .ref a12, .ref a13, .int 0])), (a1, .inl (cI, 600, .inl f0))] s.heap := hP
  have hl := lv_entry ([.ref a0, .int x0]) (n := 3) (Nat.le_of_ble_eq_true rfl)
  rw [lg_entry_eq]
  generalize (lg_sl ([.ref a0, .int x0]) ++ List.replicate (3 - (lg_sl ([.ref a0, .int x0])).length) Slot.unset).toArray = ls at hl ⊢
  have hl : lv_has ls 3 [(0, .ref a0), (1, .int x0)] := hl
  refine lv_bipush (v := 24) hx hb dX11_putNumber_0 (by decide) ?_
  refine lv_istore_n (lv' := [(2, .int 24), (0, .ref a0), (1, .int x0)]) hx hb dX11_putNumber_2 rfl hl (by decide) rfl (fun ls hl => ?_)
  refine lv_iload_n hx hb dX11_putNumber_3 rfl (lv_at hl 0 rfl) ?_
  refine lv_if_lt (tgt := 39) hx hb dX11_putNumber_4 (by decide) (fun c9 => absurd c9 (by decide)) (fun _ => ?_)
  refine lv_aload_n hx hb dX11_putNumber_7 rfl (lv_at hl 1 rfl) ?_
  refine va_get (D := (dC, dI)) (ci := 11) (v := .ref a1) (C := RX11) (T := TX11) (N := 19) hx hb hU inlX11 hown hK hP 0 rfl rfl 0 (by decide) (hU _ wd_13) (fun _ h9 => h9) rfl dX11_putNumber_8 ?_
  refine lv_aload_n hx hb dX11_putNumber_11 rfl (lv_at hl 1 rfl) ?_
  refine va_get (D := (dC, dI)) (ci := 11) (v := .int 8) (C := RX11) (T := TX11) (N := 19) hx hb hU inlX11 hown hK hP 0 rfl rfl 1 (by decide) (hU _ wd_209) (fun _ h9 => h9) rfl dX11_putNumber_12 ?_
  refine lv_iload_n hx hb dX11_putNumber_15 rfl (lv_at hl 2 rfl) ?_
  refine lv_iload_n hx hb dX11_putNumber_16 rfl (lv_at hl 0 rfl) ?_
  refine lv_iushr hx hb dX11_putNumber_17 rfl ?_
  refine lv_topi (fun u_1 eu_1 => ?_)
  refine lv_sipush (v := 255) hx hb dX11_putNumber_18 (by decide) ?_
  refine lv_iand hx hb dX11_putNumber_21 ?_
  refine va_iast hx hb hK hP hD hS 1 0 rfl rfl (vp_in_nI (n := 8) (by decide) (by decide)) dX11_putNumber_22 (fun H locs hP hD hS => ?_)
  obtain ⟨g_2, eg_2⟩ : ∃ y : Nat → Int32, upd f0 (Int32.toNatClampNeg 8) (u_1 &&& 255) = y := ⟨_, rfl⟩
  have hP : va_P (dC, dI) vwCl [(a0, .inr (11, [.ref a1, .int 8, .ref a2, .ref a3, .ref a4, .ref a5, .ref a6, .ref a7, .int 0, .ref a8, .ref a9, .ref a10, .int 0, .int (-1), .ref a11, .int 0, .ref a12, .ref a13, .int 0])), (a1, .inl (cI, 600, .inl g_2))] H := by rw [eg_2] at hP; exact hP
  have hD : va_D A [(a0, .inr (11, [.ref a1, .int 8, .ref a2, .ref a3, .ref a4, .ref a5, .ref a6, .ref a7, .int 0, .ref a8, .ref a9, .ref a10, .int 0, .int (-1), .ref a11, .int 0, .ref a12, .ref a13, .int 0])), (a1, .inl (cI, 600, .inl g_2))] := by rw [eg_2] at hD; exact hD
  refine lv_aload_n hx hb dX11_putNumber_23 rfl (lv_at hl 1 rfl) ?_
  refine lv_dup hx hb dX11_putNumber_24 rfl ?_
  refine va_get (D := (dC, dI)) (ci := 11) (v := .int 8) (C := RX11) (T := TX11) (N := 19) hx hb hU inlX11 hown hK hP 0 rfl rfl 1 (by decide) (hU _ wd_209) (fun _ h9 => h9) rfl dX11_putNumber_25 ?_
  refine lv_iconst (v := 1) hx hb dX11_putNumber_28 (by decide) ?_
  refine lv_iadd hx hb dX11_putNumber_29 ?_
  refine tk_topi (y := 9) (by decide) ?_
  refine va_put (D := (dC, dI)) (ci := 11) (v := .int 9) (ty := .int) (C := RX11) (T := TX11) (N := 19) hx hb hU inlX11 tyX11 tyX11_ok nmX11 hown hK hP hD hS 0 rfl rfl 1 (by decide) (hU _ wd_209) (fun _ h9 => h9) rfl (by decide +kernel) rfl rfl (Nat.le_of_ble_eq_true rfl) dX11_putNumber_30 (fun H locs hP hD hS => ?_)
  have hP : va_P (dC, dI) vwCl [(a0, .inr (11, [.ref a1, .int 9, .ref a2, .ref a3, .ref a4, .ref a5, .ref a6, .ref a7, .int 0, .ref a8, .ref a9, .ref a10, .int 0, .int (-1), .ref a11, .int 0, .ref a12, .ref a13, .int 0])), (a1, .inl (cI, 600, .inl g_2))] H := hP
  have hD : va_D A [(a0, .inr (11, [.ref a1, .int 9, .ref a2, .ref a3, .ref a4, .ref a5, .ref a6, .ref a7, .int 0, .ref a8, .ref a9, .ref a10, .int 0, .int (-1), .ref a11, .int 0, .ref a12, .ref a13, .int 0])), (a1, .inl (cI, 600, .inl g_2))] := hD
  refine lv_iinc (v := 16) (lv' := [(2, .int 16), (0, .ref a0), (1, .int x0)]) hx hb dX11_putNumber_33 hl (k := 0) rfl (by decide) (by decide) rfl (fun ls hl => ?_)
  refine lv_goto (tgt := 3) hx hb dX11_putNumber_36 (by decide) ?_
  refine lv_iload_n hx hb dX11_putNumber_3 rfl (lv_at hl 0 rfl) ?_
  refine lv_if_lt (tgt := 39) hx hb dX11_putNumber_4 (by decide) (fun c9 => absurd c9 (by decide)) (fun _ => ?_)
  refine lv_aload_n hx hb dX11_putNumber_7 rfl (lv_at hl 1 rfl) ?_
  refine va_get (D := (dC, dI)) (ci := 11) (v := .ref a1) (C := RX11) (T := TX11) (N := 19) hx hb hU inlX11 hown hK hP 0 rfl rfl 0 (by decide) (hU _ wd_13) (fun _ h9 => h9) rfl dX11_putNumber_8 ?_
  refine lv_aload_n hx hb dX11_putNumber_11 rfl (lv_at hl 1 rfl) ?_
  refine va_get (D := (dC, dI)) (ci := 11) (v := .int 9) (C := RX11) (T := TX11) (N := 19) hx hb hU inlX11 hown hK hP 0 rfl rfl 1 (by decide) (hU _ wd_209) (fun _ h9 => h9) rfl dX11_putNumber_12 ?_
  refine lv_iload_n hx hb dX11_putNumber_15 rfl (lv_at hl 2 rfl) ?_
  refine lv_iload_n hx hb dX11_putNumber_16 rfl (lv_at hl 0 rfl) ?_
  refine lv_iushr hx hb dX11_putNumber_17 rfl ?_
  refine lv_topi (fun u_3 eu_3 => ?_)
  refine lv_sipush (v := 255) hx hb dX11_putNumber_18 (by decide) ?_
  refine lv_iand hx hb dX11_putNumber_21 ?_
  refine va_iast hx hb hK hP hD hS 1 0 rfl rfl (vp_in_nI (n := 9) (by decide) (by decide)) dX11_putNumber_22 (fun H locs hP hD hS => ?_)
  obtain ⟨g_4, eg_4⟩ : ∃ y : Nat → Int32, upd g_2 (Int32.toNatClampNeg 9) (u_3 &&& 255) = y := ⟨_, rfl⟩
  have hP : va_P (dC, dI) vwCl [(a0, .inr (11, [.ref a1, .int 9, .ref a2, .ref a3, .ref a4, .ref a5, .ref a6, .ref a7, .int 0, .ref a8, .ref a9, .ref a10, .int 0, .int (-1), .ref a11, .int 0, .ref a12, .ref a13, .int 0])), (a1, .inl (cI, 600, .inl g_4))] H := by rw [eg_4] at hP; exact hP
  have hD : va_D A [(a0, .inr (11, [.ref a1, .int 9, .ref a2, .ref a3, .ref a4, .ref a5, .ref a6, .ref a7, .int 0, .ref a8, .ref a9, .ref a10, .int 0, .int (-1), .ref a11, .int 0, .ref a12, .ref a13, .int 0])), (a1, .inl (cI, 600, .inl g_4))] := by rw [eg_4] at hD; exact hD
  refine lv_aload_n hx hb dX11_putNumber_23 rfl (lv_at hl 1 rfl) ?_
  refine lv_dup hx hb dX11_putNumber_24 rfl ?_
  refine va_get (D := (dC, dI)) (ci := 11) (v := .int 9) (C := RX11) (T := TX11) (N := 19) hx hb hU inlX11 hown hK hP 0 rfl rfl 1 (by decide) (hU _ wd_209) (fun _ h9 => h9) rfl dX11_putNumber_25 ?_
  refine lv_iconst (v := 1) hx hb dX11_putNumber_28 (by decide) ?_
  refine lv_iadd hx hb dX11_putNumber_29 ?_
  refine tk_topi (y := 10) (by decide) ?_
  refine va_put (D := (dC, dI)) (ci := 11) (v := .int 10) (ty := .int) (C := RX11) (T := TX11) (N := 19) hx hb hU inlX11 tyX11 tyX11_ok nmX11 hown hK hP hD hS 0 rfl rfl 1 (by decide) (hU _ wd_209) (fun _ h9 => h9) rfl (by decide +kernel) rfl rfl (Nat.le_of_ble_eq_true rfl) dX11_putNumber_30 (fun H locs hP hD hS => ?_)
  have hP : va_P (dC, dI) vwCl [(a0, .inr (11, [.ref a1, .int 10, .ref a2, .ref a3, .ref a4, .ref a5, .ref a6, .ref a7, .int 0, .ref a8, .ref a9, .ref a10, .int 0, .int (-1), .ref a11, .int 0, .ref a12, .ref a13, .int 0])), (a1, .inl (cI, 600, .inl g_4))] H := hP
  have hD : va_D A [(a0, .inr (11, [.ref a1, .int 10, .ref a2, .ref a3, .ref a4, .ref a5, .ref a6, .ref a7, .int 0, .ref a8, .ref a9, .ref a10, .int 0, .int (-1), .ref a11, .int 0, .ref a12, .ref a13, .int 0])), (a1, .inl (cI, 600, .inl g_4))] := hD
  refine lv_iinc (v := 8) (lv' := [(2, .int 8), (0, .ref a0), (1, .int x0)]) hx hb dX11_putNumber_33 hl (k := 0) rfl (by decide) (by decide) rfl (fun ls hl => ?_)
  refine lv_goto (tgt := 3) hx hb dX11_putNumber_36 (by decide) ?_
  refine lv_iload_n hx hb dX11_putNumber_3 rfl (lv_at hl 0 rfl) ?_
  refine lv_if_lt (tgt := 39) hx hb dX11_putNumber_4 (by decide) (fun c9 => absurd c9 (by decide)) (fun _ => ?_)
  refine lv_aload_n hx hb dX11_putNumber_7 rfl (lv_at hl 1 rfl) ?_
  refine va_get (D := (dC, dI)) (ci := 11) (v := .ref a1) (C := RX11) (T := TX11) (N := 19) hx hb hU inlX11 hown hK hP 0 rfl rfl 0 (by decide) (hU _ wd_13) (fun _ h9 => h9) rfl dX11_putNumber_8 ?_
  refine lv_aload_n hx hb dX11_putNumber_11 rfl (lv_at hl 1 rfl) ?_
  refine va_get (D := (dC, dI)) (ci := 11) (v := .int 10) (C := RX11) (T := TX11) (N := 19) hx hb hU inlX11 hown hK hP 0 rfl rfl 1 (by decide) (hU _ wd_209) (fun _ h9 => h9) rfl dX11_putNumber_12 ?_
  refine lv_iload_n hx hb dX11_putNumber_15 rfl (lv_at hl 2 rfl) ?_
  refine lv_iload_n hx hb dX11_putNumber_16 rfl (lv_at hl 0 rfl) ?_
  refine lv_iushr hx hb dX11_putNumber_17 rfl ?_
  refine lv_topi (fun u_5 eu_5 => ?_)
  refine lv_sipush (v := 255) hx hb dX11_putNumber_18 (by decide) ?_
  refine lv_iand hx hb dX11_putNumber_21 ?_
  refine va_iast hx hb hK hP hD hS 1 0 rfl rfl (vp_in_nI (n := 10) (by decide) (by decide)) dX11_putNumber_22 (fun H locs hP hD hS => ?_)
  obtain ⟨g_6, eg_6⟩ : ∃ y : Nat → Int32, upd g_4 (Int32.toNatClampNeg 10) (u_5 &&& 255) = y := ⟨_, rfl⟩
  have hP : va_P (dC, dI) vwCl [(a0, .inr (11, [.ref a1, .int 10, .ref a2, .ref a3, .ref a4, .ref a5, .ref a6, .ref a7, .int 0, .ref a8, .ref a9, .ref a10, .int 0, .int (-1), .ref a11, .int 0, .ref a12, .ref a13, .int 0])), (a1, .inl (cI, 600, .inl g_6))] H := by rw [eg_6] at hP; exact hP
  have hD : va_D A [(a0, .inr (11, [.ref a1, .int 10, .ref a2, .ref a3, .ref a4, .ref a5, .ref a6, .ref a7, .int 0, .ref a8, .ref a9, .ref a10, .int 0, .int (-1), .ref a11, .int 0, .ref a12, .ref a13, .int 0])), (a1, .inl (cI, 600, .inl g_6))] := by rw [eg_6] at hD; exact hD
  refine lv_aload_n hx hb dX11_putNumber_23 rfl (lv_at hl 1 rfl) ?_
  refine lv_dup hx hb dX11_putNumber_24 rfl ?_
  refine va_get (D := (dC, dI)) (ci := 11) (v := .int 10) (C := RX11) (T := TX11) (N := 19) hx hb hU inlX11 hown hK hP 0 rfl rfl 1 (by decide) (hU _ wd_209) (fun _ h9 => h9) rfl dX11_putNumber_25 ?_
  refine lv_iconst (v := 1) hx hb dX11_putNumber_28 (by decide) ?_
  refine lv_iadd hx hb dX11_putNumber_29 ?_
  refine tk_topi (y := 11) (by decide) ?_
  refine va_put (D := (dC, dI)) (ci := 11) (v := .int 11) (ty := .int) (C := RX11) (T := TX11) (N := 19) hx hb hU inlX11 tyX11 tyX11_ok nmX11 hown hK hP hD hS 0 rfl rfl 1 (by decide) (hU _ wd_209) (fun _ h9 => h9) rfl (by decide +kernel) rfl rfl (Nat.le_of_ble_eq_true rfl) dX11_putNumber_30 (fun H locs hP hD hS => ?_)
  have hP : va_P (dC, dI) vwCl [(a0, .inr (11, [.ref a1, .int 11, .ref a2, .ref a3, .ref a4, .ref a5, .ref a6, .ref a7, .int 0, .ref a8, .ref a9, .ref a10, .int 0, .int (-1), .ref a11, .int 0, .ref a12, .ref a13, .int 0])), (a1, .inl (cI, 600, .inl g_6))] H := hP
  have hD : va_D A [(a0, .inr (11, [.ref a1, .int 11, .ref a2, .ref a3, .ref a4, .ref a5, .ref a6, .ref a7, .int 0, .ref a8, .ref a9, .ref a10, .int 0, .int (-1), .ref a11, .int 0, .ref a12, .ref a13, .int 0])), (a1, .inl (cI, 600, .inl g_6))] := hD
  refine lv_iinc (v := 0) (lv' := [(2, .int 0), (0, .ref a0), (1, .int x0)]) hx hb dX11_putNumber_33 hl (k := 0) rfl (by decide) (by decide) rfl (fun ls hl => ?_)
  refine lv_goto (tgt := 3) hx hb dX11_putNumber_36 (by decide) ?_
  refine lv_iload_n hx hb dX11_putNumber_3 rfl (lv_at hl 0 rfl) ?_
  refine lv_if_lt (tgt := 39) hx hb dX11_putNumber_4 (by decide) (fun c9 => absurd c9 (by decide)) (fun _ => ?_)
  refine lv_aload_n hx hb dX11_putNumber_7 rfl (lv_at hl 1 rfl) ?_
  refine va_get (D := (dC, dI)) (ci := 11) (v := .ref a1) (C := RX11) (T := TX11) (N := 19) hx hb hU inlX11 hown hK hP 0 rfl rfl 0 (by decide) (hU _ wd_13) (fun _ h9 => h9) rfl dX11_putNumber_8 ?_
  refine lv_aload_n hx hb dX11_putNumber_11 rfl (lv_at hl 1 rfl) ?_
  refine va_get (D := (dC, dI)) (ci := 11) (v := .int 11) (C := RX11) (T := TX11) (N := 19) hx hb hU inlX11 hown hK hP 0 rfl rfl 1 (by decide) (hU _ wd_209) (fun _ h9 => h9) rfl dX11_putNumber_12 ?_
  refine lv_iload_n hx hb dX11_putNumber_15 rfl (lv_at hl 2 rfl) ?_
  refine lv_iload_n hx hb dX11_putNumber_16 rfl (lv_at hl 0 rfl) ?_
  refine lv_iushr hx hb dX11_putNumber_17 rfl ?_
  refine lv_topi (fun u_7 eu_7 => ?_)
  refine lv_sipush (v := 255) hx hb dX11_putNumber_18 (by decide) ?_
  refine lv_iand hx hb dX11_putNumber_21 ?_
  refine va_iast hx hb hK hP hD hS 1 0 rfl rfl (vp_in_nI (n := 11) (by decide) (by decide)) dX11_putNumber_22 (fun H locs hP hD hS => ?_)
  obtain ⟨g_8, eg_8⟩ : ∃ y : Nat → Int32, upd g_6 (Int32.toNatClampNeg 11) (u_7 &&& 255) = y := ⟨_, rfl⟩
  have hP : va_P (dC, dI) vwCl [(a0, .inr (11, [.ref a1, .int 11, .ref a2, .ref a3, .ref a4, .ref a5, .ref a6, .ref a7, .int 0, .ref a8, .ref a9, .ref a10, .int 0, .int (-1), .ref a11, .int 0, .ref a12, .ref a13, .int 0])), (a1, .inl (cI, 600, .inl g_8))] H := by rw [eg_8] at hP; exact hP
  have hD : va_D A [(a0, .inr (11, [.ref a1, .int 11, .ref a2, .ref a3, .ref a4, .ref a5, .ref a6, .ref a7, .int 0, .ref a8, .ref a9, .ref a10, .int 0, .int (-1), .ref a11, .int 0, .ref a12, .ref a13, .int 0])), (a1, .inl (cI, 600, .inl g_8))] := by rw [eg_8] at hD; exact hD
  refine lv_aload_n hx hb dX11_putNumber_23 rfl (lv_at hl 1 rfl) ?_
  refine lv_dup hx hb dX11_putNumber_24 rfl ?_
  refine va_get (D := (dC, dI)) (ci := 11) (v := .int 11) (C := RX11) (T := TX11) (N := 19) hx hb hU inlX11 hown hK hP 0 rfl rfl 1 (by decide) (hU _ wd_209) (fun _ h9 => h9) rfl dX11_putNumber_25 ?_
  refine lv_iconst (v := 1) hx hb dX11_putNumber_28 (by decide) ?_
  refine lv_iadd hx hb dX11_putNumber_29 ?_
  refine tk_topi (y := 12) (by decide) ?_
  refine va_put (D := (dC, dI)) (ci := 11) (v := .int 12) (ty := .int) (C := RX11) (T := TX11) (N := 19) hx hb hU inlX11 tyX11 tyX11_ok nmX11 hown hK hP hD hS 0 rfl rfl 1 (by decide) (hU _ wd_209) (fun _ h9 => h9) rfl (by decide +kernel) rfl rfl (Nat.le_of_ble_eq_true rfl) dX11_putNumber_30 (fun H locs hP hD hS => ?_)
  have hP : va_P (dC, dI) vwCl [(a0, .inr (11, [.ref a1, .int 12, .ref a2, .ref a3, .ref a4, .ref a5, .ref a6, .ref a7, .int 0, .ref a8, .ref a9, .ref a10, .int 0, .int (-1), .ref a11, .int 0, .ref a12, .ref a13, .int 0])), (a1, .inl (cI, 600, .inl g_8))] H := hP
  have hD : va_D A [(a0, .inr (11, [.ref a1, .int 12, .ref a2, .ref a3, .ref a4, .ref a5, .ref a6, .ref a7, .int 0, .ref a8, .ref a9, .ref a10, .int 0, .int (-1), .ref a11, .int 0, .ref a12, .ref a13, .int 0])), (a1, .inl (cI, 600, .inl g_8))] := hD
  refine lv_iinc (v := (-8)) (lv' := [(2, .int (-8)), (0, .ref a0), (1, .int x0)]) hx hb dX11_putNumber_33 hl (k := 0) rfl (by decide) (by decide) rfl (fun ls hl => ?_)
  refine lv_goto (tgt := 3) hx hb dX11_putNumber_36 (by decide) ?_
  refine lv_iload_n hx hb dX11_putNumber_3 rfl (lv_at hl 0 rfl) ?_
  refine lv_if_lt (tgt := 39) hx hb dX11_putNumber_4 (by decide) (fun _ => ?_) (fun c9 => absurd (by decide) c9) 
  have hP9 := hP.sub (ws' := [(a0, .inr (11, [.ref a1, .int 12, .ref a2, .ref a3, .ref a4, .ref a5, .ref a6, .ref a7, .int 0, .ref a8, .ref a9, .ref a10, .int 0, .int (-1), .ref a11, .int 0, .ref a12, .ref a13, .int 0])), (a1, .inl (cI, 600, .inl g_8))]) [0, 1] rfl
  have hD9 := hD.sub (ws' := [(a0, .inr (11, [.ref a1, .int 12, .ref a2, .ref a3, .ref a4, .ref a5, .ref a6, .ref a7, .int 0, .ref a8, .ref a9, .ref a10, .int 0, .int (-1), .ref a11, .int 0, .ref a12, .ref a13, .int 0])), (a1, .inl (cI, 600, .inl g_8))]) [0, 1] (by decide) rfl
  refine W.widen (k := 0) (n := 0) (Nat.le_of_ble_eq_true rfl) (Nat.le_of_ble_eq_true rfl) ?_
  exact W.vret hx hb hr (fun t ht hW => ⟨⟨[(a0, .inr (11, [.ref a1, .int 12, .ref a2, .ref a3, .ref a4, .ref a5, .ref a6, .ref a7, .int 0, .ref a8, .ref a9, .ref a10, .int 0, .int (-1), .ref a11, .int 0, .ref a12, .ref a13, .int 0])), (a1, .inl (cI, 600, .inl g_8))], rfl, ⟨g_8, rfl⟩, by rw [ht]; exact hP9, va_K.moved hW.alike hK, hD9⟩, hS.F ht⟩) hS.2.2 dX11_putNumber_39
set_option maxHeartbeats 8000000 in
set_option maxRecDepth 100000 in
theorem cc_X11_putNumber_3 (l : Launch) (D : va_G) (cI cL cZ : ClassId) (sz : Nat) (a0 : Nat) (x0 : Int32) (a1 : Nat) (a2 : Nat) (a3 : Nat) (a4 : Nat) (a5 : Nat) (a6 : Nat) (a7 : Nat) (a8 : Nat) (a9 : Nat) (a10 : Nat) (a11 : Nat) (a12 : Nat) (a13 : Nat) (f0 : Nat → Int32) : mV l D cI cL cZ yX11_putNumber cX11_putNumber 3 none 0 0 0 0 [.ref a0, .int x0] sz [(a0, .inr (11, [.ref a1, .int 12, .ref a2, .ref a3, .ref a4, .ref a5, .ref a6, .ref a7, .int 0, .ref a8, .ref a9, .ref a10, .int 0, .int (-1), .ref a11, .int 0, .ref a12, .ref a13, .int 0])), (a1, .inl (cI, 600, .inl f0))] (fun (w1 : va_W) => ∃ (g_8 : Nat → Int32), w1 = ([(a0, .inr (11, [.ref a1, .int 16, .ref a2, .ref a3, .ref a4, .ref a5, .ref a6, .ref a7, .int 0, .ref a8, .ref a9, .ref a10, .int 0, .int (-1), .ref a11, .int 0, .ref a12, .ref a13, .int 0])), (a1, .inl (cI, 600, .inl g_8))] : va_W)) := by
  obtain ⟨dC, dI⟩ := D
  refine Met.ofW (cc := cX11_putNumber) (maxL := 3) (ret := none) (by decide) rfl ?_
  intro p e s m args below meth c s₁ B hml hv
  obtain ⟨rfl, hsz, hP, hK, hD0, hN⟩ := hv
  have hx := B.exec
  have hb := B.bytes
  have hr := B.returns
  have hU : ∀ w ∈ wsU, w.before _ s = true := fun w h => atoms_spec (ws := wU yX11_putNumber cX11_putNumber 3 none) B.pre w (List.mem_cons_of_mem _ h)
  have hown : s.vm.findClass RX11 = some m.cls := findClass_of_methodNamed B.named
  have hlocks := B.notSynchronized
  subst hsz
  have hD := hD0.self (sz := s.heap.size)
  generalize hAe : va_A [(a0, .inr (11, [.ref a1, .int 12, .ref a2, .ref a3, .ref a4, .ref a5, .ref a6, .ref a7, .int 0, .ref a8, .ref a9, .ref a10, .int 0, .int (-1), .ref a11, .int 0, .ref a12, .ref a13, .int 0])), (a1, .inl (cI, 600, .inl f0))] s.heap.size = A at hD ⊢
  have hA : ∀ q : Nat, s.heap.size ≤ q → A q := fun q h => by rw [← hAe]; exact Or.inr h
  have hS : va_S A s.heap s.heap [] := va_S.rf
  have hP : va_P (dC, dI) vwCl [(a0, .inr (11, [.ref a1, .int 12, .ref a2, .ref a3, .ref a4, .ref a5, .ref a6, .ref a7, .int 0, .ref a8, .ref a9, .ref a10, .int 0, .int (-1), .ref a11, .int 0, .ref a12, .ref a13, .int 0])), (a1, .inl (cI, 600, .inl f0))] s.heap := hP
  have hl := lv_entry ([.ref a0, .int x0]) (n := 3) (Nat.le_of_ble_eq_true rfl)
  rw [lg_entry_eq]
  generalize (lg_sl ([.ref a0, .int x0]) ++ List.replicate (3 - (lg_sl ([.ref a0, .int x0])).length) Slot.unset).toArray = ls at hl ⊢
  have hl : lv_has ls 3 [(0, .ref a0), (1, .int x0)] := hl
  refine lv_bipush (v := 24) hx hb dX11_putNumber_0 (by decide) ?_
  refine lv_istore_n (lv' := [(2, .int 24), (0, .ref a0), (1, .int x0)]) hx hb dX11_putNumber_2 rfl hl (by decide) rfl (fun ls hl => ?_)
  refine lv_iload_n hx hb dX11_putNumber_3 rfl (lv_at hl 0 rfl) ?_
  refine lv_if_lt (tgt := 39) hx hb dX11_putNumber_4 (by decide) (fun c9 => absurd c9 (by decide)) (fun _ => ?_)
  refine lv_aload_n hx hb dX11_putNumber_7 rfl (lv_at hl 1 rfl) ?_
  refine va_get (D := (dC, dI)) (ci := 11) (v := .ref a1) (C := RX11) (T := TX11) (N := 19) hx hb hU inlX11 hown hK hP 0 rfl rfl 0 (by decide) (hU _ wd_13) (fun _ h9 => h9) rfl dX11_putNumber_8 ?_
  refine lv_aload_n hx hb dX11_putNumber_11 rfl (lv_at hl 1 rfl) ?_
  refine va_get (D := (dC, dI)) (ci := 11) (v := .int 12) (C := RX11) (T := TX11) (N := 19) hx hb hU inlX11 hown hK hP 0 rfl rfl 1 (by decide) (hU _ wd_209) (fun _ h9 => h9) rfl dX11_putNumber_12 ?_
  refine lv_iload_n hx hb dX11_putNumber_15 rfl (lv_at hl 2 rfl) ?_
  refine lv_iload_n hx hb dX11_putNumber_16 rfl (lv_at hl 0 rfl) ?_
  refine lv_iushr hx hb dX11_putNumber_17 rfl ?_
  refine lv_topi (fun u_1 eu_1 => ?_)
  refine lv_sipush (v := 255) hx hb dX11_putNumber_18 (by decide) ?_
  refine lv_iand hx hb dX11_putNumber_21 ?_
  refine va_iast hx hb hK hP hD hS 1 0 rfl rfl (vp_in_nI (n := 12) (by decide) (by decide)) dX11_putNumber_22 (fun H locs hP hD hS => ?_)
  obtain ⟨g_2, eg_2⟩ : ∃ y : Nat → Int32, upd f0 (Int32.toNatClampNeg 12) (u_1 &&& 255) = y := ⟨_, rfl⟩
  have hP : va_P (dC, dI) vwCl [(a0, .inr (11, [.ref a1, .int 12, .ref a2, .ref a3, .ref a4, .ref a5, .ref a6, .ref a7, .int 0, .ref a8, .ref a9, .ref a10, .int 0, .int (-1), .ref a11, .int 0, .ref a12, .ref a13, .int 0])), (a1, .inl (cI, 600, .inl g_2))] H := by rw [eg_2] at hP; exact hP
  have hD : va_D A [(a0, .inr (11, [.ref a1, .int 12, .ref a2, .ref a3, .ref a4, .ref a5, .ref a6, .ref a7, .int 0, .ref a8, .ref a9, .ref a10, .int 0, .int (-1), .ref a11, .int 0, .ref a12, .ref a13, .int 0])), (a1, .inl (cI, 600, .inl g_2))] := by rw [eg_2] at hD; exact hD
  refine lv_aload_n hx hb dX11_putNumber_23 rfl (lv_at hl 1 rfl) ?_
  refine lv_dup hx hb dX11_putNumber_24 rfl ?_
  refine va_get (D := (dC, dI)) (ci := 11) (v := .int 12) (C := RX11) (T := TX11) (N := 19) hx hb hU inlX11 hown hK hP 0 rfl rfl 1 (by decide) (hU _ wd_209) (fun _ h9 => h9) rfl dX11_putNumber_25 ?_
  refine lv_iconst (v := 1) hx hb dX11_putNumber_28 (by decide) ?_
  refine lv_iadd hx hb dX11_putNumber_29 ?_
  refine tk_topi (y := 13) (by decide) ?_
  refine va_put (D := (dC, dI)) (ci := 11) (v := .int 13) (ty := .int) (C := RX11) (T := TX11) (N := 19) hx hb hU inlX11 tyX11 tyX11_ok nmX11 hown hK hP hD hS 0 rfl rfl 1 (by decide) (hU _ wd_209) (fun _ h9 => h9) rfl (by decide +kernel) rfl rfl (Nat.le_of_ble_eq_true rfl) dX11_putNumber_30 (fun H locs hP hD hS => ?_)
  have hP : va_P (dC, dI) vwCl [(a0, .inr (11, [.ref a1, .int 13, .ref a2, .ref a3, .ref a4, .ref a5, .ref a6, .ref a7, .int 0, .ref a8, .ref a9, .ref a10, .int 0, .int (-1), .ref a11, .int 0, .ref a12, .ref a13, .int 0])), (a1, .inl (cI, 600, .inl g_2))] H := hP
  have hD : va_D A [(a0, .inr (11, [.ref a1, .int 13, .ref a2, .ref a3, .ref a4, .ref a5, .ref a6, .ref a7, .int 0, .ref a8, .ref a9, .ref a10, .int 0, .int (-1), .ref a11, .int 0, .ref a12, .ref a13, .int 0])), (a1, .inl (cI, 600, .inl g_2))] := hD
  refine lv_iinc (v := 16) (lv' := [(2, .int 16), (0, .ref a0), (1, .int x0)]) hx hb dX11_putNumber_33 hl (k := 0) rfl (by decide) (by decide) rfl (fun ls hl => ?_)
  refine lv_goto (tgt := 3) hx hb dX11_putNumber_36 (by decide) ?_
  refine lv_iload_n hx hb dX11_putNumber_3 rfl (lv_at hl 0 rfl) ?_
  refine lv_if_lt (tgt := 39) hx hb dX11_putNumber_4 (by decide) (fun c9 => absurd c9 (by decide)) (fun _ => ?_)
  refine lv_aload_n hx hb dX11_putNumber_7 rfl (lv_at hl 1 rfl) ?_
  refine va_get (D := (dC, dI)) (ci := 11) (v := .ref a1) (C := RX11) (T := TX11) (N := 19) hx hb hU inlX11 hown hK hP 0 rfl rfl 0 (by decide) (hU _ wd_13) (fun _ h9 => h9) rfl dX11_putNumber_8 ?_
  refine lv_aload_n hx hb dX11_putNumber_11 rfl (lv_at hl 1 rfl) ?_
  refine va_get (D := (dC, dI)) (ci := 11) (v := .int 13) (C := RX11) (T := TX11) (N := 19) hx hb hU inlX11 hown hK hP 0 rfl rfl 1 (by decide) (hU _ wd_209) (fun _ h9 => h9) rfl dX11_putNumber_12 ?_
  refine lv_iload_n hx hb dX11_putNumber_15 rfl (lv_at hl 2 rfl) ?_
  refine lv_iload_n hx hb dX11_putNumber_16 rfl (lv_at hl 0 rfl) ?_
  refine lv_iushr hx hb dX11_putNumber_17 rfl ?_
  refine lv_topi (fun u_3 eu_3 => ?_)
  refine lv_sipush (v := 255) hx hb dX11_putNumber_18 (by decide) ?_
  refine lv_iand hx hb dX11_putNumber_21 ?_
  refine va_iast hx hb hK hP hD hS 1 0 rfl rfl (vp_in_nI (n := 13) (by decide) (by decide)) dX11_putNumber_22 (fun H locs hP hD hS => ?_)
  obtain ⟨g_4, eg_4⟩ : ∃ y : Nat → Int32, upd g_2 (Int32.toNatClampNeg 13) (u_3 &&& 255) = y := ⟨_, rfl⟩
  have hP : va_P (dC, dI) vwCl [(a0, .inr (11, [.ref a1, .int 13, .ref a2, .ref a3, .ref a4, .ref a5, .ref a6, .ref a7, .int 0, .ref a8, .ref a9, .ref a10, .int 0, .int (-1), .ref a11, .int 0, .ref a12, .ref a13, .int 0])), (a1, .inl (cI, 600, .inl g_4))] H := by rw [eg_4] at hP; exact hP
  have hD : va_D A [(a0, .inr (11, [.ref a1, .int 13, .ref a2, .ref a3, .ref a4, .ref a5, .ref a6, .ref a7, .int 0, .ref a8, .ref a9, .ref a10, .int 0, .int (-1), .ref a11, .int 0, .ref a12, .ref a13, .int 0])), (a1, .inl (cI, 600, .inl g_4))] := by rw [eg_4] at hD; exact hD
  refine lv_aload_n hx hb dX11_putNumber_23 rfl (lv_at hl 1 rfl) ?_
  refine lv_dup hx hb dX11_putNumber_24 rfl ?_
  refine va_get (D := (dC, dI)) (ci := 11) (v := .int 13) (C := RX11) (T := TX11) (N := 19) hx hb hU inlX11 hown hK hP 0 rfl rfl 1 (by decide) (hU _ wd_209) (fun _ h9 => h9) rfl dX11_putNumber_25 ?_
  refine lv_iconst (v := 1) hx hb dX11_putNumber_28 (by decide) ?_
  refine lv_iadd hx hb dX11_putNumber_29 ?_
  refine tk_topi (y := 14) (by decide) ?_
  refine va_put (D := (dC, dI)) (ci := 11) (v := .int 14) (ty := .int) (C := RX11) (T := TX11) (N := 19) hx hb hU inlX11 tyX11 tyX11_ok nmX11 hown hK hP hD hS 0 rfl rfl 1 (by decide) (hU _ wd_209) (fun _ h9 => h9) rfl (by decide +kernel) rfl rfl (Nat.le_of_ble_eq_true rfl) dX11_putNumber_30 (fun H locs hP hD hS => ?_)
  have hP : va_P (dC, dI) vwCl [(a0, .inr (11, [.ref a1, .int 14, .ref a2, .ref a3, .ref a4, .ref a5, .ref a6, .ref a7, .int 0, .ref a8, .ref a9, .ref a10, .int 0, .int (-1), .ref a11, .int 0, .ref a12, .ref a13, .int 0])), (a1, .inl (cI, 600, .inl g_4))] H := hP
  have hD : va_D A [(a0, .inr (11, [.ref a1, .int 14, .ref a2, .ref a3, .ref a4, .ref a5, .ref a6, .ref a7, .int 0, .ref a8, .ref a9, .ref a10, .int 0, .int (-1), .ref a11, .int 0, .ref a12, .ref a13, .int 0])), (a1, .inl (cI, 600, .inl g_4))] := hD
  refine lv_iinc (v := 8) (lv' := [(2, .int 8), (0, .ref a0), (1, .int x0)]) hx hb dX11_putNumber_33 hl (k := 0) rfl (by decide) (by decide) rfl (fun ls hl => ?_)
  refine lv_goto (tgt := 3) hx hb dX11_putNumber_36 (by decide) ?_
  refine lv_iload_n hx hb dX11_putNumber_3 rfl (lv_at hl 0 rfl) ?_
  refine lv_if_lt (tgt := 39) hx hb dX11_putNumber_4 (by decide) (fun c9 => absurd c9 (by decide)) (fun _ => ?_)
  refine lv_aload_n hx hb dX11_putNumber_7 rfl (lv_at hl 1 rfl) ?_
  refine va_get (D := (dC, dI)) (ci := 11) (v := .ref a1) (C := RX11) (T := TX11) (N := 19) hx hb hU inlX11 hown hK hP 0 rfl rfl 0 (by decide) (hU _ wd_13) (fun _ h9 => h9) rfl dX11_putNumber_8 ?_
  refine lv_aload_n hx hb dX11_putNumber_11 rfl (lv_at hl 1 rfl) ?_
  refine va_get (D := (dC, dI)) (ci := 11) (v := .int 14) (C := RX11) (T := TX11) (N := 19) hx hb hU inlX11 hown hK hP 0 rfl rfl 1 (by decide) (hU _ wd_209) (fun _ h9 => h9) rfl dX11_putNumber_12 ?_
  refine lv_iload_n hx hb dX11_putNumber_15 rfl (lv_at hl 2 rfl) ?_
  refine lv_iload_n hx hb dX11_putNumber_16 rfl (lv_at hl 0 rfl) ?_
  refine lv_iushr hx hb dX11_putNumber_17 rfl ?_
  refine lv_topi (fun u_5 eu_5 => ?_)
  refine lv_sipush (v := 255) hx hb dX11_putNumber_18 (by decide) ?_
  refine lv_iand hx hb dX11_putNumber_21 ?_
  refine va_iast hx hb hK hP hD hS 1 0 rfl rfl (vp_in_nI (n := 14) (by decide) (by decide)) dX11_putNumber_22 (fun H locs hP hD hS => ?_)
  obtain ⟨g_6, eg_6⟩ : ∃ y : Nat → Int32, upd g_4 (Int32.toNatClampNeg 14) (u_5 &&& 255) = y := ⟨_, rfl⟩
  have hP : va_P (dC, dI) vwCl [(a0, .inr (11, [.ref a1, .int 14, .ref a2, .ref a3, .ref a4, .ref a5, .ref a6, .ref a7, .int 0, .ref a8, .ref a9, .ref a10, .int 0, .int (-1), .ref a11, .int 0, .ref a12, .ref a13, .int 0])), (a1, .inl (cI, 600, .inl g_6))] H := by rw [eg_6] at hP; exact hP
  have hD : va_D A [(a0, .inr (11, [.ref a1, .int 14, .ref a2, .ref a3, .ref a4, .ref a5, .ref a6, .ref a7, .int 0, .ref a8, .ref a9, .ref a10, .int 0, .int (-1), .ref a11, .int 0, .ref a12, .ref a13, .int 0])), (a1, .inl (cI, 600, .inl g_6))] := by rw [eg_6] at hD; exact hD
  refine lv_aload_n hx hb dX11_putNumber_23 rfl (lv_at hl 1 rfl) ?_
  refine lv_dup hx hb dX11_putNumber_24 rfl ?_
  refine va_get (D := (dC, dI)) (ci := 11) (v := .int 14) (C := RX11) (T := TX11) (N := 19) hx hb hU inlX11 hown hK hP 0 rfl rfl 1 (by decide) (hU _ wd_209) (fun _ h9 => h9) rfl dX11_putNumber_25 ?_
  refine lv_iconst (v := 1) hx hb dX11_putNumber_28 (by decide) ?_
  refine lv_iadd hx hb dX11_putNumber_29 ?_
  refine tk_topi (y := 15) (by decide) ?_
  refine va_put (D := (dC, dI)) (ci := 11) (v := .int 15) (ty := .int) (C := RX11) (T := TX11) (N := 19) hx hb hU inlX11 tyX11 tyX11_ok nmX11 hown hK hP hD hS 0 rfl rfl 1 (by decide) (hU _ wd_209) (fun _ h9 => h9) rfl (by decide +kernel) rfl rfl (Nat.le_of_ble_eq_true rfl) dX11_putNumber_30 (fun H locs hP hD hS => ?_)
  have hP : va_P (dC, dI) vwCl [(a0, .inr (11, [.ref a1, .int 15, .ref a2, .ref a3, .ref a4, .ref a5, .ref a6, .ref a7, .int 0, .ref a8, .ref a9, .ref a10, .int 0, .int (-1), .ref a11, .int 0, .ref a12, .ref a13, .int 0])), (a1, .inl (cI, 600, .inl g_6))] H := hP
  have hD : va_D A [(a0, .inr (11, [.ref a1, .int 15, .ref a2, .ref a3, .ref a4, .ref a5, .ref a6, .ref a7, .int 0, .ref a8, .ref a9, .ref a10, .int 0, .int (-1), .ref a11, .int 0, .ref a12, .ref a13, .int 0])), (a1, .inl (cI, 600, .inl g_6))] := hD
  refine lv_iinc (v := 0) (lv' := [(2, .int 0), (0, .ref a0), (1, .int x0)]) hx hb dX11_putNumber_33 hl (k := 0) rfl (by decide) (by decide) rfl (fun ls hl => ?_)
  refine lv_goto (tgt := 3) hx hb dX11_putNumber_36 (by decide) ?_
  refine lv_iload_n hx hb dX11_putNumber_3 rfl (lv_at hl 0 rfl) ?_
  refine lv_if_lt (tgt := 39) hx hb dX11_putNumber_4 (by decide) (fun c9 => absurd c9 (by decide)) (fun _ => ?_)
  refine lv_aload_n hx hb dX11_putNumber_7 rfl (lv_at hl 1 rfl) ?_
  refine va_get (D := (dC, dI)) (ci := 11) (v := .ref a1) (C := RX11) (T := TX11) (N := 19) hx hb hU inlX11 hown hK hP 0 rfl rfl 0 (by decide) (hU _ wd_13) (fun _ h9 => h9) rfl dX11_putNumber_8 ?_
  refine lv_aload_n hx hb dX11_putNumber_11 rfl (lv_at hl 1 rfl) ?_
  refine va_get (D := (dC, dI)) (ci := 11) (v := .int 15) (C := RX11) (T := TX11) (N := 19) hx hb hU inlX11 hown hK hP 0 rfl rfl 1 (by decide) (hU _ wd_209) (fun _ h9 => h9) rfl dX11_putNumber_12 ?_
  refine lv_iload_n hx hb dX11_putNumber_15 rfl (lv_at hl 2 rfl) ?_
  refine lv_iload_n hx hb dX11_putNumber_16 rfl (lv_at hl 0 rfl) ?_
  refine lv_iushr hx hb dX11_putNumber_17 rfl ?_
  refine lv_topi (fun u_7 eu_7 => ?_)
  refine lv_sipush (v := 255) hx hb dX11_putNumber_18 (by decide) ?_
  refine lv_iand hx hb dX11_putNumber_21 ?_
  refine va_iast hx hb hK hP hD hS 1 0 rfl rfl (vp_in_nI (n := 15) (by decide) (by decide)) dX11_putNumber_22 (fun H locs hP hD hS => ?_)
  obtain ⟨g_8, eg_8⟩ : ∃ y : Nat → Int32, upd g_6 (Int32.toNatClampNeg 15) (u_7 &&& 255) = y := ⟨_, rfl⟩
  have hP : va_P (dC, dI) vwCl [(a0, .inr (11, [.ref a1, .int 15, .ref a2, .ref a3, .ref a4, .ref a5, .ref a6, .ref a7, .int 0, .ref a8, .ref a9, .ref a10, .int 0, .int (-1), .ref a11, .int 0, .ref a12, .ref a13, .int 0])), (a1, .inl (cI, 600, .inl g_8))] H := by rw [eg_8] at hP; exact hP
  have hD : va_D A [(a0, .inr (11, [.ref a1, .int 15, .ref a2, .ref a3, .ref a4, .ref a5, .ref a6, .ref a7, .int 0, .ref a8, .ref a9, .ref a10, .int 0, .int (-1), .ref a11, .int 0, .ref a12, .ref a13, .int 0])), (a1, .inl (cI, 600, .inl g_8))] := by rw [eg_8] at hD; exact hD
  refine lv_aload_n hx hb dX11_putNumber_23 rfl (lv_at hl 1 rfl) ?_
  refine lv_dup hx hb dX11_putNumber_24 rfl ?_
  refine va_get (D := (dC, dI)) (ci := 11) (v := .int 15) (C := RX11) (T := TX11) (N := 19) hx hb hU inlX11 hown hK hP 0 rfl rfl 1 (by decide) (hU _ wd_209) (fun _ h9 => h9) rfl dX11_putNumber_25 ?_
  refine lv_iconst (v := 1) hx hb dX11_putNumber_28 (by decide) ?_
  refine lv_iadd hx hb dX11_putNumber_29 ?_
  refine tk_topi (y := 16) (by decide) ?_
  refine va_put (D := (dC, dI)) (ci := 11) (v := .int 16) (ty := .int) (C := RX11) (T := TX11) (N := 19) hx hb hU inlX11 tyX11 tyX11_ok nmX11 hown hK hP hD hS 0 rfl rfl 1 (by decide) (hU _ wd_209) (fun _ h9 => h9) rfl (by decide +kernel) rfl rfl (Nat.le_of_ble_eq_true rfl) dX11_putNumber_30 (fun H locs hP hD hS => ?_)
  have hP : va_P (dC, dI) vwCl [(a0, .inr (11, [.ref a1, .int 16, .ref a2, .ref a3, .ref a4, .ref a5, .ref a6, .ref a7, .int 0, .ref a8, .ref a9, .ref a10, .int 0, .int (-1), .ref a11, .int 0, .ref a12, .ref a13, .int 0])), (a1, .inl (cI, 600, .inl g_8))] H := hP
  have hD : va_D A [(a0, .inr (11, [.ref a1, .int 16, .ref a2, .ref a3, .ref a4, .ref a5, .ref a6, .ref a7, .int 0, .ref a8, .ref a9, .ref a10, .int 0, .int (-1), .ref a11, .int 0, .ref a12, .ref a13, .int 0])), (a1, .inl (cI, 600, .inl g_8))] := hD
  refine lv_iinc (v := (-8)) (lv' := [(2, .int (-8)), (0, .ref a0), (1, .int x0)]) hx hb dX11_putNumber_33 hl (k := 0) rfl (by decide) (by decide) rfl (fun ls hl => ?_)
  refine lv_goto (tgt := 3) hx hb dX11_putNumber_36 (by decide) ?_
  refine lv_iload_n hx hb dX11_putNumber_3 rfl (lv_at hl 0 rfl) ?_
  refine lv_if_lt (tgt := 39) hx hb dX11_putNumber_4 (by decide) (fun _ => ?_) (fun c9 => absurd (by decide) c9) 
  have hP9 := hP.sub (ws' := [(a0, .inr (11, [.ref a1, .int 16, .ref a2, .ref a3, .ref a4, .ref a5, .ref a6, .ref a7, .int 0, .ref a8, .ref a9, .ref a10, .int 0, .int (-1), .ref a11, .int 0, .ref a12, .ref a13, .int 0])), (a1, .inl (cI, 600, .inl g_8))]) [0, 1] rfl
  have hD9 := hD.sub (ws' := [(a0, .inr (11, [.ref a1, .int 16, .ref a2, .ref a3, .ref a4, .ref a5, .ref a6, .ref a7, .int 0, .ref a8, .ref a9, .ref a10, .int 0, .int (-1), .ref a11, .int 0, .ref a12, .ref a13, .int 0])), (a1, .inl (cI, 600, .inl g_8))]) [0, 1] (by decide) rfl
  refine W.widen (k := 0) (n := 0) (Nat.le_of_ble_eq_true rfl) (Nat.le_of_ble_eq_true rfl) ?_
  exact W.vret hx hb hr (fun t ht hW => ⟨⟨[(a0, .inr (11, [.ref a1, .int 16, .ref a2, .ref a3, .ref a4, .ref a5, .ref a6, .ref a7, .int 0, .ref a8, .ref a9, .ref a10, .int 0, .int (-1), .ref a11, .int 0, .ref a12, .ref a13, .int 0])), (a1, .inl (cI, 600, .inl g_8))], rfl, ⟨g_8, rfl⟩, by rw [ht]; exact hP9, va_K.moved hW.alike hK, hD9⟩, hS.F ht⟩) hS.2.2 dX11_putNumber_39
set_option maxHeartbeats 8000000 in
set_option maxRecDepth 100000 in
theorem cc_X11_putNumber_4 (l : Launch) (D : va_G) (cI cL cZ : ClassId) (sz : Nat) (a0 : Nat) (x0 : Int32) (a1 : Nat) (a2 : Nat) (a3 : Nat) (a4 : Nat) (a5 : Nat) (a6 : Nat) (a7 : Nat) (a8 : Nat) (a9 : Nat) (a10 : Nat) (a11 : Nat) (a12 : Nat) (a13 : Nat) (f0 : Nat → Int32) : mV l D cI cL cZ yX11_putNumber cX11_putNumber 3 none 0 0 0 0 [.ref a0, .int x0] sz [(a0, .inr (11, [.ref a1, .int 16, .ref a2, .ref a3, .ref a4, .ref a5, .ref a6, .ref a7, .int 0, .ref a8, .ref a9, .ref a10, .int 0, .int (-1), .ref a11, .int 0, .ref a12, .ref a13, .int 0])), (a1, .inl (cI, 600, .inl f0))] (fun (w1 : va_W) => ∃ (g_8 : Nat → Int32), w1 = ([(a0, .inr (11, [.ref a1, .int 20, .ref a2, .ref a3, .ref a4, .ref a5, .ref a6, .ref a7, .int 0, .ref a8, .ref a9, .ref a10, .int 0, .int (-1), .ref a11, .int 0, .ref a12, .ref a13, .int 0])), (a1, .inl (cI, 600, .inl g_8))] : va_W)) := by
  obtain ⟨dC, dI⟩ := D
  refine Met.ofW (cc := cX11_putNumber) (maxL := 3) (ret := none) (by decide) rfl ?_
  intro p e s m args below meth c s₁ B hml hv
  obtain ⟨rfl, hsz, hP, hK, hD0, hN⟩ := hv
  have hx := B.exec
  have hb := B.bytes
  have hr := B.returns
  have hU : ∀ w ∈ wsU, w.before _ s = true := fun w h => atoms_spec (ws := wU yX11_putNumber cX11_putNumber 3 none) B.pre w (List.mem_cons_of_mem _ h)
  have hown : s.vm.findClass RX11 = some m.cls := findClass_of_methodNamed B.named
  have hlocks := B.notSynchronized
  subst hsz
  have hD := hD0.self (sz := s.heap.size)
  generalize hAe : va_A [(a0, .inr (11, [.ref a1, .int 16, .ref a2, .ref a3, .ref a4, .ref a5, .ref a6, .ref a7, .int 0, .ref a8, .ref a9, .ref a10, .int 0, .int (-1), .ref a11, .int 0, .ref a12, .ref a13, .int 0])), (a1, .inl (cI, 600, .inl f0))] s.heap.size = A at hD ⊢
  have hA : ∀ q : Nat, s.heap.size ≤ q → A q := fun q h => by rw [← hAe]; exact Or.inr h
  have hS : va_S A s.heap s.heap [] := va_S.rf
  have hP : va_P (dC, dI) vwCl [(a0, .inr (11, [.ref a1, .int 16, .ref a2, .ref a3, .ref a4, .ref a5, .ref a6, .ref a7, .int 0, .ref a8, .ref a9, .ref a10, .int 0, .int (-1), .ref a11, .int 0, .ref a12, .ref a13, .int 0])), (a1, .inl (cI, 600, .inl f0))] s.heap := hP
  have hl := lv_entry ([.ref a0, .int x0]) (n := 3) (Nat.le_of_ble_eq_true rfl)
  rw [lg_entry_eq]
  generalize (lg_sl ([.ref a0, .int x0]) ++ List.replicate (3 - (lg_sl ([.ref a0, .int x0])).length) Slot.unset).toArray = ls at hl ⊢
  have hl : lv_has ls 3 [(0, .ref a0), (1, .int x0)] := hl
  refine lv_bipush (v := 24) hx hb dX11_putNumber_0 (by decide) ?_
  refine lv_istore_n (lv' := [(2, .int 24), (0, .ref a0), (1, .int x0)]) hx hb dX11_putNumber_2 rfl hl (by decide) rfl (fun ls hl => ?_)
  refine lv_iload_n hx hb dX11_putNumber_3 rfl (lv_at hl 0 rfl) ?_
  refine lv_if_lt (tgt := 39) hx hb dX11_putNumber_4 (by decide) (fun c9 => absurd c9 (by decide)) (fun _ => ?_)
  refine lv_aload_n hx hb dX11_putNumber_7 rfl (lv_at hl 1 rfl) ?_
  refine va_get (D := (dC, dI)) (ci := 11) (v := .ref a1) (C := RX11) (T := TX11) (N := 19) hx hb hU inlX11 hown hK hP 0 rfl rfl 0 (by decide) (hU _ wd_13) (fun _ h9 => h9) rfl dX11_putNumber_8 ?_
  refine lv_aload_n hx hb dX11_putNumber_11 rfl (lv_at hl 1 rfl) ?_
  refine va_get (D := (dC, dI)) (ci := 11) (v := .int 16) (C := RX11) (T := TX11) (N := 19) hx hb hU inlX11 hown hK hP 0 rfl rfl 1 (by decide) (hU _ wd_209) (fun _ h9 => h9) rfl dX11_putNumber_12 ?_
  refine lv_iload_n hx hb dX11_putNumber_15 rfl (lv_at hl 2 rfl) ?_
  refine lv_iload_n hx hb dX11_putNumber_16 rfl (lv_at hl 0 rfl) ?_
  refine lv_iushr hx hb dX11_putNumber_17 rfl ?_
  refine lv_topi (fun u_1 eu_1 => ?_)
  refine lv_sipush (v := 255) hx hb dX11_putNumber_18 (by decide) ?_
  refine lv_iand hx hb dX11_putNumber_21 ?_
  refine va_iast hx hb hK hP hD hS 1 0 rfl rfl (vp_in_nI (n := 16) (by decide) (by decide)) dX11_putNumber_22 (fun H locs hP hD hS => ?_)
  obtain ⟨g_2, eg_2⟩ : ∃ y : Nat → Int32, upd f0 (Int32.toNatClampNeg 16) (u_1 &&& 255) = y := ⟨_, rfl⟩
  have hP : va_P (dC, dI) vwCl [(a0, .inr (11, [.ref a1, .int 16, .ref a2, .ref a3, .ref a4, .ref a5, .ref a6, .ref a7, .int 0, .ref a8, .ref a9, .ref a10, .int 0, .int (-1), .ref a11, .int 0, .ref a12, .ref a13, .int 0])), (a1, .inl (cI, 600, .inl g_2))] H := by rw [eg_2] at hP; exact hP
  have hD : va_D A [(a0, .inr (11, [.ref a1, .int 16, .ref a2, .ref a3, .ref a4, .ref a5, .ref a6, .ref a7, .int 0, .ref a8, .ref a9, .ref a10, .int 0, .int (-1), .ref a11, .int 0, .ref a12, .ref a13, .int 0])), (a1, .inl (cI, 600, .inl g_2))] := by rw [eg_2] at hD; exact hD
  refine lv_aload_n hx hb dX11_putNumber_23 rfl (lv_at hl 1 rfl) ?_
  refine lv_dup hx hb dX11_putNumber_24 rfl ?_
  refine va_get (D := (dC, dI)) (ci := 11) (v := .int 16) (C := RX11) (T := TX11) (N := 19) hx hb hU inlX11 hown hK hP 0 rfl rfl 1 (by decide) (hU _ wd_209) (fun _ h9 => h9) rfl dX11_putNumber_25 ?_
  refine lv_iconst (v := 1) hx hb dX11_putNumber_28 (by decide) ?_
  refine lv_iadd hx hb dX11_putNumber_29 ?_
  refine tk_topi (y := 17) (by decide) ?_
  refine va_put (D := (dC, dI)) (ci := 11) (v := .int 17) (ty := .int) (C := RX11) (T := TX11) (N := 19) hx hb hU inlX11 tyX11 tyX11_ok nmX11 hown hK hP hD hS 0 rfl rfl 1 (by decide) (hU _ wd_209) (fun _ h9 => h9) rfl (by decide +kernel) rfl rfl (Nat.le_of_ble_eq_true rfl) dX11_putNumber_30 (fun H locs hP hD hS => ?_)
  have hP : va_P (dC, dI) vwCl [(a0, .inr (11, [.ref a1, .int 17, .ref a2, .ref a3, .ref a4, .ref a5, .ref a6, .ref a7, .int 0, .ref a8, .ref a9, .ref a10, .int 0, .int (-1), .ref a11, .int 0, .ref a12, .ref a13, .int 0])), (a1, .inl (cI, 600, .inl g_2))] H := hP
  have hD : va_D A [(a0, .inr (11, [.ref a1, .int 17, .ref a2, .ref a3, .ref a4, .ref a5, .ref a6, .ref a7, .int 0, .ref a8, .ref a9, .ref a10, .int 0, .int (-1), .ref a11, .int 0, .ref a12, .ref a13, .int 0])), (a1, .inl (cI, 600, .inl g_2))] := hD
  refine lv_iinc (v := 16) (lv' := [(2, .int 16), (0, .ref a0), (1, .int x0)]) hx hb dX11_putNumber_33 hl (k := 0) rfl (by decide) (by decide) rfl (fun ls hl => ?_)
  refine lv_goto (tgt := 3) hx hb dX11_putNumber_36 (by decide) ?_
  refine lv_iload_n hx hb dX11_putNumber_3 rfl (lv_at hl 0 rfl) ?_
  refine lv_if_lt (tgt := 39) hx hb dX11_putNumber_4 (by decide) (fun c9 => absurd c9 (by decide)) (fun _ => ?_)
  refine lv_aload_n hx hb dX11_putNumber_7 rfl (lv_at hl 1 rfl) ?_
  refine va_get (D := (dC, dI)) (ci := 11) (v := .ref a1) (C := RX11) (T := TX11) (N := 19) hx hb hU inlX11 hown hK hP 0 rfl rfl 0 (by decide) (hU _ wd_13) (fun _ h9 => h9) rfl dX11_putNumber_8 ?_
  refine lv_aload_n hx hb dX11_putNumber_11 rfl (lv_at hl 1 rfl) ?_
  refine va_get (D := (dC, dI)) (ci := 11) (v := .int 17) (C := RX11) (T := TX11) (N := 19) hx hb hU inlX11 hown hK hP 0 rfl rfl 1 (by decide) (hU _ wd_209) (fun _ h9 => h9) rfl dX11_putNumber_12 ?_
  refine lv_iload_n hx hb dX11_putNumber_15 rfl (lv_at hl 2 rfl) ?_
  refine lv_iload_n hx hb dX11_putNumber_16 rfl (lv_at hl 0 rfl) ?_
  refine lv_iushr hx hb dX11_putNumber_17 rfl ?_
  refine lv_topi (fun u_3 eu_3 => ?_)
  refine lv_sipush (v := 255) hx hb dX11_putNumber_18 (by decide) ?_
  refine lv_iand hx hb dX11_putNumber_21 ?_
  refine va_iast hx hb hK hP hD hS 1 0 rfl rfl (vp_in_nI (n := 17) (by decide) (by decide)) dX11_putNumber_22 (fun H locs hP hD hS => ?_)
  obtain ⟨g_4, eg_4⟩ : ∃ y : Nat → Int32, upd g_2 (Int32.toNatClampNeg 17) (u_3 &&& 255) = y := ⟨_, rfl⟩
  have hP : va_P (dC, dI) vwCl [(a0, .inr (11, [.ref a1, .int 17, .ref a2, .ref a3, .ref a4, .ref a5, .ref a6, .ref a7, .int 0, .ref a8, .ref a9, .ref a10, .int 0, .int (-1), .ref a11, .int 0, .ref a12, .ref a13, .int 0])), (a1, .inl (cI, 600, .inl g_4))] H := by rw [eg_4] at hP; exact hP
  have hD : va_D A [(a0, .inr (11, [.ref a1, .int 17, .ref a2, .ref a3, .ref a4, .ref a5, .ref a6, .ref a7, .int 0, .ref a8, .ref a9, .ref a10, .int 0, .int (-1), .ref a11, .int 0, .ref a12, .ref a13, .int 0])), (a1, .inl (cI, 600, .inl g_4))] := by rw [eg_4] at hD; exact hD
  refine lv_aload_n hx hb dX11_putNumber_23 rfl (lv_at hl 1 rfl) ?_
  refine lv_dup hx hb dX11_putNumber_24 rfl ?_
  refine va_get (D := (dC, dI)) (ci := 11) (v := .int 17) (C := RX11) (T := TX11) (N := 19) hx hb hU inlX11 hown hK hP 0 rfl rfl 1 (by decide) (hU _ wd_209) (fun _ h9 => h9) rfl dX11_putNumber_25 ?_
  refine lv_iconst (v := 1) hx hb dX11_putNumber_28 (by decide) ?_
  refine lv_iadd hx hb dX11_putNumber_29 ?_
  refine tk_topi (y := 18) (by decide) ?_
  refine va_put (D := (dC, dI)) (ci := 11) (v := .int 18) (ty := .int) (C := RX11) (T := TX11) (N := 19) hx hb hU inlX11 tyX11 tyX11_ok nmX11 hown hK hP hD hS 0 rfl rfl 1 (by decide) (hU _ wd_209) (fun _ h9 => h9) rfl (by decide +kernel) rfl rfl (Nat.le_of_ble_eq_true rfl) dX11_putNumber_30 (fun H locs hP hD hS => ?_)
  have hP : va_P (dC, dI) vwCl [(a0, .inr (11, [.ref a1, .int 18, .ref a2, .ref a3, .ref a4, .ref a5, .ref a6, .ref a7, .int 0, .ref a8, .ref a9, .ref a10, .int 0, .int (-1), .ref a11, .int 0, .ref a12, .ref a13, .int 0])), (a1, .inl (cI, 600, .inl g_4))] H := hP
  have hD : va_D A [(a0, .inr (11, [.ref a1, .int 18, .ref a2, .ref a3, .ref a4, .ref a5, .ref a6, .ref a7, .int 0, .ref a8, .ref a9, .ref a10, .int 0, .int (-1), .ref a11, .int 0, .ref a12, .ref a13, .int 0])), (a1, .inl (cI, 600, .inl g_4))] := hD
  refine lv_iinc (v := 8) (lv' := [(2, .int 8), (0, .ref a0), (1, .int x0)]) hx hb dX11_putNumber_33 hl (k := 0) rfl (by decide) (by decide) rfl (fun ls hl => ?_)
  refine lv_goto (tgt := 3) hx hb dX11_putNumber_36 (by decide) ?_
  refine lv_iload_n hx hb dX11_putNumber_3 rfl (lv_at hl 0 rfl) ?_
  refine lv_if_lt (tgt := 39) hx hb dX11_putNumber_4 (by decide) (fun c9 => absurd c9 (by decide)) (fun _ => ?_)
  refine lv_aload_n hx hb dX11_putNumber_7 rfl (lv_at hl 1 rfl) ?_
  refine va_get (D := (dC, dI)) (ci := 11) (v := .ref a1) (C := RX11) (T := TX11) (N := 19) hx hb hU inlX11 hown hK hP 0 rfl rfl 0 (by decide) (hU _ wd_13) (fun _ h9 => h9) rfl dX11_putNumber_8 ?_
  refine lv_aload_n hx hb dX11_putNumber_11 rfl (lv_at hl 1 rfl) ?_
  refine va_get (D := (dC, dI)) (ci := 11) (v := .int 18) (C := RX11) (T := TX11) (N := 19) hx hb hU inlX11 hown hK hP 0 rfl rfl 1 (by decide) (hU _ wd_209) (fun _ h9 => h9) rfl dX11_putNumber_12 ?_
  refine lv_iload_n hx hb dX11_putNumber_15 rfl (lv_at hl 2 rfl) ?_
  refine lv_iload_n hx hb dX11_putNumber_16 rfl (lv_at hl 0 rfl) ?_
  refine lv_iushr hx hb dX11_putNumber_17 rfl ?_
  refine lv_topi (fun u_5 eu_5 => ?_)
  refine lv_sipush (v := 255) hx hb dX11_putNumber_18 (by decide) ?_
  refine lv_iand hx hb dX11_putNumber_21 ?_
  refine va_iast hx hb hK hP hD hS 1 0 rfl rfl (vp_in_nI (n := 18) (by decide) (by decide)) dX11_putNumber_22 (fun H locs hP hD hS => ?_)
  obtain ⟨g_6, eg_6⟩ : ∃ y : Nat → Int32, upd g_4 (Int32.toNatClampNeg 18) (u_5 &&& 255) = y := ⟨_, rfl⟩
  have hP : va_P (dC, dI) vwCl [(a0, .inr (11, [.ref a1, .int 18, .ref a2, .ref a3, .ref a4, .ref a5, .ref a6, .ref a7, .int 0, .ref a8, .ref a9, .ref a10, .int 0, .int (-1), .ref a11, .int 0, .ref a12, .ref a13, .int 0])), (a1, .inl (cI, 600, .inl g_6))] H := by rw [eg_6] at hP; exact hP
  have hD : va_D A [(a0, .inr (11, [.ref a1, .int 18, .ref a2, .ref a3, .ref a4, .ref a5, .ref a6, .ref a7, .int 0, .ref a8, .ref a9, .ref a10, .int 0, .int (-1), .ref a11, .int 0, .ref a12, .ref a13, .int 0])), (a1, .inl (cI, 600, .inl g_6))] := by rw [eg_6] at hD; exact hD
  refine lv_aload_n hx hb dX11_putNumber_23 rfl (lv_at hl 1 rfl) ?_
  refine lv_dup hx hb dX11_putNumber_24 rfl ?_
  refine va_get (D := (dC, dI)) (ci := 11) (v := .int 18) (C := RX11) (T := TX11) (N := 19) hx hb hU inlX11 hown hK hP 0 rfl rfl 1 (by decide) (hU _ wd_209) (fun _ h9 => h9) rfl dX11_putNumber_25 ?_
  refine lv_iconst (v := 1) hx hb dX11_putNumber_28 (by decide) ?_
  refine lv_iadd hx hb dX11_putNumber_29 ?_
  refine tk_topi (y := 19) (by decide) ?_
  refine va_put (D := (dC, dI)) (ci := 11) (v := .int 19) (ty := .int) (C := RX11) (T := TX11) (N := 19) hx hb hU inlX11 tyX11 tyX11_ok nmX11 hown hK hP hD hS 0 rfl rfl 1 (by decide) (hU _ wd_209) (fun _ h9 => h9) rfl (by decide +kernel) rfl rfl (Nat.le_of_ble_eq_true rfl) dX11_putNumber_30 (fun H locs hP hD hS => ?_)
  have hP : va_P (dC, dI) vwCl [(a0, .inr (11, [.ref a1, .int 19, .ref a2, .ref a3, .ref a4, .ref a5, .ref a6, .ref a7, .int 0, .ref a8, .ref a9, .ref a10, .int 0, .int (-1), .ref a11, .int 0, .ref a12, .ref a13, .int 0])), (a1, .inl (cI, 600, .inl g_6))] H := hP
  have hD : va_D A [(a0, .inr (11, [.ref a1, .int 19, .ref a2, .ref a3, .ref a4, .ref a5, .ref a6, .ref a7, .int 0, .ref a8, .ref a9, .ref a10, .int 0, .int (-1), .ref a11, .int 0, .ref a12, .ref a13, .int 0])), (a1, .inl (cI, 600, .inl g_6))] := hD
  refine lv_iinc (v := 0) (lv' := [(2, .int 0), (0, .ref a0), (1, .int x0)]) hx hb dX11_putNumber_33 hl (k := 0) rfl (by decide) (by decide) rfl (fun ls hl => ?_)
  refine lv_goto (tgt := 3) hx hb dX11_putNumber_36 (by decide) ?_
  refine lv_iload_n hx hb dX11_putNumber_3 rfl (lv_at hl 0 rfl) ?_
  refine lv_if_lt (tgt := 39) hx hb dX11_putNumber_4 (by decide) (fun c9 => absurd c9 (by decide)) (fun _ => ?_)
  refine lv_aload_n hx hb dX11_putNumber_7 rfl (lv_at hl 1 rfl) ?_
  refine va_get (D := (dC, dI)) (ci := 11) (v := .ref a1) (C := RX11) (T := TX11) (N := 19) hx hb hU inlX11 hown hK hP 0 rfl rfl 0 (by decide) (hU _ wd_13) (fun _ h9 => h9) rfl dX11_putNumber_8 ?_
  refine lv_aload_n hx hb dX11_putNumber_11 rfl (lv_at hl 1 rfl) ?_
  refine va_get (D := (dC, dI)) (ci := 11) (v := .int 19) (C := RX11) (T := TX11) (N := 19) hx hb hU inlX11 hown hK hP 0 rfl rfl 1 (by decide) (hU _ wd_209) (fun _ h9 => h9) rfl dX11_putNumber_12 ?_
  refine lv_iload_n hx hb dX11_putNumber_15 rfl (lv_at hl 2 rfl) ?_
  refine lv_iload_n hx hb dX11_putNumber_16 rfl (lv_at hl 0 rfl) ?_
  refine lv_iushr hx hb dX11_putNumber_17 rfl ?_
  refine lv_topi (fun u_7 eu_7 => ?_)
  refine lv_sipush (v := 255) hx hb dX11_putNumber_18 (by decide) ?_
  refine lv_iand hx hb dX11_putNumber_21 ?_
  refine va_iast hx hb hK hP hD hS 1 0 rfl rfl (vp_in_nI (n := 19) (by decide) (by decide)) dX11_putNumber_22 (fun H locs hP hD hS => ?_)
  obtain ⟨g_8, eg_8⟩ : ∃ y : Nat → Int32, upd g_6 (Int32.toNatClampNeg 19) (u_7 &&& 255) = y := ⟨_, rfl⟩
  have hP : va_P (dC, dI) vwCl [(a0, .inr (11, [.ref a1, .int 19, .ref a2, .ref a3, .ref a4, .ref a5, .ref a6, .ref a7, .int 0, .ref a8, .ref a9, .ref a10, .int 0, .int (-1), .ref a11, .int 0, .ref a12, .ref a13, .int 0])), (a1, .inl (cI, 600, .inl g_8))] H := by rw [eg_8] at hP; exact hP
  have hD : va_D A [(a0, .inr (11, [.ref a1, .int 19, .ref a2, .ref a3, .ref a4, .ref a5, .ref a6, .ref a7, .int 0, .ref a8, .ref a9, .ref a10, .int 0, .int (-1), .ref a11, .int 0, .ref a12, .ref a13, .int 0])), (a1, .inl (cI, 600, .inl g_8))] := by rw [eg_8] at hD; exact hD
  refine lv_aload_n hx hb dX11_putNumber_23 rfl (lv_at hl 1 rfl) ?_
  refine lv_dup hx hb dX11_putNumber_24 rfl ?_
  refine va_get (D := (dC, dI)) (ci := 11) (v := .int 19) (C := RX11) (T := TX11) (N := 19) hx hb hU inlX11 hown hK hP 0 rfl rfl 1 (by decide) (hU _ wd_209) (fun _ h9 => h9) rfl dX11_putNumber_25 ?_
  refine lv_iconst (v := 1) hx hb dX11_putNumber_28 (by decide) ?_
  refine lv_iadd hx hb dX11_putNumber_29 ?_
  refine tk_topi (y := 20) (by decide) ?_
  refine va_put (D := (dC, dI)) (ci := 11) (v := .int 20) (ty := .int) (C := RX11) (T := TX11) (N := 19) hx hb hU inlX11 tyX11 tyX11_ok nmX11 hown hK hP hD hS 0 rfl rfl 1 (by decide) (hU _ wd_209) (fun _ h9 => h9) rfl (by decide +kernel) rfl rfl (Nat.le_of_ble_eq_true rfl) dX11_putNumber_30 (fun H locs hP hD hS => ?_)
  have hP : va_P (dC, dI) vwCl [(a0, .inr (11, [.ref a1, .int 20, .ref a2, .ref a3, .ref a4, .ref a5, .ref a6, .ref a7, .int 0, .ref a8, .ref a9, .ref a10, .int 0, .int (-1), .ref a11, .int 0, .ref a12, .ref a13, .int 0])), (a1, .inl (cI, 600, .inl g_8))] H := hP
  have hD : va_D A [(a0, .inr (11, [.ref a1, .int 20, .ref a2, .ref a3, .ref a4, .ref a5, .ref a6, .ref a7, .int 0, .ref a8, .ref a9, .ref a10, .int 0, .int (-1), .ref a11, .int 0, .ref a12, .ref a13, .int 0])), (a1, .inl (cI, 600, .inl g_8))] := hD
  refine lv_iinc (v := (-8)) (lv' := [(2, .int (-8)), (0, .ref a0), (1, .int x0)]) hx hb dX11_putNumber_33 hl (k := 0) rfl (by decide) (by decide) rfl (fun ls hl => ?_)
  refine lv_goto (tgt := 3) hx hb dX11_putNumber_36 (by decide) ?_
  refine lv_iload_n hx hb dX11_putNumber_3 rfl (lv_at hl 0 rfl) ?_
  refine lv_if_lt (tgt := 39) hx hb dX11_putNumber_4 (by decide) (fun _ => ?_) (fun c9 => absurd (by decide) c9) 
  have hP9 := hP.sub (ws' := [(a0, .inr (11, [.ref a1, .int 20, .ref a2, .ref a3, .ref a4, .ref a5, .ref a6, .ref a7, .int 0, .ref a8, .ref a9, .ref a10, .int 0, .int (-1), .ref a11, .int 0, .ref a12, .ref a13, .int 0])), (a1, .inl (cI, 600, .inl g_8))]) [0, 1] rfl
  have hD9 := hD.sub (ws' := [(a0, .inr (11, [.ref a1, .int 20, .ref a2, .ref a3, .ref a4, .ref a5, .ref a6, .ref a7, .int 0, .ref a8, .ref a9, .ref a10, .int 0, .int (-1), .ref a11, .int 0, .ref a12, .ref a13, .int 0])), (a1, .inl (cI, 600, .inl g_8))]) [0, 1] (by decide) rfl
  refine W.widen (k := 0) (n := 0) (Nat.le_of_ble_eq_true rfl) (Nat.le_of_ble_eq_true rfl) ?_
  exact W.vret hx hb hr (fun t ht hW => ⟨⟨[(a0, .inr (11, [.ref a1, .int 20, .ref a2, .ref a3, .ref a4, .ref a5, .ref a6, .ref a7, .int 0, .ref a8, .ref a9, .ref a10, .int 0, .int (-1), .ref a11, .int 0, .ref a12, .ref a13, .int 0])), (a1, .inl (cI, 600, .inl g_8))], rfl, ⟨g_8, rfl⟩, by rw [ht]; exact hP9, va_K.moved hW.alike hK, hD9⟩, hS.F ht⟩) hS.2.2 dX11_putNumber_39
set_option maxHeartbeats 8000000 in
set_option maxRecDepth 100000 in
theorem op_X11_feed (l : Launch) (D : va_G) (cI cL cZ : ClassId) (sz : Nat) (a0 : Nat) (x0 : Int32) (x1 : Int32) (x2 : Int32) (x3 : Int32) (x4 : Int32) (a1 : Nat) (a2 : Nat) (a3 : Nat) (a4 : Nat) (a5 : Nat) (a6 : Nat) (a7 : Nat) (a8 : Nat) (a9 : Nat) (a10 : Nat) (a11 : Nat) (a12 : Nat) (a13 : Nat) : mI l D cI cL cZ yX11_feed cX11_feed 6 (some .int) 1 22 0 0 [.ref a0, .int x0, .int x1, .int x2, .int x3, .int x4] sz [(a0, .inr (11, [.ref a1, .int 0, .ref a2, .ref a3, .ref a4, .ref a5, .ref a6, .ref a7, .int 0, .ref a8, .ref a9, .ref a10, .int 0, .int (-1), .ref a11, .int 0, .ref a12, .ref a13, .int 0])), (a1, .inl (cI, 600, .inl z0))] (fun (r : Int32) (w1 : va_W) => r = 20 ∧ w1 = ([] : va_W)) := by
  obtain ⟨dC, dI⟩ := D
  refine Met.ofW (cc := cX11_feed) (maxL := 6) (ret := (some .int)) (by decide) rfl ?_
  intro p e s m args below meth c s₁ B hml hv
  obtain ⟨rfl, hsz, hP, hK, hD0, hN⟩ := hv
  have hx := B.exec
  have hb := B.bytes
  have hr := B.returns
  have hU : ∀ w ∈ wsU, w.before _ s = true := fun w h => atoms_spec (ws := wU yX11_feed cX11_feed 6 (some .int)) B.pre w (List.mem_cons_of_mem _ h)
  have hown : s.vm.findClass RX11 = some m.cls := findClass_of_methodNamed B.named
  have hlocks := B.notSynchronized
  subst hsz
  have hD := hD0.self (sz := s.heap.size)
  generalize hAe : va_A [(a0, .inr (11, [.ref a1, .int 0, .ref a2, .ref a3, .ref a4, .ref a5, .ref a6, .ref a7, .int 0, .ref a8, .ref a9, .ref a10, .int 0, .int (-1), .ref a11, .int 0, .ref a12, .ref a13, .int 0])), (a1, .inl (cI, 600, .inl z0))] s.heap.size = A at hD ⊢
  have hA : ∀ q : Nat, s.heap.size ≤ q → A q := fun q h => by rw [← hAe]; exact Or.inr h
  have hS : va_S A s.heap s.heap [] := va_S.rf
  have hP : va_P (dC, dI) vwCl [(a0, .inr (11, [.ref a1, .int 0, .ref a2, .ref a3, .ref a4, .ref a5, .ref a6, .ref a7, .int 0, .ref a8, .ref a9, .ref a10, .int 0, .int (-1), .ref a11, .int 0, .ref a12, .ref a13, .int 0])), (a1, .inl (cI, 600, .inl z0))] s.heap := hP
  have hl := lv_entry ([.ref a0, .int x0, .int x1, .int x2, .int x3, .int x4]) (n := 6) (Nat.le_of_ble_eq_true rfl)
  rw [lg_entry_eq]
  generalize (lg_sl ([.ref a0, .int x0, .int x1, .int x2, .int x3, .int x4]) ++ List.replicate (6 - (lg_sl ([.ref a0, .int x0, .int x1, .int x2, .int x3, .int x4])).length) Slot.unset).toArray = ls at hl ⊢
  have hl : lv_has ls 6 [(0, .ref a0), (1, .int x0), (2, .int x1), (3, .int x2), (4, .int x3), (5, .int x4)] := hl
  refine lv_aload_n hx hb dX11_feed_0 rfl (lv_at hl 0 rfl) ?_
  refine va_get (D := (dC, dI)) (ci := 11) (v := .int 0) (C := RX11) (T := TX11) (N := 19) hx hb hU inlX11 hown hK hP 0 rfl rfl 1 (by decide) (hU _ wd_209) (fun _ h9 => h9) rfl dX11_feed_1 ?_
  refine lv_bipush (v := 20) hx hb dX11_feed_4 (by decide) ?_
  refine lv_iadd hx hb dX11_feed_6 ?_
  refine tk_topi (y := 20) (by decide) ?_
  refine lv_sipush (v := 600) hx hb dX11_feed_7 (by decide) ?_
  refine lv_icmp_le (tgt := 15) hx hb dX11_feed_10 (by decide) (fun _ => ?_) (fun c9 => absurd (by decide) c9) 
  refine lv_aload_n hx hb dX11_feed_15 rfl (lv_at hl 0 rfl) ?_
  refine lv_iload_n hx hb dX11_feed_16 rfl (lv_at hl 1 rfl) ?_
  refine tk_rv (wr := []) (tk_V (As := [.int x0]) (rest := []) (n := 1) hx hb hml hown hU hN (cc_X11_putNumber_0 l (dC, dI) cI cL cZ s.heap.size a0 x0 a1 a2 a3 a4 a5 a6 a7 a8 a9 a10 a11 a12 a13) wd_210 wd_211 wd_212 wd_2 wd_213 (by decide +kernel) ⟨Nat.le_of_ble_eq_true rfl, Nat.le_of_ble_eq_true rfl⟩ hK hP hD [0, 1] (by decide) rfl 0 11 rfl rfl rfl rfl hl.1 rfl (Nat.le_of_ble_eq_true rfl) dX11_feed_17 ⟨Nat.le_of_ble_eq_true rfl, Nat.le_of_ble_eq_true rfl⟩) hP hD hS hA [0, 1] [] rfl rfl (by decide) (by decide) (fun w_2 H locs hw hP hD hS => ?_)
  obtain ⟨q_3, rfl⟩ := hw
  have hP : va_P (dC, dI) vwCl [(a0, .inr (11, [.ref a1, .int 4, .ref a2, .ref a3, .ref a4, .ref a5, .ref a6, .ref a7, .int 0, .ref a8, .ref a9, .ref a10, .int 0, .int (-1), .ref a11, .int 0, .ref a12, .ref a13, .int 0])), (a1, .inl (cI, 600, .inl q_3))] H := hP
  have hD : va_D A [(a0, .inr (11, [.ref a1, .int 4, .ref a2, .ref a3, .ref a4, .ref a5, .ref a6, .ref a7, .int 0, .ref a8, .ref a9, .ref a10, .int 0, .int (-1), .ref a11, .int 0, .ref a12, .ref a13, .int 0])), (a1, .inl (cI, 600, .inl q_3))] := hD
  refine lv_aload_n hx hb dX11_feed_20 rfl (lv_at hl 0 rfl) ?_
  refine lv_iload_n hx hb dX11_feed_21 rfl (lv_at hl 2 rfl) ?_
  refine tk_rv (wr := []) (tk_V (As := [.int x1]) (rest := []) (n := 1) hx hb hml hown hU hN (cc_X11_putNumber_1 l (dC, dI) cI cL cZ H.size a0 x1 a1 a2 a3 a4 a5 a6 a7 a8 a9 a10 a11 a12 a13 q_3) wd_210 wd_211 wd_212 wd_2 wd_213 (by decide +kernel) ⟨Nat.le_of_ble_eq_true rfl, Nat.le_of_ble_eq_true rfl⟩ hK hP hD [0, 1] (by decide) rfl 0 11 rfl rfl rfl rfl hl.1 rfl (Nat.le_of_ble_eq_true rfl) dX11_feed_22 ⟨Nat.le_of_ble_eq_true rfl, Nat.le_of_ble_eq_true rfl⟩) hP hD hS hA [0, 1] [] rfl rfl (by decide) (by decide) (fun w_5 H locs hw hP hD hS => ?_)
  obtain ⟨q_6, rfl⟩ := hw
  have hP : va_P (dC, dI) vwCl [(a0, .inr (11, [.ref a1, .int 8, .ref a2, .ref a3, .ref a4, .ref a5, .ref a6, .ref a7, .int 0, .ref a8, .ref a9, .ref a10, .int 0, .int (-1), .ref a11, .int 0, .ref a12, .ref a13, .int 0])), (a1, .inl (cI, 600, .inl q_6))] H := hP
  have hD : va_D A [(a0, .inr (11, [.ref a1, .int 8, .ref a2, .ref a3, .ref a4, .ref a5, .ref a6, .ref a7, .int 0, .ref a8, .ref a9, .ref a10, .int 0, .int (-1), .ref a11, .int 0, .ref a12, .ref a13, .int 0])), (a1, .inl (cI, 600, .inl q_6))] := hD
  refine lv_aload_n hx hb dX11_feed_25 rfl (lv_at hl 0 rfl) ?_
  refine lv_iload_n hx hb dX11_feed_26 rfl (lv_at hl 3 rfl) ?_
  refine tk_rv (wr := []) (tk_V (As := [.int x2]) (rest := []) (n := 1) hx hb hml hown hU hN (cc_X11_putNumber_2 l (dC, dI) cI cL cZ H.size a0 x2 a1 a2 a3 a4 a5 a6 a7 a8 a9 a10 a11 a12 a13 q_6) wd_210 wd_211 wd_212 wd_2 wd_213 (by decide +kernel) ⟨Nat.le_of_ble_eq_true rfl, Nat.le_of_ble_eq_true rfl⟩ hK hP hD [0, 1] (by decide) rfl 0 11 rfl rfl rfl rfl hl.1 rfl (Nat.le_of_ble_eq_true rfl) dX11_feed_27 ⟨Nat.le_of_ble_eq_true rfl, Nat.le_of_ble_eq_true rfl⟩) hP hD hS hA [0, 1] [] rfl rfl (by decide) (by decide) (fun w_8 H locs hw hP hD hS => ?_)
  obtain ⟨q_9, rfl⟩ := hw
  have hP : va_P (dC, dI) vwCl [(a0, .inr (11, [.ref a1, .int 12, .ref a2, .ref a3, .ref a4, .ref a5, .ref a6, .ref a7, .int 0, .ref a8, .ref a9, .ref a10, .int 0, .int (-1), .ref a11, .int 0, .ref a12, .ref a13, .int 0])), (a1, .inl (cI, 600, .inl q_9))] H := hP
  have hD : va_D A [(a0, .inr (11, [.ref a1, .int 12, .ref a2, .ref a3, .ref a4, .ref a5, .ref a6, .ref a7, .int 0, .ref a8, .ref a9, .ref a10, .int 0, .int (-1), .ref a11, .int 0, .ref a12, .ref a13, .int 0])), (a1, .inl (cI, 600, .inl q_9))] := hD
  refine lv_aload_n hx hb dX11_feed_30 rfl (lv_at hl 0 rfl) ?_
  refine lv_iload hx hb dX11_feed_31 (lv_at hl 4 rfl) ?_
  refine tk_rv (wr := []) (tk_V (As := [.int x3]) (rest := []) (n := 1) hx hb hml hown hU hN (cc_X11_putNumber_3 l (dC, dI) cI cL cZ H.size a0 x3 a1 a2 a3 a4 a5 a6 a7 a8 a9 a10 a11 a12 a13 q_9) wd_210 wd_211 wd_212 wd_2 wd_213 (by decide +kernel) ⟨Nat.le_of_ble_eq_true rfl, Nat.le_of_ble_eq_true rfl⟩ hK hP hD [0, 1] (by decide) rfl 0 11 rfl rfl rfl rfl hl.1 rfl (Nat.le_of_ble_eq_true rfl) dX11_feed_33 ⟨Nat.le_of_ble_eq_true rfl, Nat.le_of_ble_eq_true rfl⟩) hP hD hS hA [0, 1] [] rfl rfl (by decide) (by decide) (fun w_11 H locs hw hP hD hS => ?_)
  obtain ⟨q_12, rfl⟩ := hw
  have hP : va_P (dC, dI) vwCl [(a0, .inr (11, [.ref a1, .int 16, .ref a2, .ref a3, .ref a4, .ref a5, .ref a6, .ref a7, .int 0, .ref a8, .ref a9, .ref a10, .int 0, .int (-1), .ref a11, .int 0, .ref a12, .ref a13, .int 0])), (a1, .inl (cI, 600, .inl q_12))] H := hP
  have hD : va_D A [(a0, .inr (11, [.ref a1, .int 16, .ref a2, .ref a3, .ref a4, .ref a5, .ref a6, .ref a7, .int 0, .ref a8, .ref a9, .ref a10, .int 0, .int (-1), .ref a11, .int 0, .ref a12, .ref a13, .int 0])), (a1, .inl (cI, 600, .inl q_12))] := hD
  refine lv_aload_n hx hb dX11_feed_36 rfl (lv_at hl 0 rfl) ?_
  refine lv_iload hx hb dX11_feed_37 (lv_at hl 5 rfl) ?_
  refine tk_rv (wr := []) (tk_V (As := [.int x4]) (rest := []) (n := 1) hx hb hml hown hU hN (cc_X11_putNumber_4 l (dC, dI) cI cL cZ H.size a0 x4 a1 a2 a3 a4 a5 a6 a7 a8 a9 a10 a11 a12 a13 q_12) wd_210 wd_211 wd_212 wd_2 wd_213 (by decide +kernel) ⟨Nat.le_of_ble_eq_true rfl, Nat.le_of_ble_eq_true rfl⟩ hK hP hD [0, 1] (by decide) rfl 0 11 rfl rfl rfl rfl hl.1 rfl (Nat.le_of_ble_eq_true rfl) dX11_feed_39 ⟨Nat.le_of_ble_eq_true rfl, Nat.le_of_ble_eq_true rfl⟩) hP hD hS hA [0, 1] [] rfl rfl (by decide) (by decide) (fun w_14 H locs hw hP hD hS => ?_)
  obtain ⟨q_15, rfl⟩ := hw
  have hP : va_P (dC, dI) vwCl [(a0, .inr (11, [.ref a1, .int 20, .ref a2, .ref a3, .ref a4, .ref a5, .ref a6, .ref a7, .int 0, .ref a8, .ref a9, .ref a10, .int 0, .int (-1), .ref a11, .int 0, .ref a12, .ref a13, .int 0])), (a1, .inl (cI, 600, .inl q_15))] H := hP
  have hD : va_D A [(a0, .inr (11, [.ref a1, .int 20, .ref a2, .ref a3, .ref a4, .ref a5, .ref a6, .ref a7, .int 0, .ref a8, .ref a9, .ref a10, .int 0, .int (-1), .ref a11, .int 0, .ref a12, .ref a13, .int 0])), (a1, .inl (cI, 600, .inl q_15))] := hD
  refine lv_aload_n hx hb dX11_feed_42 rfl (lv_at hl 0 rfl) ?_
  refine va_get (D := (dC, dI)) (ci := 11) (v := .int 20) (C := RX11) (T := TX11) (N := 19) hx hb hU inlX11 hown hK hP 0 rfl rfl 1 (by decide) (hU _ wd_209) (fun _ h9 => h9) rfl dX11_feed_43 ?_
  have hP9 := hP.sub (ws' := []) [] rfl
  have hD9 := hD.sub (ws' := []) [] (by decide) rfl
  refine W.widen (k := 0) (n := 0) (Nat.le_of_ble_eq_true rfl) (Nat.le_of_ble_eq_true rfl) ?_
  exact W.iret (v := 20) hx hb hr (fun t ht hW => ⟨⟨20, [], rfl, ⟨rfl, rfl⟩, by rw [ht]; exact hP9, va_K.moved hW.alike hK, hD9⟩, hS.F ht⟩) hS.2.2 dX11_feed_46
set_option maxHeartbeats 8000000 in
set_option maxRecDepth 100000 in
theorem op_X11_end (l : Launch) (D : va_G) (cI cL cZ : ClassId) (sz : Nat) (a0 : Nat) (x0 : Int32) (a1 : Nat) (a2 : Nat) (a3 : Nat) (a4 : Nat) (a5 : Nat) (a6 : Nat) (a7 : Nat) (a8 : Nat) (a9 : Nat) (a10 : Nat) (a11 : Nat) (a12 : Nat) (a13 : Nat) : mI l D cI cL cZ yX11_end cX11_end 2 (some .boolean) 0 0 0 0 [.ref a0, .int x0] sz [(a0, .inr (11, [.ref a1, .int 0, .ref a2, .ref a3, .ref a4, .ref a5, .ref a6, .ref a7, .int 0, .ref a8, .ref a9, .ref a10, .int 0, .int (-1), .ref a11, .int 0, .ref a12, .ref a13, .int 0]))] (fun (r : Int32) (w1 : va_W) => r = (an_end x0) ∧ w1 = ([] : va_W)) := by
  obtain ⟨dC, dI⟩ := D
  refine Met.ofW (cc := cX11_end) (maxL := 2) (ret := (some .boolean)) (by decide) rfl ?_
  intro p e s m args below meth c s₁ B hml hv
  obtain ⟨rfl, hsz, hP, hK, hD0, hN⟩ := hv
  have hx := B.exec
  have hb := B.bytes
  have hr := B.returns
  have hU : ∀ w ∈ wsU, w.before _ s = true := fun w h => atoms_spec (ws := wU yX11_end cX11_end 2 (some .boolean)) B.pre w (List.mem_cons_of_mem _ h)
  have hown : s.vm.findClass RX11 = some m.cls := findClass_of_methodNamed B.named
  have hlocks := B.notSynchronized
  subst hsz
  have hD := hD0.self (sz := s.heap.size)
  generalize hAe : va_A [(a0, .inr (11, [.ref a1, .int 0, .ref a2, .ref a3, .ref a4, .ref a5, .ref a6, .ref a7, .int 0, .ref a8, .ref a9, .ref a10, .int 0, .int (-1), .ref a11, .int 0, .ref a12, .ref a13, .int 0]))] s.heap.size = A at hD ⊢
  have hA : ∀ q : Nat, s.heap.size ≤ q → A q := fun q h => by rw [← hAe]; exact Or.inr h
  have hS : va_S A s.heap s.heap [] := va_S.rf
  have hP : va_P (dC, dI) vwCl [(a0, .inr (11, [.ref a1, .int 0, .ref a2, .ref a3, .ref a4, .ref a5, .ref a6, .ref a7, .int 0, .ref a8, .ref a9, .ref a10, .int 0, .int (-1), .ref a11, .int 0, .ref a12, .ref a13, .int 0]))] s.heap := hP
  have hl := lv_entry ([.ref a0, .int x0]) (n := 2) (Nat.le_of_ble_eq_true rfl)
  rw [lg_entry_eq]
  generalize (lg_sl ([.ref a0, .int x0]) ++ List.replicate (2 - (lg_sl ([.ref a0, .int x0])).length) Slot.unset).toArray = ls at hl ⊢
  have hl : lv_has ls 2 [(0, .ref a0), (1, .int x0)] := hl
  by_cases c_1 : x0 = 0
  · subst c_1
    refine lv_iload_n hx hb dX11_end_0 rfl (lv_at hl 1 rfl) ?_
    refine lv_if_lt (tgt := 12) hx hb dX11_end_1 (by decide) (fun c9 => absurd c9 (by decide)) (fun _ => ?_)
    refine lv_iload_n hx hb dX11_end_4 rfl (lv_at hl 1 rfl) ?_
    refine lv_aload_n hx hb dX11_end_5 rfl (lv_at hl 0 rfl) ?_
    refine va_get (D := (dC, dI)) (ci := 11) (v := .int 0) (C := RX11) (T := TX11) (N := 19) hx hb hU inlX11 hown hK hP 0 rfl rfl 1 (by decide) (hU _ wd_209) (fun _ h9 => h9) rfl dX11_end_6 ?_
    refine lv_icmp_le (tgt := 14) hx hb dX11_end_9 (by decide) (fun _ => ?_) (fun c9 => absurd (by decide) c9) 
    refine lv_aload_n hx hb dX11_end_14 rfl (lv_at hl 0 rfl) ?_
    refine lv_iload_n hx hb dX11_end_15 rfl (lv_at hl 1 rfl) ?_
    refine va_put (D := (dC, dI)) (ci := 11) (v := .int 0) (ty := .int) (C := RX11) (T := TX11) (N := 19) hx hb hU inlX11 tyX11 tyX11_ok nmX11 hown hK hP hD hS 0 rfl rfl 1 (by decide) (hU _ wd_209) (fun _ h9 => h9) rfl (by decide +kernel) rfl rfl (Nat.le_of_ble_eq_true rfl) dX11_end_16 (fun H locs hP hD hS => ?_)
    have hP : va_P (dC, dI) vwCl [(a0, .inr (11, [.ref a1, .int 0, .ref a2, .ref a3, .ref a4, .ref a5, .ref a6, .ref a7, .int 0, .ref a8, .ref a9, .ref a10, .int 0, .int (-1), .ref a11, .int 0, .ref a12, .ref a13, .int 0]))] H := hP
    have hD : va_D A [(a0, .inr (11, [.ref a1, .int 0, .ref a2, .ref a3, .ref a4, .ref a5, .ref a6, .ref a7, .int 0, .ref a8, .ref a9, .ref a10, .int 0, .int (-1), .ref a11, .int 0, .ref a12, .ref a13, .int 0]))] := hD
    refine lv_iconst (v := 1) hx hb dX11_end_19 (by decide) ?_
    have hP9 := hP.sub (ws' := []) [] rfl
    have hD9 := hD.sub (ws' := []) [] (by decide) rfl
    refine W.widen (k := 0) (n := 0) (Nat.le_of_ble_eq_true rfl) (Nat.le_of_ble_eq_true rfl) ?_
    exact W.zret (v := 1) (ty := .boolean) hx hb hr rfl (fun t ht hW => ⟨⟨1, [], rfl, ⟨by decide, rfl⟩, by rw [ht]; exact hP9, va_K.moved hW.alike hK, hD9⟩, hS.F ht⟩) hS.2.2 dX11_end_20
  refine lv_iload_n hx hb dX11_end_0 rfl (lv_at hl 1 rfl) ?_
  refine lv_if_lt (tgt := 12) hx hb dX11_end_1 (by decide) (fun c_2 => ?_) (fun c_2 => ?_)
  · skip
    refine lv_iconst (v := 0) hx hb dX11_end_12 (by decide) ?_
    have hP9 := hP.sub (ws' := []) [] rfl
    have hD9 := hD.sub (ws' := []) [] (by decide) rfl
    refine W.widen (k := 0) (n := 0) (Nat.le_of_ble_eq_true rfl) (Nat.le_of_ble_eq_true rfl) ?_
    exact W.zret (v := 0) (ty := .boolean) hx hb hr rfl (fun t ht hW => ⟨⟨0, [], rfl, ⟨by simp [an_end, c_1], rfl⟩, by rw [ht]; exact hP9, va_K.moved hW.alike hK, hD9⟩, hS.F ht⟩) hS.2.2 dX11_end_13
  · skip
    refine lv_iload_n hx hb dX11_end_4 rfl (lv_at hl 1 rfl) ?_
    refine lv_aload_n hx hb dX11_end_5 rfl (lv_at hl 0 rfl) ?_
    refine va_get (D := (dC, dI)) (ci := 11) (v := .int 0) (C := RX11) (T := TX11) (N := 19) hx hb hU inlX11 hown hK hP 0 rfl rfl 1 (by decide) (hU _ wd_209) (fun _ h9 => h9) rfl dX11_end_6 ?_
    refine lv_icmp_le (tgt := 14) hx hb dX11_end_9 (by decide) (fun c_3 => ?_) (fun c_3 => ?_)
    · skip
      exfalso
      simp only [Int32.lt_iff_toInt_lt, Int32.le_iff_toInt_le, ← Int32.toInt_inj, ti_0] at c_1 c_2 c_3
      omega
    · skip
      refine lv_iconst (v := 0) hx hb dX11_end_12 (by decide) ?_
      have hP9 := hP.sub (ws' := []) [] rfl
      have hD9 := hD.sub (ws' := []) [] (by decide) rfl
      refine W.widen (k := 0) (n := 0) (Nat.le_of_ble_eq_true rfl) (Nat.le_of_ble_eq_true rfl) ?_
      exact W.zret (v := 0) (ty := .boolean) hx hb hr rfl (fun t ht hW => ⟨⟨0, [], rfl, ⟨by simp [an_end, c_1], rfl⟩, by rw [ht]; exact hP9, va_K.moved hW.alike hK, hD9⟩, hS.F ht⟩) hS.2.2 dX11_end_13
set_option maxHeartbeats 8000000 in
set_option maxRecDepth 100000 in
theorem cc_X11_emptyTape_0 (l : Launch) (D : va_G) (cI cL cZ : ClassId) (sz : Nat) (a0 : Nat) (a1 : Nat) (a2 : Nat) (a3 : Nat) (a4 : Nat) (a5 : Nat) (a6 : Nat) (a7 : Nat) (a8 : Nat) (a9 : Nat) (a10 : Nat) (a11 : Nat) (a12 : Nat) (a13 : Nat) : mI l D cI cL cZ yX11_emptyTape cX11_emptyTape 2 (some .int) 0 0 0 0 [.ref a0] sz [(a0, .inr (11, [.ref a1, .int 0, .ref a2, .ref a3, .ref a4, .ref a5, .ref a6, .ref a7, .int 0, .ref a8, .ref a9, .ref a10, .int 0, .int (-1), .ref a11, .int 0, .ref a12, .ref a13, .int 0]))] (fun (r : Int32) (w1 : va_W) => r = 0 ∧ w1 = ([(a0, .inr (11, [.ref a1, .int 0, .ref a2, .ref a3, .ref a4, .ref a5, .ref a6, .ref a7, .int 0, .ref a8, .ref a9, .ref a10, .int 0, .int (-1), .ref a11, .int 0, .ref a12, .ref a13, .int 0]))] : va_W)) := by
  obtain ⟨dC, dI⟩ := D
  refine Met.ofW (cc := cX11_emptyTape) (maxL := 2) (ret := (some .int)) (by decide) rfl ?_
  intro p e s m args below meth c s₁ B hml hv
  obtain ⟨rfl, hsz, hP, hK, hD0, hN⟩ := hv
  have hx := B.exec
  have hb := B.bytes
  have hr := B.returns
  have hU : ∀ w ∈ wsU, w.before _ s = true := fun w h => atoms_spec (ws := wU yX11_emptyTape cX11_emptyTape 2 (some .int)) B.pre w (List.mem_cons_of_mem _ h)
  have hown : s.vm.findClass RX11 = some m.cls := findClass_of_methodNamed B.named
  have hlocks := B.notSynchronized
  subst hsz
  have hD := hD0.self (sz := s.heap.size)
  generalize hAe : va_A [(a0, .inr (11, [.ref a1, .int 0, .ref a2, .ref a3, .ref a4, .ref a5, .ref a6, .ref a7, .int 0, .ref a8, .ref a9, .ref a10, .int 0, .int (-1), .ref a11, .int 0, .ref a12, .ref a13, .int 0]))] s.heap.size = A at hD ⊢
  have hA : ∀ q : Nat, s.heap.size ≤ q → A q := fun q h => by rw [← hAe]; exact Or.inr h
  have hS : va_S A s.heap s.heap [] := va_S.rf
  have hP : va_P (dC, dI) vwCl [(a0, .inr (11, [.ref a1, .int 0, .ref a2, .ref a3, .ref a4, .ref a5, .ref a6, .ref a7, .int 0, .ref a8, .ref a9, .ref a10, .int 0, .int (-1), .ref a11, .int 0, .ref a12, .ref a13, .int 0]))] s.heap := hP
  have hl := lv_entry ([.ref a0]) (n := 2) (Nat.le_of_ble_eq_true rfl)
  rw [lg_entry_eq]
  generalize (lg_sl ([.ref a0]) ++ List.replicate (2 - (lg_sl ([.ref a0])).length) Slot.unset).toArray = ls at hl ⊢
  have hl : lv_has ls 2 [(0, .ref a0)] := hl
  refine lv_aload_n hx hb dX11_emptyTape_0 rfl (lv_at hl 0 rfl) ?_
  refine va_get (D := (dC, dI)) (ci := 11) (v := .int 0) (C := RX11) (T := TX11) (N := 19) hx hb hU inlX11 hown hK hP 0 rfl rfl 1 (by decide) (hU _ wd_209) (fun _ h9 => h9) rfl dX11_emptyTape_1 ?_
  refine lv_istore_n (lv' := [(1, .int 0), (0, .ref a0)]) hx hb dX11_emptyTape_4 rfl hl (by decide) rfl (fun ls hl => ?_)
  refine lv_aload_n hx hb dX11_emptyTape_5 rfl (lv_at hl 1 rfl) ?_
  refine lv_iconst (v := 0) hx hb dX11_emptyTape_6 (by decide) ?_
  refine va_put (D := (dC, dI)) (ci := 11) (v := .int 0) (ty := .int) (C := RX11) (T := TX11) (N := 19) hx hb hU inlX11 tyX11 tyX11_ok nmX11 hown hK hP hD hS 0 rfl rfl 1 (by decide) (hU _ wd_209) (fun _ h9 => h9) rfl (by decide +kernel) rfl rfl (Nat.le_of_ble_eq_true rfl) dX11_emptyTape_7 (fun H locs hP hD hS => ?_)
  have hP : va_P (dC, dI) vwCl [(a0, .inr (11, [.ref a1, .int 0, .ref a2, .ref a3, .ref a4, .ref a5, .ref a6, .ref a7, .int 0, .ref a8, .ref a9, .ref a10, .int 0, .int (-1), .ref a11, .int 0, .ref a12, .ref a13, .int 0]))] H := hP
  have hD : va_D A [(a0, .inr (11, [.ref a1, .int 0, .ref a2, .ref a3, .ref a4, .ref a5, .ref a6, .ref a7, .int 0, .ref a8, .ref a9, .ref a10, .int 0, .int (-1), .ref a11, .int 0, .ref a12, .ref a13, .int 0]))] := hD
  refine lv_iload_n hx hb dX11_emptyTape_10 rfl (lv_at hl 0 rfl) ?_
  have hP9 := hP.sub (ws' := [(a0, .inr (11, [.ref a1, .int 0, .ref a2, .ref a3, .ref a4, .ref a5, .ref a6, .ref a7, .int 0, .ref a8, .ref a9, .ref a10, .int 0, .int (-1), .ref a11, .int 0, .ref a12, .ref a13, .int 0]))]) [0] rfl
  have hD9 := hD.sub (ws' := [(a0, .inr (11, [.ref a1, .int 0, .ref a2, .ref a3, .ref a4, .ref a5, .ref a6, .ref a7, .int 0, .ref a8, .ref a9, .ref a10, .int 0, .int (-1), .ref a11, .int 0, .ref a12, .ref a13, .int 0]))]) [0] (by decide) rfl
  refine W.widen (k := 0) (n := 0) (Nat.le_of_ble_eq_true rfl) (Nat.le_of_ble_eq_true rfl) ?_
  exact W.iret (v := 0) hx hb hr (fun t ht hW => ⟨⟨0, [(a0, .inr (11, [.ref a1, .int 0, .ref a2, .ref a3, .ref a4, .ref a5, .ref a6, .ref a7, .int 0, .ref a8, .ref a9, .ref a10, .int 0, .int (-1), .ref a11, .int 0, .ref a12, .ref a13, .int 0]))], rfl, ⟨rfl, rfl⟩, by rw [ht]; exact hP9, va_K.moved hW.alike hK, hD9⟩, hS.F ht⟩) hS.2.2 dX11_emptyTape_11
set_option maxHeartbeats 8000000 in
set_option maxRecDepth 100000 in
theorem cc_X9_clear_0 (l : Launch) (D : va_G) (cI cL cZ : ClassId) (sz : Nat) (a0 : Nat) (a1 : Nat) (a2 : Nat) : mV l D cI cL cZ yX9_clear cX9_clear 1 none 0 0 0 0 [.ref a0] sz [(a0, .inr (9, [.ref a1, .ref a2, .int 0]))] (fun (w1 : va_W) => w1 = ([(a0, .inr (9, [.ref a1, .ref a2, .int 0]))] : va_W)) := by
  obtain ⟨dC, dI⟩ := D
  refine Met.ofW (cc := cX9_clear) (maxL := 1) (ret := none) (by decide) rfl ?_
  intro p e s m args below meth c s₁ B hml hv
  obtain ⟨rfl, hsz, hP, hK, hD0, hN⟩ := hv
  have hx := B.exec
  have hb := B.bytes
  have hr := B.returns
  have hU : ∀ w ∈ wsU, w.before _ s = true := fun w h => atoms_spec (ws := wU yX9_clear cX9_clear 1 none) B.pre w (List.mem_cons_of_mem _ h)
  have hown : s.vm.findClass RX9 = some m.cls := findClass_of_methodNamed B.named
  have hlocks := B.notSynchronized
  subst hsz
  have hD := hD0.self (sz := s.heap.size)
  generalize hAe : va_A [(a0, .inr (9, [.ref a1, .ref a2, .int 0]))] s.heap.size = A at hD ⊢
  have hA : ∀ q : Nat, s.heap.size ≤ q → A q := fun q h => by rw [← hAe]; exact Or.inr h
  have hS : va_S A s.heap s.heap [] := va_S.rf
  have hP : va_P (dC, dI) vwCl [(a0, .inr (9, [.ref a1, .ref a2, .int 0]))] s.heap := hP
  have hl := lv_entry ([.ref a0]) (n := 1) (Nat.le_of_ble_eq_true rfl)
  rw [lg_entry_eq]
  generalize (lg_sl ([.ref a0]) ++ List.replicate (1 - (lg_sl ([.ref a0])).length) Slot.unset).toArray = ls at hl ⊢
  have hl : lv_has ls 1 [(0, .ref a0)] := hl
  refine lv_aload_n hx hb dX9_clear_0 rfl (lv_at hl 0 rfl) ?_
  refine lv_iconst (v := 0) hx hb dX9_clear_1 (by decide) ?_
  refine va_put (D := (dC, dI)) (ci := 9) (v := .int 0) (ty := .int) (C := RX9) (T := TX9) (N := 3) hx hb hU inlX9 tyX9 tyX9_ok nmX9 hown hK hP hD hS 0 rfl rfl 2 (by decide) (hU _ wd_273) (fun _ h9 => h9) rfl (by decide +kernel) rfl rfl (Nat.le_of_ble_eq_true rfl) dX9_clear_2 (fun H locs hP hD hS => ?_)
  have hP : va_P (dC, dI) vwCl [(a0, .inr (9, [.ref a1, .ref a2, .int 0]))] H := hP
  have hD : va_D A [(a0, .inr (9, [.ref a1, .ref a2, .int 0]))] := hD
  have hP9 := hP.sub (ws' := [(a0, .inr (9, [.ref a1, .ref a2, .int 0]))]) [0] rfl
  have hD9 := hD.sub (ws' := [(a0, .inr (9, [.ref a1, .ref a2, .int 0]))]) [0] (by decide) rfl
  refine W.widen (k := 0) (n := 0) (Nat.le_of_ble_eq_true rfl) (Nat.le_of_ble_eq_true rfl) ?_
  exact W.vret hx hb hr (fun t ht hW => ⟨⟨[(a0, .inr (9, [.ref a1, .ref a2, .int 0]))], rfl, rfl, by rw [ht]; exact hP9, va_K.moved hW.alike hK, hD9⟩, hS.F ht⟩) hS.2.2 dX9_clear_5
set_option maxHeartbeats 8000000 in
set_option maxRecDepth 100000 in
theorem cc_X7_clear_0 (l : Launch) (D : va_G) (cI cL cZ : ClassId) (sz : Nat) (a0 : Nat) (a1 : Nat) (a2 : Nat) (a3 : Nat) (a4 : Nat) (a5 : Nat) (a6 : Nat) (a7 : Nat) (a8 : Nat) (a9 : Nat) (a10 : Nat) (a11 : Nat) (a12 : Nat) (a13 : Nat) (a14 : Nat) (a15 : Nat) (a16 : Nat) (a17 : Nat) : mV l D cI cL cZ yX7_clear cX7_clear 1 none 1 23 0 0 [.ref a0] sz [(a0, .inr (7, [.ref a1, .int 0, .ref a2, .ref a3, .ref a4, .ref a5, .int 0, .ref a6, .ref a7, .ref a8, .ref a9, .ref a10, .int 0, .ref a11, .ref a12, .ref a13])), (a1, .inl (cI, 26, .inl z0)), (a2, .inl (cI, 6, .inl z0)), (a3, .inl (cI, 81, .inl z0)), (a6, .inl (cI, 9, .inl z0)), (a7, .inl (cI, 9, .inl z0)), (a8, .inl (cI, 36, .inl z0)), (a9, .inl (cI, 36, .inl z0)), (a11, .inr (9, [.ref a14, .ref a15, .int 0])), (a12, .inr (9, [.ref a16, .ref a17, .int 0]))] (fun (w1 : va_W) => w1 = ([(a0, .inr (7, [.ref a1, .int 0, .ref a2, .ref a3, .ref a4, .ref a5, .int 0, .ref a6, .ref a7, .ref a8, .ref a9, .ref a10, .int 0, .ref a11, .ref a12, .ref a13])), (a1, .inl (cI, 26, .inl z0)), (a2, .inl (cI, 6, .inl z0)), (a3, .inl (cI, 81, .inl z0)), (a6, .inl (cI, 9, .inl z0)), (a7, .inl (cI, 9, .inl z0)), (a8, .inl (cI, 36, .inl z0)), (a9, .inl (cI, 36, .inl z0)), (a11, .inr (9, [.ref a14, .ref a15, .int 0])), (a12, .inr (9, [.ref a16, .ref a17, .int 0]))] : va_W)) := by
  obtain ⟨dC, dI⟩ := D
  refine Met.ofW (cc := cX7_clear) (maxL := 1) (ret := none) (by decide) rfl ?_
  intro p e s m args below meth c s₁ B hml hv
  obtain ⟨rfl, hsz, hP, hK, hD0, hN⟩ := hv
  have hx := B.exec
  have hb := B.bytes
  have hr := B.returns
  have hU : ∀ w ∈ wsU, w.before _ s = true := fun w h => atoms_spec (ws := wU yX7_clear cX7_clear 1 none) B.pre w (List.mem_cons_of_mem _ h)
  have hown : s.vm.findClass RX7 = some m.cls := findClass_of_methodNamed B.named
  have hlocks := B.notSynchronized
  subst hsz
  have hD := hD0.self (sz := s.heap.size)
  generalize hAe : va_A [(a0, .inr (7, [.ref a1, .int 0, .ref a2, .ref a3, .ref a4, .ref a5, .int 0, .ref a6, .ref a7, .ref a8, .ref a9, .ref a10, .int 0, .ref a11, .ref a12, .ref a13])), (a1, .inl (cI, 26, .inl z0)), (a2, .inl (cI, 6, .inl z0)), (a3, .inl (cI, 81, .inl z0)), (a6, .inl (cI, 9, .inl z0)), (a7, .inl (cI, 9, .inl z0)), (a8, .inl (cI, 36, .inl z0)), (a9, .inl (cI, 36, .inl z0)), (a11, .inr (9, [.ref a14, .ref a15, .int 0])), (a12, .inr (9, [.ref a16, .ref a17, .int 0]))] s.heap.size = A at hD ⊢
  have hA : ∀ q : Nat, s.heap.size ≤ q → A q := fun q h => by rw [← hAe]; exact Or.inr h
  have hS : va_S A s.heap s.heap [] := va_S.rf
  have hP : va_P (dC, dI) vwCl [(a0, .inr (7, [.ref a1, .int 0, .ref a2, .ref a3, .ref a4, .ref a5, .int 0, .ref a6, .ref a7, .ref a8, .ref a9, .ref a10, .int 0, .ref a11, .ref a12, .ref a13])), (a1, .inl (cI, 26, .inl z0)), (a2, .inl (cI, 6, .inl z0)), (a3, .inl (cI, 81, .inl z0)), (a6, .inl (cI, 9, .inl z0)), (a7, .inl (cI, 9, .inl z0)), (a8, .inl (cI, 36, .inl z0)), (a9, .inl (cI, 36, .inl z0)), (a11, .inr (9, [.ref a14, .ref a15, .int 0])), (a12, .inr (9, [.ref a16, .ref a17, .int 0]))] s.heap := hP
  have hl := lv_entry ([.ref a0]) (n := 1) (Nat.le_of_ble_eq_true rfl)
  rw [lg_entry_eq]
  generalize (lg_sl ([.ref a0]) ++ List.replicate (1 - (lg_sl ([.ref a0])).length) Slot.unset).toArray = ls at hl ⊢
  have hl : lv_has ls 1 [(0, .ref a0)] := hl
  refine lv_aload_n hx hb dX7_clear_0 rfl (lv_at hl 0 rfl) ?_
  refine va_get (D := (dC, dI)) (ci := 7) (v := .ref a1) (C := RX7) (T := TX7) (N := 16) hx hb hU inlX7 hown hK hP 0 rfl rfl 0 (by decide) (hU _ wd_72) (fun _ h9 => h9) rfl dX7_clear_1 ?_
  refine lv_iconst (v := 0) hx hb dX7_clear_4 (by decide) ?_
  refine tk_rv (wr := [(a0, .inr (7, [.ref a1, .int 0, .ref a2, .ref a3, .ref a4, .ref a5, .int 0, .ref a6, .ref a7, .ref a8, .ref a9, .ref a10, .int 0, .ref a11, .ref a12, .ref a13])), (a2, .inl (cI, 6, .inl z0)), (a3, .inl (cI, 81, .inl z0)), (a6, .inl (cI, 9, .inl z0)), (a7, .inl (cI, 9, .inl z0)), (a8, .inl (cI, 36, .inl z0)), (a9, .inl (cI, 36, .inl z0)), (a11, .inr (9, [.ref a14, .ref a15, .int 0])), (a12, .inr (9, [.ref a16, .ref a17, .int 0]))]) (tk_S (As := [.ref a1, .int 0]) (rest := []) (n := 2) hx hb hml hown hU hN (cc_fill0 l (dC, dI) cI cL cZ s.heap.size a1 26 (by decide)) wd_265 wd_266 wd_267 wd_268 (by decide +kernel) ⟨Nat.le_of_ble_eq_true rfl, Nat.le_of_ble_eq_true rfl⟩ hK hP hD [1] (by decide) rfl rfl hl.1 rfl (Nat.le_of_ble_eq_true rfl) dX7_clear_5 ⟨Nat.le_of_ble_eq_true rfl, Nat.le_of_ble_eq_true rfl⟩) hP hD hS hA [1] [0, 2, 3, 4, 5, 6, 7, 8, 9] rfl rfl (by decide) (by decide) (fun w_2 H locs hw hP hD hS => ?_)
  subst hw
  have hP : va_P (dC, dI) vwCl [(a0, .inr (7, [.ref a1, .int 0, .ref a2, .ref a3, .ref a4, .ref a5, .int 0, .ref a6, .ref a7, .ref a8, .ref a9, .ref a10, .int 0, .ref a11, .ref a12, .ref a13])), (a2, .inl (cI, 6, .inl z0)), (a3, .inl (cI, 81, .inl z0)), (a6, .inl (cI, 9, .inl z0)), (a7, .inl (cI, 9, .inl z0)), (a8, .inl (cI, 36, .inl z0)), (a9, .inl (cI, 36, .inl z0)), (a11, .inr (9, [.ref a14, .ref a15, .int 0])), (a12, .inr (9, [.ref a16, .ref a17, .int 0])), (a1, .inl (cI, 26, .inl z0))] H := hP
  have hD : va_D A [(a0, .inr (7, [.ref a1, .int 0, .ref a2, .ref a3, .ref a4, .ref a5, .int 0, .ref a6, .ref a7, .ref a8, .ref a9, .ref a10, .int 0, .ref a11, .ref a12, .ref a13])), (a2, .inl (cI, 6, .inl z0)), (a3, .inl (cI, 81, .inl z0)), (a6, .inl (cI, 9, .inl z0)), (a7, .inl (cI, 9, .inl z0)), (a8, .inl (cI, 36, .inl z0)), (a9, .inl (cI, 36, .inl z0)), (a11, .inr (9, [.ref a14, .ref a15, .int 0])), (a12, .inr (9, [.ref a16, .ref a17, .int 0])), (a1, .inl (cI, 26, .inl z0))] := hD
  refine lv_aload_n hx hb dX7_clear_8 rfl (lv_at hl 0 rfl) ?_
  refine lv_iconst (v := 0) hx hb dX7_clear_9 (by decide) ?_
  refine va_put (D := (dC, dI)) (ci := 7) (v := .int 0) (ty := .int) (C := RX7) (T := TX7) (N := 16) hx hb hU inlX7 tyX7 tyX7_ok nmX7 hown hK hP hD hS 0 rfl rfl 1 (by decide) (hU _ wd_262) (fun _ h9 => h9) rfl (by decide +kernel) rfl rfl (Nat.le_of_ble_eq_true rfl) dX7_clear_10 (fun H locs hP hD hS => ?_)
  have hP : va_P (dC, dI) vwCl [(a0, .inr (7, [.ref a1, .int 0, .ref a2, .ref a3, .ref a4, .ref a5, .int 0, .ref a6, .ref a7, .ref a8, .ref a9, .ref a10, .int 0, .ref a11, .ref a12, .ref a13])), (a2, .inl (cI, 6, .inl z0)), (a3, .inl (cI, 81, .inl z0)), (a6, .inl (cI, 9, .inl z0)), (a7, .inl (cI, 9, .inl z0)), (a8, .inl (cI, 36, .inl z0)), (a9, .inl (cI, 36, .inl z0)), (a11, .inr (9, [.ref a14, .ref a15, .int 0])), (a12, .inr (9, [.ref a16, .ref a17, .int 0])), (a1, .inl (cI, 26, .inl z0))] H := hP
  have hD : va_D A [(a0, .inr (7, [.ref a1, .int 0, .ref a2, .ref a3, .ref a4, .ref a5, .int 0, .ref a6, .ref a7, .ref a8, .ref a9, .ref a10, .int 0, .ref a11, .ref a12, .ref a13])), (a2, .inl (cI, 6, .inl z0)), (a3, .inl (cI, 81, .inl z0)), (a6, .inl (cI, 9, .inl z0)), (a7, .inl (cI, 9, .inl z0)), (a8, .inl (cI, 36, .inl z0)), (a9, .inl (cI, 36, .inl z0)), (a11, .inr (9, [.ref a14, .ref a15, .int 0])), (a12, .inr (9, [.ref a16, .ref a17, .int 0])), (a1, .inl (cI, 26, .inl z0))] := hD
  refine lv_aload_n hx hb dX7_clear_13 rfl (lv_at hl 0 rfl) ?_
  refine va_get (D := (dC, dI)) (ci := 7) (v := .ref a2) (C := RX7) (T := TX7) (N := 16) hx hb hU inlX7 hown hK hP 0 rfl rfl 2 (by decide) (hU _ wd_73) (fun _ h9 => h9) rfl dX7_clear_14 ?_
  refine lv_iconst (v := 0) hx hb dX7_clear_17 (by decide) ?_
  refine tk_rv (wr := [(a0, .inr (7, [.ref a1, .int 0, .ref a2, .ref a3, .ref a4, .ref a5, .int 0, .ref a6, .ref a7, .ref a8, .ref a9, .ref a10, .int 0, .ref a11, .ref a12, .ref a13])), (a3, .inl (cI, 81, .inl z0)), (a6, .inl (cI, 9, .inl z0)), (a7, .inl (cI, 9, .inl z0)), (a8, .inl (cI, 36, .inl z0)), (a9, .inl (cI, 36, .inl z0)), (a11, .inr (9, [.ref a14, .ref a15, .int 0])), (a12, .inr (9, [.ref a16, .ref a17, .int 0])), (a1, .inl (cI, 26, .inl z0))]) (tk_S (As := [.ref a2, .int 0]) (rest := []) (n := 2) hx hb hml hown hU hN (cc_fill0 l (dC, dI) cI cL cZ H.size a2 6 (by decide)) wd_265 wd_266 wd_267 wd_268 (by decide +kernel) ⟨Nat.le_of_ble_eq_true rfl, Nat.le_of_ble_eq_true rfl⟩ hK hP hD [1] (by decide) rfl rfl hl.1 rfl (Nat.le_of_ble_eq_true rfl) dX7_clear_18 ⟨Nat.le_of_ble_eq_true rfl, Nat.le_of_ble_eq_true rfl⟩) hP hD hS hA [1] [0, 2, 3, 4, 5, 6, 7, 8, 9] rfl rfl (by decide) (by decide) (fun w_4 H locs hw hP hD hS => ?_)
  subst hw
  have hP : va_P (dC, dI) vwCl [(a0, .inr (7, [.ref a1, .int 0, .ref a2, .ref a3, .ref a4, .ref a5, .int 0, .ref a6, .ref a7, .ref a8, .ref a9, .ref a10, .int 0, .ref a11, .ref a12, .ref a13])), (a3, .inl (cI, 81, .inl z0)), (a6, .inl (cI, 9, .inl z0)), (a7, .inl (cI, 9, .inl z0)), (a8, .inl (cI, 36, .inl z0)), (a9, .inl (cI, 36, .inl z0)), (a11, .inr (9, [.ref a14, .ref a15, .int 0])), (a12, .inr (9, [.ref a16, .ref a17, .int 0])), (a1, .inl (cI, 26, .inl z0)), (a2, .inl (cI, 6, .inl z0))] H := hP
  have hD : va_D A [(a0, .inr (7, [.ref a1, .int 0, .ref a2, .ref a3, .ref a4, .ref a5, .int 0, .ref a6, .ref a7, .ref a8, .ref a9, .ref a10, .int 0, .ref a11, .ref a12, .ref a13])), (a3, .inl (cI, 81, .inl z0)), (a6, .inl (cI, 9, .inl z0)), (a7, .inl (cI, 9, .inl z0)), (a8, .inl (cI, 36, .inl z0)), (a9, .inl (cI, 36, .inl z0)), (a11, .inr (9, [.ref a14, .ref a15, .int 0])), (a12, .inr (9, [.ref a16, .ref a17, .int 0])), (a1, .inl (cI, 26, .inl z0)), (a2, .inl (cI, 6, .inl z0))] := hD
  refine lv_aload_n hx hb dX7_clear_21 rfl (lv_at hl 0 rfl) ?_
  refine va_get (D := (dC, dI)) (ci := 7) (v := .ref a3) (C := RX7) (T := TX7) (N := 16) hx hb hU inlX7 hown hK hP 0 rfl rfl 3 (by decide) (hU _ wd_74) (fun _ h9 => h9) rfl dX7_clear_22 ?_
  refine lv_iconst (v := 0) hx hb dX7_clear_25 (by decide) ?_
  refine tk_rv (wr := [(a0, .inr (7, [.ref a1, .int 0, .ref a2, .ref a3, .ref a4, .ref a5, .int 0, .ref a6, .ref a7, .ref a8, .ref a9, .ref a10, .int 0, .ref a11, .ref a12, .ref a13])), (a6, .inl (cI, 9, .inl z0)), (a7, .inl (cI, 9, .inl z0)), (a8, .inl (cI, 36, .inl z0)), (a9, .inl (cI, 36, .inl z0)), (a11, .inr (9, [.ref a14, .ref a15, .int 0])), (a12, .inr (9, [.ref a16, .ref a17, .int 0])), (a1, .inl (cI, 26, .inl z0)), (a2, .inl (cI, 6, .inl z0))]) (tk_S (As := [.ref a3, .int 0]) (rest := []) (n := 2) hx hb hml hown hU hN (cc_fill0 l (dC, dI) cI cL cZ H.size a3 81 (by decide)) wd_265 wd_266 wd_267 wd_268 (by decide +kernel) ⟨Nat.le_of_ble_eq_true rfl, Nat.le_of_ble_eq_true rfl⟩ hK hP hD [1] (by decide) rfl rfl hl.1 rfl (Nat.le_of_ble_eq_true rfl) dX7_clear_26 ⟨Nat.le_of_ble_eq_true rfl, Nat.le_of_ble_eq_true rfl⟩) hP hD hS hA [1] [0, 2, 3, 4, 5, 6, 7, 8, 9] rfl rfl (by decide) (by decide) (fun w_6 H locs hw hP hD hS => ?_)
  subst hw
  have hP : va_P (dC, dI) vwCl [(a0, .inr (7, [.ref a1, .int 0, .ref a2, .ref a3, .ref a4, .ref a5, .int 0, .ref a6, .ref a7, .ref a8, .ref a9, .ref a10, .int 0, .ref a11, .ref a12, .ref a13])), (a6, .inl (cI, 9, .inl z0)), (a7, .inl (cI, 9, .inl z0)), (a8, .inl (cI, 36, .inl z0)), (a9, .inl (cI, 36, .inl z0)), (a11, .inr (9, [.ref a14, .ref a15, .int 0])), (a12, .inr (9, [.ref a16, .ref a17, .int 0])), (a1, .inl (cI, 26, .inl z0)), (a2, .inl (cI, 6, .inl z0)), (a3, .inl (cI, 81, .inl z0))] H := hP
  have hD : va_D A [(a0, .inr (7, [.ref a1, .int 0, .ref a2, .ref a3, .ref a4, .ref a5, .int 0, .ref a6, .ref a7, .ref a8, .ref a9, .ref a10, .int 0, .ref a11, .ref a12, .ref a13])), (a6, .inl (cI, 9, .inl z0)), (a7, .inl (cI, 9, .inl z0)), (a8, .inl (cI, 36, .inl z0)), (a9, .inl (cI, 36, .inl z0)), (a11, .inr (9, [.ref a14, .ref a15, .int 0])), (a12, .inr (9, [.ref a16, .ref a17, .int 0])), (a1, .inl (cI, 26, .inl z0)), (a2, .inl (cI, 6, .inl z0)), (a3, .inl (cI, 81, .inl z0))] := hD
  refine lv_aload_n hx hb dX7_clear_29 rfl (lv_at hl 0 rfl) ?_
  refine lv_iconst (v := 0) hx hb dX7_clear_30 (by decide) ?_
  refine va_put (D := (dC, dI)) (ci := 7) (v := .int 0) (ty := .int) (C := RX7) (T := TX7) (N := 16) hx hb hU inlX7 tyX7 tyX7_ok nmX7 hown hK hP hD hS 0 rfl rfl 6 (by decide) (hU _ wd_263) (fun _ h9 => h9) rfl (by decide +kernel) rfl rfl (Nat.le_of_ble_eq_true rfl) dX7_clear_31 (fun H locs hP hD hS => ?_)
  have hP : va_P (dC, dI) vwCl [(a0, .inr (7, [.ref a1, .int 0, .ref a2, .ref a3, .ref a4, .ref a5, .int 0, .ref a6, .ref a7, .ref a8, .ref a9, .ref a10, .int 0, .ref a11, .ref a12, .ref a13])), (a6, .inl (cI, 9, .inl z0)), (a7, .inl (cI, 9, .inl z0)), (a8, .inl (cI, 36, .inl z0)), (a9, .inl (cI, 36, .inl z0)), (a11, .inr (9, [.ref a14, .ref a15, .int 0])), (a12, .inr (9, [.ref a16, .ref a17, .int 0])), (a1, .inl (cI, 26, .inl z0)), (a2, .inl (cI, 6, .inl z0)), (a3, .inl (cI, 81, .inl z0))] H := hP
  have hD : va_D A [(a0, .inr (7, [.ref a1, .int 0, .ref a2, .ref a3, .ref a4, .ref a5, .int 0, .ref a6, .ref a7, .ref a8, .ref a9, .ref a10, .int 0, .ref a11, .ref a12, .ref a13])), (a6, .inl (cI, 9, .inl z0)), (a7, .inl (cI, 9, .inl z0)), (a8, .inl (cI, 36, .inl z0)), (a9, .inl (cI, 36, .inl z0)), (a11, .inr (9, [.ref a14, .ref a15, .int 0])), (a12, .inr (9, [.ref a16, .ref a17, .int 0])), (a1, .inl (cI, 26, .inl z0)), (a2, .inl (cI, 6, .inl z0)), (a3, .inl (cI, 81, .inl z0))] := hD
  refine lv_aload_n hx hb dX7_clear_34 rfl (lv_at hl 0 rfl) ?_
  refine va_get (D := (dC, dI)) (ci := 7) (v := .ref a6) (C := RX7) (T := TX7) (N := 16) hx hb hU inlX7 hown hK hP 0 rfl rfl 7 (by decide) (hU _ wd_77) (fun _ h9 => h9) rfl dX7_clear_35 ?_
  refine lv_iconst (v := 0) hx hb dX7_clear_38 (by decide) ?_
  refine tk_rv (wr := [(a0, .inr (7, [.ref a1, .int 0, .ref a2, .ref a3, .ref a4, .ref a5, .int 0, .ref a6, .ref a7, .ref a8, .ref a9, .ref a10, .int 0, .ref a11, .ref a12, .ref a13])), (a7, .inl (cI, 9, .inl z0)), (a8, .inl (cI, 36, .inl z0)), (a9, .inl (cI, 36, .inl z0)), (a11, .inr (9, [.ref a14, .ref a15, .int 0])), (a12, .inr (9, [.ref a16, .ref a17, .int 0])), (a1, .inl (cI, 26, .inl z0)), (a2, .inl (cI, 6, .inl z0)), (a3, .inl (cI, 81, .inl z0))]) (tk_S (As := [.ref a6, .int 0]) (rest := []) (n := 2) hx hb hml hown hU hN (cc_fill0 l (dC, dI) cI cL cZ H.size a6 9 (by decide)) wd_265 wd_266 wd_267 wd_268 (by decide +kernel) ⟨Nat.le_of_ble_eq_true rfl, Nat.le_of_ble_eq_true rfl⟩ hK hP hD [1] (by decide) rfl rfl hl.1 rfl (Nat.le_of_ble_eq_true rfl) dX7_clear_39 ⟨Nat.le_of_ble_eq_true rfl, Nat.le_of_ble_eq_true rfl⟩) hP hD hS hA [1] [0, 2, 3, 4, 5, 6, 7, 8, 9] rfl rfl (by decide) (by decide) (fun w_8 H locs hw hP hD hS => ?_)
  subst hw
  have hP : va_P (dC, dI) vwCl [(a0, .inr (7, [.ref a1, .int 0, .ref a2, .ref a3, .ref a4, .ref a5, .int 0, .ref a6, .ref a7, .ref a8, .ref a9, .ref a10, .int 0, .ref a11, .ref a12, .ref a13])), (a7, .inl (cI, 9, .inl z0)), (a8, .inl (cI, 36, .inl z0)), (a9, .inl (cI, 36, .inl z0)), (a11, .inr (9, [.ref a14, .ref a15, .int 0])), (a12, .inr (9, [.ref a16, .ref a17, .int 0])), (a1, .inl (cI, 26, .inl z0)), (a2, .inl (cI, 6, .inl z0)), (a3, .inl (cI, 81, .inl z0)), (a6, .inl (cI, 9, .inl z0))] H := hP
  have hD : va_D A [(a0, .inr (7, [.ref a1, .int 0, .ref a2, .ref a3, .ref a4, .ref a5, .int 0, .ref a6, .ref a7, .ref a8, .ref a9, .ref a10, .int 0, .ref a11, .ref a12, .ref a13])), (a7, .inl (cI, 9, .inl z0)), (a8, .inl (cI, 36, .inl z0)), (a9, .inl (cI, 36, .inl z0)), (a11, .inr (9, [.ref a14, .ref a15, .int 0])), (a12, .inr (9, [.ref a16, .ref a17, .int 0])), (a1, .inl (cI, 26, .inl z0)), (a2, .inl (cI, 6, .inl z0)), (a3, .inl (cI, 81, .inl z0)), (a6, .inl (cI, 9, .inl z0))] := hD
  refine lv_aload_n hx hb dX7_clear_42 rfl (lv_at hl 0 rfl) ?_
  refine va_get (D := (dC, dI)) (ci := 7) (v := .ref a7) (C := RX7) (T := TX7) (N := 16) hx hb hU inlX7 hown hK hP 0 rfl rfl 8 (by decide) (hU _ wd_78) (fun _ h9 => h9) rfl dX7_clear_43 ?_
  refine lv_iconst (v := 0) hx hb dX7_clear_46 (by decide) ?_
  refine tk_rv (wr := [(a0, .inr (7, [.ref a1, .int 0, .ref a2, .ref a3, .ref a4, .ref a5, .int 0, .ref a6, .ref a7, .ref a8, .ref a9, .ref a10, .int 0, .ref a11, .ref a12, .ref a13])), (a8, .inl (cI, 36, .inl z0)), (a9, .inl (cI, 36, .inl z0)), (a11, .inr (9, [.ref a14, .ref a15, .int 0])), (a12, .inr (9, [.ref a16, .ref a17, .int 0])), (a1, .inl (cI, 26, .inl z0)), (a2, .inl (cI, 6, .inl z0)), (a3, .inl (cI, 81, .inl z0)), (a6, .inl (cI, 9, .inl z0))]) (tk_S (As := [.ref a7, .int 0]) (rest := []) (n := 2) hx hb hml hown hU hN (cc_fill0 l (dC, dI) cI cL cZ H.size a7 9 (by decide)) wd_265 wd_266 wd_267 wd_268 (by decide +kernel) ⟨Nat.le_of_ble_eq_true rfl, Nat.le_of_ble_eq_true rfl⟩ hK hP hD [1] (by decide) rfl rfl hl.1 rfl (Nat.le_of_ble_eq_true rfl) dX7_clear_47 ⟨Nat.le_of_ble_eq_true rfl, Nat.le_of_ble_eq_true rfl⟩) hP hD hS hA [1] [0, 2, 3, 4, 5, 6, 7, 8, 9] rfl rfl (by decide) (by decide) (fun w_10 H locs hw hP hD hS => ?_)
  subst hw
  have hP : va_P (dC, dI) vwCl [(a0, .inr (7, [.ref a1, .int 0, .ref a2, .ref a3, .ref a4, .ref a5, .int 0, .ref a6, .ref a7, .ref a8, .ref a9, .ref a10, .int 0, .ref a11, .ref a12, .ref a13])), (a8, .inl (cI, 36, .inl z0)), (a9, .inl (cI, 36, .inl z0)), (a11, .inr (9, [.ref a14, .ref a15, .int 0])), (a12, .inr (9, [.ref a16, .ref a17, .int 0])), (a1, .inl (cI, 26, .inl z0)), (a2, .inl (cI, 6, .inl z0)), (a3, .inl (cI, 81, .inl z0)), (a6, .inl (cI, 9, .inl z0)), (a7, .inl (cI, 9, .inl z0))] H := hP
  have hD : va_D A [(a0, .inr (7, [.ref a1, .int 0, .ref a2, .ref a3, .ref a4, .ref a5, .int 0, .ref a6, .ref a7, .ref a8, .ref a9, .ref a10, .int 0, .ref a11, .ref a12, .ref a13])), (a8, .inl (cI, 36, .inl z0)), (a9, .inl (cI, 36, .inl z0)), (a11, .inr (9, [.ref a14, .ref a15, .int 0])), (a12, .inr (9, [.ref a16, .ref a17, .int 0])), (a1, .inl (cI, 26, .inl z0)), (a2, .inl (cI, 6, .inl z0)), (a3, .inl (cI, 81, .inl z0)), (a6, .inl (cI, 9, .inl z0)), (a7, .inl (cI, 9, .inl z0))] := hD
  refine lv_aload_n hx hb dX7_clear_50 rfl (lv_at hl 0 rfl) ?_
  refine va_get (D := (dC, dI)) (ci := 7) (v := .ref a8) (C := RX7) (T := TX7) (N := 16) hx hb hU inlX7 hown hK hP 0 rfl rfl 9 (by decide) (hU _ wd_79) (fun _ h9 => h9) rfl dX7_clear_51 ?_
  refine lv_iconst (v := 0) hx hb dX7_clear_54 (by decide) ?_
  refine tk_rv (wr := [(a0, .inr (7, [.ref a1, .int 0, .ref a2, .ref a3, .ref a4, .ref a5, .int 0, .ref a6, .ref a7, .ref a8, .ref a9, .ref a10, .int 0, .ref a11, .ref a12, .ref a13])), (a9, .inl (cI, 36, .inl z0)), (a11, .inr (9, [.ref a14, .ref a15, .int 0])), (a12, .inr (9, [.ref a16, .ref a17, .int 0])), (a1, .inl (cI, 26, .inl z0)), (a2, .inl (cI, 6, .inl z0)), (a3, .inl (cI, 81, .inl z0)), (a6, .inl (cI, 9, .inl z0)), (a7, .inl (cI, 9, .inl z0))]) (tk_S (As := [.ref a8, .int 0]) (rest := []) (n := 2) hx hb hml hown hU hN (cc_fill0 l (dC, dI) cI cL cZ H.size a8 36 (by decide)) wd_265 wd_266 wd_267 wd_268 (by decide +kernel) ⟨Nat.le_of_ble_eq_true rfl, Nat.le_of_ble_eq_true rfl⟩ hK hP hD [1] (by decide) rfl rfl hl.1 rfl (Nat.le_of_ble_eq_true rfl) dX7_clear_55 ⟨Nat.le_of_ble_eq_true rfl, Nat.le_of_ble_eq_true rfl⟩) hP hD hS hA [1] [0, 2, 3, 4, 5, 6, 7, 8, 9] rfl rfl (by decide) (by decide) (fun w_12 H locs hw hP hD hS => ?_)
  subst hw
  have hP : va_P (dC, dI) vwCl [(a0, .inr (7, [.ref a1, .int 0, .ref a2, .ref a3, .ref a4, .ref a5, .int 0, .ref a6, .ref a7, .ref a8, .ref a9, .ref a10, .int 0, .ref a11, .ref a12, .ref a13])), (a9, .inl (cI, 36, .inl z0)), (a11, .inr (9, [.ref a14, .ref a15, .int 0])), (a12, .inr (9, [.ref a16, .ref a17, .int 0])), (a1, .inl (cI, 26, .inl z0)), (a2, .inl (cI, 6, .inl z0)), (a3, .inl (cI, 81, .inl z0)), (a6, .inl (cI, 9, .inl z0)), (a7, .inl (cI, 9, .inl z0)), (a8, .inl (cI, 36, .inl z0))] H := hP
  have hD : va_D A [(a0, .inr (7, [.ref a1, .int 0, .ref a2, .ref a3, .ref a4, .ref a5, .int 0, .ref a6, .ref a7, .ref a8, .ref a9, .ref a10, .int 0, .ref a11, .ref a12, .ref a13])), (a9, .inl (cI, 36, .inl z0)), (a11, .inr (9, [.ref a14, .ref a15, .int 0])), (a12, .inr (9, [.ref a16, .ref a17, .int 0])), (a1, .inl (cI, 26, .inl z0)), (a2, .inl (cI, 6, .inl z0)), (a3, .inl (cI, 81, .inl z0)), (a6, .inl (cI, 9, .inl z0)), (a7, .inl (cI, 9, .inl z0)), (a8, .inl (cI, 36, .inl z0))] := hD
  refine lv_aload_n hx hb dX7_clear_58 rfl (lv_at hl 0 rfl) ?_
  refine va_get (D := (dC, dI)) (ci := 7) (v := .ref a9) (C := RX7) (T := TX7) (N := 16) hx hb hU inlX7 hown hK hP 0 rfl rfl 10 (by decide) (hU _ wd_80) (fun _ h9 => h9) rfl dX7_clear_59 ?_
  refine lv_iconst (v := 0) hx hb dX7_clear_62 (by decide) ?_
  refine tk_rv (wr := [(a0, .inr (7, [.ref a1, .int 0, .ref a2, .ref a3, .ref a4, .ref a5, .int 0, .ref a6, .ref a7, .ref a8, .ref a9, .ref a10, .int 0, .ref a11, .ref a12, .ref a13])), (a11, .inr (9, [.ref a14, .ref a15, .int 0])), (a12, .inr (9, [.ref a16, .ref a17, .int 0])), (a1, .inl (cI, 26, .inl z0)), (a2, .inl (cI, 6, .inl z0)), (a3, .inl (cI, 81, .inl z0)), (a6, .inl (cI, 9, .inl z0)), (a7, .inl (cI, 9, .inl z0)), (a8, .inl (cI, 36, .inl z0))]) (tk_S (As := [.ref a9, .int 0]) (rest := []) (n := 2) hx hb hml hown hU hN (cc_fill0 l (dC, dI) cI cL cZ H.size a9 36 (by decide)) wd_265 wd_266 wd_267 wd_268 (by decide +kernel) ⟨Nat.le_of_ble_eq_true rfl, Nat.le_of_ble_eq_true rfl⟩ hK hP hD [1] (by decide) rfl rfl hl.1 rfl (Nat.le_of_ble_eq_true rfl) dX7_clear_63 ⟨Nat.le_of_ble_eq_true rfl, Nat.le_of_ble_eq_true rfl⟩) hP hD hS hA [1] [0, 2, 3, 4, 5, 6, 7, 8, 9] rfl rfl (by decide) (by decide) (fun w_14 H locs hw hP hD hS => ?_)
  subst hw
  have hP : va_P (dC, dI) vwCl [(a0, .inr (7, [.ref a1, .int 0, .ref a2, .ref a3, .ref a4, .ref a5, .int 0, .ref a6, .ref a7, .ref a8, .ref a9, .ref a10, .int 0, .ref a11, .ref a12, .ref a13])), (a11, .inr (9, [.ref a14, .ref a15, .int 0])), (a12, .inr (9, [.ref a16, .ref a17, .int 0])), (a1, .inl (cI, 26, .inl z0)), (a2, .inl (cI, 6, .inl z0)), (a3, .inl (cI, 81, .inl z0)), (a6, .inl (cI, 9, .inl z0)), (a7, .inl (cI, 9, .inl z0)), (a8, .inl (cI, 36, .inl z0)), (a9, .inl (cI, 36, .inl z0))] H := hP
  have hD : va_D A [(a0, .inr (7, [.ref a1, .int 0, .ref a2, .ref a3, .ref a4, .ref a5, .int 0, .ref a6, .ref a7, .ref a8, .ref a9, .ref a10, .int 0, .ref a11, .ref a12, .ref a13])), (a11, .inr (9, [.ref a14, .ref a15, .int 0])), (a12, .inr (9, [.ref a16, .ref a17, .int 0])), (a1, .inl (cI, 26, .inl z0)), (a2, .inl (cI, 6, .inl z0)), (a3, .inl (cI, 81, .inl z0)), (a6, .inl (cI, 9, .inl z0)), (a7, .inl (cI, 9, .inl z0)), (a8, .inl (cI, 36, .inl z0)), (a9, .inl (cI, 36, .inl z0))] := hD
  refine lv_aload_n hx hb dX7_clear_66 rfl (lv_at hl 0 rfl) ?_
  refine lv_iconst (v := 0) hx hb dX7_clear_67 (by decide) ?_
  refine va_put (D := (dC, dI)) (ci := 7) (v := .int 0) (ty := .int) (C := RX7) (T := TX7) (N := 16) hx hb hU inlX7 tyX7 tyX7_ok nmX7 hown hK hP hD hS 0 rfl rfl 12 (by decide) (hU _ wd_264) (fun _ h9 => h9) rfl (by decide +kernel) rfl rfl (Nat.le_of_ble_eq_true rfl) dX7_clear_68 (fun H locs hP hD hS => ?_)
  have hP : va_P (dC, dI) vwCl [(a0, .inr (7, [.ref a1, .int 0, .ref a2, .ref a3, .ref a4, .ref a5, .int 0, .ref a6, .ref a7, .ref a8, .ref a9, .ref a10, .int 0, .ref a11, .ref a12, .ref a13])), (a11, .inr (9, [.ref a14, .ref a15, .int 0])), (a12, .inr (9, [.ref a16, .ref a17, .int 0])), (a1, .inl (cI, 26, .inl z0)), (a2, .inl (cI, 6, .inl z0)), (a3, .inl (cI, 81, .inl z0)), (a6, .inl (cI, 9, .inl z0)), (a7, .inl (cI, 9, .inl z0)), (a8, .inl (cI, 36, .inl z0)), (a9, .inl (cI, 36, .inl z0))] H := hP
  have hD : va_D A [(a0, .inr (7, [.ref a1, .int 0, .ref a2, .ref a3, .ref a4, .ref a5, .int 0, .ref a6, .ref a7, .ref a8, .ref a9, .ref a10, .int 0, .ref a11, .ref a12, .ref a13])), (a11, .inr (9, [.ref a14, .ref a15, .int 0])), (a12, .inr (9, [.ref a16, .ref a17, .int 0])), (a1, .inl (cI, 26, .inl z0)), (a2, .inl (cI, 6, .inl z0)), (a3, .inl (cI, 81, .inl z0)), (a6, .inl (cI, 9, .inl z0)), (a7, .inl (cI, 9, .inl z0)), (a8, .inl (cI, 36, .inl z0)), (a9, .inl (cI, 36, .inl z0))] := hD
  refine lv_aload_n hx hb dX7_clear_71 rfl (lv_at hl 0 rfl) ?_
  refine va_get (D := (dC, dI)) (ci := 7) (v := .ref a11) (C := RX7) (T := TX7) (N := 16) hx hb hU inlX7 hown hK hP 0 rfl rfl 13 (by decide) (hU _ wd_86) (fun _ h9 => h9) rfl dX7_clear_72 ?_
  refine tk_rv (wr := [(a0, .inr (7, [.ref a1, .int 0, .ref a2, .ref a3, .ref a4, .ref a5, .int 0, .ref a6, .ref a7, .ref a8, .ref a9, .ref a10, .int 0, .ref a11, .ref a12, .ref a13])), (a12, .inr (9, [.ref a16, .ref a17, .int 0])), (a1, .inl (cI, 26, .inl z0)), (a2, .inl (cI, 6, .inl z0)), (a3, .inl (cI, 81, .inl z0)), (a6, .inl (cI, 9, .inl z0)), (a7, .inl (cI, 9, .inl z0)), (a8, .inl (cI, 36, .inl z0)), (a9, .inl (cI, 36, .inl z0))]) (tk_V (As := []) (rest := []) (n := 0) hx hb hml hown hU hN (cc_X9_clear_0 l (dC, dI) cI cL cZ H.size a11 a14 a15) wd_269 wd_270 wd_271 wd_85 wd_272 (by decide +kernel) ⟨Nat.le_of_ble_eq_true rfl, Nat.le_of_ble_eq_true rfl⟩ hK hP hD [1] (by decide) rfl 0 9 rfl rfl rfl rfl hl.1 rfl (Nat.le_of_ble_eq_true rfl) dX7_clear_75 ⟨Nat.le_of_ble_eq_true rfl, Nat.le_of_ble_eq_true rfl⟩) hP hD hS hA [1] [0, 2, 3, 4, 5, 6, 7, 8, 9] rfl rfl (by decide) (by decide) (fun w_16 H locs hw hP hD hS => ?_)
  subst hw
  have hP : va_P (dC, dI) vwCl [(a0, .inr (7, [.ref a1, .int 0, .ref a2, .ref a3, .ref a4, .ref a5, .int 0, .ref a6, .ref a7, .ref a8, .ref a9, .ref a10, .int 0, .ref a11, .ref a12, .ref a13])), (a12, .inr (9, [.ref a16, .ref a17, .int 0])), (a1, .inl (cI, 26, .inl z0)), (a2, .inl (cI, 6, .inl z0)), (a3, .inl (cI, 81, .inl z0)), (a6, .inl (cI, 9, .inl z0)), (a7, .inl (cI, 9, .inl z0)), (a8, .inl (cI, 36, .inl z0)), (a9, .inl (cI, 36, .inl z0)), (a11, .inr (9, [.ref a14, .ref a15, .int 0]))] H := hP
  have hD : va_D A [(a0, .inr (7, [.ref a1, .int 0, .ref a2, .ref a3, .ref a4, .ref a5, .int 0, .ref a6, .ref a7, .ref a8, .ref a9, .ref a10, .int 0, .ref a11, .ref a12, .ref a13])), (a12, .inr (9, [.ref a16, .ref a17, .int 0])), (a1, .inl (cI, 26, .inl z0)), (a2, .inl (cI, 6, .inl z0)), (a3, .inl (cI, 81, .inl z0)), (a6, .inl (cI, 9, .inl z0)), (a7, .inl (cI, 9, .inl z0)), (a8, .inl (cI, 36, .inl z0)), (a9, .inl (cI, 36, .inl z0)), (a11, .inr (9, [.ref a14, .ref a15, .int 0]))] := hD
  refine lv_aload_n hx hb dX7_clear_78 rfl (lv_at hl 0 rfl) ?_
  refine va_get (D := (dC, dI)) (ci := 7) (v := .ref a12) (C := RX7) (T := TX7) (N := 16) hx hb hU inlX7 hown hK hP 0 rfl rfl 14 (by decide) (hU _ wd_87) (fun _ h9 => h9) rfl dX7_clear_79 ?_
  refine tk_rv (wr := [(a0, .inr (7, [.ref a1, .int 0, .ref a2, .ref a3, .ref a4, .ref a5, .int 0, .ref a6, .ref a7, .ref a8, .ref a9, .ref a10, .int 0, .ref a11, .ref a12, .ref a13])), (a1, .inl (cI, 26, .inl z0)), (a2, .inl (cI, 6, .inl z0)), (a3, .inl (cI, 81, .inl z0)), (a6, .inl (cI, 9, .inl z0)), (a7, .inl (cI, 9, .inl z0)), (a8, .inl (cI, 36, .inl z0)), (a9, .inl (cI, 36, .inl z0)), (a11, .inr (9, [.ref a14, .ref a15, .int 0]))]) (tk_V (As := []) (rest := []) (n := 0) hx hb hml hown hU hN (cc_X9_clear_0 l (dC, dI) cI cL cZ H.size a12 a16 a17) wd_269 wd_270 wd_271 wd_85 wd_272 (by decide +kernel) ⟨Nat.le_of_ble_eq_true rfl, Nat.le_of_ble_eq_true rfl⟩ hK hP hD [1] (by decide) rfl 0 9 rfl rfl rfl rfl hl.1 rfl (Nat.le_of_ble_eq_true rfl) dX7_clear_82 ⟨Nat.le_of_ble_eq_true rfl, Nat.le_of_ble_eq_true rfl⟩) hP hD hS hA [1] [0, 2, 3, 4, 5, 6, 7, 8, 9] rfl rfl (by decide) (by decide) (fun w_18 H locs hw hP hD hS => ?_)
  subst hw
  have hP : va_P (dC, dI) vwCl [(a0, .inr (7, [.ref a1, .int 0, .ref a2, .ref a3, .ref a4, .ref a5, .int 0, .ref a6, .ref a7, .ref a8, .ref a9, .ref a10, .int 0, .ref a11, .ref a12, .ref a13])), (a1, .inl (cI, 26, .inl z0)), (a2, .inl (cI, 6, .inl z0)), (a3, .inl (cI, 81, .inl z0)), (a6, .inl (cI, 9, .inl z0)), (a7, .inl (cI, 9, .inl z0)), (a8, .inl (cI, 36, .inl z0)), (a9, .inl (cI, 36, .inl z0)), (a11, .inr (9, [.ref a14, .ref a15, .int 0])), (a12, .inr (9, [.ref a16, .ref a17, .int 0]))] H := hP
  have hD : va_D A [(a0, .inr (7, [.ref a1, .int 0, .ref a2, .ref a3, .ref a4, .ref a5, .int 0, .ref a6, .ref a7, .ref a8, .ref a9, .ref a10, .int 0, .ref a11, .ref a12, .ref a13])), (a1, .inl (cI, 26, .inl z0)), (a2, .inl (cI, 6, .inl z0)), (a3, .inl (cI, 81, .inl z0)), (a6, .inl (cI, 9, .inl z0)), (a7, .inl (cI, 9, .inl z0)), (a8, .inl (cI, 36, .inl z0)), (a9, .inl (cI, 36, .inl z0)), (a11, .inr (9, [.ref a14, .ref a15, .int 0])), (a12, .inr (9, [.ref a16, .ref a17, .int 0]))] := hD
  have hP9 := hP.sub (ws' := [(a0, .inr (7, [.ref a1, .int 0, .ref a2, .ref a3, .ref a4, .ref a5, .int 0, .ref a6, .ref a7, .ref a8, .ref a9, .ref a10, .int 0, .ref a11, .ref a12, .ref a13])), (a1, .inl (cI, 26, .inl z0)), (a2, .inl (cI, 6, .inl z0)), (a3, .inl (cI, 81, .inl z0)), (a6, .inl (cI, 9, .inl z0)), (a7, .inl (cI, 9, .inl z0)), (a8, .inl (cI, 36, .inl z0)), (a9, .inl (cI, 36, .inl z0)), (a11, .inr (9, [.ref a14, .ref a15, .int 0])), (a12, .inr (9, [.ref a16, .ref a17, .int 0]))]) [0, 1, 2, 3, 4, 5, 6, 7, 8, 9] rfl
  have hD9 := hD.sub (ws' := [(a0, .inr (7, [.ref a1, .int 0, .ref a2, .ref a3, .ref a4, .ref a5, .int 0, .ref a6, .ref a7, .ref a8, .ref a9, .ref a10, .int 0, .ref a11, .ref a12, .ref a13])), (a1, .inl (cI, 26, .inl z0)), (a2, .inl (cI, 6, .inl z0)), (a3, .inl (cI, 81, .inl z0)), (a6, .inl (cI, 9, .inl z0)), (a7, .inl (cI, 9, .inl z0)), (a8, .inl (cI, 36, .inl z0)), (a9, .inl (cI, 36, .inl z0)), (a11, .inr (9, [.ref a14, .ref a15, .int 0])), (a12, .inr (9, [.ref a16, .ref a17, .int 0]))]) [0, 1, 2, 3, 4, 5, 6, 7, 8, 9] (by decide) rfl
  refine W.widen (k := 0) (n := 0) (Nat.le_of_ble_eq_true rfl) (Nat.le_of_ble_eq_true rfl) ?_
  exact W.vret hx hb hr (fun t ht hW => ⟨⟨[(a0, .inr (7, [.ref a1, .int 0, .ref a2, .ref a3, .ref a4, .ref a5, .int 0, .ref a6, .ref a7, .ref a8, .ref a9, .ref a10, .int 0, .ref a11, .ref a12, .ref a13])), (a1, .inl (cI, 26, .inl z0)), (a2, .inl (cI, 6, .inl z0)), (a3, .inl (cI, 81, .inl z0)), (a6, .inl (cI, 9, .inl z0)), (a7, .inl (cI, 9, .inl z0)), (a8, .inl (cI, 36, .inl z0)), (a9, .inl (cI, 36, .inl z0)), (a11, .inr (9, [.ref a14, .ref a15, .int 0])), (a12, .inr (9, [.ref a16, .ref a17, .int 0]))], rfl, rfl, by rw [ht]; exact hP9, va_K.moved hW.alike hK, hD9⟩, hS.F ht⟩) hS.2.2 dX7_clear_85
