set_option maxHeartbeats 8000000 in
set_option maxRecDepth 100000 in
theorem s_X5_openContext_k5 (l : Launch) (D : va_G) (cI cL cZ cR : ClassId) (kd : Nat → Nat) (L : List Nat) (f : Nat → va_E) (hG : GI (okc cI cL cZ cR L kd) kd L f) (o0 : Nat) (mo0 : o0 ∈ L) (ko0 : kd o0 = 5) (p1 : Int32) : mPV l D cI cL cZ cR yX5_openContext cX5_openContext 2 none 0 0 [.ref o0, .int p1] L f (fun (f9 : Nat → va_E) => GI (okc cI cL cZ cR L kd) kd L f9) := by
  obtain ⟨dC, dI⟩ := D
  refine Met.ofW (cc := cX5_openContext) (maxL := 2) (ret := none) (by decide) rfl ?_
  intro p e s m args below meth c s₁ B hml hv
  obtain ⟨rfl, hP, hK, hD0, hN⟩ := hv
  have hx := B.exec
  have hb := B.bytes
  have hr := B.returns
  have hU : ∀ w ∈ wsU, w.before _ s = true := fun w h => atoms_spec (ws := wU yX5_openContext cX5_openContext 2 none) B.pre w (List.mem_cons_of_mem _ h)
  have hown : s.vm.findClass RX5 = some m.cls := findClass_of_methodNamed B.named
  have hlocks := B.notSynchronized
  have hD := pl_in hD0
  have hS : va_S (fun q => q ∈ L) s.heap s.heap [] := va_S.rf
  have hl := lv_entry ([.ref o0, .int p1]) (n := 2) (Nat.le_of_ble_eq_true rfl)
  rw [lg_entry_eq]
  generalize (lg_sl ([.ref o0, .int p1]) ++ List.replicate (2 - (lg_sl ([.ref o0, .int p1])).length) Slot.unset).toArray = ls at hl ⊢
  have hl : lv_has ls 2 [(0, .ref o0), (1, .int p1)] := hl
  have bp1 : ((-2147483648) ≤ p1.toInt ∧ p1.toInt ≤ 2147483647) := ⟨i32_lo _, i32_hi _⟩
  refine lv_aload_n hx hb dX5_openContext_0 rfl (lv_at hl 0 rfl) ?_
  refine lv_dup hx hb dX5_openContext_1 rfl ?_
  obtain ⟨a_2, a_3, a_4, v_5, v_6, v_7, hfo_1, ⟨ma_2, ka_2⟩, ⟨ma_3, ka_3⟩, ⟨ma_4, ka_4⟩⟩ := un_5 (hG _ mo0) ko0
  have bv_5 : ((-2147483648) ≤ v_5.toInt ∧ v_5.toInt ≤ 2147483647) := ⟨i32_lo _, i32_hi _⟩
  have bv_6 : ((-2147483648) ≤ v_6.toInt ∧ v_6.toInt ≤ 2147483647) := ⟨i32_lo _, i32_hi _⟩
  have bv_7 : ((-2147483648) ≤ v_7.toInt ∧ v_7.toInt ≤ 2147483647) := ⟨i32_lo _, i32_hi _⟩
  refine tk_getP (D := (dC, dI)) (ci := 5) (v := .int v_6) (C := RX5) (T := TX5) (N := 6) hx hb hU inlX5 hown hK hP mo0 hfo_1 rfl 4 (by decide) (hU _ wd_416) (fun _ h9 => h9) rfl dX5_openContext_2 ?_
  refine lv_iconst (v := 1) hx hb dX5_openContext_5 (by decide) ?_
  refine lv_iload_n hx hb dX5_openContext_6 rfl (lv_at hl 1 rfl) ?_
  refine lv_bipush (v := 6) hx hb dX5_openContext_7 (by decide) ?_
  refine lv_imul hx hb dX5_openContext_9 ?_
  refine lv_topi (fun x_8 ex_8 => ?_)
  have bx_8 : ((-2147483648) ≤ x_8.toInt ∧ x_8.toInt ≤ 2147483647) := ⟨i32_lo _, i32_hi _⟩
  refine lv_iconst (v := 5) hx hb dX5_openContext_10 (by decide) ?_
  refine lv_iadd hx hb dX5_openContext_11 ?_
  refine lv_topi (fun x_9 ex_9 => ?_)
  have bx_9 : ((-2147483648) ≤ x_9.toInt ∧ x_9.toInt ≤ 2147483647) := ⟨i32_lo _, i32_hi _⟩
  refine lv_ishl hx hb dX5_openContext_12 ?_
  refine lv_topi (fun x_10 ex_10 => ?_)
  have bx_10 : ((-2147483648) ≤ x_10.toInt ∧ x_10.toInt ≤ 2147483647) := ⟨i32_lo _, i32_hi _⟩
  refine lv_ior hx hb dX5_openContext_13 ?_
  refine lv_topi (fun x_11 ex_11 => ?_)
  have bx_11 : ((-2147483648) ≤ x_11.toInt ∧ x_11.toInt ≤ 2147483647) := ⟨i32_lo _, i32_hi _⟩
  refine tk_putP (D := (dC, dI)) (ci := 5) (v := .int x_11) (ty := .int) (C := RX5) (T := TX5) (N := 6) hx hb hU inlX5 tyX5 tyX5_ok nmX5 hown hK hP hD hS mo0 hfo_1 rfl 4 (by decide) (hU _ wd_416) (fun _ h9 => h9) rfl (by decide +kernel) rfl rfl (Nat.le_of_ble_eq_true rfl) dX5_openContext_14 (fun H locs hP hD hS => ?_)
  obtain ⟨f_12, ef_12⟩ : ∃ y : Nat → va_E, y = va_up f o0 (.inr (5, [.ref a_2, .ref a_3, .ref a_4, .int v_5, .int x_11, .int v_7])) := ⟨_, rfl⟩
  have hP : va_P (dC, dI) vwCl (va_pl L f_12) H := by rw [ef_12]; exact hP
  have hD : va_D (fun q => q ∈ L) (va_pl L f_12) := by rw [ef_12]; exact hD
  have hG : GI (okc cI cL cZ cR L kd) kd L f_12 := by rw [ef_12]; exact hG.set o0 (mk_5 ko0 ⟨a_2, a_3, a_4, v_5, x_11, v_7, rfl, ⟨ma_2, ka_2⟩, ⟨ma_3, ka_3⟩, ⟨ma_4, ka_4⟩⟩)
  have hfo_13 : f_12 o0 = .inr (5, [.ref a_2, .ref a_3, .ref a_4, .int v_5, .int x_11, .int v_7]) := by rw [ef_12]; exact up_self
  exact W.vret hx hb hr (fun t ht hW => ⟨⟨f_12, rfl, hG, by rw [ht]; exact hP, va_K.moved hW.alike hK, pl_in hD⟩, hS.F ht⟩) hS.2.2 dX5_openContext_17
set_option maxHeartbeats 8000000 in
set_option maxRecDepth 100000 in
theorem s_X5_putEdge_k5 (l : Launch) (D : va_G) (cI cL cZ cR : ClassId) (kd : Nat → Nat) (L : List Nat) (f : Nat → va_E) (hG : GI (okc cI cL cZ cR L kd) kd L f) (o0 : Nat) (mo0 : o0 ∈ L) (ko0 : kd o0 = 5) (p1 : Int32) : mPV l D cI cL cZ cR yX5_putEdge cX5_putEdge 2 none 0 0 [.ref o0, .int p1] L f (fun (f9 : Nat → va_E) => GI (okc cI cL cZ cR L kd) kd L f9) := by
  obtain ⟨dC, dI⟩ := D
  refine Met.ofW (cc := cX5_putEdge) (maxL := 2) (ret := none) (by decide) rfl ?_
  intro p e s m args below meth c s₁ B hml hv
  obtain ⟨rfl, hP, hK, hD0, hN⟩ := hv
  have hx := B.exec
  have hb := B.bytes
  have hr := B.returns
  have hU : ∀ w ∈ wsU, w.before _ s = true := fun w h => atoms_spec (ws := wU yX5_putEdge cX5_putEdge 2 none) B.pre w (List.mem_cons_of_mem _ h)
  have hown : s.vm.findClass RX5 = some m.cls := findClass_of_methodNamed B.named
  have hlocks := B.notSynchronized
  have hD := pl_in hD0
  have hS : va_S (fun q => q ∈ L) s.heap s.heap [] := va_S.rf
  have hl := lv_entry ([.ref o0, .int p1]) (n := 2) (Nat.le_of_ble_eq_true rfl)
  rw [lg_entry_eq]
  generalize (lg_sl ([.ref o0, .int p1]) ++ List.replicate (2 - (lg_sl ([.ref o0, .int p1])).length) Slot.unset).toArray = ls at hl ⊢
  have hl : lv_has ls 2 [(0, .ref o0), (1, .int p1)] := hl
  have bp1 : ((-2147483648) ≤ p1.toInt ∧ p1.toInt ≤ 2147483647) := ⟨i32_lo _, i32_hi _⟩
  refine lv_aload_n hx hb dX5_putEdge_0 rfl (lv_at hl 0 rfl) ?_
  refine lv_dup hx hb dX5_putEdge_1 rfl ?_
  obtain ⟨a_2, a_3, a_4, v_5, v_6, v_7, hfo_1, ⟨ma_2, ka_2⟩, ⟨ma_3, ka_3⟩, ⟨ma_4, ka_4⟩⟩ := un_5 (hG _ mo0) ko0
  have bv_5 : ((-2147483648) ≤ v_5.toInt ∧ v_5.toInt ≤ 2147483647) := ⟨i32_lo _, i32_hi _⟩
  have bv_6 : ((-2147483648) ≤ v_6.toInt ∧ v_6.toInt ≤ 2147483647) := ⟨i32_lo _, i32_hi _⟩
  have bv_7 : ((-2147483648) ≤ v_7.toInt ∧ v_7.toInt ≤ 2147483647) := ⟨i32_lo _, i32_hi _⟩
  refine tk_getP (D := (dC, dI)) (ci := 5) (v := .int v_7) (C := RX5) (T := TX5) (N := 6) hx hb hU inlX5 hown hK hP mo0 hfo_1 rfl 5 (by decide) (hU _ wd_417) (fun _ h9 => h9) rfl dX5_putEdge_2 ?_
  refine lv_iconst (v := 1) hx hb dX5_putEdge_5 (by decide) ?_
  refine lv_iload_n hx hb dX5_putEdge_6 rfl (lv_at hl 1 rfl) ?_
  refine lv_ishl hx hb dX5_putEdge_7 ?_
  refine lv_topi (fun x_8 ex_8 => ?_)
  have bx_8 : ((-2147483648) ≤ x_8.toInt ∧ x_8.toInt ≤ 2147483647) := ⟨i32_lo _, i32_hi _⟩
  refine lv_ior hx hb dX5_putEdge_8 ?_
  refine lv_topi (fun x_9 ex_9 => ?_)
  have bx_9 : ((-2147483648) ≤ x_9.toInt ∧ x_9.toInt ≤ 2147483647) := ⟨i32_lo _, i32_hi _⟩
  refine tk_putP (D := (dC, dI)) (ci := 5) (v := .int x_9) (ty := .int) (C := RX5) (T := TX5) (N := 6) hx hb hU inlX5 tyX5 tyX5_ok nmX5 hown hK hP hD hS mo0 hfo_1 rfl 5 (by decide) (hU _ wd_417) (fun _ h9 => h9) rfl (by decide +kernel) rfl rfl (Nat.le_of_ble_eq_true rfl) dX5_putEdge_9 (fun H locs hP hD hS => ?_)
  obtain ⟨f_10, ef_10⟩ : ∃ y : Nat → va_E, y = va_up f o0 (.inr (5, [.ref a_2, .ref a_3, .ref a_4, .int v_5, .int v_6, .int x_9])) := ⟨_, rfl⟩
  have hP : va_P (dC, dI) vwCl (va_pl L f_10) H := by rw [ef_10]; exact hP
  have hD : va_D (fun q => q ∈ L) (va_pl L f_10) := by rw [ef_10]; exact hD
  have hG : GI (okc cI cL cZ cR L kd) kd L f_10 := by rw [ef_10]; exact hG.set o0 (mk_5 ko0 ⟨a_2, a_3, a_4, v_5, v_6, x_9, rfl, ⟨ma_2, ka_2⟩, ⟨ma_3, ka_3⟩, ⟨ma_4, ka_4⟩⟩)
  have hfo_11 : f_10 o0 = .inr (5, [.ref a_2, .ref a_3, .ref a_4, .int v_5, .int v_6, .int x_9]) := by rw [ef_10]; exact up_self
  exact W.vret hx hb hr (fun t ht hW => ⟨⟨f_10, rfl, hG, by rw [ht]; exact hP, va_K.moved hW.alike hK, pl_in hD⟩, hS.F ht⟩) hS.2.2 dX5_putEdge_12
set_option maxHeartbeats 8000000 in
set_option maxRecDepth 100000 in
theorem s_X5_addItem_k5 (l : Launch) (D : va_G) (cI cL cZ cR : ClassId) (kd : Nat → Nat) (L : List Nat) (f : Nat → va_E) (hG : GI (okc cI cL cZ cR L kd) kd L f) (o0 : Nat) (mo0 : o0 ∈ L) (ko0 : kd o0 = 5) (p1 : Int32) (bp1 : (0 ≤ p1.toInt ∧ p1.toInt ≤ 2)) (p2 : Int32) (p3 : Int32) (p4 : Int32) (bp4 : (0 ≤ p4.toInt ∧ p4.toInt ≤ 1)) : mPV l D cI cL cZ cR yX5_addItem cX5_addItem 7 none 1 40 [.ref o0, .int p1, .int p2, .int p3, .int p4] L f (fun (f9 : Nat → va_E) => GI (okc cI cL cZ cR L kd) kd L f9) := by
  obtain ⟨dC, dI⟩ := D
  refine Met.ofW (cc := cX5_addItem) (maxL := 7) (ret := none) (by decide) rfl ?_
  intro p e s m args below meth c s₁ B hml hv
  obtain ⟨rfl, hP, hK, hD0, hN⟩ := hv
  have hx := B.exec
  have hb := B.bytes
  have hr := B.returns
  have hU : ∀ w ∈ wsU, w.before _ s = true := fun w h => atoms_spec (ws := wU yX5_addItem cX5_addItem 7 none) B.pre w (List.mem_cons_of_mem _ h)
  have hown : s.vm.findClass RX5 = some m.cls := findClass_of_methodNamed B.named
  have hlocks := B.notSynchronized
  have hD := pl_in hD0
  have hS : va_S (fun q => q ∈ L) s.heap s.heap [] := va_S.rf
  have hl := lv_entry ([.ref o0, .int p1, .int p2, .int p3, .int p4]) (n := 7) (Nat.le_of_ble_eq_true rfl)
  rw [lg_entry_eq]
  generalize (lg_sl ([.ref o0, .int p1, .int p2, .int p3, .int p4]) ++ List.replicate (7 - (lg_sl ([.ref o0, .int p1, .int p2, .int p3, .int p4])).length) Slot.unset).toArray = ls at hl ⊢
  have hl : lv_has ls 7 [(0, .ref o0), (1, .int p1), (2, .int p2), (3, .int p3), (4, .int p4)] := hl
  have bp2 : ((-2147483648) ≤ p2.toInt ∧ p2.toInt ≤ 2147483647) := ⟨i32_lo _, i32_hi _⟩
  have bp3 : ((-2147483648) ≤ p3.toInt ∧ p3.toInt ≤ 2147483647) := ⟨i32_lo _, i32_hi _⟩
  refine lv_iload_n hx hb dX5_addItem_0 rfl (lv_at hl 1 rfl) ?_
  refine lv_bipush (v := 6) hx hb dX5_addItem_1 (by decide) ?_
  refine lv_imul hx hb dX5_addItem_3 ?_
  refine lv_topi (fun x_1 ex_1 => ?_)
  have hx_1 : x_1.toInt = p1.toInt * 6 := by rw [ex_1, ml_I (by rw [ti_6]; omega) (by rw [ti_6]; omega), ti_6]
  have bx_1 : (0 ≤ x_1.toInt ∧ x_1.toInt ≤ 12) := by constructor <;> omega
  refine lv_istore (lv' := [(5, .int x_1), (0, .ref o0), (1, .int p1), (2, .int p2), (3, .int p3), (4, .int p4)]) hx hb dX5_addItem_4 hl (by decide) rfl (fun ls hl => ?_)
  refine lv_bipush (v := 63) hx hb dX5_addItem_6 (by decide) ?_
  refine lv_iload hx hb dX5_addItem_8 (lv_at hl 0 rfl) ?_
  refine lv_ishl hx hb dX5_addItem_10 ?_
  refine lv_topi (fun x_2 ex_2 => ?_)
  have bx_2 : ((-2147483648) ≤ x_2.toInt ∧ x_2.toInt ≤ 2147483647) := ⟨i32_lo _, i32_hi _⟩
  refine lv_istore (lv' := [(6, .int x_2), (5, .int x_1), (0, .ref o0), (1, .int p1), (2, .int p2), (3, .int p3), (4, .int p4)]) hx hb dX5_addItem_11 hl (by decide) rfl (fun ls hl => ?_)
  refine lv_aload_n hx hb dX5_addItem_13 rfl (lv_at hl 2 rfl) ?_
  obtain ⟨a_4, a_5, a_6, v_7, v_8, v_9, hfo_3, ⟨ma_4, ka_4⟩, ⟨ma_5, ka_5⟩, ⟨ma_6, ka_6⟩⟩ := un_5 (hG _ mo0) ko0
  have bv_7 : ((-2147483648) ≤ v_7.toInt ∧ v_7.toInt ≤ 2147483647) := ⟨i32_lo _, i32_hi _⟩
  have bv_8 : ((-2147483648) ≤ v_8.toInt ∧ v_8.toInt ≤ 2147483647) := ⟨i32_lo _, i32_hi _⟩
  have bv_9 : ((-2147483648) ≤ v_9.toInt ∧ v_9.toInt ≤ 2147483647) := ⟨i32_lo _, i32_hi _⟩
  refine tk_getP (D := (dC, dI)) (ci := 5) (v := .ref a_4) (C := RX5) (T := TX5) (N := 6) hx hb hU inlX5 hown hK hP mo0 hfo_3 rfl 0 (by decide) (hU _ wd_110) (fun _ h9 => h9) rfl dX5_addItem_14 ?_
  refine lv_iload hx hb dX5_addItem_17 (lv_at hl 1 rfl) ?_
  refine lv_iconst (v := 1) hx hb dX5_addItem_19 (by decide) ?_
  refine lv_iadd hx hb dX5_addItem_20 ?_
  refine lv_topi (fun x_10 ex_10 => ?_)
  have hx_10 : x_10.toInt = x_1.toInt + 1 := by rw [ex_10, ad_I (by rw [ti_1]; omega) (by rw [ti_1]; omega), ti_1]
  have bx_10 : (1 ≤ x_10.toInt ∧ x_10.toInt ≤ 13) := by constructor <;> omega
  refine lv_aload_n hx hb dX5_addItem_21 rfl (lv_at hl 2 rfl) ?_
  refine tk_getP (D := (dC, dI)) (ci := 5) (v := .ref a_4) (C := RX5) (T := TX5) (N := 6) hx hb hU inlX5 hown hK hP mo0 hfo_3 rfl 0 (by decide) (hU _ wd_110) (fun _ h9 => h9) rfl dX5_addItem_22 ?_
  refine lv_iload hx hb dX5_addItem_25 (lv_at hl 1 rfl) ?_
  refine lv_iconst (v := 4) hx hb dX5_addItem_27 (by decide) ?_
  obtain ⟨g_12, hfo_11, hbg_12⟩ := un_20 (hG _ ma_4) ka_4
  refine tk_copyP hx hb (by rw [hml]; exact hl.1.symm) hown (hU _ wd_466) (hU _ wd_253) (hU _ wd_254) (hU _ wd_255) hK hP hD hS 0 ma_4 ma_4 hfo_11 hfo_11 rfl (by rw [Int32.lt_iff_toInt_lt, ti_0]; omega) (by rw [Int32.lt_iff_toInt_lt, ti_0]; omega) (by decide) (cp_ok (by omega) (by rw [ti_4]; omega) (by rw [ti_4]; omega)) (cp_ok (by omega) (by rw [ti_4]; omega) (by rw [ti_4]; omega)) (Nat.le_of_ble_eq_true rfl) (Nat.le_of_ble_eq_true rfl) dX5_addItem_28 (fun H locs hP hD hS => ?_)
  obtain ⟨f_13, ef_13⟩ : ∃ y : Nat → va_E, y = va_up f a_4 (.inl (cI, 18, .inl (va_cpy g_12 g_12 (Int32.toNatClampNeg x_10) (Int32.toNatClampNeg x_1) (Int32.toNatClampNeg 4)))) := ⟨_, rfl⟩
  have hP : va_P (dC, dI) vwCl (va_pl L f_13) H := by rw [ef_13]; exact hP
  have hD : va_D (fun q => q ∈ L) (va_pl L f_13) := by rw [ef_13]; exact hD
  have hG : GI (okc cI cL cZ cR L kd) kd L f_13 := by rw [ef_13]; exact hG.set a_4 (mk_20 ka_4 ⟨_, rfl, okI_cpy (fun j => by have := hbg_12 j; constructor <;> omega) hbg_12 _ _ _⟩)
  have hfo_14 : f_13 o0 = .inr (5, [.ref a_4, .ref a_5, .ref a_6, .int v_7, .int v_8, .int v_9]) := by rw [ef_13, up_ne (kd_ne ka_4 ko0 (by decide))]; exact hfo_3
  have hfo_15 : f_13 a_4 = .inl (cI, 18, .inl (va_cpy g_12 g_12 (Int32.toNatClampNeg x_10) (Int32.toNatClampNeg x_1) (Int32.toNatClampNeg 4))) := by rw [ef_13]; exact up_self
  refine lv_aload_n hx hb dX5_addItem_31 rfl (lv_at hl 2 rfl) ?_
  refine tk_getP (D := (dC, dI)) (ci := 5) (v := .ref a_5) (C := RX5) (T := TX5) (N := 6) hx hb hU inlX5 hown hK hP mo0 hfo_14 rfl 1 (by decide) (hU _ wd_111) (fun _ h9 => h9) rfl dX5_addItem_32 ?_
  refine lv_iload hx hb dX5_addItem_35 (lv_at hl 1 rfl) ?_
  refine lv_iconst (v := 1) hx hb dX5_addItem_37 (by decide) ?_
  refine lv_iadd hx hb dX5_addItem_38 ?_
  refine lv_topi (fun x_16 ex_16 => ?_)
  have hx_16 : x_16.toInt = x_1.toInt + 1 := by rw [ex_16, ad_I (by rw [ti_1]; omega) (by rw [ti_1]; omega), ti_1]
  have bx_16 : (1 ≤ x_16.toInt ∧ x_16.toInt ≤ 13) := by constructor <;> omega
  refine lv_aload_n hx hb dX5_addItem_39 rfl (lv_at hl 2 rfl) ?_
  refine tk_getP (D := (dC, dI)) (ci := 5) (v := .ref a_5) (C := RX5) (T := TX5) (N := 6) hx hb hU inlX5 hown hK hP mo0 hfo_14 rfl 1 (by decide) (hU _ wd_111) (fun _ h9 => h9) rfl dX5_addItem_40 ?_
  refine lv_iload hx hb dX5_addItem_43 (lv_at hl 1 rfl) ?_
  refine lv_iconst (v := 4) hx hb dX5_addItem_45 (by decide) ?_
  obtain ⟨g_18, hfo_17, hbg_18⟩ := un_20 (hG _ ma_5) ka_5
  refine tk_copyP hx hb (by rw [hml]; exact hl.1.symm) hown (hU _ wd_466) (hU _ wd_253) (hU _ wd_254) (hU _ wd_255) hK hP hD hS 0 ma_5 ma_5 hfo_17 hfo_17 rfl (by rw [Int32.lt_iff_toInt_lt, ti_0]; omega) (by rw [Int32.lt_iff_toInt_lt, ti_0]; omega) (by decide) (cp_ok (by omega) (by rw [ti_4]; omega) (by rw [ti_4]; omega)) (cp_ok (by omega) (by rw [ti_4]; omega) (by rw [ti_4]; omega)) (Nat.le_of_ble_eq_true rfl) (Nat.le_of_ble_eq_true rfl) dX5_addItem_46 (fun H locs hP hD hS => ?_)
  obtain ⟨f_19, ef_19⟩ : ∃ y : Nat → va_E, y = va_up f_13 a_5 (.inl (cI, 18, .inl (va_cpy g_18 g_18 (Int32.toNatClampNeg x_16) (Int32.toNatClampNeg x_1) (Int32.toNatClampNeg 4)))) := ⟨_, rfl⟩
  have hP : va_P (dC, dI) vwCl (va_pl L f_19) H := by rw [ef_19]; exact hP
  have hD : va_D (fun q => q ∈ L) (va_pl L f_19) := by rw [ef_19]; exact hD
  have hG : GI (okc cI cL cZ cR L kd) kd L f_19 := by rw [ef_19]; exact hG.set a_5 (mk_20 ka_5 ⟨_, rfl, okI_cpy (fun j => by have := hbg_18 j; constructor <;> omega) hbg_18 _ _ _⟩)
  have hfo_20 : f_19 o0 = .inr (5, [.ref a_4, .ref a_5, .ref a_6, .int v_7, .int v_8, .int v_9]) := by rw [ef_19, up_ne (kd_ne ka_5 ko0 (by decide))]; exact hfo_14
  have hfo_21 : f_19 a_5 = .inl (cI, 18, .inl (va_cpy g_18 g_18 (Int32.toNatClampNeg x_16) (Int32.toNatClampNeg x_1) (Int32.toNatClampNeg 4))) := by rw [ef_19]; exact up_self
  refine lv_aload_n hx hb dX5_addItem_49 rfl (lv_at hl 2 rfl) ?_
  refine tk_getP (D := (dC, dI)) (ci := 5) (v := .ref a_4) (C := RX5) (T := TX5) (N := 6) hx hb hU inlX5 hown hK hP mo0 hfo_20 rfl 0 (by decide) (hU _ wd_110) (fun _ h9 => h9) rfl dX5_addItem_50 ?_
  refine lv_iload hx hb dX5_addItem_53 (lv_at hl 1 rfl) ?_
  refine lv_iconst (v := 5) hx hb dX5_addItem_55 (by decide) ?_
  refine lv_iadd hx hb dX5_addItem_56 ?_
  refine lv_topi (fun x_22 ex_22 => ?_)
  have hx_22 : x_22.toInt = x_1.toInt + 5 := by rw [ex_22, ad_I (by rw [ti_5]; omega) (by rw [ti_5]; omega), ti_5]
  have bx_22 : (5 ≤ x_22.toInt ∧ x_22.toInt ≤ 17) := by constructor <;> omega
  refine lv_iconst (v := 1) hx hb dX5_addItem_57 (by decide) ?_
  refine lv_isub hx hb dX5_addItem_58 ?_
  refine lv_topi (fun x_23 ex_23 => ?_)
  have hx_23 : x_23.toInt = x_22.toInt - 1 := by rw [ex_23, sb_I (by rw [ti_1]; omega) (by rw [ti_1]; omega), ti_1]
  have bx_23 : (4 ≤ x_23.toInt ∧ x_23.toInt ≤ 16) := by constructor <;> omega
  refine lv_iload_n hx hb dX5_addItem_59 rfl (lv_at hl 4 rfl) ?_
  obtain ⟨g_25, hfo_24, hbg_25⟩ := un_20 (hG _ ma_4) ka_4
  refine tk_istP hx hb hK hP hD hS 0 ma_4 hfo_24 rfl (vp_in_iff.mpr (by constructor <;> omega)) dX5_addItem_60 (fun H locs hP hD hS => ?_)
  obtain ⟨f_26, ef_26⟩ : ∃ y : Nat → va_E, y = va_up f_19 a_4 (.inl (cI, 18, .inl (upd g_25 (Int32.toNatClampNeg x_23) p2))) := ⟨_, rfl⟩
  have hP : va_P (dC, dI) vwCl (va_pl L f_26) H := by rw [ef_26]; exact hP
  have hD : va_D (fun q => q ∈ L) (va_pl L f_26) := by rw [ef_26]; exact hD
  have hG : GI (okc cI cL cZ cR L kd) kd L f_26 := by rw [ef_26]; exact hG.set a_4 (mk_20 ka_4 ⟨_, rfl, okI_up hbg_25 ⟨i32_lo _, i32_hi _⟩ _⟩)
  have hfo_27 : f_26 o0 = .inr (5, [.ref a_4, .ref a_5, .ref a_6, .int v_7, .int v_8, .int v_9]) := by rw [ef_26, up_ne (kd_ne ka_4 ko0 (by decide))]; exact hfo_20
  have hfo_28 : f_26 a_4 = .inl (cI, 18, .inl (upd g_25 (Int32.toNatClampNeg x_23) p2)) := by rw [ef_26]; exact up_self
  refine lv_aload_n hx hb dX5_addItem_61 rfl (lv_at hl 2 rfl) ?_
  refine tk_getP (D := (dC, dI)) (ci := 5) (v := .ref a_5) (C := RX5) (T := TX5) (N := 6) hx hb hU inlX5 hown hK hP mo0 hfo_27 rfl 1 (by decide) (hU _ wd_111) (fun _ h9 => h9) rfl dX5_addItem_62 ?_
  refine lv_iload hx hb dX5_addItem_65 (lv_at hl 1 rfl) ?_
  refine lv_iconst (v := 5) hx hb dX5_addItem_67 (by decide) ?_
  refine lv_iadd hx hb dX5_addItem_68 ?_
  refine lv_topi (fun x_29 ex_29 => ?_)
  have hx_29 : x_29.toInt = x_1.toInt + 5 := by rw [ex_29, ad_I (by rw [ti_5]; omega) (by rw [ti_5]; omega), ti_5]
  have bx_29 : (5 ≤ x_29.toInt ∧ x_29.toInt ≤ 17) := by constructor <;> omega
  refine lv_iconst (v := 1) hx hb dX5_addItem_69 (by decide) ?_
  refine lv_isub hx hb dX5_addItem_70 ?_
  refine lv_topi (fun x_30 ex_30 => ?_)
  have hx_30 : x_30.toInt = x_29.toInt - 1 := by rw [ex_30, sb_I (by rw [ti_1]; omega) (by rw [ti_1]; omega), ti_1]
  have bx_30 : (4 ≤ x_30.toInt ∧ x_30.toInt ≤ 16) := by constructor <;> omega
  refine lv_iload_n hx hb dX5_addItem_71 rfl (lv_at hl 5 rfl) ?_
  obtain ⟨g_32, hfo_31, hbg_32⟩ := un_20 (hG _ ma_5) ka_5
  refine tk_istP hx hb hK hP hD hS 0 ma_5 hfo_31 rfl (vp_in_iff.mpr (by constructor <;> omega)) dX5_addItem_72 (fun H locs hP hD hS => ?_)
  obtain ⟨f_33, ef_33⟩ : ∃ y : Nat → va_E, y = va_up f_26 a_5 (.inl (cI, 18, .inl (upd g_32 (Int32.toNatClampNeg x_30) p3))) := ⟨_, rfl⟩
  have hP : va_P (dC, dI) vwCl (va_pl L f_33) H := by rw [ef_33]; exact hP
  have hD : va_D (fun q => q ∈ L) (va_pl L f_33) := by rw [ef_33]; exact hD
  have hG : GI (okc cI cL cZ cR L kd) kd L f_33 := by rw [ef_33]; exact hG.set a_5 (mk_20 ka_5 ⟨_, rfl, okI_up hbg_32 ⟨i32_lo _, i32_hi _⟩ _⟩)
  have hfo_34 : f_33 o0 = .inr (5, [.ref a_4, .ref a_5, .ref a_6, .int v_7, .int v_8, .int v_9]) := by rw [ef_33, up_ne (kd_ne ka_5 ko0 (by decide))]; exact hfo_27
  have hfo_35 : f_33 a_5 = .inl (cI, 18, .inl (upd g_32 (Int32.toNatClampNeg x_30) p3)) := by rw [ef_33]; exact up_self
  refine lv_aload_n hx hb dX5_addItem_73 rfl (lv_at hl 2 rfl) ?_
  refine lv_aload_n hx hb dX5_addItem_74 rfl (lv_at hl 2 rfl) ?_
  refine tk_getP (D := (dC, dI)) (ci := 5) (v := .int v_8) (C := RX5) (T := TX5) (N := 6) hx hb hU inlX5 hown hK hP mo0 hfo_34 rfl 4 (by decide) (hU _ wd_416) (fun _ h9 => h9) rfl dX5_addItem_75 ?_
  refine lv_iload hx hb dX5_addItem_78 (lv_at hl 0 rfl) ?_
  refine lv_iconst (v := (-1)) hx hb dX5_addItem_80 (by decide) ?_
  refine lv_ixor hx hb dX5_addItem_81 ?_
  refine lv_topi (fun x_36 ex_36 => ?_)
  have bx_36 : ((-2147483648) ≤ x_36.toInt ∧ x_36.toInt ≤ 2147483647) := ⟨i32_lo _, i32_hi _⟩
  refine lv_iand hx hb dX5_addItem_82 ?_
  refine lv_topi (fun x_37 ex_37 => ?_)
  have bx_37 : ((-2147483648) ≤ x_37.toInt ∧ x_37.toInt ≤ 2147483647) := ⟨i32_lo _, i32_hi _⟩
  refine lv_aload_n hx hb dX5_addItem_83 rfl (lv_at hl 2 rfl) ?_
  refine tk_getP (D := (dC, dI)) (ci := 5) (v := .int v_8) (C := RX5) (T := TX5) (N := 6) hx hb hU inlX5 hown hK hP mo0 hfo_34 rfl 4 (by decide) (hU _ wd_416) (fun _ h9 => h9) rfl dX5_addItem_84 ?_
  refine lv_iload hx hb dX5_addItem_87 (lv_at hl 0 rfl) ?_
  refine lv_iand hx hb dX5_addItem_89 ?_
  refine lv_topi (fun x_38 ex_38 => ?_)
  have bx_38 : ((-2147483648) ≤ x_38.toInt ∧ x_38.toInt ≤ 2147483647) := ⟨i32_lo _, i32_hi _⟩
  refine lv_iconst (v := 1) hx hb dX5_addItem_90 (by decide) ?_
  refine lv_ishr hx hb dX5_addItem_91 ?_
  refine lv_topi (fun x_39 ex_39 => ?_)
  have bx_39 : ((-2147483648) ≤ x_39.toInt ∧ x_39.toInt ≤ 2147483647) := ⟨i32_lo _, i32_hi _⟩
  refine lv_iload hx hb dX5_addItem_92 (lv_at hl 0 rfl) ?_
  refine lv_iand hx hb dX5_addItem_94 ?_
  refine lv_topi (fun x_40 ex_40 => ?_)
  have bx_40 : ((-2147483648) ≤ x_40.toInt ∧ x_40.toInt ≤ 2147483647) := ⟨i32_lo _, i32_hi _⟩
  refine lv_ior hx hb dX5_addItem_95 ?_
  refine lv_topi (fun x_41 ex_41 => ?_)
  have bx_41 : ((-2147483648) ≤ x_41.toInt ∧ x_41.toInt ≤ 2147483647) := ⟨i32_lo _, i32_hi _⟩
  refine tk_putP (D := (dC, dI)) (ci := 5) (v := .int x_41) (ty := .int) (C := RX5) (T := TX5) (N := 6) hx hb hU inlX5 tyX5 tyX5_ok nmX5 hown hK hP hD hS mo0 hfo_34 rfl 4 (by decide) (hU _ wd_416) (fun _ h9 => h9) rfl (by decide +kernel) rfl rfl (Nat.le_of_ble_eq_true rfl) dX5_addItem_96 (fun H locs hP hD hS => ?_)
  obtain ⟨f_42, ef_42⟩ : ∃ y : Nat → va_E, y = va_up f_33 o0 (.inr (5, [.ref a_4, .ref a_5, .ref a_6, .int v_7, .int x_41, .int v_9])) := ⟨_, rfl⟩
  have hP : va_P (dC, dI) vwCl (va_pl L f_42) H := by rw [ef_42]; exact hP
  have hD : va_D (fun q => q ∈ L) (va_pl L f_42) := by rw [ef_42]; exact hD
  have hG : GI (okc cI cL cZ cR L kd) kd L f_42 := by rw [ef_42]; exact hG.set o0 (mk_5 ko0 ⟨a_4, a_5, a_6, v_7, x_41, v_9, rfl, ⟨ma_4, ka_4⟩, ⟨ma_5, ka_5⟩, ⟨ma_6, ka_6⟩⟩)
  have hfo_43 : f_42 o0 = .inr (5, [.ref a_4, .ref a_5, .ref a_6, .int v_7, .int x_41, .int v_9]) := by rw [ef_42]; exact up_self
  refine lv_aload_n hx hb dX5_addItem_99 rfl (lv_at hl 2 rfl) ?_
  refine lv_aload_n hx hb dX5_addItem_100 rfl (lv_at hl 2 rfl) ?_
  refine tk_getP (D := (dC, dI)) (ci := 5) (v := .int v_7) (C := RX5) (T := TX5) (N := 6) hx hb hU inlX5 hown hK hP mo0 hfo_43 rfl 3 (by decide) (hU _ wd_415) (fun _ h9 => h9) rfl dX5_addItem_101 ?_
  refine lv_iload hx hb dX5_addItem_104 (lv_at hl 0 rfl) ?_
  refine lv_iconst (v := (-1)) hx hb dX5_addItem_106 (by decide) ?_
  refine lv_ixor hx hb dX5_addItem_107 ?_
  refine lv_topi (fun x_44 ex_44 => ?_)
  have bx_44 : ((-2147483648) ≤ x_44.toInt ∧ x_44.toInt ≤ 2147483647) := ⟨i32_lo _, i32_hi _⟩
  refine lv_iand hx hb dX5_addItem_108 ?_
  refine lv_topi (fun x_45 ex_45 => ?_)
  have bx_45 : ((-2147483648) ≤ x_45.toInt ∧ x_45.toInt ≤ 2147483647) := ⟨i32_lo _, i32_hi _⟩
  refine lv_aload_n hx hb dX5_addItem_109 rfl (lv_at hl 2 rfl) ?_
  refine tk_getP (D := (dC, dI)) (ci := 5) (v := .int v_7) (C := RX5) (T := TX5) (N := 6) hx hb hU inlX5 hown hK hP mo0 hfo_43 rfl 3 (by decide) (hU _ wd_415) (fun _ h9 => h9) rfl dX5_addItem_110 ?_
  refine lv_iload hx hb dX5_addItem_113 (lv_at hl 0 rfl) ?_
  refine lv_iand hx hb dX5_addItem_115 ?_
  refine lv_topi (fun x_46 ex_46 => ?_)
  have bx_46 : ((-2147483648) ≤ x_46.toInt ∧ x_46.toInt ≤ 2147483647) := ⟨i32_lo _, i32_hi _⟩
  refine lv_iconst (v := 1) hx hb dX5_addItem_116 (by decide) ?_
  refine lv_ishr hx hb dX5_addItem_117 ?_
  refine lv_topi (fun x_47 ex_47 => ?_)
  have bx_47 : ((-2147483648) ≤ x_47.toInt ∧ x_47.toInt ≤ 2147483647) := ⟨i32_lo _, i32_hi _⟩
  refine lv_iload hx hb dX5_addItem_118 (lv_at hl 0 rfl) ?_
  refine lv_iand hx hb dX5_addItem_120 ?_
  refine lv_topi (fun x_48 ex_48 => ?_)
  have bx_48 : ((-2147483648) ≤ x_48.toInt ∧ x_48.toInt ≤ 2147483647) := ⟨i32_lo _, i32_hi _⟩
  refine lv_ior hx hb dX5_addItem_121 ?_
  refine lv_topi (fun x_49 ex_49 => ?_)
  have bx_49 : ((-2147483648) ≤ x_49.toInt ∧ x_49.toInt ≤ 2147483647) := ⟨i32_lo _, i32_hi _⟩
  refine tk_putP (D := (dC, dI)) (ci := 5) (v := .int x_49) (ty := .int) (C := RX5) (T := TX5) (N := 6) hx hb hU inlX5 tyX5 tyX5_ok nmX5 hown hK hP hD hS mo0 hfo_43 rfl 3 (by decide) (hU _ wd_415) (fun _ h9 => h9) rfl (by decide +kernel) rfl rfl (Nat.le_of_ble_eq_true rfl) dX5_addItem_122 (fun H locs hP hD hS => ?_)
  obtain ⟨f_50, ef_50⟩ : ∃ y : Nat → va_E, y = va_up f_42 o0 (.inr (5, [.ref a_4, .ref a_5, .ref a_6, .int x_49, .int x_41, .int v_9])) := ⟨_, rfl⟩
  have hP : va_P (dC, dI) vwCl (va_pl L f_50) H := by rw [ef_50]; exact hP
  have hD : va_D (fun q => q ∈ L) (va_pl L f_50) := by rw [ef_50]; exact hD
  have hG : GI (okc cI cL cZ cR L kd) kd L f_50 := by rw [ef_50]; exact hG.set o0 (mk_5 ko0 ⟨a_4, a_5, a_6, x_49, x_41, v_9, rfl, ⟨ma_4, ka_4⟩, ⟨ma_5, ka_5⟩, ⟨ma_6, ka_6⟩⟩)
  have hfo_51 : f_50 o0 = .inr (5, [.ref a_4, .ref a_5, .ref a_6, .int x_49, .int x_41, .int v_9]) := by rw [ef_50]; exact up_self
  refine lv_iload hx hb dX5_addItem_125 (lv_at hl 6 rfl) ?_
  have hcut_53 : ∀ (f_52 : Nat → va_E), GI (okc cI cL cZ cR L kd) kd L f_52 → ∀ (H : Heap) (locs : List Loc), va_P (dC, dI) vwCl (va_pl L f_52) H → va_D (fun q => q ∈ L) (va_pl L f_52) → va_S (fun q => q ∈ L) s.heap H locs → ∀ (ls : Array Slot), lv_has ls 7 [(6, .int x_2), (5, .int x_1), (0, .ref o0), (1, .int p1), (2, .int p2), (3, .int p3), (4, .int p4)] → W p l e (headSpec (wU yX5_addItem cX5_addItem 7 none) { frames := 1, cells := 0, slots := 0, locals := 40 }).room s m [.ref o0, .int p1, .int p2, .int p3, .int p4].toArray below meth c H locs 0 0 (MQ below (va_Qv (fun (f9 : Nat → va_E) => GI (okc cI cL cZ cR L kd) kd L f9) (qP (dC, dI) cI cL cZ cR L) (fun q => q ∈ L)) [.ref o0, .int p1, .int p2, .int p3, .int p4].toArray s 0 0 (fun q => q ∈ L)) (F0 m 147 ls []) := by
    intro f_52 hG H locs hP hD hS ls hl
    exact W.vret hx hb hr (fun t ht hW => ⟨⟨f_52, rfl, hG, by rw [ht]; exact hP, va_K.moved hW.alike hK, pl_in hD⟩, hS.F ht⟩) hS.2.2 dX5_addItem_147
  refine lv_if_eq (tgt := 147) hx hb dX5_addItem_127 (by decide) (fun c_54 => ?_) (fun c_54 => ?_)
  · skip
    rw [← Int32.toInt_inj, ti_0] at c_54
    exact hcut_53 f_50 hG _ _ hP hD hS ls (lv_sub hl [0, 1, 2, 3, 4, 5, 6] rfl)
  · skip
    rw [← Int32.toInt_inj, ti_0] at c_54
    refine lv_aload_n hx hb dX5_addItem_130 rfl (lv_at hl 2 rfl) ?_
    refine lv_dup hx hb dX5_addItem_131 rfl ?_
    refine tk_getP (D := (dC, dI)) (ci := 5) (v := .int x_49) (C := RX5) (T := TX5) (N := 6) hx hb hU inlX5 hown hK hP mo0 hfo_51 rfl 3 (by decide) (hU _ wd_415) (fun _ h9 => h9) rfl dX5_addItem_132 ?_
    refine lv_iconst (v := 1) hx hb dX5_addItem_135 (by decide) ?_
    refine lv_iload hx hb dX5_addItem_136 (lv_at hl 1 rfl) ?_
    refine lv_iconst (v := 5) hx hb dX5_addItem_138 (by decide) ?_
    refine lv_iadd hx hb dX5_addItem_139 ?_
    refine lv_topi (fun x_55 ex_55 => ?_)
    have hx_55 : x_55.toInt = x_1.toInt + 5 := by rw [ex_55, ad_I (by rw [ti_5]; omega) (by rw [ti_5]; omega), ti_5]
    have bx_55 : (5 ≤ x_55.toInt ∧ x_55.toInt ≤ 17) := by constructor <;> omega
    refine lv_iconst (v := 1) hx hb dX5_addItem_140 (by decide) ?_
    refine lv_isub hx hb dX5_addItem_141 ?_
    refine lv_topi (fun x_56 ex_56 => ?_)
    have hx_56 : x_56.toInt = x_55.toInt - 1 := by rw [ex_56, sb_I (by rw [ti_1]; omega) (by rw [ti_1]; omega), ti_1]
    have bx_56 : (4 ≤ x_56.toInt ∧ x_56.toInt ≤ 16) := by constructor <;> omega
    refine lv_ishl hx hb dX5_addItem_142 ?_
    refine lv_topi (fun x_57 ex_57 => ?_)
    have bx_57 : ((-2147483648) ≤ x_57.toInt ∧ x_57.toInt ≤ 2147483647) := ⟨i32_lo _, i32_hi _⟩
    refine lv_ior hx hb dX5_addItem_143 ?_
    refine lv_topi (fun x_58 ex_58 => ?_)
    have bx_58 : ((-2147483648) ≤ x_58.toInt ∧ x_58.toInt ≤ 2147483647) := ⟨i32_lo _, i32_hi _⟩
    refine tk_putP (D := (dC, dI)) (ci := 5) (v := .int x_58) (ty := .int) (C := RX5) (T := TX5) (N := 6) hx hb hU inlX5 tyX5 tyX5_ok nmX5 hown hK hP hD hS mo0 hfo_51 rfl 3 (by decide) (hU _ wd_415) (fun _ h9 => h9) rfl (by decide +kernel) rfl rfl (Nat.le_of_ble_eq_true rfl) dX5_addItem_144 (fun H locs hP hD hS => ?_)
    obtain ⟨f_59, ef_59⟩ : ∃ y : Nat → va_E, y = va_up f_50 o0 (.inr (5, [.ref a_4, .ref a_5, .ref a_6, .int x_58, .int x_41, .int v_9])) := ⟨_, rfl⟩
    have hP : va_P (dC, dI) vwCl (va_pl L f_59) H := by rw [ef_59]; exact hP
    have hD : va_D (fun q => q ∈ L) (va_pl L f_59) := by rw [ef_59]; exact hD
    have hG : GI (okc cI cL cZ cR L kd) kd L f_59 := by rw [ef_59]; exact hG.set o0 (mk_5 ko0 ⟨a_4, a_5, a_6, x_58, x_41, v_9, rfl, ⟨ma_4, ka_4⟩, ⟨ma_5, ka_5⟩, ⟨ma_6, ka_6⟩⟩)
    have hfo_60 : f_59 o0 = .inr (5, [.ref a_4, .ref a_5, .ref a_6, .int x_58, .int x_41, .int v_9]) := by rw [ef_59]; exact up_self
    exact hcut_53 f_59 hG _ _ hP hD hS ls (lv_sub hl [0, 1, 2, 3, 4, 5, 6] rfl)
set_option maxHeartbeats 8000000 in
set_option maxRecDepth 100000 in
theorem s_X5_startsOf_k5 (l : Launch) (D : va_G) (cI cL cZ cR : ClassId) (kd : Nat → Nat) (L : List Nat) (f : Nat → va_E) (hG : GI (okc cI cL cZ cR L kd) kd L f) (o0 : Nat) (mo0 : o0 ∈ L) (ko0 : kd o0 = 5) (p1 : Int32) : mPI l D cI cL cZ cR yX5_startsOf cX5_startsOf 2 (some .int) 1 21 [.ref o0, .int p1] L f (fun (r : Int32) (f9 : Nat → va_E) => GI (okc cI cL cZ cR L kd) kd L f9 ∧ ((-2147483648) ≤ r.toInt ∧ r.toInt ≤ 2147483647)) := by
  obtain ⟨dC, dI⟩ := D
  refine Met.ofW (cc := cX5_startsOf) (maxL := 2) (ret := (some .int)) (by decide) rfl ?_
  intro p e s m args below meth c s₁ B hml hv
  obtain ⟨rfl, hP, hK, hD0, hN⟩ := hv
  have hx := B.exec
  have hb := B.bytes
  have hr := B.returns
  have hU : ∀ w ∈ wsU, w.before _ s = true := fun w h => atoms_spec (ws := wU yX5_startsOf cX5_startsOf 2 (some .int)) B.pre w (List.mem_cons_of_mem _ h)
  have hown : s.vm.findClass RX5 = some m.cls := findClass_of_methodNamed B.named
  have hlocks := B.notSynchronized
  have hD := pl_in hD0
  have hS : va_S (fun q => q ∈ L) s.heap s.heap [] := va_S.rf
  have hl := lv_entry ([.ref o0, .int p1]) (n := 2) (Nat.le_of_ble_eq_true rfl)
  rw [lg_entry_eq]
  generalize (lg_sl ([.ref o0, .int p1]) ++ List.replicate (2 - (lg_sl ([.ref o0, .int p1])).length) Slot.unset).toArray = ls at hl ⊢
  have hl : lv_has ls 2 [(0, .ref o0), (1, .int p1)] := hl
  have bp1 : ((-2147483648) ≤ p1.toInt ∧ p1.toInt ≤ 2147483647) := ⟨i32_lo _, i32_hi _⟩
  refine lv_aload_n hx hb dX5_startsOf_0 rfl (lv_at hl 0 rfl) ?_
  refine lv_aload_n hx hb dX5_startsOf_1 rfl (lv_at hl 0 rfl) ?_
  obtain ⟨a_2, a_3, a_4, v_5, v_6, v_7, hfo_1, ⟨ma_2, ka_2⟩, ⟨ma_3, ka_3⟩, ⟨ma_4, ka_4⟩⟩ := un_5 (hG _ mo0) ko0
  have bv_5 : ((-2147483648) ≤ v_5.toInt ∧ v_5.toInt ≤ 2147483647) := ⟨i32_lo _, i32_hi _⟩
  have bv_6 : ((-2147483648) ≤ v_6.toInt ∧ v_6.toInt ≤ 2147483647) := ⟨i32_lo _, i32_hi _⟩
  have bv_7 : ((-2147483648) ≤ v_7.toInt ∧ v_7.toInt ≤ 2147483647) := ⟨i32_lo _, i32_hi _⟩
  refine tk_getP (D := (dC, dI)) (ci := 5) (v := .int v_6) (C := RX5) (T := TX5) (N := 6) hx hb hU inlX5 hown hK hP mo0 hfo_1 rfl 4 (by decide) (hU _ wd_416) (fun _ h9 => h9) rfl dX5_startsOf_2 ?_
  refine lv_bipush (v := 63) hx hb dX5_startsOf_5 (by decide) ?_
  refine lv_iload_n hx hb dX5_startsOf_7 rfl (lv_at hl 1 rfl) ?_
  refine lv_bipush (v := 6) hx hb dX5_startsOf_8 (by decide) ?_
  refine lv_imul hx hb dX5_startsOf_10 ?_
  refine lv_topi (fun x_8 ex_8 => ?_)
  have bx_8 : ((-2147483648) ≤ x_8.toInt ∧ x_8.toInt ≤ 2147483647) := ⟨i32_lo _, i32_hi _⟩
  refine lv_ishl hx hb dX5_startsOf_11 ?_
  refine lv_topi (fun x_9 ex_9 => ?_)
  have bx_9 : ((-2147483648) ≤ x_9.toInt ∧ x_9.toInt ≤ 2147483647) := ⟨i32_lo _, i32_hi _⟩
  refine lv_iand hx hb dX5_startsOf_12 ?_
  refine lv_topi (fun x_10 ex_10 => ?_)
  have bx_10 : ((-2147483648) ≤ x_10.toInt ∧ x_10.toInt ≤ 2147483647) := ⟨i32_lo _, i32_hi _⟩
  refine tk_ViP (As := [.int x_10]) (rest := []) (n := 1) hx hb hml hown hU hN (s_X5_closure_k5 l (dC, dI) cI cL cZ cR kd L f hG o0 mo0 ko0 x_10) wd_516 wd_517 wd_518 wd_102 wd_519 (by decide +kernel) ⟨Nat.le_of_ble_eq_true rfl, Nat.le_of_ble_eq_true rfl⟩ hK hP hD hS mo0 hfo_1 5 rfl rfl rfl hl.1 rfl (Nat.le_of_ble_eq_true rfl) dX5_startsOf_13 ⟨Nat.le_of_ble_eq_true rfl, Nat.le_of_ble_eq_true rfl⟩ (fun x_11 f_12 H locs hw hP hD hS => ?_)
  obtain ⟨hG, bx_11⟩ := hw
  exact W.iret (v := x_11) hx hb hr (fun t ht hW => ⟨⟨x_11, f_12, rfl, ⟨hG, (by constructor <;> omega)⟩, by rw [ht]; exact hP, va_K.moved hW.alike hK, pl_in hD⟩, hS.F ht⟩) hS.2.2 dX5_startsOf_16
set_option maxHeartbeats 8000000 in
set_option maxRecDepth 100000 in
theorem s_X5_freeStarts_k5 (l : Launch) (D : va_G) (cI cL cZ cR : ClassId) (kd : Nat → Nat) (L : List Nat) (f : Nat → va_E) (hG : GI (okc cI cL cZ cR L kd) kd L f) (o0 : Nat) (mo0 : o0 ∈ L) (ko0 : kd o0 = 5) : mPI l D cI cL cZ cR yX5_freeStarts cX5_freeStarts 3 (some .int) 2 42 [.ref o0] L f (fun (r : Int32) (f9 : Nat → va_E) => GI (okc cI cL cZ cR L kd) kd L f9 ∧ ((-2147483648) ≤ r.toInt ∧ r.toInt ≤ 2147483647)) := by
  obtain ⟨dC, dI⟩ := D
  refine Met.ofW (cc := cX5_freeStarts) (maxL := 3) (ret := (some .int)) (by decide) rfl ?_
  intro p e s m args below meth c s₁ B hml hv
  obtain ⟨rfl, hP, hK, hD0, hN⟩ := hv
  have hx := B.exec
  have hb := B.bytes
  have hr := B.returns
  have hU : ∀ w ∈ wsU, w.before _ s = true := fun w h => atoms_spec (ws := wU yX5_freeStarts cX5_freeStarts 3 (some .int)) B.pre w (List.mem_cons_of_mem _ h)
  have hown : s.vm.findClass RX5 = some m.cls := findClass_of_methodNamed B.named
  have hlocks := B.notSynchronized
  have hD := pl_in hD0
  have hS : va_S (fun q => q ∈ L) s.heap s.heap [] := va_S.rf
  have hl := lv_entry ([.ref o0]) (n := 3) (Nat.le_of_ble_eq_true rfl)
  rw [lg_entry_eq]
  generalize (lg_sl ([.ref o0]) ++ List.replicate (3 - (lg_sl ([.ref o0])).length) Slot.unset).toArray = ls at hl ⊢
  have hl : lv_has ls 3 [(0, .ref o0)] := hl
  refine lv_iconst (v := 0) hx hb dX5_freeStarts_0 (by decide) ?_
  refine lv_istore_n (lv' := [(1, .int 0), (0, .ref o0)]) hx hb dX5_freeStarts_1 rfl hl (by decide) rfl (fun ls hl => ?_)
  refine lv_iconst (v := 0) hx hb dX5_freeStarts_2 (by decide) ?_
  refine lv_istore_n (lv' := [(2, .int 0), (1, .int 0), (0, .ref o0)]) hx hb dX5_freeStarts_3 rfl hl (by decide) rfl (fun ls hl => ?_)
  have hloop_13 : ∀ (n : Nat), ∀ (y_10 : Int32), (0 ≤ y_10.toInt ∧ y_10.toInt ≤ 3) → ∀ (y_11 : Int32), ((-2147483648) ≤ y_11.toInt ∧ y_11.toInt ≤ 2147483647) → ∀ (f_12 : Nat → va_E), GI (okc cI cL cZ cR L kd) kd L f_12 → ∀ (H : Heap) (locs : List Loc), va_P (dC, dI) vwCl (va_pl L f_12) H → va_D (fun q => q ∈ L) (va_pl L f_12) → va_S (fun q => q ∈ L) s.heap H locs → 3 - y_10.toInt < (n : Int) → ∀ (ls : Array Slot), lv_has ls 3 [(2, .int y_10), (1, .int y_11), (0, .ref o0)] → W p l e (headSpec (wU yX5_freeStarts cX5_freeStarts 3 (some .int)) { frames := 2, cells := 0, slots := 0, locals := 42 }).room s m [.ref o0].toArray below meth c H locs 0 0 (MQ below (va_Qi (fun (r : Int32) (f9 : Nat → va_E) => GI (okc cI cL cZ cR L kd) kd L f9 ∧ ((-2147483648) ≤ r.toInt ∧ r.toInt ≤ 2147483647)) (qP (dC, dI) cI cL cZ cR L) (fun q => q ∈ L)) [.ref o0].toArray s 0 0 (fun q => q ∈ L)) (F0 m 4 ls []) := by
    intro n
    induction n with
    | zero => intro y_10 by_10 y_11 by_11 f_12 hG H locs hP hD hS hmuhloop_13 ls hl; exfalso; omega
    | succ n ih_hloop_13 =>
      intro y_10 by_10 y_11 by_11 f_12 hG H locs hP hD hS hmuhloop_13 ls hl
      refine lv_iload_n hx hb dX5_freeStarts_4 rfl (lv_at hl 0 rfl) ?_
      refine lv_iconst (v := 3) hx hb dX5_freeStarts_5 (by decide) ?_
      refine lv_icmp_ge (tgt := 34) hx hb dX5_freeStarts_6 (by decide) (fun c_14 => ?_) (fun c_14 => ?_)
      · skip
        rw [Int32.le_iff_toInt_le, ti_3] at c_14
        refine lv_iload_n hx hb dX5_freeStarts_34 rfl (lv_at hl 1 rfl) ?_
        exact W.iret (v := y_11) hx hb hr (fun t ht hW => ⟨⟨y_11, f_12, rfl, ⟨hG, (by constructor <;> omega)⟩, by rw [ht]; exact hP, va_K.moved hW.alike hK, pl_in hD⟩, hS.F ht⟩) hS.2.2 dX5_freeStarts_35
      · skip
        rw [Int32.le_iff_toInt_le, ti_3] at c_14
        refine lv_aload_n hx hb dX5_freeStarts_9 rfl (lv_at hl 2 rfl) ?_
        obtain ⟨a_16, a_17, a_18, v_19, v_20, v_21, hfo_15, ⟨ma_16, ka_16⟩, ⟨ma_17, ka_17⟩, ⟨ma_18, ka_18⟩⟩ := un_5 (hG _ mo0) ko0
        have bv_19 : ((-2147483648) ≤ v_19.toInt ∧ v_19.toInt ≤ 2147483647) := ⟨i32_lo _, i32_hi _⟩
        have bv_20 : ((-2147483648) ≤ v_20.toInt ∧ v_20.toInt ≤ 2147483647) := ⟨i32_lo _, i32_hi _⟩
        have bv_21 : ((-2147483648) ≤ v_21.toInt ∧ v_21.toInt ≤ 2147483647) := ⟨i32_lo _, i32_hi _⟩
        refine tk_getP (D := (dC, dI)) (ci := 5) (v := .int v_21) (C := RX5) (T := TX5) (N := 6) hx hb hU inlX5 hown hK hP mo0 hfo_15 rfl 5 (by decide) (hU _ wd_417) (fun _ h9 => h9) rfl dX5_freeStarts_10 ?_
        refine lv_iload_n hx hb dX5_freeStarts_13 rfl (lv_at hl 0 rfl) ?_
        refine lv_ishr hx hb dX5_freeStarts_14 ?_
        refine lv_topi (fun x_22 ex_22 => ?_)
        have bx_22 : ((-2147483648) ≤ x_22.toInt ∧ x_22.toInt ≤ 2147483647) := ⟨i32_lo _, i32_hi _⟩
        refine lv_iconst (v := 1) hx hb dX5_freeStarts_15 (by decide) ?_
        refine lv_iand hx hb dX5_freeStarts_16 ?_
        refine lv_topi (fun x_23 ex_23 => ?_)
        have bx_23 : (0 ≤ x_23.toInt ∧ x_23.toInt ≤ 1) := by rw [ex_23]; have h8 := an_C x_22 (m := 1) (by decide); rw [ti_1] at h8; exact h8
        have hcut_26 : ∀ (y_24 : Int32), ((-2147483648) ≤ y_24.toInt ∧ y_24.toInt ≤ 2147483647) → ∀ (f_25 : Nat → va_E), GI (okc cI cL cZ cR L kd) kd L f_25 → ∀ (H : Heap) (locs : List Loc), va_P (dC, dI) vwCl (va_pl L f_25) H → va_D (fun q => q ∈ L) (va_pl L f_25) → va_S (fun q => q ∈ L) s.heap H locs → ∀ (ls : Array Slot), lv_has ls 3 [(2, .int y_10), (1, .int y_24), (0, .ref o0)] → W p l e (headSpec (wU yX5_freeStarts cX5_freeStarts 3 (some .int)) { frames := 2, cells := 0, slots := 0, locals := 42 }).room s m [.ref o0].toArray below meth c H locs 0 0 (MQ below (va_Qi (fun (r : Int32) (f9 : Nat → va_E) => GI (okc cI cL cZ cR L kd) kd L f9 ∧ ((-2147483648) ≤ r.toInt ∧ r.toInt ≤ 2147483647)) (qP (dC, dI) cI cL cZ cR L) (fun q => q ∈ L)) [.ref o0].toArray s 0 0 (fun q => q ∈ L)) (F0 m 28 ls []) := by
          intro y_24 by_24 f_25 hG H locs hP hD hS ls hl
          obtain ⟨x_27, ex_27⟩ : ∃ y : Int32, y_10 + 1 = y := ⟨_, rfl⟩
          have hx_27 : x_27.toInt = y_10.toInt + 1 := by rw [← ex_27, ad_I (by rw [ti_1]; omega) (by rw [ti_1]; omega), ti_1]
          have bx_27 : (1 ≤ x_27.toInt ∧ x_27.toInt ≤ 3) := by constructor <;> omega
          refine lv_iinc (v := x_27) (lv' := [(2, .int x_27), (1, .int y_24), (0, .ref o0)]) hx hb dX5_freeStarts_28 hl (k := 0) rfl ex_27 (by decide) rfl (fun ls hl => ?_)
          refine lv_goto (tgt := 4) hx hb dX5_freeStarts_31 (by decide) ?_
          exact ih_hloop_13 x_27 (by constructor <;> omega) y_24 (by constructor <;> omega) f_25 hG _ _ hP hD hS (by omega) ls (lv_sub hl [0, 1, 2] rfl)
        refine lv_if_ne (tgt := 28) hx hb dX5_freeStarts_17 (by decide) (fun c_28 => ?_) (fun c_28 => ?_)
        · skip
          rw [← Int32.toInt_inj, ti_0] at c_28
          exact hcut_26 y_11 (by constructor <;> omega) f_12 hG _ _ hP hD hS ls (lv_sub hl [0, 1, 2] rfl)
        · skip
          rw [← Int32.toInt_inj, ti_0] at c_28
          refine lv_iload_n hx hb dX5_freeStarts_20 rfl (lv_at hl 1 rfl) ?_
          refine lv_aload_n hx hb dX5_freeStarts_21 rfl (lv_at hl 2 rfl) ?_
          refine lv_iload_n hx hb dX5_freeStarts_22 rfl (lv_at hl 0 rfl) ?_
          refine tk_ViP (As := [.int y_10]) (rest := [.int y_11]) (n := 1) hx hb hml hown hU hN (s_X5_startsOf_k5 l (dC, dI) cI cL cZ cR kd L f_12 hG o0 mo0 ko0 y_10) wd_525 wd_513 wd_514 wd_102 wd_515 (by decide +kernel) ⟨Nat.le_of_ble_eq_true rfl, Nat.le_of_ble_eq_true rfl⟩ hK hP hD hS mo0 hfo_15 5 rfl rfl rfl hl.1 rfl (Nat.le_of_ble_eq_true rfl) dX5_freeStarts_23 ⟨Nat.le_of_ble_eq_true rfl, Nat.le_of_ble_eq_true rfl⟩ (fun x_29 f_30 H locs hw hP hD hS => ?_)
          obtain ⟨hG, bx_29⟩ := hw
          refine lv_ior hx hb dX5_freeStarts_26 ?_
          refine lv_topi (fun x_31 ex_31 => ?_)
          have bx_31 : ((-2147483648) ≤ x_31.toInt ∧ x_31.toInt ≤ 2147483647) := ⟨i32_lo _, i32_hi _⟩
          refine lv_istore_n (lv' := [(1, .int x_31), (2, .int y_10), (0, .ref o0)]) hx hb dX5_freeStarts_27 rfl hl (by decide) rfl (fun ls hl => ?_)
          exact hcut_26 x_31 (by constructor <;> omega) f_30 hG _ _ hP hD hS ls (lv_sub hl [1, 0, 2] rfl)
  exact hloop_13 4 0 (by decide) 0 (by decide) f hG _ _ hP hD hS (by (try simp only [ti_0]); omega) ls hl
set_option maxHeartbeats 8000000 in
set_option maxRecDepth 100000 in
theorem s_X5_freeFinals_k5 (l : Launch) (D : va_G) (cI cL cZ cR : ClassId) (kd : Nat → Nat) (L : List Nat) (f : Nat → va_E) (hG : GI (okc cI cL cZ cR L kd) kd L f) (o0 : Nat) (mo0 : o0 ∈ L) (ko0 : kd o0 = 5) : mPI l D cI cL cZ cR yX5_freeFinals cX5_freeFinals 3 (some .int) 0 0 [.ref o0] L f (fun (r : Int32) (f9 : Nat → va_E) => GI (okc cI cL cZ cR L kd) kd L f9 ∧ ((-2147483648) ≤ r.toInt ∧ r.toInt ≤ 2147483647)) := by
  obtain ⟨dC, dI⟩ := D
  refine Met.ofW (cc := cX5_freeFinals) (maxL := 3) (ret := (some .int)) (by decide) rfl ?_
  intro p e s m args below meth c s₁ B hml hv
  obtain ⟨rfl, hP, hK, hD0, hN⟩ := hv
  have hx := B.exec
  have hb := B.bytes
  have hr := B.returns
  have hU : ∀ w ∈ wsU, w.before _ s = true := fun w h => atoms_spec (ws := wU yX5_freeFinals cX5_freeFinals 3 (some .int)) B.pre w (List.mem_cons_of_mem _ h)
  have hown : s.vm.findClass RX5 = some m.cls := findClass_of_methodNamed B.named
  have hlocks := B.notSynchronized
  have hD := pl_in hD0
  have hS : va_S (fun q => q ∈ L) s.heap s.heap [] := va_S.rf
  have hl := lv_entry ([.ref o0]) (n := 3) (Nat.le_of_ble_eq_true rfl)
  rw [lg_entry_eq]
  generalize (lg_sl ([.ref o0]) ++ List.replicate (3 - (lg_sl ([.ref o0])).length) Slot.unset).toArray = ls at hl ⊢
  have hl : lv_has ls 3 [(0, .ref o0)] := hl
  refine lv_iconst (v := 0) hx hb dX5_freeFinals_0 (by decide) ?_
  refine lv_istore_n (lv' := [(1, .int 0), (0, .ref o0)]) hx hb dX5_freeFinals_1 rfl hl (by decide) rfl (fun ls hl => ?_)
  refine lv_iconst (v := 0) hx hb dX5_freeFinals_2 (by decide) ?_
  refine lv_istore_n (lv' := [(2, .int 0), (1, .int 0), (0, .ref o0)]) hx hb dX5_freeFinals_3 rfl hl (by decide) rfl (fun ls hl => ?_)
  have hloop_9 : ∀ (n : Nat), ∀ (y_7 : Int32), (0 ≤ y_7.toInt ∧ y_7.toInt ≤ 3) → ∀ (y_8 : Int32), ((-2147483648) ≤ y_8.toInt ∧ y_8.toInt ≤ 2147483647) → 3 - y_7.toInt < (n : Int) → ∀ (ls : Array Slot), lv_has ls 3 [(2, .int y_7), (1, .int y_8), (0, .ref o0)] → W p l e (headSpec (wU yX5_freeFinals cX5_freeFinals 3 (some .int)) { frames := 0, cells := 0, slots := 0, locals := 0 }).room s m [.ref o0].toArray below meth c s.heap [] 0 0 (MQ below (va_Qi (fun (r : Int32) (f9 : Nat → va_E) => GI (okc cI cL cZ cR L kd) kd L f9 ∧ ((-2147483648) ≤ r.toInt ∧ r.toInt ≤ 2147483647)) (qP (dC, dI) cI cL cZ cR L) (fun q => q ∈ L)) [.ref o0].toArray s 0 0 (fun q => q ∈ L)) (F0 m 4 ls []) := by
    intro n
    induction n with
    | zero => intro y_7 by_7 y_8 by_8 hmuhloop_9 ls hl; exfalso; omega
    | succ n ih_hloop_9 =>
      intro y_7 by_7 y_8 by_8 hmuhloop_9 ls hl
      refine lv_iload_n hx hb dX5_freeFinals_4 rfl (lv_at hl 0 rfl) ?_
      refine lv_iconst (v := 3) hx hb dX5_freeFinals_5 (by decide) ?_
      refine lv_icmp_ge (tgt := 37) hx hb dX5_freeFinals_6 (by decide) (fun c_10 => ?_) (fun c_10 => ?_)
      · skip
        rw [Int32.le_iff_toInt_le, ti_3] at c_10
        refine lv_iload_n hx hb dX5_freeFinals_37 rfl (lv_at hl 1 rfl) ?_
        exact W.iret (v := y_8) hx hb hr (fun t ht hW => ⟨⟨y_8, f, rfl, ⟨hG, (by constructor <;> omega)⟩, by rw [ht]; exact hP, va_K.moved hW.alike hK, pl_in hD⟩, hS.F ht⟩) hS.2.2 dX5_freeFinals_38
      · skip
        rw [Int32.le_iff_toInt_le, ti_3] at c_10
        refine lv_aload_n hx hb dX5_freeFinals_9 rfl (lv_at hl 2 rfl) ?_
        obtain ⟨a_12, a_13, a_14, v_15, v_16, v_17, hfo_11, ⟨ma_12, ka_12⟩, ⟨ma_13, ka_13⟩, ⟨ma_14, ka_14⟩⟩ := un_5 (hG _ mo0) ko0
        have bv_15 : ((-2147483648) ≤ v_15.toInt ∧ v_15.toInt ≤ 2147483647) := ⟨i32_lo _, i32_hi _⟩
        have bv_16 : ((-2147483648) ≤ v_16.toInt ∧ v_16.toInt ≤ 2147483647) := ⟨i32_lo _, i32_hi _⟩
        have bv_17 : ((-2147483648) ≤ v_17.toInt ∧ v_17.toInt ≤ 2147483647) := ⟨i32_lo _, i32_hi _⟩
        refine tk_getP (D := (dC, dI)) (ci := 5) (v := .int v_17) (C := RX5) (T := TX5) (N := 6) hx hb hU inlX5 hown hK hP mo0 hfo_11 rfl 5 (by decide) (hU _ wd_417) (fun _ h9 => h9) rfl dX5_freeFinals_10 ?_
        refine lv_iload_n hx hb dX5_freeFinals_13 rfl (lv_at hl 0 rfl) ?_
        refine lv_ishr hx hb dX5_freeFinals_14 ?_
        refine lv_topi (fun x_18 ex_18 => ?_)
        have bx_18 : ((-2147483648) ≤ x_18.toInt ∧ x_18.toInt ≤ 2147483647) := ⟨i32_lo _, i32_hi _⟩
        refine lv_iconst (v := 1) hx hb dX5_freeFinals_15 (by decide) ?_
        refine lv_iand hx hb dX5_freeFinals_16 ?_
        refine lv_topi (fun x_19 ex_19 => ?_)
        have bx_19 : (0 ≤ x_19.toInt ∧ x_19.toInt ≤ 1) := by rw [ex_19]; have h8 := an_C x_18 (m := 1) (by decide); rw [ti_1] at h8; exact h8
        have hcut_21 : ∀ (y_20 : Int32), ((-2147483648) ≤ y_20.toInt ∧ y_20.toInt ≤ 2147483647) → ∀ (ls : Array Slot), lv_has ls 3 [(2, .int y_7), (1, .int y_20), (0, .ref o0)] → W p l e (headSpec (wU yX5_freeFinals cX5_freeFinals 3 (some .int)) { frames := 0, cells := 0, slots := 0, locals := 0 }).room s m [.ref o0].toArray below meth c s.heap [] 0 0 (MQ below (va_Qi (fun (r : Int32) (f9 : Nat → va_E) => GI (okc cI cL cZ cR L kd) kd L f9 ∧ ((-2147483648) ≤ r.toInt ∧ r.toInt ≤ 2147483647)) (qP (dC, dI) cI cL cZ cR L) (fun q => q ∈ L)) [.ref o0].toArray s 0 0 (fun q => q ∈ L)) (F0 m 31 ls []) := by
          intro y_20 by_20 ls hl
          obtain ⟨x_22, ex_22⟩ : ∃ y : Int32, y_7 + 1 = y := ⟨_, rfl⟩
          have hx_22 : x_22.toInt = y_7.toInt + 1 := by rw [← ex_22, ad_I (by rw [ti_1]; omega) (by rw [ti_1]; omega), ti_1]
          have bx_22 : (1 ≤ x_22.toInt ∧ x_22.toInt ≤ 3) := by constructor <;> omega
          refine lv_iinc (v := x_22) (lv' := [(2, .int x_22), (1, .int y_20), (0, .ref o0)]) hx hb dX5_freeFinals_31 hl (k := 0) rfl ex_22 (by decide) rfl (fun ls hl => ?_)
          refine lv_goto (tgt := 4) hx hb dX5_freeFinals_34 (by decide) ?_
          exact ih_hloop_9 x_22 (by constructor <;> omega) y_20 (by constructor <;> omega) (by omega) ls (lv_sub hl [0, 1, 2] rfl)
        refine lv_if_ne (tgt := 31) hx hb dX5_freeFinals_17 (by decide) (fun c_23 => ?_) (fun c_23 => ?_)
        · skip
          rw [← Int32.toInt_inj, ti_0] at c_23
          exact hcut_21 y_8 (by constructor <;> omega) ls (lv_sub hl [0, 1, 2] rfl)
        · skip
          rw [← Int32.toInt_inj, ti_0] at c_23
          refine lv_iload_n hx hb dX5_freeFinals_20 rfl (lv_at hl 1 rfl) ?_
          refine lv_iconst (v := 1) hx hb dX5_freeFinals_21 (by decide) ?_
          refine lv_iload_n hx hb dX5_freeFinals_22 rfl (lv_at hl 0 rfl) ?_
          refine lv_bipush (v := 6) hx hb dX5_freeFinals_23 (by decide) ?_
          refine lv_imul hx hb dX5_freeFinals_25 ?_
          refine lv_topi (fun x_24 ex_24 => ?_)
          have hx_24 : x_24.toInt = y_7.toInt * 6 := by rw [ex_24, ml_I (by rw [ti_6]; omega) (by rw [ti_6]; omega), ti_6]
          have bx_24 : (0 ≤ x_24.toInt ∧ x_24.toInt ≤ 12) := by constructor <;> omega
          refine lv_iconst (v := 5) hx hb dX5_freeFinals_26 (by decide) ?_
          refine lv_iadd hx hb dX5_freeFinals_27 ?_
          refine lv_topi (fun x_25 ex_25 => ?_)
          have hx_25 : x_25.toInt = x_24.toInt + 5 := by rw [ex_25, ad_I (by rw [ti_5]; omega) (by rw [ti_5]; omega), ti_5]
          have bx_25 : (5 ≤ x_25.toInt ∧ x_25.toInt ≤ 17) := by constructor <;> omega
          refine lv_ishl hx hb dX5_freeFinals_28 ?_
          refine lv_topi (fun x_26 ex_26 => ?_)
          have bx_26 : ((-2147483648) ≤ x_26.toInt ∧ x_26.toInt ≤ 2147483647) := ⟨i32_lo _, i32_hi _⟩
          refine lv_ior hx hb dX5_freeFinals_29 ?_
          refine lv_topi (fun x_27 ex_27 => ?_)
          have bx_27 : ((-2147483648) ≤ x_27.toInt ∧ x_27.toInt ≤ 2147483647) := ⟨i32_lo _, i32_hi _⟩
          refine lv_istore_n (lv' := [(1, .int x_27), (2, .int y_7), (0, .ref o0)]) hx hb dX5_freeFinals_30 rfl hl (by decide) rfl (fun ls hl => ?_)
          exact hcut_21 x_27 (by constructor <;> omega) ls (lv_sub hl [1, 0, 2] rfl)
  exact hloop_9 4 0 (by decide) 0 (by decide) (by (try simp only [ti_0]); omega) ls hl
set_option maxHeartbeats 8000000 in
set_option maxRecDepth 100000 in
theorem s_X5_takes_k5 (l : Launch) (D : va_G) (cI cL cZ cR : ClassId) (kd : Nat → Nat) (L : List Nat) (f : Nat → va_E) (hG : GI (okc cI cL cZ cR L kd) kd L f) (o0 : Nat) (mo0 : o0 ∈ L) (ko0 : kd o0 = 5) (p1 : Int32) (bp1 : (0 ≤ p1.toInt ∧ p1.toInt ≤ 17)) (p2 : Int32) (p3 : Int32) : mPI l D cI cL cZ cR yX5_takes cX5_takes 5 (some .boolean) 0 0 [.ref o0, .int p1, .int p2, .int p3] L f (fun (r : Int32) (f9 : Nat → va_E) => GI (okc cI cL cZ cR L kd) kd L f9 ∧ (0 ≤ r.toInt ∧ r.toInt ≤ 1)) := by
  obtain ⟨dC, dI⟩ := D
  refine Met.ofW (cc := cX5_takes) (maxL := 5) (ret := (some .boolean)) (by decide) rfl ?_
  intro p e s m args below meth c s₁ B hml hv
  obtain ⟨rfl, hP, hK, hD0, hN⟩ := hv
  have hx := B.exec
  have hb := B.bytes
  have hr := B.returns
  have hU : ∀ w ∈ wsU, w.before _ s = true := fun w h => atoms_spec (ws := wU yX5_takes cX5_takes 5 (some .boolean)) B.pre w (List.mem_cons_of_mem _ h)
  have hown : s.vm.findClass RX5 = some m.cls := findClass_of_methodNamed B.named
  have hlocks := B.notSynchronized
  have hD := pl_in hD0
  have hS : va_S (fun q => q ∈ L) s.heap s.heap [] := va_S.rf
  have hl := lv_entry ([.ref o0, .int p1, .int p2, .int p3]) (n := 5) (Nat.le_of_ble_eq_true rfl)
  rw [lg_entry_eq]
  generalize (lg_sl ([.ref o0, .int p1, .int p2, .int p3]) ++ List.replicate (5 - (lg_sl ([.ref o0, .int p1, .int p2, .int p3])).length) Slot.unset).toArray = ls at hl ⊢
  have hl : lv_has ls 5 [(0, .ref o0), (1, .int p1), (2, .int p2), (3, .int p3)] := hl
  have bp2 : ((-2147483648) ≤ p2.toInt ∧ p2.toInt ≤ 2147483647) := ⟨i32_lo _, i32_hi _⟩
  have bp3 : ((-2147483648) ≤ p3.toInt ∧ p3.toInt ≤ 2147483647) := ⟨i32_lo _, i32_hi _⟩
  refine lv_aload_n hx hb dX5_takes_0 rfl (lv_at hl 0 rfl) ?_
  obtain ⟨a_2, a_3, a_4, v_5, v_6, v_7, hfo_1, ⟨ma_2, ka_2⟩, ⟨ma_3, ka_3⟩, ⟨ma_4, ka_4⟩⟩ := un_5 (hG _ mo0) ko0
  have bv_5 : ((-2147483648) ≤ v_5.toInt ∧ v_5.toInt ≤ 2147483647) := ⟨i32_lo _, i32_hi _⟩
  have bv_6 : ((-2147483648) ≤ v_6.toInt ∧ v_6.toInt ≤ 2147483647) := ⟨i32_lo _, i32_hi _⟩
  have bv_7 : ((-2147483648) ≤ v_7.toInt ∧ v_7.toInt ≤ 2147483647) := ⟨i32_lo _, i32_hi _⟩
  refine tk_getP (D := (dC, dI)) (ci := 5) (v := .ref a_2) (C := RX5) (T := TX5) (N := 6) hx hb hU inlX5 hown hK hP mo0 hfo_1 rfl 0 (by decide) (hU _ wd_110) (fun _ h9 => h9) rfl dX5_takes_1 ?_
  refine lv_iload_n hx hb dX5_takes_4 rfl (lv_at hl 1 rfl) ?_
  obtain ⟨g_9, hfo_8, hbg_9⟩ := un_20 (hG _ ma_2) ka_2
  refine tk_ildP hx hb hK hP 0 ma_2 hfo_8 rfl (vp_in_iff.mpr (by constructor <;> omega)) dX5_takes_5 ?_
  refine lv_topi (fun x_10 ex_10 => ?_)
  have bx_10 : ((-2147483648) ≤ x_10.toInt ∧ x_10.toInt ≤ 2147483647) := ⟨i32_lo _, i32_hi _⟩
  refine lv_iload_n hx hb dX5_takes_6 rfl (lv_at hl 2 rfl) ?_
  refine lv_ishr hx hb dX5_takes_7 ?_
  refine lv_topi (fun x_11 ex_11 => ?_)
  have bx_11 : ((-2147483648) ≤ x_11.toInt ∧ x_11.toInt ≤ 2147483647) := ⟨i32_lo _, i32_hi _⟩
  refine lv_aload_n hx hb dX5_takes_8 rfl (lv_at hl 0 rfl) ?_
  refine tk_getP (D := (dC, dI)) (ci := 5) (v := .ref a_3) (C := RX5) (T := TX5) (N := 6) hx hb hU inlX5 hown hK hP mo0 hfo_1 rfl 1 (by decide) (hU _ wd_111) (fun _ h9 => h9) rfl dX5_takes_9 ?_
  refine lv_iload_n hx hb dX5_takes_12 rfl (lv_at hl 1 rfl) ?_
  obtain ⟨g_13, hfo_12, hbg_13⟩ := un_20 (hG _ ma_3) ka_3
  refine tk_ildP hx hb hK hP 0 ma_3 hfo_12 rfl (vp_in_iff.mpr (by constructor <;> omega)) dX5_takes_13 ?_
  refine lv_topi (fun x_14 ex_14 => ?_)
  have bx_14 : ((-2147483648) ≤ x_14.toInt ∧ x_14.toInt ≤ 2147483647) := ⟨i32_lo _, i32_hi _⟩
  refine lv_iload_n hx hb dX5_takes_14 rfl (lv_at hl 3 rfl) ?_
  refine lv_ishr hx hb dX5_takes_15 ?_
  refine lv_topi (fun x_15 ex_15 => ?_)
  have bx_15 : ((-2147483648) ≤ x_15.toInt ∧ x_15.toInt ≤ 2147483647) := ⟨i32_lo _, i32_hi _⟩
  refine lv_iand hx hb dX5_takes_16 ?_
  refine lv_topi (fun x_16 ex_16 => ?_)
  have bx_16 : ((-2147483648) ≤ x_16.toInt ∧ x_16.toInt ≤ 2147483647) := ⟨i32_lo _, i32_hi _⟩
  refine lv_iconst (v := 1) hx hb dX5_takes_17 (by decide) ?_
  refine lv_iand hx hb dX5_takes_18 ?_
  refine lv_topi (fun x_17 ex_17 => ?_)
  have bx_17 : (0 ≤ x_17.toInt ∧ x_17.toInt ≤ 1) := by rw [ex_17]; have h8 := an_C x_16 (m := 1) (by decide); rw [ti_1] at h8; exact h8
  refine lv_iconst (v := 1) hx hb dX5_takes_19 (by decide) ?_
  have hcut_19 : ∀ (y_18 : Int32), (0 ≤ y_18.toInt ∧ y_18.toInt ≤ 1) → ∀ (ls : Array Slot), lv_has ls 5 [(0, .ref o0), (1, .int p1), (2, .int p2), (3, .int p3)] → W p l e (headSpec (wU yX5_takes cX5_takes 5 (some .boolean)) { frames := 0, cells := 0, slots := 0, locals := 0 }).room s m [.ref o0, .int p1, .int p2, .int p3].toArray below meth c s.heap [] 0 0 (MQ below (va_Qi (fun (r : Int32) (f9 : Nat → va_E) => GI (okc cI cL cZ cR L kd) kd L f9 ∧ (0 ≤ r.toInt ∧ r.toInt ≤ 1)) (qP (dC, dI) cI cL cZ cR L) (fun q => q ∈ L)) [.ref o0, .int p1, .int p2, .int p3].toArray s 0 0 (fun q => q ∈ L)) (F0 m 28 ls [.int y_18]) := by
    intro y_18 by_18 ls hl
    refine lv_istore (lv' := [(4, .int y_18), (0, .ref o0), (1, .int p1), (2, .int p2), (3, .int p3)]) hx hb dX5_takes_28 hl (by decide) rfl (fun ls hl => ?_)
    refine lv_iload hx hb dX5_takes_30 (lv_at hl 0 rfl) ?_
    refine lv_if_eq (tgt := 57) hx hb dX5_takes_32 (by decide) (fun c_20 => ?_) (fun c_20 => ?_)
    · skip
      rw [← Int32.toInt_inj, ti_0] at c_20
      refine lv_iconst (v := 0) hx hb dX5_takes_57 (by decide) ?_
      exact W.zret (v := 0) (ty := .boolean) hx hb hr rfl (fun t ht hW => ⟨⟨0, f, rfl, ⟨hG, (by decide)⟩, by rw [ht]; exact hP, va_K.moved hW.alike hK, pl_in hD⟩, hS.F ht⟩) hS.2.2 dX5_takes_58
    · skip
      rw [← Int32.toInt_inj, ti_0] at c_20
      refine lv_iload_n hx hb dX5_takes_35 rfl (lv_at hl 3 rfl) ?_
      refine lv_iload_n hx hb dX5_takes_36 rfl (lv_at hl 4 rfl) ?_
      refine lv_icmp_eq (tgt := 53) hx hb dX5_takes_37 (by decide) (fun c_21 => ?_) (fun c_21 => ?_)
      · skip
        rw [← Int32.toInt_inj] at c_21
        refine lv_iconst (v := 1) hx hb dX5_takes_53 (by decide) ?_
        refine lv_goto (tgt := 58) hx hb dX5_takes_54 (by decide) ?_
        exact W.zret (v := 1) (ty := .boolean) hx hb hr rfl (fun t ht hW => ⟨⟨1, f, rfl, ⟨hG, (by decide)⟩, by rw [ht]; exact hP, va_K.moved hW.alike hK, pl_in hD⟩, hS.F ht⟩) hS.2.2 dX5_takes_58
      · skip
        rw [← Int32.toInt_inj] at c_21
        refine lv_aload_n hx hb dX5_takes_40 rfl (lv_at hl 1 rfl) ?_
        refine tk_getP (D := (dC, dI)) (ci := 5) (v := .ref a_3) (C := RX5) (T := TX5) (N := 6) hx hb hU inlX5 hown hK hP mo0 hfo_1 rfl 1 (by decide) (hU _ wd_111) (fun _ h9 => h9) rfl dX5_takes_41 ?_
        refine lv_iload_n hx hb dX5_takes_44 rfl (lv_at hl 2 rfl) ?_
        refine tk_ildP hx hb hK hP 0 ma_3 hfo_12 rfl (vp_in_iff.mpr (by constructor <;> omega)) dX5_takes_45 ?_
        refine tk_topi (y := x_14) ex_14.symm ?_
        refine lv_sipush (v := 512) hx hb dX5_takes_46 (by decide) ?_
        refine lv_iand hx hb dX5_takes_49 ?_
        refine lv_topi (fun x_22 ex_22 => ?_)
        have bx_22 : (0 ≤ x_22.toInt ∧ x_22.toInt ≤ 512) := by rw [ex_22]; have h8 := an_C x_14 (m := 512) (by decide); rw [ti_512] at h8; exact h8
        refine lv_if_ne (tgt := 57) hx hb dX5_takes_50 (by decide) (fun c_23 => ?_) (fun c_23 => ?_)
        · skip
          rw [← Int32.toInt_inj, ti_0] at c_23
          refine lv_iconst (v := 0) hx hb dX5_takes_57 (by decide) ?_
          exact W.zret (v := 0) (ty := .boolean) hx hb hr rfl (fun t ht hW => ⟨⟨0, f, rfl, ⟨hG, (by decide)⟩, by rw [ht]; exact hP, va_K.moved hW.alike hK, pl_in hD⟩, hS.F ht⟩) hS.2.2 dX5_takes_58
        · skip
          rw [← Int32.toInt_inj, ti_0] at c_23
          refine lv_iconst (v := 1) hx hb dX5_takes_53 (by decide) ?_
          refine lv_goto (tgt := 58) hx hb dX5_takes_54 (by decide) ?_
          exact W.zret (v := 1) (ty := .boolean) hx hb hr rfl (fun t ht hW => ⟨⟨1, f, rfl, ⟨hG, (by decide)⟩, by rw [ht]; exact hP, va_K.moved hW.alike hK, pl_in hD⟩, hS.F ht⟩) hS.2.2 dX5_takes_58
  refine lv_icmp_ne (tgt := 27) hx hb dX5_takes_20 (by decide) (fun c_24 => ?_) (fun c_24 => ?_)
  · skip
    rw [← Int32.toInt_inj, ti_1] at c_24
    refine lv_iconst (v := 0) hx hb dX5_takes_27 (by decide) ?_
    exact hcut_19 0 (by decide) ls (lv_sub hl [0, 1, 2, 3] rfl)
  · skip
    rw [← Int32.toInt_inj, ti_1] at c_24
    refine lv_iconst (v := 1) hx hb dX5_takes_23 (by decide) ?_
    refine lv_goto (tgt := 28) hx hb dX5_takes_24 (by decide) ?_
    exact hcut_19 1 (by decide) ls (lv_sub hl [0, 1, 2, 3] rfl)
set_option maxHeartbeats 8000000 in
set_option maxRecDepth 100000 in
theorem s_X5_compile_k5_k7 (l : Launch) (D : va_G) (cI cL cZ cR : ClassId) (kd : Nat → Nat) (L : List Nat) (f : Nat → va_E) (hG : GI (okc cI cL cZ cR L kd) kd L f) (o0 : Nat) (mo0 : o0 ∈ L) (ko0 : kd o0 = 5) (o1 : Nat) (mo1 : o1 ∈ L) (ko1 : kd o1 = 7) : mPV l D cI cL cZ cR yX5_compile cX5_compile 5 none 1 24 [.ref o0, .ref o1] L f (fun (f9 : Nat → va_E) => GI (okc cI cL cZ cR L kd) kd L f9) := by
  obtain ⟨dC, dI⟩ := D
  refine Met.ofW (cc := cX5_compile) (maxL := 5) (ret := none) (by decide) rfl ?_
  intro p e s m args below meth c s₁ B hml hv
  obtain ⟨rfl, hP, hK, hD0, hN⟩ := hv
  have hx := B.exec
  have hb := B.bytes
  have hr := B.returns
  have hU : ∀ w ∈ wsU, w.before _ s = true := fun w h => atoms_spec (ws := wU yX5_compile cX5_compile 5 none) B.pre w (List.mem_cons_of_mem _ h)
  have hown : s.vm.findClass RX5 = some m.cls := findClass_of_methodNamed B.named
  have hlocks := B.notSynchronized
  have hD := pl_in hD0
  have hS : va_S (fun q => q ∈ L) s.heap s.heap [] := va_S.rf
  have hl := lv_entry ([.ref o0, .ref o1]) (n := 5) (Nat.le_of_ble_eq_true rfl)
  rw [lg_entry_eq]
  generalize (lg_sl ([.ref o0, .ref o1]) ++ List.replicate (5 - (lg_sl ([.ref o0, .ref o1])).length) Slot.unset).toArray = ls at hl ⊢
  have hl : lv_has ls 5 [(0, .ref o0), (1, .ref o1)] := hl
  refine lv_iconst (v := 0) hx hb dX5_compile_0 (by decide) ?_
  refine lv_istore_n (lv' := [(2, .int 0), (0, .ref o0), (1, .ref o1)]) hx hb dX5_compile_1 rfl hl (by decide) rfl (fun ls hl => ?_)
  have hloop_9 : ∀ (n : Nat), ∀ (y_7 : Int32), (0 ≤ y_7.toInt ∧ y_7.toInt ≤ 20) → ∀ (f_8 : Nat → va_E), GI (okc cI cL cZ cR L kd) kd L f_8 → ∀ (H : Heap) (locs : List Loc), va_P (dC, dI) vwCl (va_pl L f_8) H → va_D (fun q => q ∈ L) (va_pl L f_8) → va_S (fun q => q ∈ L) s.heap H locs → 20 - y_7.toInt < (n : Int) → ∀ (ls : Array Slot), lv_has ls 5 [(2, .int y_7), (0, .ref o0), (1, .ref o1)] → W p l e (headSpec (wU yX5_compile cX5_compile 5 none) { frames := 1, cells := 0, slots := 0, locals := 24 }).room s m [.ref o0, .ref o1].toArray below meth c H locs 0 0 (MQ below (va_Qv (fun (f9 : Nat → va_E) => GI (okc cI cL cZ cR L kd) kd L f9) (qP (dC, dI) cI cL cZ cR L) (fun q => q ∈ L)) [.ref o0, .ref o1].toArray s 0 0 (fun q => q ∈ L)) (F0 m 2 ls []) := by
    intro n
    induction n with
    | zero => intro y_7 by_7 f_8 hG H locs hP hD hS hmuhloop_9 ls hl; exfalso; omega
    | succ n ih_hloop_9 =>
      intro y_7 by_7 f_8 hG H locs hP hD hS hmuhloop_9 ls hl
      refine lv_iload_n hx hb dX5_compile_2 rfl (lv_at hl 0 rfl) ?_
      refine lv_aload_n hx hb dX5_compile_3 rfl (lv_at hl 2 rfl) ?_
      obtain ⟨a_11, v_12, a_13, a_14, a_15, a_16, v_17, a_18, a_19, a_20, a_21, a_22, v_23, a_24, a_25, a_26, hfo_10, ⟨ma_11, ka_11⟩, bv_12, ⟨ma_13, ka_13⟩, ⟨ma_14, ka_14⟩, ⟨ma_15, ka_15⟩, ⟨ma_16, ka_16⟩, bv_17, ⟨ma_18, ka_18⟩, ⟨ma_19, ka_19⟩, ⟨ma_20, ka_20⟩, ⟨ma_21, ka_21⟩, ⟨ma_22, ka_22⟩, bv_23, ⟨ma_24, ka_24⟩, ⟨ma_25, ka_25⟩, ⟨ma_26, ka_26⟩⟩ := un_7 (hG _ mo1) ko1
      refine tk_getP (D := (dC, dI)) (ci := 7) (v := .int v_17) (C := RX7) (T := TX7) (N := 16) hx hb hU inlX7 hown hK hP mo1 hfo_10 rfl 6 (by decide) (hU _ wd_500) (fun _ h9 => h9) rfl dX5_compile_4 ?_
      refine lv_icmp_ge (tgt := 72) hx hb dX5_compile_7 (by decide) (fun c_27 => ?_) (fun c_27 => ?_)
      · skip
        rw [Int32.le_iff_toInt_le] at c_27
        exact W.vret hx hb hr (fun t ht hW => ⟨⟨f_8, rfl, hG, by rw [ht]; exact hP, va_K.moved hW.alike hK, pl_in hD⟩, hS.F ht⟩) hS.2.2 dX5_compile_72
      · skip
        rw [Int32.le_iff_toInt_le] at c_27
        refine lv_iconst (v := 0) hx hb dX5_compile_10 (by decide) ?_
        refine lv_istore_n (lv' := [(3, .int 0), (2, .int y_7), (0, .ref o0), (1, .ref o1)]) hx hb dX5_compile_11 rfl hl (by decide) rfl (fun ls hl => ?_)
        refine lv_iconst (v := 0) hx hb dX5_compile_12 (by decide) ?_
        refine lv_istore (lv' := [(4, .int 0), (3, .int 0), (2, .int y_7), (0, .ref o0), (1, .ref o1)]) hx hb dX5_compile_13 hl (by decide) rfl (fun ls hl => ?_)
        have hloop_40 : ∀ (n : Nat), ∀ (y_37 : Int32), (0 ≤ y_37.toInt ∧ y_37.toInt ≤ 18) → ∀ (y_38 : Int32), ((-2147483648) ≤ y_38.toInt ∧ y_38.toInt ≤ 2147483647) → ∀ (f_39 : Nat → va_E), GI (okc cI cL cZ cR L kd) kd L f_39 → ∀ (H : Heap) (locs : List Loc), va_P (dC, dI) vwCl (va_pl L f_39) H → va_D (fun q => q ∈ L) (va_pl L f_39) → va_S (fun q => q ∈ L) s.heap H locs → 18 - y_37.toInt < (n : Int) → ∀ (ls : Array Slot), lv_has ls 5 [(4, .int y_37), (3, .int y_38), (2, .int y_7), (0, .ref o0), (1, .ref o1)] → W p l e (headSpec (wU yX5_compile cX5_compile 5 none) { frames := 1, cells := 0, slots := 0, locals := 24 }).room s m [.ref o0, .ref o1].toArray below meth c H locs 0 0 (MQ below (va_Qv (fun (f9 : Nat → va_E) => GI (okc cI cL cZ cR L kd) kd L f9) (qP (dC, dI) cI cL cZ cR L) (fun q => q ∈ L)) [.ref o0, .ref o1].toArray s 0 0 (fun q => q ∈ L)) (F0 m 15 ls []) := by
          intro n
          induction n with
          | zero => intro y_37 by_37 y_38 by_38 f_39 hG H locs hP hD hS hmuhloop_40 ls hl; exfalso; omega
          | succ n ih_hloop_40 =>
            intro y_37 by_37 y_38 by_38 f_39 hG H locs hP hD hS hmuhloop_40 ls hl
            refine lv_iload hx hb dX5_compile_15 (lv_at hl 0 rfl) ?_
            refine lv_aload_n hx hb dX5_compile_17 rfl (lv_at hl 3 rfl) ?_
            obtain ⟨a_42, a_43, a_44, v_45, v_46, v_47, hfo_41, ⟨ma_42, ka_42⟩, ⟨ma_43, ka_43⟩, ⟨ma_44, ka_44⟩⟩ := un_5 (hG _ mo0) ko0
            have bv_45 : ((-2147483648) ≤ v_45.toInt ∧ v_45.toInt ≤ 2147483647) := ⟨i32_lo _, i32_hi _⟩
            have bv_46 : ((-2147483648) ≤ v_46.toInt ∧ v_46.toInt ≤ 2147483647) := ⟨i32_lo _, i32_hi _⟩
            have bv_47 : ((-2147483648) ≤ v_47.toInt ∧ v_47.toInt ≤ 2147483647) := ⟨i32_lo _, i32_hi _⟩
            refine tk_getP (D := (dC, dI)) (ci := 5) (v := .ref a_42) (C := RX5) (T := TX5) (N := 6) hx hb hU inlX5 hown hK hP mo0 hfo_41 rfl 0 (by decide) (hU _ wd_110) (fun _ h9 => h9) rfl dX5_compile_18 ?_
            obtain ⟨g_49, hfo_48, hbg_49⟩ := un_20 (hG _ ma_42) ka_42
            refine tk_alenP (v := 18) hx hb hK hP 0 ma_42 hfo_48 rfl rfl dX5_compile_21 ?_
            refine lv_icmp_ge (tgt := 59) hx hb dX5_compile_22 (by decide) (fun c_50 => ?_) (fun c_50 => ?_)
            · skip
              rw [Int32.le_iff_toInt_le, ti_18] at c_50
              refine lv_aload_n hx hb dX5_compile_59 rfl (lv_at hl 3 rfl) ?_
              refine tk_getP (D := (dC, dI)) (ci := 5) (v := .ref a_44) (C := RX5) (T := TX5) (N := 6) hx hb hU inlX5 hown hK hP mo0 hfo_41 rfl 2 (by decide) (hU _ wd_112) (fun _ h9 => h9) rfl dX5_compile_60 ?_
              refine lv_iload_n hx hb dX5_compile_63 rfl (lv_at hl 2 rfl) ?_
              refine lv_iload_n hx hb dX5_compile_64 rfl (lv_at hl 1 rfl) ?_
              obtain ⟨g_52, hfo_51, hbg_52⟩ := un_21 (hG _ ma_44) ka_44
              refine tk_istP hx hb hK hP hD hS 0 ma_44 hfo_51 rfl (vp_in_iff.mpr (by constructor <;> omega)) dX5_compile_65 (fun H locs hP hD hS => ?_)
              obtain ⟨f_53, ef_53⟩ : ∃ y : Nat → va_E, y = va_up f_39 a_44 (.inl (cI, 20, .inl (upd g_52 (Int32.toNatClampNeg y_7) y_38))) := ⟨_, rfl⟩
              have hP : va_P (dC, dI) vwCl (va_pl L f_53) H := by rw [ef_53]; exact hP
              have hD : va_D (fun q => q ∈ L) (va_pl L f_53) := by rw [ef_53]; exact hD
              have hG : GI (okc cI cL cZ cR L kd) kd L f_53 := by rw [ef_53]; exact hG.set a_44 (mk_21 ka_44 ⟨_, rfl, okI_up hbg_52 ⟨i32_lo _, i32_hi _⟩ _⟩)
              have hfo_54 : f_53 o0 = .inr (5, [.ref a_42, .ref a_43, .ref a_44, .int v_45, .int v_46, .int v_47]) := by rw [ef_53, up_ne (kd_ne ka_44 ko0 (by decide))]; exact hfo_41
              have hfo_55 : f_53 a_42 = .inl (cI, 18, .inl g_49) := by rw [ef_53, up_ne (kd_ne ka_44 ka_42 (by decide))]; exact hfo_48
              have hfo_56 : f_53 a_44 = .inl (cI, 20, .inl (upd g_52 (Int32.toNatClampNeg y_7) y_38)) := by rw [ef_53]; exact up_self
              obtain ⟨x_57, ex_57⟩ : ∃ y : Int32, y_7 + 1 = y := ⟨_, rfl⟩
              have hx_57 : x_57.toInt = y_7.toInt + 1 := by rw [← ex_57, ad_I (by rw [ti_1]; omega) (by rw [ti_1]; omega), ti_1]
              have bx_57 : (1 ≤ x_57.toInt ∧ x_57.toInt ≤ 20) := by constructor <;> omega
              refine lv_iinc (v := x_57) (lv' := [(2, .int x_57), (4, .int y_37), (3, .int y_38), (0, .ref o0), (1, .ref o1)]) hx hb dX5_compile_66 hl (k := 2) rfl ex_57 (by decide) rfl (fun ls hl => ?_)
              refine lv_goto (tgt := 2) hx hb dX5_compile_69 (by decide) ?_
              exact ih_hloop_9 x_57 (by constructor <;> omega) f_53 hG _ _ hP hD hS (by omega) ls (lv_sub hl [0, 3, 4] rfl)
            · skip
              rw [Int32.le_iff_toInt_le, ti_18] at c_50
              refine lv_aload_n hx hb dX5_compile_25 rfl (lv_at hl 3 rfl) ?_
              refine lv_iload hx hb dX5_compile_26 (lv_at hl 0 rfl) ?_
              refine lv_aload_n hx hb dX5_compile_28 rfl (lv_at hl 4 rfl) ?_
              obtain ⟨a_59, v_60, a_61, a_62, a_63, a_64, v_65, a_66, a_67, a_68, a_69, a_70, v_71, a_72, a_73, a_74, hfo_58, ⟨ma_59, ka_59⟩, bv_60, ⟨ma_61, ka_61⟩, ⟨ma_62, ka_62⟩, ⟨ma_63, ka_63⟩, ⟨ma_64, ka_64⟩, bv_65, ⟨ma_66, ka_66⟩, ⟨ma_67, ka_67⟩, ⟨ma_68, ka_68⟩, ⟨ma_69, ka_69⟩, ⟨ma_70, ka_70⟩, bv_71, ⟨ma_72, ka_72⟩, ⟨ma_73, ka_73⟩, ⟨ma_74, ka_74⟩⟩ := un_7 (hG _ mo1) ko1
              refine tk_getP (D := (dC, dI)) (ci := 7) (v := .ref a_63) (C := RX7) (T := TX7) (N := 16) hx hb hU inlX7 hown hK hP mo1 hfo_58 rfl 4 (by decide) (hU _ wd_501) (fun _ h9 => h9) rfl dX5_compile_29 ?_
              refine lv_iload_n hx hb dX5_compile_32 rfl (lv_at hl 2 rfl) ?_
              obtain ⟨g_76, hfo_75, hbg_76⟩ := un_31 (hG _ ma_63) ka_63
              refine tk_ildP hx hb hK hP 0 ma_63 hfo_75 rfl (vp_in_iff.mpr (by constructor <;> omega)) dX5_compile_33 ?_
              refine lv_topi (fun x_77 ex_77 => ?_)
              have bx_77 : (0 ≤ x_77.toInt ∧ x_77.toInt ≤ 8) := by rw [ex_77]; exact hbg_76 _
              refine lv_aload_n hx hb dX5_compile_34 rfl (lv_at hl 4 rfl) ?_
              refine tk_getP (D := (dC, dI)) (ci := 7) (v := .ref a_64) (C := RX7) (T := TX7) (N := 16) hx hb hU inlX7 hown hK hP mo1 hfo_58 rfl 5 (by decide) (hU _ wd_502) (fun _ h9 => h9) rfl dX5_compile_35 ?_
              refine lv_iload_n hx hb dX5_compile_38 rfl (lv_at hl 2 rfl) ?_
              obtain ⟨g_79, hfo_78, hbg_79⟩ := un_31 (hG _ ma_64) ka_64
              refine tk_ildP hx hb hK hP 0 ma_64 hfo_78 rfl (vp_in_iff.mpr (by constructor <;> omega)) dX5_compile_39 ?_
              refine lv_topi (fun x_80 ex_80 => ?_)
              have bx_80 : (0 ≤ x_80.toInt ∧ x_80.toInt ≤ 8) := by rw [ex_80]; exact hbg_79 _
              refine tk_ViP (As := [.int y_37, .int x_77, .int x_80]) (rest := []) (n := 3) hx hb hml hown hU hN (s_X5_takes_k5 l (dC, dI) cI cL cZ cR kd L f_39 hG o0 mo0 ko0 y_37 (by constructor <;> omega) x_77 x_80) wd_503 wd_504 wd_505 wd_102 wd_506 (by decide +kernel) ⟨Nat.le_of_ble_eq_true rfl, Nat.le_of_ble_eq_true rfl⟩ hK hP hD hS mo0 hfo_41 5 rfl rfl rfl hl.1 rfl (Nat.le_of_ble_eq_true rfl) dX5_compile_40 ⟨Nat.le_of_ble_eq_true rfl, Nat.le_of_ble_eq_true rfl⟩ (fun x_81 f_82 H locs hw hP hD hS => ?_)
              obtain ⟨hG, bx_81⟩ := hw
              have hcut_84 : ∀ (y_83 : Int32), ((-2147483648) ≤ y_83.toInt ∧ y_83.toInt ≤ 2147483647) → ∀ (ls : Array Slot), lv_has ls 5 [(4, .int y_37), (3, .int y_83), (2, .int y_7), (0, .ref o0), (1, .ref o1)] → W p l e (headSpec (wU yX5_compile cX5_compile 5 none) { frames := 1, cells := 0, slots := 0, locals := 24 }).room s m [.ref o0, .ref o1].toArray below meth c H locs 0 0 (MQ below (va_Qv (fun (f9 : Nat → va_E) => GI (okc cI cL cZ cR L kd) kd L f9) (qP (dC, dI) cI cL cZ cR L) (fun q => q ∈ L)) [.ref o0, .ref o1].toArray s 0 0 (fun q => q ∈ L)) (F0 m 53 ls []) := by
                intro y_83 by_83 ls hl
                obtain ⟨x_85, ex_85⟩ : ∃ y : Int32, y_37 + 1 = y := ⟨_, rfl⟩
                have hx_85 : x_85.toInt = y_37.toInt + 1 := by rw [← ex_85, ad_I (by rw [ti_1]; omega) (by rw [ti_1]; omega), ti_1]
                have bx_85 : (1 ≤ x_85.toInt ∧ x_85.toInt ≤ 18) := by constructor <;> omega
                refine lv_iinc (v := x_85) (lv' := [(4, .int x_85), (3, .int y_83), (2, .int y_7), (0, .ref o0), (1, .ref o1)]) hx hb dX5_compile_53 hl (k := 0) rfl ex_85 (by decide) rfl (fun ls hl => ?_)
                refine lv_goto (tgt := 15) hx hb dX5_compile_56 (by decide) ?_
                exact ih_hloop_40 x_85 (by constructor <;> omega) y_83 (by constructor <;> omega) f_82 hG _ _ hP hD hS (by omega) ls (lv_sub hl [0, 1, 2, 3, 4] rfl)
              refine lv_if_eq (tgt := 53) hx hb dX5_compile_43 (by decide) (fun c_86 => ?_) (fun c_86 => ?_)
              · skip
                rw [← Int32.toInt_inj, ti_0] at c_86
                exact hcut_84 y_38 (by constructor <;> omega) ls (lv_sub hl [0, 1, 2, 3, 4] rfl)
              · skip
                rw [← Int32.toInt_inj, ti_0] at c_86
                refine lv_iload_n hx hb dX5_compile_46 rfl (lv_at hl 1 rfl) ?_
                refine lv_iconst (v := 1) hx hb dX5_compile_47 (by decide) ?_
                refine lv_iload hx hb dX5_compile_48 (lv_at hl 0 rfl) ?_
                refine lv_ishl hx hb dX5_compile_50 ?_
                refine lv_topi (fun x_87 ex_87 => ?_)
                have bx_87 : ((-2147483648) ≤ x_87.toInt ∧ x_87.toInt ≤ 2147483647) := ⟨i32_lo _, i32_hi _⟩
                refine lv_ior hx hb dX5_compile_51 ?_
                refine lv_topi (fun x_88 ex_88 => ?_)
                have bx_88 : ((-2147483648) ≤ x_88.toInt ∧ x_88.toInt ≤ 2147483647) := ⟨i32_lo _, i32_hi _⟩
                refine lv_istore_n (lv' := [(3, .int x_88), (4, .int y_37), (2, .int y_7), (0, .ref o0), (1, .ref o1)]) hx hb dX5_compile_52 rfl hl (by decide) rfl (fun ls hl => ?_)
                exact hcut_84 x_88 (by constructor <;> omega) ls (lv_sub hl [1, 0, 2, 3, 4] rfl)
        exact hloop_40 19 0 (by decide) 0 (by decide) f_8 hG _ _ hP hD hS (by (try simp only [ti_0]); omega) ls hl
  exact hloop_9 21 0 (by decide) f hG _ _ hP hD hS (by (try simp only [ti_0]); omega) ls hl
