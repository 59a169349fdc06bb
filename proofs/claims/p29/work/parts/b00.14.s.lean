set_option maxHeartbeats 8000000 in
set_option maxRecDepth 100000 in
theorem s_X5_copyFrom_k5_k205 (l : Launch) (D : va_G) (cI cL cZ cR cG cH : ClassId) (Z : zT) (kd : Nat → Nat) (L : List Nat) (f : Nat → va_E) (hG : GI (okc cI cL cZ cR cG cH L kd) kd L f) (o0 : Nat) (mo0 : o0 ∈ L) (ko0 : kd o0 = 5) (o1 : Nat) (mo1 : o1 ∈ L) (ko1 : kd o1 = 205) : mPV l D cI cL cZ cR cG cH Z yX5_copyFrom cX5_copyFrom 2 none 1 40 [.ref o0, .ref o1] L f (fun (f9 : Nat → va_E) => GI (okc cI cL cZ cR cG cH L kd) kd L f9 ∧ (∀ b, kd b ≠ 5 → kd b ≠ 500 → kd b ≠ 501 → f9 b = f b)) := by
  obtain ⟨dC, dI⟩ := D
  refine Met.ofW (cc := cX5_copyFrom) (maxL := 2) (ret := none) (by decide) rfl ?_
  intro p e s m args below meth c s₁ B hml hv
  obtain ⟨rfl, hP, hK, hD0, hN, hZ⟩ := hv
  have hx := B.exec
  have hb := B.bytes
  have hr := B.returns
  have hU : ∀ w ∈ wsU, w.before _ s = true := fun w h => atoms_spec (ws := wU yX5_copyFrom cX5_copyFrom 2 none) B.pre w (List.mem_cons_of_mem _ h)
  have hown : s.vm.findClass RX5 = some m.cls := findClass_of_methodNamed B.named
  have hlocks := B.notSynchronized
  have hD := pl_in hD0
  have hS : va_S (fun q => q ∈ L) s.heap s.heap [] := va_S.rf
  have hl := lv_entry ([.ref o0, .ref o1]) (n := 2) (Nat.le_of_ble_eq_true rfl)
  rw [lg_entry_eq]
  generalize (lg_sl ([.ref o0, .ref o1]) ++ List.replicate (2 - (lg_sl ([.ref o0, .ref o1])).length) Slot.unset).toArray = ls at hl ⊢
  have hl : lv_has ls 2 [(0, .ref o0), (1, .ref o1)] := hl
  have hfr0 : ∀ b, kd b ≠ 5 → kd b ≠ 500 → kd b ≠ 501 → f b = f b := fun _ _ _ _ => rfl
  refine lv_aload_n hx hb dX5_copyFrom_0 rfl (lv_at hl 1 rfl) ?_
  obtain ⟨a_2, a_3, a_4, v_5, v_6, v_7, hfo_1, ⟨ma_2, ka_2⟩, ⟨ma_3, ka_3⟩, ⟨ma_4, ka_4⟩⟩ := un_205 (hG _ mo1) ko1
  have bv_5 : ((-2147483648) ≤ v_5.toInt ∧ v_5.toInt ≤ 2147483647) := ⟨i32_lo _, i32_hi _⟩
  have bv_6 : ((-2147483648) ≤ v_6.toInt ∧ v_6.toInt ≤ 2147483647) := ⟨i32_lo _, i32_hi _⟩
  have bv_7 : ((-2147483648) ≤ v_7.toInt ∧ v_7.toInt ≤ 2147483647) := ⟨i32_lo _, i32_hi _⟩
  refine tk_getP (D := (dC, dI)) (ci := 5) (v := .ref a_2) (C := RX5) (T := TX5) (N := 6) hx hb hU inlX5 hown hK hP mo1 hfo_1 rfl 0 (by decide) (hU _ wd_110) (fun _ h9 => h9) rfl dX5_copyFrom_1 ?_
  refine lv_iconst (v := 0) hx hb dX5_copyFrom_4 (by decide) ?_
  refine lv_aload_n hx hb dX5_copyFrom_5 rfl (lv_at hl 0 rfl) ?_
  obtain ⟨a_9, a_10, a_11, v_12, v_13, v_14, hfo_8, ⟨ma_9, ka_9⟩, ⟨ma_10, ka_10⟩, ⟨ma_11, ka_11⟩⟩ := un_5 (hG _ mo0) ko0
  have bv_12 : ((-2147483648) ≤ v_12.toInt ∧ v_12.toInt ≤ 2147483647) := ⟨i32_lo _, i32_hi _⟩
  have bv_13 : ((-2147483648) ≤ v_13.toInt ∧ v_13.toInt ≤ 2147483647) := ⟨i32_lo _, i32_hi _⟩
  have bv_14 : ((-2147483648) ≤ v_14.toInt ∧ v_14.toInt ≤ 2147483647) := ⟨i32_lo _, i32_hi _⟩
  refine tk_getP (D := (dC, dI)) (ci := 5) (v := .ref a_9) (C := RX5) (T := TX5) (N := 6) hx hb hU inlX5 hown hK hP mo0 hfo_8 rfl 0 (by decide) (hU _ wd_110) (fun _ h9 => h9) rfl dX5_copyFrom_6 ?_
  refine lv_iconst (v := 0) hx hb dX5_copyFrom_9 (by decide) ?_
  refine lv_aload_n hx hb dX5_copyFrom_10 rfl (lv_at hl 0 rfl) ?_
  refine tk_getP (D := (dC, dI)) (ci := 5) (v := .ref a_9) (C := RX5) (T := TX5) (N := 6) hx hb hU inlX5 hown hK hP mo0 hfo_8 rfl 0 (by decide) (hU _ wd_110) (fun _ h9 => h9) rfl dX5_copyFrom_11 ?_
  obtain ⟨g_16, hfo_15, hbg_16⟩ := un_500 (hG _ ma_9) ka_9
  refine tk_alenP (v := 18) hx hb hK hP 0 ma_9 hfo_15 rfl rfl dX5_copyFrom_14 ?_
  obtain ⟨g_18, hfo_17, hbg_18⟩ := un_558 (hG _ ma_2) ka_2
  refine tk_copyP hx hb (by rw [hml]; exact hl.1.symm) hown (hU _ wd_466) (hU _ wd_253) (hU _ wd_254) (hU _ wd_255) hK hP hD hS 0 ma_2 ma_9 hfo_17 hfo_15 rfl (by decide) (by decide) (by decide) (by decide) (by decide) (Nat.le_of_ble_eq_true rfl) (Nat.le_of_ble_eq_true rfl) dX5_copyFrom_15 (fun H locs hP hD hS => ?_)
  obtain ⟨f_20, ef_20⟩ : ∃ y : Nat → va_E, y = va_up f a_9 (.inl (cI, 18, .inl (va_cpy g_18 g_16 (Int32.toNatClampNeg 0) (Int32.toNatClampNeg 0) (Int32.toNatClampNeg 18)))) := ⟨_, rfl⟩
  have hP : va_P (dC, dI) vwCl (va_pl L f_20) H := by rw [ef_20]; exact hP
  have hD : va_D (fun q => q ∈ L) (va_pl L f_20) := by rw [ef_20]; exact hD
  have hG : GI (okc cI cL cZ cR cG cH L kd) kd L f_20 := by rw [ef_20]; exact hG.set a_9 (mk_500 ka_9 ⟨_, rfl, okI_cpy (fun j => by have := hbg_18 j; constructor <;> omega) hbg_16 _ _ _⟩)
  have hfo_21 : f_20 o1 = .inr (5, [.ref a_2, .ref a_3, .ref a_4, .int v_5, .int v_6, .int v_7]) := by rw [ef_20, up_ne (kd_ne ka_9 ko1 (by decide))]; exact hfo_1
  have hfo_22 : f_20 o0 = .inr (5, [.ref a_9, .ref a_10, .ref a_11, .int v_12, .int v_13, .int v_14]) := by rw [ef_20, up_ne (kd_ne ka_9 ko0 (by decide))]; exact hfo_8
  have hfo_23 : f_20 a_2 = .inl (cI, 18, .inl g_18) := by rw [ef_20, up_ne (kd_ne ka_9 ka_2 (by decide))]; exact hfo_17
  have hfr0 : ∀ b, kd b ≠ 5 → kd b ≠ 500 → kd b ≠ 501 → f_20 b = f b := fun b q5 q500 q501 => (congrFun ef_20 b).trans ((up_ne (fun e9 => q500 (by rw [e9]; exact ka_9))).trans (hfr0 b q5 q500 q501))
  have hfo_24 : f_20 a_9 = .inl (cI, 18, .inl (va_cpy g_18 g_16 (Int32.toNatClampNeg 0) (Int32.toNatClampNeg 0) (Int32.toNatClampNeg 18))) := by rw [ef_20]; exact up_self
  refine lv_aload_n hx hb dX5_copyFrom_18 rfl (lv_at hl 1 rfl) ?_
  refine tk_getP (D := (dC, dI)) (ci := 5) (v := .ref a_3) (C := RX5) (T := TX5) (N := 6) hx hb hU inlX5 hown hK hP mo1 hfo_21 rfl 1 (by decide) (hU _ wd_111) (fun _ h9 => h9) rfl dX5_copyFrom_19 ?_
  refine lv_iconst (v := 0) hx hb dX5_copyFrom_22 (by decide) ?_
  refine lv_aload_n hx hb dX5_copyFrom_23 rfl (lv_at hl 0 rfl) ?_
  refine tk_getP (D := (dC, dI)) (ci := 5) (v := .ref a_10) (C := RX5) (T := TX5) (N := 6) hx hb hU inlX5 hown hK hP mo0 hfo_22 rfl 1 (by decide) (hU _ wd_111) (fun _ h9 => h9) rfl dX5_copyFrom_24 ?_
  refine lv_iconst (v := 0) hx hb dX5_copyFrom_27 (by decide) ?_
  refine lv_aload_n hx hb dX5_copyFrom_28 rfl (lv_at hl 0 rfl) ?_
  refine tk_getP (D := (dC, dI)) (ci := 5) (v := .ref a_10) (C := RX5) (T := TX5) (N := 6) hx hb hU inlX5 hown hK hP mo0 hfo_22 rfl 1 (by decide) (hU _ wd_111) (fun _ h9 => h9) rfl dX5_copyFrom_29 ?_
  obtain ⟨g_26, hfo_25, hbg_26⟩ := un_500 (hG _ ma_10) ka_10
  refine tk_alenP (v := 18) hx hb hK hP 0 ma_10 hfo_25 rfl rfl dX5_copyFrom_32 ?_
  obtain ⟨g_28, hfo_27, hbg_28⟩ := un_558 (hG _ ma_3) ka_3
  refine tk_copyP hx hb (by rw [hml]; exact hl.1.symm) hown (hU _ wd_466) (hU _ wd_253) (hU _ wd_254) (hU _ wd_255) hK hP hD hS 0 ma_3 ma_10 hfo_27 hfo_25 rfl (by decide) (by decide) (by decide) (by decide) (by decide) (Nat.le_of_ble_eq_true rfl) (Nat.le_of_ble_eq_true rfl) dX5_copyFrom_33 (fun H locs hP hD hS => ?_)
  obtain ⟨f_30, ef_30⟩ : ∃ y : Nat → va_E, y = va_up f_20 a_10 (.inl (cI, 18, .inl (va_cpy g_28 g_26 (Int32.toNatClampNeg 0) (Int32.toNatClampNeg 0) (Int32.toNatClampNeg 18)))) := ⟨_, rfl⟩
  have hP : va_P (dC, dI) vwCl (va_pl L f_30) H := by rw [ef_30]; exact hP
  have hD : va_D (fun q => q ∈ L) (va_pl L f_30) := by rw [ef_30]; exact hD
  have hG : GI (okc cI cL cZ cR cG cH L kd) kd L f_30 := by rw [ef_30]; exact hG.set a_10 (mk_500 ka_10 ⟨_, rfl, okI_cpy (fun j => by have := hbg_28 j; constructor <;> omega) hbg_26 _ _ _⟩)
  have hfo_31 : f_30 o1 = .inr (5, [.ref a_2, .ref a_3, .ref a_4, .int v_5, .int v_6, .int v_7]) := by rw [ef_30, up_ne (kd_ne ka_10 ko1 (by decide))]; exact hfo_21
  have hfo_32 : f_30 o0 = .inr (5, [.ref a_9, .ref a_10, .ref a_11, .int v_12, .int v_13, .int v_14]) := by rw [ef_30, up_ne (kd_ne ka_10 ko0 (by decide))]; exact hfo_22
  have hfo_33 : f_30 a_2 = .inl (cI, 18, .inl g_18) := by rw [ef_30, up_ne (kd_ne ka_10 ka_2 (by decide))]; exact hfo_23
  have hfo_34 : f_30 a_3 = .inl (cI, 18, .inl g_28) := by rw [ef_30, up_ne (kd_ne ka_10 ka_3 (by decide))]; exact hfo_27
  have hfr0 : ∀ b, kd b ≠ 5 → kd b ≠ 500 → kd b ≠ 501 → f_30 b = f b := fun b q5 q500 q501 => (congrFun ef_30 b).trans ((up_ne (fun e9 => q500 (by rw [e9]; exact ka_10))).trans (hfr0 b q5 q500 q501))
  have hfo_35 : f_30 a_10 = .inl (cI, 18, .inl (va_cpy g_28 g_26 (Int32.toNatClampNeg 0) (Int32.toNatClampNeg 0) (Int32.toNatClampNeg 18))) := by rw [ef_30]; exact up_self
  refine lv_aload_n hx hb dX5_copyFrom_36 rfl (lv_at hl 1 rfl) ?_
  refine tk_getP (D := (dC, dI)) (ci := 5) (v := .ref a_4) (C := RX5) (T := TX5) (N := 6) hx hb hU inlX5 hown hK hP mo1 hfo_31 rfl 2 (by decide) (hU _ wd_112) (fun _ h9 => h9) rfl dX5_copyFrom_37 ?_
  refine lv_iconst (v := 0) hx hb dX5_copyFrom_40 (by decide) ?_
  refine lv_aload_n hx hb dX5_copyFrom_41 rfl (lv_at hl 0 rfl) ?_
  refine tk_getP (D := (dC, dI)) (ci := 5) (v := .ref a_11) (C := RX5) (T := TX5) (N := 6) hx hb hU inlX5 hown hK hP mo0 hfo_32 rfl 2 (by decide) (hU _ wd_112) (fun _ h9 => h9) rfl dX5_copyFrom_42 ?_
  refine lv_iconst (v := 0) hx hb dX5_copyFrom_45 (by decide) ?_
  refine lv_aload_n hx hb dX5_copyFrom_46 rfl (lv_at hl 0 rfl) ?_
  refine tk_getP (D := (dC, dI)) (ci := 5) (v := .ref a_11) (C := RX5) (T := TX5) (N := 6) hx hb hU inlX5 hown hK hP mo0 hfo_32 rfl 2 (by decide) (hU _ wd_112) (fun _ h9 => h9) rfl dX5_copyFrom_47 ?_
  obtain ⟨g_37, hfo_36, hbg_37⟩ := un_501 (hG _ ma_11) ka_11
  refine tk_alenP (v := 20) hx hb hK hP 0 ma_11 hfo_36 rfl rfl dX5_copyFrom_50 ?_
  obtain ⟨g_39, hfo_38, hbg_39⟩ := un_559 (hG _ ma_4) ka_4
  refine tk_copyP hx hb (by rw [hml]; exact hl.1.symm) hown (hU _ wd_466) (hU _ wd_253) (hU _ wd_254) (hU _ wd_255) hK hP hD hS 0 ma_4 ma_11 hfo_38 hfo_36 rfl (by decide) (by decide) (by decide) (by decide) (by decide) (Nat.le_of_ble_eq_true rfl) (Nat.le_of_ble_eq_true rfl) dX5_copyFrom_51 (fun H locs hP hD hS => ?_)
  obtain ⟨f_41, ef_41⟩ : ∃ y : Nat → va_E, y = va_up f_30 a_11 (.inl (cI, 20, .inl (va_cpy g_39 g_37 (Int32.toNatClampNeg 0) (Int32.toNatClampNeg 0) (Int32.toNatClampNeg 20)))) := ⟨_, rfl⟩
  have hP : va_P (dC, dI) vwCl (va_pl L f_41) H := by rw [ef_41]; exact hP
  have hD : va_D (fun q => q ∈ L) (va_pl L f_41) := by rw [ef_41]; exact hD
  have hG : GI (okc cI cL cZ cR cG cH L kd) kd L f_41 := by rw [ef_41]; exact hG.set a_11 (mk_501 ka_11 ⟨_, rfl, okI_cpy (fun j => by have := hbg_39 j; constructor <;> omega) hbg_37 _ _ _⟩)
  have hfo_42 : f_41 o1 = .inr (5, [.ref a_2, .ref a_3, .ref a_4, .int v_5, .int v_6, .int v_7]) := by rw [ef_41, up_ne (kd_ne ka_11 ko1 (by decide))]; exact hfo_31
  have hfo_43 : f_41 o0 = .inr (5, [.ref a_9, .ref a_10, .ref a_11, .int v_12, .int v_13, .int v_14]) := by rw [ef_41, up_ne (kd_ne ka_11 ko0 (by decide))]; exact hfo_32
  have hfo_44 : f_41 a_2 = .inl (cI, 18, .inl g_18) := by rw [ef_41, up_ne (kd_ne ka_11 ka_2 (by decide))]; exact hfo_33
  have hfo_45 : f_41 a_3 = .inl (cI, 18, .inl g_28) := by rw [ef_41, up_ne (kd_ne ka_11 ka_3 (by decide))]; exact hfo_34
  have hfo_46 : f_41 a_4 = .inl (cI, 20, .inl g_39) := by rw [ef_41, up_ne (kd_ne ka_11 ka_4 (by decide))]; exact hfo_38
  have hfr0 : ∀ b, kd b ≠ 5 → kd b ≠ 500 → kd b ≠ 501 → f_41 b = f b := fun b q5 q500 q501 => (congrFun ef_41 b).trans ((up_ne (fun e9 => q501 (by rw [e9]; exact ka_11))).trans (hfr0 b q5 q500 q501))
  have hfo_47 : f_41 a_11 = .inl (cI, 20, .inl (va_cpy g_39 g_37 (Int32.toNatClampNeg 0) (Int32.toNatClampNeg 0) (Int32.toNatClampNeg 20))) := by rw [ef_41]; exact up_self
  refine lv_aload_n hx hb dX5_copyFrom_54 rfl (lv_at hl 0 rfl) ?_
  refine lv_aload_n hx hb dX5_copyFrom_55 rfl (lv_at hl 1 rfl) ?_
  refine tk_getP (D := (dC, dI)) (ci := 5) (v := .int v_5) (C := RX5) (T := TX5) (N := 6) hx hb hU inlX5 hown hK hP mo1 hfo_42 rfl 3 (by decide) (hU _ wd_415) (fun _ h9 => h9) rfl dX5_copyFrom_56 ?_
  refine tk_putP (D := (dC, dI)) (ci := 5) (v := .int v_5) (ty := .int) (C := RX5) (T := TX5) (N := 6) hx hb hU inlX5 tyX5 tyX5_ok nmX5 hown hK hP hD hS mo0 hfo_43 rfl 3 (by decide) (hU _ wd_415) (fun _ h9 => h9) rfl (by decide +kernel) rfl rfl (Nat.le_of_ble_eq_true rfl) dX5_copyFrom_59 (fun H locs hP hD hS => ?_)
  obtain ⟨f_49, ef_49⟩ : ∃ y : Nat → va_E, y = va_up f_41 o0 (.inr (5, [.ref a_9, .ref a_10, .ref a_11, .int v_5, .int v_13, .int v_14])) := ⟨_, rfl⟩
  have hP : va_P (dC, dI) vwCl (va_pl L f_49) H := by rw [ef_49]; exact hP
  have hD : va_D (fun q => q ∈ L) (va_pl L f_49) := by rw [ef_49]; exact hD
  have hG : GI (okc cI cL cZ cR cG cH L kd) kd L f_49 := by rw [ef_49]; exact hG.set o0 (mk_5 ko0 ⟨a_9, a_10, a_11, v_5, v_13, v_14, rfl, ⟨ma_9, ka_9⟩, ⟨ma_10, ka_10⟩, ⟨ma_11, ka_11⟩⟩)
  have hfo_50 : f_49 o1 = .inr (5, [.ref a_2, .ref a_3, .ref a_4, .int v_5, .int v_6, .int v_7]) := by rw [ef_49, up_ne (kd_ne ko0 ko1 (by decide))]; exact hfo_42
  have hfo_51 : f_49 a_2 = .inl (cI, 18, .inl g_18) := by rw [ef_49, up_ne (kd_ne ko0 ka_2 (by decide))]; exact hfo_44
  have hfo_52 : f_49 a_3 = .inl (cI, 18, .inl g_28) := by rw [ef_49, up_ne (kd_ne ko0 ka_3 (by decide))]; exact hfo_45
  have hfo_53 : f_49 a_4 = .inl (cI, 20, .inl g_39) := by rw [ef_49, up_ne (kd_ne ko0 ka_4 (by decide))]; exact hfo_46
  have hfr0 : ∀ b, kd b ≠ 5 → kd b ≠ 500 → kd b ≠ 501 → f_49 b = f b := fun b q5 q500 q501 => (congrFun ef_49 b).trans ((up_ne (fun e9 => q5 (by rw [e9]; exact ko0))).trans (hfr0 b q5 q500 q501))
  have hfo_54 : f_49 o0 = .inr (5, [.ref a_9, .ref a_10, .ref a_11, .int v_5, .int v_13, .int v_14]) := by rw [ef_49]; exact up_self
  refine lv_aload_n hx hb dX5_copyFrom_62 rfl (lv_at hl 0 rfl) ?_
  refine lv_aload_n hx hb dX5_copyFrom_63 rfl (lv_at hl 1 rfl) ?_
  refine tk_getP (D := (dC, dI)) (ci := 5) (v := .int v_6) (C := RX5) (T := TX5) (N := 6) hx hb hU inlX5 hown hK hP mo1 hfo_50 rfl 4 (by decide) (hU _ wd_416) (fun _ h9 => h9) rfl dX5_copyFrom_64 ?_
  refine tk_putP (D := (dC, dI)) (ci := 5) (v := .int v_6) (ty := .int) (C := RX5) (T := TX5) (N := 6) hx hb hU inlX5 tyX5 tyX5_ok nmX5 hown hK hP hD hS mo0 hfo_54 rfl 4 (by decide) (hU _ wd_416) (fun _ h9 => h9) rfl (by decide +kernel) rfl rfl (Nat.le_of_ble_eq_true rfl) dX5_copyFrom_67 (fun H locs hP hD hS => ?_)
  obtain ⟨f_56, ef_56⟩ : ∃ y : Nat → va_E, y = va_up f_49 o0 (.inr (5, [.ref a_9, .ref a_10, .ref a_11, .int v_5, .int v_6, .int v_14])) := ⟨_, rfl⟩
  have hP : va_P (dC, dI) vwCl (va_pl L f_56) H := by rw [ef_56]; exact hP
  have hD : va_D (fun q => q ∈ L) (va_pl L f_56) := by rw [ef_56]; exact hD
  have hG : GI (okc cI cL cZ cR cG cH L kd) kd L f_56 := by rw [ef_56]; exact hG.set o0 (mk_5 ko0 ⟨a_9, a_10, a_11, v_5, v_6, v_14, rfl, ⟨ma_9, ka_9⟩, ⟨ma_10, ka_10⟩, ⟨ma_11, ka_11⟩⟩)
  have hfo_57 : f_56 o1 = .inr (5, [.ref a_2, .ref a_3, .ref a_4, .int v_5, .int v_6, .int v_7]) := by rw [ef_56, up_ne (kd_ne ko0 ko1 (by decide))]; exact hfo_50
  have hfo_58 : f_56 a_2 = .inl (cI, 18, .inl g_18) := by rw [ef_56, up_ne (kd_ne ko0 ka_2 (by decide))]; exact hfo_51
  have hfo_59 : f_56 a_3 = .inl (cI, 18, .inl g_28) := by rw [ef_56, up_ne (kd_ne ko0 ka_3 (by decide))]; exact hfo_52
  have hfo_60 : f_56 a_4 = .inl (cI, 20, .inl g_39) := by rw [ef_56, up_ne (kd_ne ko0 ka_4 (by decide))]; exact hfo_53
  have hfr0 : ∀ b, kd b ≠ 5 → kd b ≠ 500 → kd b ≠ 501 → f_56 b = f b := fun b q5 q500 q501 => (congrFun ef_56 b).trans ((up_ne (fun e9 => q5 (by rw [e9]; exact ko0))).trans (hfr0 b q5 q500 q501))
  have hfo_61 : f_56 o0 = .inr (5, [.ref a_9, .ref a_10, .ref a_11, .int v_5, .int v_6, .int v_14]) := by rw [ef_56]; exact up_self
  refine lv_aload_n hx hb dX5_copyFrom_70 rfl (lv_at hl 0 rfl) ?_
  refine lv_aload_n hx hb dX5_copyFrom_71 rfl (lv_at hl 1 rfl) ?_
  refine tk_getP (D := (dC, dI)) (ci := 5) (v := .int v_7) (C := RX5) (T := TX5) (N := 6) hx hb hU inlX5 hown hK hP mo1 hfo_57 rfl 5 (by decide) (hU _ wd_417) (fun _ h9 => h9) rfl dX5_copyFrom_72 ?_
  refine tk_putP (D := (dC, dI)) (ci := 5) (v := .int v_7) (ty := .int) (C := RX5) (T := TX5) (N := 6) hx hb hU inlX5 tyX5 tyX5_ok nmX5 hown hK hP hD hS mo0 hfo_61 rfl 5 (by decide) (hU _ wd_417) (fun _ h9 => h9) rfl (by decide +kernel) rfl rfl (Nat.le_of_ble_eq_true rfl) dX5_copyFrom_75 (fun H locs hP hD hS => ?_)
  obtain ⟨f_63, ef_63⟩ : ∃ y : Nat → va_E, y = va_up f_56 o0 (.inr (5, [.ref a_9, .ref a_10, .ref a_11, .int v_5, .int v_6, .int v_7])) := ⟨_, rfl⟩
  have hP : va_P (dC, dI) vwCl (va_pl L f_63) H := by rw [ef_63]; exact hP
  have hD : va_D (fun q => q ∈ L) (va_pl L f_63) := by rw [ef_63]; exact hD
  have hG : GI (okc cI cL cZ cR cG cH L kd) kd L f_63 := by rw [ef_63]; exact hG.set o0 (mk_5 ko0 ⟨a_9, a_10, a_11, v_5, v_6, v_7, rfl, ⟨ma_9, ka_9⟩, ⟨ma_10, ka_10⟩, ⟨ma_11, ka_11⟩⟩)
  have hfo_64 : f_63 o1 = .inr (5, [.ref a_2, .ref a_3, .ref a_4, .int v_5, .int v_6, .int v_7]) := by rw [ef_63, up_ne (kd_ne ko0 ko1 (by decide))]; exact hfo_57
  have hfo_65 : f_63 a_2 = .inl (cI, 18, .inl g_18) := by rw [ef_63, up_ne (kd_ne ko0 ka_2 (by decide))]; exact hfo_58
  have hfo_66 : f_63 a_3 = .inl (cI, 18, .inl g_28) := by rw [ef_63, up_ne (kd_ne ko0 ka_3 (by decide))]; exact hfo_59
  have hfo_67 : f_63 a_4 = .inl (cI, 20, .inl g_39) := by rw [ef_63, up_ne (kd_ne ko0 ka_4 (by decide))]; exact hfo_60
  have hfr0 : ∀ b, kd b ≠ 5 → kd b ≠ 500 → kd b ≠ 501 → f_63 b = f b := fun b q5 q500 q501 => (congrFun ef_63 b).trans ((up_ne (fun e9 => q5 (by rw [e9]; exact ko0))).trans (hfr0 b q5 q500 q501))
  have hfo_68 : f_63 o0 = .inr (5, [.ref a_9, .ref a_10, .ref a_11, .int v_5, .int v_6, .int v_7]) := by rw [ef_63]; exact up_self
  exact W.vret hx hb hr (fun t ht hW => ⟨⟨f_63, rfl, ⟨hG, hfr0⟩, by rw [ht]; exact hP, va_K.moved hW.alike hK, pl_in hD⟩, hS.F ht⟩) hS.2.2 dX5_copyFrom_78
set_option maxHeartbeats 8000000 in
set_option maxRecDepth 100000 in
theorem s_X5_copyFrom_k105_k5 (l : Launch) (D : va_G) (cI cL cZ cR cG cH : ClassId) (Z : zT) (kd : Nat → Nat) (L : List Nat) (f : Nat → va_E) (hG : GI (okc cI cL cZ cR cG cH L kd) kd L f) (o0 : Nat) (mo0 : o0 ∈ L) (ko0 : kd o0 = 105) (o1 : Nat) (mo1 : o1 ∈ L) (ko1 : kd o1 = 5) : mPV l D cI cL cZ cR cG cH Z yX5_copyFrom cX5_copyFrom 2 none 1 40 [.ref o0, .ref o1] L f (fun (f9 : Nat → va_E) => GI (okc cI cL cZ cR cG cH L kd) kd L f9 ∧ (∀ b, kd b ≠ 105 → kd b ≠ 541 → kd b ≠ 542 → f9 b = f b)) := by
  obtain ⟨dC, dI⟩ := D
  refine Met.ofW (cc := cX5_copyFrom) (maxL := 2) (ret := none) (by decide) rfl ?_
  intro p e s m args below meth c s₁ B hml hv
  obtain ⟨rfl, hP, hK, hD0, hN, hZ⟩ := hv
  have hx := B.exec
  have hb := B.bytes
  have hr := B.returns
  have hU : ∀ w ∈ wsU, w.before _ s = true := fun w h => atoms_spec (ws := wU yX5_copyFrom cX5_copyFrom 2 none) B.pre w (List.mem_cons_of_mem _ h)
  have hown : s.vm.findClass RX5 = some m.cls := findClass_of_methodNamed B.named
  have hlocks := B.notSynchronized
  have hD := pl_in hD0
  have hS : va_S (fun q => q ∈ L) s.heap s.heap [] := va_S.rf
  have hl := lv_entry ([.ref o0, .ref o1]) (n := 2) (Nat.le_of_ble_eq_true rfl)
  rw [lg_entry_eq]
  generalize (lg_sl ([.ref o0, .ref o1]) ++ List.replicate (2 - (lg_sl ([.ref o0, .ref o1])).length) Slot.unset).toArray = ls at hl ⊢
  have hl : lv_has ls 2 [(0, .ref o0), (1, .ref o1)] := hl
  have hfr0 : ∀ b, kd b ≠ 105 → kd b ≠ 541 → kd b ≠ 542 → f b = f b := fun _ _ _ _ => rfl
  refine lv_aload_n hx hb dX5_copyFrom_0 rfl (lv_at hl 1 rfl) ?_
  obtain ⟨a_2, a_3, a_4, v_5, v_6, v_7, hfo_1, ⟨ma_2, ka_2⟩, ⟨ma_3, ka_3⟩, ⟨ma_4, ka_4⟩⟩ := un_5 (hG _ mo1) ko1
  have bv_5 : ((-2147483648) ≤ v_5.toInt ∧ v_5.toInt ≤ 2147483647) := ⟨i32_lo _, i32_hi _⟩
  have bv_6 : ((-2147483648) ≤ v_6.toInt ∧ v_6.toInt ≤ 2147483647) := ⟨i32_lo _, i32_hi _⟩
  have bv_7 : ((-2147483648) ≤ v_7.toInt ∧ v_7.toInt ≤ 2147483647) := ⟨i32_lo _, i32_hi _⟩
  refine tk_getP (D := (dC, dI)) (ci := 5) (v := .ref a_2) (C := RX5) (T := TX5) (N := 6) hx hb hU inlX5 hown hK hP mo1 hfo_1 rfl 0 (by decide) (hU _ wd_110) (fun _ h9 => h9) rfl dX5_copyFrom_1 ?_
  refine lv_iconst (v := 0) hx hb dX5_copyFrom_4 (by decide) ?_
  refine lv_aload_n hx hb dX5_copyFrom_5 rfl (lv_at hl 0 rfl) ?_
  obtain ⟨a_9, a_10, a_11, v_12, v_13, v_14, hfo_8, ⟨ma_9, ka_9⟩, ⟨ma_10, ka_10⟩, ⟨ma_11, ka_11⟩⟩ := un_105 (hG _ mo0) ko0
  have bv_12 : ((-2147483648) ≤ v_12.toInt ∧ v_12.toInt ≤ 2147483647) := ⟨i32_lo _, i32_hi _⟩
  have bv_13 : ((-2147483648) ≤ v_13.toInt ∧ v_13.toInt ≤ 2147483647) := ⟨i32_lo _, i32_hi _⟩
  have bv_14 : ((-2147483648) ≤ v_14.toInt ∧ v_14.toInt ≤ 2147483647) := ⟨i32_lo _, i32_hi _⟩
  refine tk_getP (D := (dC, dI)) (ci := 5) (v := .ref a_9) (C := RX5) (T := TX5) (N := 6) hx hb hU inlX5 hown hK hP mo0 hfo_8 rfl 0 (by decide) (hU _ wd_110) (fun _ h9 => h9) rfl dX5_copyFrom_6 ?_
  refine lv_iconst (v := 0) hx hb dX5_copyFrom_9 (by decide) ?_
  refine lv_aload_n hx hb dX5_copyFrom_10 rfl (lv_at hl 0 rfl) ?_
  refine tk_getP (D := (dC, dI)) (ci := 5) (v := .ref a_9) (C := RX5) (T := TX5) (N := 6) hx hb hU inlX5 hown hK hP mo0 hfo_8 rfl 0 (by decide) (hU _ wd_110) (fun _ h9 => h9) rfl dX5_copyFrom_11 ?_
  obtain ⟨g_16, hfo_15, hbg_16⟩ := un_541 (hG _ ma_9) ka_9
  refine tk_alenP (v := 18) hx hb hK hP 0 ma_9 hfo_15 rfl rfl dX5_copyFrom_14 ?_
  obtain ⟨g_18, hfo_17, hbg_18⟩ := un_500 (hG _ ma_2) ka_2
  refine tk_copyP hx hb (by rw [hml]; exact hl.1.symm) hown (hU _ wd_466) (hU _ wd_253) (hU _ wd_254) (hU _ wd_255) hK hP hD hS 0 ma_2 ma_9 hfo_17 hfo_15 rfl (by decide) (by decide) (by decide) (by decide) (by decide) (Nat.le_of_ble_eq_true rfl) (Nat.le_of_ble_eq_true rfl) dX5_copyFrom_15 (fun H locs hP hD hS => ?_)
  obtain ⟨f_20, ef_20⟩ : ∃ y : Nat → va_E, y = va_up f a_9 (.inl (cI, 18, .inl (va_cpy g_18 g_16 (Int32.toNatClampNeg 0) (Int32.toNatClampNeg 0) (Int32.toNatClampNeg 18)))) := ⟨_, rfl⟩
  have hP : va_P (dC, dI) vwCl (va_pl L f_20) H := by rw [ef_20]; exact hP
  have hD : va_D (fun q => q ∈ L) (va_pl L f_20) := by rw [ef_20]; exact hD
  have hG : GI (okc cI cL cZ cR cG cH L kd) kd L f_20 := by rw [ef_20]; exact hG.set a_9 (mk_541 ka_9 ⟨_, rfl, okI_cpy (fun j => by have := hbg_18 j; constructor <;> omega) hbg_16 _ _ _⟩)
  have hfo_21 : f_20 o1 = .inr (5, [.ref a_2, .ref a_3, .ref a_4, .int v_5, .int v_6, .int v_7]) := by rw [ef_20, up_ne (kd_ne ka_9 ko1 (by decide))]; exact hfo_1
  have hfo_22 : f_20 o0 = .inr (5, [.ref a_9, .ref a_10, .ref a_11, .int v_12, .int v_13, .int v_14]) := by rw [ef_20, up_ne (kd_ne ka_9 ko0 (by decide))]; exact hfo_8
  have hfo_23 : f_20 a_2 = .inl (cI, 18, .inl g_18) := by rw [ef_20, up_ne (kd_ne ka_9 ka_2 (by decide))]; exact hfo_17
  have hfr0 : ∀ b, kd b ≠ 105 → kd b ≠ 541 → kd b ≠ 542 → f_20 b = f b := fun b q105 q541 q542 => (congrFun ef_20 b).trans ((up_ne (fun e9 => q541 (by rw [e9]; exact ka_9))).trans (hfr0 b q105 q541 q542))
  have hfo_24 : f_20 a_9 = .inl (cI, 18, .inl (va_cpy g_18 g_16 (Int32.toNatClampNeg 0) (Int32.toNatClampNeg 0) (Int32.toNatClampNeg 18))) := by rw [ef_20]; exact up_self
  refine lv_aload_n hx hb dX5_copyFrom_18 rfl (lv_at hl 1 rfl) ?_
  refine tk_getP (D := (dC, dI)) (ci := 5) (v := .ref a_3) (C := RX5) (T := TX5) (N := 6) hx hb hU inlX5 hown hK hP mo1 hfo_21 rfl 1 (by decide) (hU _ wd_111) (fun _ h9 => h9) rfl dX5_copyFrom_19 ?_
  refine lv_iconst (v := 0) hx hb dX5_copyFrom_22 (by decide) ?_
  refine lv_aload_n hx hb dX5_copyFrom_23 rfl (lv_at hl 0 rfl) ?_
  refine tk_getP (D := (dC, dI)) (ci := 5) (v := .ref a_10) (C := RX5) (T := TX5) (N := 6) hx hb hU inlX5 hown hK hP mo0 hfo_22 rfl 1 (by decide) (hU _ wd_111) (fun _ h9 => h9) rfl dX5_copyFrom_24 ?_
  refine lv_iconst (v := 0) hx hb dX5_copyFrom_27 (by decide) ?_
  refine lv_aload_n hx hb dX5_copyFrom_28 rfl (lv_at hl 0 rfl) ?_
  refine tk_getP (D := (dC, dI)) (ci := 5) (v := .ref a_10) (C := RX5) (T := TX5) (N := 6) hx hb hU inlX5 hown hK hP mo0 hfo_22 rfl 1 (by decide) (hU _ wd_111) (fun _ h9 => h9) rfl dX5_copyFrom_29 ?_
  obtain ⟨g_26, hfo_25, hbg_26⟩ := un_541 (hG _ ma_10) ka_10
  refine tk_alenP (v := 18) hx hb hK hP 0 ma_10 hfo_25 rfl rfl dX5_copyFrom_32 ?_
  obtain ⟨g_28, hfo_27, hbg_28⟩ := un_500 (hG _ ma_3) ka_3
  refine tk_copyP hx hb (by rw [hml]; exact hl.1.symm) hown (hU _ wd_466) (hU _ wd_253) (hU _ wd_254) (hU _ wd_255) hK hP hD hS 0 ma_3 ma_10 hfo_27 hfo_25 rfl (by decide) (by decide) (by decide) (by decide) (by decide) (Nat.le_of_ble_eq_true rfl) (Nat.le_of_ble_eq_true rfl) dX5_copyFrom_33 (fun H locs hP hD hS => ?_)
  obtain ⟨f_30, ef_30⟩ : ∃ y : Nat → va_E, y = va_up f_20 a_10 (.inl (cI, 18, .inl (va_cpy g_28 g_26 (Int32.toNatClampNeg 0) (Int32.toNatClampNeg 0) (Int32.toNatClampNeg 18)))) := ⟨_, rfl⟩
  have hP : va_P (dC, dI) vwCl (va_pl L f_30) H := by rw [ef_30]; exact hP
  have hD : va_D (fun q => q ∈ L) (va_pl L f_30) := by rw [ef_30]; exact hD
  have hG : GI (okc cI cL cZ cR cG cH L kd) kd L f_30 := by rw [ef_30]; exact hG.set a_10 (mk_541 ka_10 ⟨_, rfl, okI_cpy (fun j => by have := hbg_28 j; constructor <;> omega) hbg_26 _ _ _⟩)
  have hfo_31 : f_30 o1 = .inr (5, [.ref a_2, .ref a_3, .ref a_4, .int v_5, .int v_6, .int v_7]) := by rw [ef_30, up_ne (kd_ne ka_10 ko1 (by decide))]; exact hfo_21
  have hfo_32 : f_30 o0 = .inr (5, [.ref a_9, .ref a_10, .ref a_11, .int v_12, .int v_13, .int v_14]) := by rw [ef_30, up_ne (kd_ne ka_10 ko0 (by decide))]; exact hfo_22
  have hfo_33 : f_30 a_2 = .inl (cI, 18, .inl g_18) := by rw [ef_30, up_ne (kd_ne ka_10 ka_2 (by decide))]; exact hfo_23
  have hfo_34 : f_30 a_3 = .inl (cI, 18, .inl g_28) := by rw [ef_30, up_ne (kd_ne ka_10 ka_3 (by decide))]; exact hfo_27
  have hfr0 : ∀ b, kd b ≠ 105 → kd b ≠ 541 → kd b ≠ 542 → f_30 b = f b := fun b q105 q541 q542 => (congrFun ef_30 b).trans ((up_ne (fun e9 => q541 (by rw [e9]; exact ka_10))).trans (hfr0 b q105 q541 q542))
  have hfo_35 : f_30 a_10 = .inl (cI, 18, .inl (va_cpy g_28 g_26 (Int32.toNatClampNeg 0) (Int32.toNatClampNeg 0) (Int32.toNatClampNeg 18))) := by rw [ef_30]; exact up_self
  refine lv_aload_n hx hb dX5_copyFrom_36 rfl (lv_at hl 1 rfl) ?_
  refine tk_getP (D := (dC, dI)) (ci := 5) (v := .ref a_4) (C := RX5) (T := TX5) (N := 6) hx hb hU inlX5 hown hK hP mo1 hfo_31 rfl 2 (by decide) (hU _ wd_112) (fun _ h9 => h9) rfl dX5_copyFrom_37 ?_
  refine lv_iconst (v := 0) hx hb dX5_copyFrom_40 (by decide) ?_
  refine lv_aload_n hx hb dX5_copyFrom_41 rfl (lv_at hl 0 rfl) ?_
  refine tk_getP (D := (dC, dI)) (ci := 5) (v := .ref a_11) (C := RX5) (T := TX5) (N := 6) hx hb hU inlX5 hown hK hP mo0 hfo_32 rfl 2 (by decide) (hU _ wd_112) (fun _ h9 => h9) rfl dX5_copyFrom_42 ?_
  refine lv_iconst (v := 0) hx hb dX5_copyFrom_45 (by decide) ?_
  refine lv_aload_n hx hb dX5_copyFrom_46 rfl (lv_at hl 0 rfl) ?_
  refine tk_getP (D := (dC, dI)) (ci := 5) (v := .ref a_11) (C := RX5) (T := TX5) (N := 6) hx hb hU inlX5 hown hK hP mo0 hfo_32 rfl 2 (by decide) (hU _ wd_112) (fun _ h9 => h9) rfl dX5_copyFrom_47 ?_
  obtain ⟨g_37, hfo_36, hbg_37⟩ := un_542 (hG _ ma_11) ka_11
  refine tk_alenP (v := 20) hx hb hK hP 0 ma_11 hfo_36 rfl rfl dX5_copyFrom_50 ?_
  obtain ⟨g_39, hfo_38, hbg_39⟩ := un_501 (hG _ ma_4) ka_4
  refine tk_copyP hx hb (by rw [hml]; exact hl.1.symm) hown (hU _ wd_466) (hU _ wd_253) (hU _ wd_254) (hU _ wd_255) hK hP hD hS 0 ma_4 ma_11 hfo_38 hfo_36 rfl (by decide) (by decide) (by decide) (by decide) (by decide) (Nat.le_of_ble_eq_true rfl) (Nat.le_of_ble_eq_true rfl) dX5_copyFrom_51 (fun H locs hP hD hS => ?_)
  obtain ⟨f_41, ef_41⟩ : ∃ y : Nat → va_E, y = va_up f_30 a_11 (.inl (cI, 20, .inl (va_cpy g_39 g_37 (Int32.toNatClampNeg 0) (Int32.toNatClampNeg 0) (Int32.toNatClampNeg 20)))) := ⟨_, rfl⟩
  have hP : va_P (dC, dI) vwCl (va_pl L f_41) H := by rw [ef_41]; exact hP
  have hD : va_D (fun q => q ∈ L) (va_pl L f_41) := by rw [ef_41]; exact hD
  have hG : GI (okc cI cL cZ cR cG cH L kd) kd L f_41 := by rw [ef_41]; exact hG.set a_11 (mk_542 ka_11 ⟨_, rfl, okI_cpy (fun j => by have := hbg_39 j; constructor <;> omega) hbg_37 _ _ _⟩)
  have hfo_42 : f_41 o1 = .inr (5, [.ref a_2, .ref a_3, .ref a_4, .int v_5, .int v_6, .int v_7]) := by rw [ef_41, up_ne (kd_ne ka_11 ko1 (by decide))]; exact hfo_31
  have hfo_43 : f_41 o0 = .inr (5, [.ref a_9, .ref a_10, .ref a_11, .int v_12, .int v_13, .int v_14]) := by rw [ef_41, up_ne (kd_ne ka_11 ko0 (by decide))]; exact hfo_32
  have hfo_44 : f_41 a_2 = .inl (cI, 18, .inl g_18) := by rw [ef_41, up_ne (kd_ne ka_11 ka_2 (by decide))]; exact hfo_33
  have hfo_45 : f_41 a_3 = .inl (cI, 18, .inl g_28) := by rw [ef_41, up_ne (kd_ne ka_11 ka_3 (by decide))]; exact hfo_34
  have hfo_46 : f_41 a_4 = .inl (cI, 20, .inl g_39) := by rw [ef_41, up_ne (kd_ne ka_11 ka_4 (by decide))]; exact hfo_38
  have hfr0 : ∀ b, kd b ≠ 105 → kd b ≠ 541 → kd b ≠ 542 → f_41 b = f b := fun b q105 q541 q542 => (congrFun ef_41 b).trans ((up_ne (fun e9 => q542 (by rw [e9]; exact ka_11))).trans (hfr0 b q105 q541 q542))
  have hfo_47 : f_41 a_11 = .inl (cI, 20, .inl (va_cpy g_39 g_37 (Int32.toNatClampNeg 0) (Int32.toNatClampNeg 0) (Int32.toNatClampNeg 20))) := by rw [ef_41]; exact up_self
  refine lv_aload_n hx hb dX5_copyFrom_54 rfl (lv_at hl 0 rfl) ?_
  refine lv_aload_n hx hb dX5_copyFrom_55 rfl (lv_at hl 1 rfl) ?_
  refine tk_getP (D := (dC, dI)) (ci := 5) (v := .int v_5) (C := RX5) (T := TX5) (N := 6) hx hb hU inlX5 hown hK hP mo1 hfo_42 rfl 3 (by decide) (hU _ wd_415) (fun _ h9 => h9) rfl dX5_copyFrom_56 ?_
  refine tk_putP (D := (dC, dI)) (ci := 5) (v := .int v_5) (ty := .int) (C := RX5) (T := TX5) (N := 6) hx hb hU inlX5 tyX5 tyX5_ok nmX5 hown hK hP hD hS mo0 hfo_43 rfl 3 (by decide) (hU _ wd_415) (fun _ h9 => h9) rfl (by decide +kernel) rfl rfl (Nat.le_of_ble_eq_true rfl) dX5_copyFrom_59 (fun H locs hP hD hS => ?_)
  obtain ⟨f_49, ef_49⟩ : ∃ y : Nat → va_E, y = va_up f_41 o0 (.inr (5, [.ref a_9, .ref a_10, .ref a_11, .int v_5, .int v_13, .int v_14])) := ⟨_, rfl⟩
  have hP : va_P (dC, dI) vwCl (va_pl L f_49) H := by rw [ef_49]; exact hP
  have hD : va_D (fun q => q ∈ L) (va_pl L f_49) := by rw [ef_49]; exact hD
  have hG : GI (okc cI cL cZ cR cG cH L kd) kd L f_49 := by rw [ef_49]; exact hG.set o0 (mk_105 ko0 ⟨a_9, a_10, a_11, v_5, v_13, v_14, rfl, ⟨ma_9, ka_9⟩, ⟨ma_10, ka_10⟩, ⟨ma_11, ka_11⟩⟩)
  have hfo_50 : f_49 o1 = .inr (5, [.ref a_2, .ref a_3, .ref a_4, .int v_5, .int v_6, .int v_7]) := by rw [ef_49, up_ne (kd_ne ko0 ko1 (by decide))]; exact hfo_42
  have hfo_51 : f_49 a_2 = .inl (cI, 18, .inl g_18) := by rw [ef_49, up_ne (kd_ne ko0 ka_2 (by decide))]; exact hfo_44
  have hfo_52 : f_49 a_3 = .inl (cI, 18, .inl g_28) := by rw [ef_49, up_ne (kd_ne ko0 ka_3 (by decide))]; exact hfo_45
  have hfo_53 : f_49 a_4 = .inl (cI, 20, .inl g_39) := by rw [ef_49, up_ne (kd_ne ko0 ka_4 (by decide))]; exact hfo_46
  have hfr0 : ∀ b, kd b ≠ 105 → kd b ≠ 541 → kd b ≠ 542 → f_49 b = f b := fun b q105 q541 q542 => (congrFun ef_49 b).trans ((up_ne (fun e9 => q105 (by rw [e9]; exact ko0))).trans (hfr0 b q105 q541 q542))
  have hfo_54 : f_49 o0 = .inr (5, [.ref a_9, .ref a_10, .ref a_11, .int v_5, .int v_13, .int v_14]) := by rw [ef_49]; exact up_self
  refine lv_aload_n hx hb dX5_copyFrom_62 rfl (lv_at hl 0 rfl) ?_
  refine lv_aload_n hx hb dX5_copyFrom_63 rfl (lv_at hl 1 rfl) ?_
  refine tk_getP (D := (dC, dI)) (ci := 5) (v := .int v_6) (C := RX5) (T := TX5) (N := 6) hx hb hU inlX5 hown hK hP mo1 hfo_50 rfl 4 (by decide) (hU _ wd_416) (fun _ h9 => h9) rfl dX5_copyFrom_64 ?_
  refine tk_putP (D := (dC, dI)) (ci := 5) (v := .int v_6) (ty := .int) (C := RX5) (T := TX5) (N := 6) hx hb hU inlX5 tyX5 tyX5_ok nmX5 hown hK hP hD hS mo0 hfo_54 rfl 4 (by decide) (hU _ wd_416) (fun _ h9 => h9) rfl (by decide +kernel) rfl rfl (Nat.le_of_ble_eq_true rfl) dX5_copyFrom_67 (fun H locs hP hD hS => ?_)
  obtain ⟨f_56, ef_56⟩ : ∃ y : Nat → va_E, y = va_up f_49 o0 (.inr (5, [.ref a_9, .ref a_10, .ref a_11, .int v_5, .int v_6, .int v_14])) := ⟨_, rfl⟩
  have hP : va_P (dC, dI) vwCl (va_pl L f_56) H := by rw [ef_56]; exact hP
  have hD : va_D (fun q => q ∈ L) (va_pl L f_56) := by rw [ef_56]; exact hD
  have hG : GI (okc cI cL cZ cR cG cH L kd) kd L f_56 := by rw [ef_56]; exact hG.set o0 (mk_105 ko0 ⟨a_9, a_10, a_11, v_5, v_6, v_14, rfl, ⟨ma_9, ka_9⟩, ⟨ma_10, ka_10⟩, ⟨ma_11, ka_11⟩⟩)
  have hfo_57 : f_56 o1 = .inr (5, [.ref a_2, .ref a_3, .ref a_4, .int v_5, .int v_6, .int v_7]) := by rw [ef_56, up_ne (kd_ne ko0 ko1 (by decide))]; exact hfo_50
  have hfo_58 : f_56 a_2 = .inl (cI, 18, .inl g_18) := by rw [ef_56, up_ne (kd_ne ko0 ka_2 (by decide))]; exact hfo_51
  have hfo_59 : f_56 a_3 = .inl (cI, 18, .inl g_28) := by rw [ef_56, up_ne (kd_ne ko0 ka_3 (by decide))]; exact hfo_52
  have hfo_60 : f_56 a_4 = .inl (cI, 20, .inl g_39) := by rw [ef_56, up_ne (kd_ne ko0 ka_4 (by decide))]; exact hfo_53
  have hfr0 : ∀ b, kd b ≠ 105 → kd b ≠ 541 → kd b ≠ 542 → f_56 b = f b := fun b q105 q541 q542 => (congrFun ef_56 b).trans ((up_ne (fun e9 => q105 (by rw [e9]; exact ko0))).trans (hfr0 b q105 q541 q542))
  have hfo_61 : f_56 o0 = .inr (5, [.ref a_9, .ref a_10, .ref a_11, .int v_5, .int v_6, .int v_14]) := by rw [ef_56]; exact up_self
  refine lv_aload_n hx hb dX5_copyFrom_70 rfl (lv_at hl 0 rfl) ?_
  refine lv_aload_n hx hb dX5_copyFrom_71 rfl (lv_at hl 1 rfl) ?_
  refine tk_getP (D := (dC, dI)) (ci := 5) (v := .int v_7) (C := RX5) (T := TX5) (N := 6) hx hb hU inlX5 hown hK hP mo1 hfo_57 rfl 5 (by decide) (hU _ wd_417) (fun _ h9 => h9) rfl dX5_copyFrom_72 ?_
  refine tk_putP (D := (dC, dI)) (ci := 5) (v := .int v_7) (ty := .int) (C := RX5) (T := TX5) (N := 6) hx hb hU inlX5 tyX5 tyX5_ok nmX5 hown hK hP hD hS mo0 hfo_61 rfl 5 (by decide) (hU _ wd_417) (fun _ h9 => h9) rfl (by decide +kernel) rfl rfl (Nat.le_of_ble_eq_true rfl) dX5_copyFrom_75 (fun H locs hP hD hS => ?_)
  obtain ⟨f_63, ef_63⟩ : ∃ y : Nat → va_E, y = va_up f_56 o0 (.inr (5, [.ref a_9, .ref a_10, .ref a_11, .int v_5, .int v_6, .int v_7])) := ⟨_, rfl⟩
  have hP : va_P (dC, dI) vwCl (va_pl L f_63) H := by rw [ef_63]; exact hP
  have hD : va_D (fun q => q ∈ L) (va_pl L f_63) := by rw [ef_63]; exact hD
  have hG : GI (okc cI cL cZ cR cG cH L kd) kd L f_63 := by rw [ef_63]; exact hG.set o0 (mk_105 ko0 ⟨a_9, a_10, a_11, v_5, v_6, v_7, rfl, ⟨ma_9, ka_9⟩, ⟨ma_10, ka_10⟩, ⟨ma_11, ka_11⟩⟩)
  have hfo_64 : f_63 o1 = .inr (5, [.ref a_2, .ref a_3, .ref a_4, .int v_5, .int v_6, .int v_7]) := by rw [ef_63, up_ne (kd_ne ko0 ko1 (by decide))]; exact hfo_57
  have hfo_65 : f_63 a_2 = .inl (cI, 18, .inl g_18) := by rw [ef_63, up_ne (kd_ne ko0 ka_2 (by decide))]; exact hfo_58
  have hfo_66 : f_63 a_3 = .inl (cI, 18, .inl g_28) := by rw [ef_63, up_ne (kd_ne ko0 ka_3 (by decide))]; exact hfo_59
  have hfo_67 : f_63 a_4 = .inl (cI, 20, .inl g_39) := by rw [ef_63, up_ne (kd_ne ko0 ka_4 (by decide))]; exact hfo_60
  have hfr0 : ∀ b, kd b ≠ 105 → kd b ≠ 541 → kd b ≠ 542 → f_63 b = f b := fun b q105 q541 q542 => (congrFun ef_63 b).trans ((up_ne (fun e9 => q105 (by rw [e9]; exact ko0))).trans (hfr0 b q105 q541 q542))
  have hfo_68 : f_63 o0 = .inr (5, [.ref a_9, .ref a_10, .ref a_11, .int v_5, .int v_6, .int v_7]) := by rw [ef_63]; exact up_self
  exact W.vret hx hb hr (fun t ht hW => ⟨⟨f_63, rfl, ⟨hG, hfr0⟩, by rw [ht]; exact hP, va_K.moved hW.alike hK, pl_in hD⟩, hS.F ht⟩) hS.2.2 dX5_copyFrom_78
set_option maxHeartbeats 8000000 in
set_option maxRecDepth 100000 in
theorem s_X5_copyFrom_k5_k105 (l : Launch) (D : va_G) (cI cL cZ cR cG cH : ClassId) (Z : zT) (kd : Nat → Nat) (L : List Nat) (f : Nat → va_E) (hG : GI (okc cI cL cZ cR cG cH L kd) kd L f) (o0 : Nat) (mo0 : o0 ∈ L) (ko0 : kd o0 = 5) (o1 : Nat) (mo1 : o1 ∈ L) (ko1 : kd o1 = 105) : mPV l D cI cL cZ cR cG cH Z yX5_copyFrom cX5_copyFrom 2 none 1 40 [.ref o0, .ref o1] L f (fun (f9 : Nat → va_E) => GI (okc cI cL cZ cR cG cH L kd) kd L f9 ∧ (∀ b, kd b ≠ 5 → kd b ≠ 500 → kd b ≠ 501 → f9 b = f b)) := by
  obtain ⟨dC, dI⟩ := D
  refine Met.ofW (cc := cX5_copyFrom) (maxL := 2) (ret := none) (by decide) rfl ?_
  intro p e s m args below meth c s₁ B hml hv
  obtain ⟨rfl, hP, hK, hD0, hN, hZ⟩ := hv
  have hx := B.exec
  have hb := B.bytes
  have hr := B.returns
  have hU : ∀ w ∈ wsU, w.before _ s = true := fun w h => atoms_spec (ws := wU yX5_copyFrom cX5_copyFrom 2 none) B.pre w (List.mem_cons_of_mem _ h)
  have hown : s.vm.findClass RX5 = some m.cls := findClass_of_methodNamed B.named
  have hlocks := B.notSynchronized
  have hD := pl_in hD0
  have hS : va_S (fun q => q ∈ L) s.heap s.heap [] := va_S.rf
  have hl := lv_entry ([.ref o0, .ref o1]) (n := 2) (Nat.le_of_ble_eq_true rfl)
  rw [lg_entry_eq]
  generalize (lg_sl ([.ref o0, .ref o1]) ++ List.replicate (2 - (lg_sl ([.ref o0, .ref o1])).length) Slot.unset).toArray = ls at hl ⊢
  have hl : lv_has ls 2 [(0, .ref o0), (1, .ref o1)] := hl
  have hfr0 : ∀ b, kd b ≠ 5 → kd b ≠ 500 → kd b ≠ 501 → f b = f b := fun _ _ _ _ => rfl
  refine lv_aload_n hx hb dX5_copyFrom_0 rfl (lv_at hl 1 rfl) ?_
  obtain ⟨a_2, a_3, a_4, v_5, v_6, v_7, hfo_1, ⟨ma_2, ka_2⟩, ⟨ma_3, ka_3⟩, ⟨ma_4, ka_4⟩⟩ := un_105 (hG _ mo1) ko1
  have bv_5 : ((-2147483648) ≤ v_5.toInt ∧ v_5.toInt ≤ 2147483647) := ⟨i32_lo _, i32_hi _⟩
  have bv_6 : ((-2147483648) ≤ v_6.toInt ∧ v_6.toInt ≤ 2147483647) := ⟨i32_lo _, i32_hi _⟩
  have bv_7 : ((-2147483648) ≤ v_7.toInt ∧ v_7.toInt ≤ 2147483647) := ⟨i32_lo _, i32_hi _⟩
  refine tk_getP (D := (dC, dI)) (ci := 5) (v := .ref a_2) (C := RX5) (T := TX5) (N := 6) hx hb hU inlX5 hown hK hP mo1 hfo_1 rfl 0 (by decide) (hU _ wd_110) (fun _ h9 => h9) rfl dX5_copyFrom_1 ?_
  refine lv_iconst (v := 0) hx hb dX5_copyFrom_4 (by decide) ?_
  refine lv_aload_n hx hb dX5_copyFrom_5 rfl (lv_at hl 0 rfl) ?_
  obtain ⟨a_9, a_10, a_11, v_12, v_13, v_14, hfo_8, ⟨ma_9, ka_9⟩, ⟨ma_10, ka_10⟩, ⟨ma_11, ka_11⟩⟩ := un_5 (hG _ mo0) ko0
  have bv_12 : ((-2147483648) ≤ v_12.toInt ∧ v_12.toInt ≤ 2147483647) := ⟨i32_lo _, i32_hi _⟩
  have bv_13 : ((-2147483648) ≤ v_13.toInt ∧ v_13.toInt ≤ 2147483647) := ⟨i32_lo _, i32_hi _⟩
  have bv_14 : ((-2147483648) ≤ v_14.toInt ∧ v_14.toInt ≤ 2147483647) := ⟨i32_lo _, i32_hi _⟩
  refine tk_getP (D := (dC, dI)) (ci := 5) (v := .ref a_9) (C := RX5) (T := TX5) (N := 6) hx hb hU inlX5 hown hK hP mo0 hfo_8 rfl 0 (by decide) (hU _ wd_110) (fun _ h9 => h9) rfl dX5_copyFrom_6 ?_
  refine lv_iconst (v := 0) hx hb dX5_copyFrom_9 (by decide) ?_
  refine lv_aload_n hx hb dX5_copyFrom_10 rfl (lv_at hl 0 rfl) ?_
  refine tk_getP (D := (dC, dI)) (ci := 5) (v := .ref a_9) (C := RX5) (T := TX5) (N := 6) hx hb hU inlX5 hown hK hP mo0 hfo_8 rfl 0 (by decide) (hU _ wd_110) (fun _ h9 => h9) rfl dX5_copyFrom_11 ?_
  obtain ⟨g_16, hfo_15, hbg_16⟩ := un_500 (hG _ ma_9) ka_9
  refine tk_alenP (v := 18) hx hb hK hP 0 ma_9 hfo_15 rfl rfl dX5_copyFrom_14 ?_
  obtain ⟨g_18, hfo_17, hbg_18⟩ := un_541 (hG _ ma_2) ka_2
  refine tk_copyP hx hb (by rw [hml]; exact hl.1.symm) hown (hU _ wd_466) (hU _ wd_253) (hU _ wd_254) (hU _ wd_255) hK hP hD hS 0 ma_2 ma_9 hfo_17 hfo_15 rfl (by decide) (by decide) (by decide) (by decide) (by decide) (Nat.le_of_ble_eq_true rfl) (Nat.le_of_ble_eq_true rfl) dX5_copyFrom_15 (fun H locs hP hD hS => ?_)
  obtain ⟨f_20, ef_20⟩ : ∃ y : Nat → va_E, y = va_up f a_9 (.inl (cI, 18, .inl (va_cpy g_18 g_16 (Int32.toNatClampNeg 0) (Int32.toNatClampNeg 0) (Int32.toNatClampNeg 18)))) := ⟨_, rfl⟩
  have hP : va_P (dC, dI) vwCl (va_pl L f_20) H := by rw [ef_20]; exact hP
  have hD : va_D (fun q => q ∈ L) (va_pl L f_20) := by rw [ef_20]; exact hD
  have hG : GI (okc cI cL cZ cR cG cH L kd) kd L f_20 := by rw [ef_20]; exact hG.set a_9 (mk_500 ka_9 ⟨_, rfl, okI_cpy (fun j => by have := hbg_18 j; constructor <;> omega) hbg_16 _ _ _⟩)
  have hfo_21 : f_20 o1 = .inr (5, [.ref a_2, .ref a_3, .ref a_4, .int v_5, .int v_6, .int v_7]) := by rw [ef_20, up_ne (kd_ne ka_9 ko1 (by decide))]; exact hfo_1
  have hfo_22 : f_20 o0 = .inr (5, [.ref a_9, .ref a_10, .ref a_11, .int v_12, .int v_13, .int v_14]) := by rw [ef_20, up_ne (kd_ne ka_9 ko0 (by decide))]; exact hfo_8
  have hfo_23 : f_20 a_2 = .inl (cI, 18, .inl g_18) := by rw [ef_20, up_ne (kd_ne ka_9 ka_2 (by decide))]; exact hfo_17
  have hfr0 : ∀ b, kd b ≠ 5 → kd b ≠ 500 → kd b ≠ 501 → f_20 b = f b := fun b q5 q500 q501 => (congrFun ef_20 b).trans ((up_ne (fun e9 => q500 (by rw [e9]; exact ka_9))).trans (hfr0 b q5 q500 q501))
  have hfo_24 : f_20 a_9 = .inl (cI, 18, .inl (va_cpy g_18 g_16 (Int32.toNatClampNeg 0) (Int32.toNatClampNeg 0) (Int32.toNatClampNeg 18))) := by rw [ef_20]; exact up_self
  refine lv_aload_n hx hb dX5_copyFrom_18 rfl (lv_at hl 1 rfl) ?_
  refine tk_getP (D := (dC, dI)) (ci := 5) (v := .ref a_3) (C := RX5) (T := TX5) (N := 6) hx hb hU inlX5 hown hK hP mo1 hfo_21 rfl 1 (by decide) (hU _ wd_111) (fun _ h9 => h9) rfl dX5_copyFrom_19 ?_
  refine lv_iconst (v := 0) hx hb dX5_copyFrom_22 (by decide) ?_
  refine lv_aload_n hx hb dX5_copyFrom_23 rfl (lv_at hl 0 rfl) ?_
  refine tk_getP (D := (dC, dI)) (ci := 5) (v := .ref a_10) (C := RX5) (T := TX5) (N := 6) hx hb hU inlX5 hown hK hP mo0 hfo_22 rfl 1 (by decide) (hU _ wd_111) (fun _ h9 => h9) rfl dX5_copyFrom_24 ?_
  refine lv_iconst (v := 0) hx hb dX5_copyFrom_27 (by decide) ?_
  refine lv_aload_n hx hb dX5_copyFrom_28 rfl (lv_at hl 0 rfl) ?_
  refine tk_getP (D := (dC, dI)) (ci := 5) (v := .ref a_10) (C := RX5) (T := TX5) (N := 6) hx hb hU inlX5 hown hK hP mo0 hfo_22 rfl 1 (by decide) (hU _ wd_111) (fun _ h9 => h9) rfl dX5_copyFrom_29 ?_
  obtain ⟨g_26, hfo_25, hbg_26⟩ := un_500 (hG _ ma_10) ka_10
  refine tk_alenP (v := 18) hx hb hK hP 0 ma_10 hfo_25 rfl rfl dX5_copyFrom_32 ?_
  obtain ⟨g_28, hfo_27, hbg_28⟩ := un_541 (hG _ ma_3) ka_3
  refine tk_copyP hx hb (by rw [hml]; exact hl.1.symm) hown (hU _ wd_466) (hU _ wd_253) (hU _ wd_254) (hU _ wd_255) hK hP hD hS 0 ma_3 ma_10 hfo_27 hfo_25 rfl (by decide) (by decide) (by decide) (by decide) (by decide) (Nat.le_of_ble_eq_true rfl) (Nat.le_of_ble_eq_true rfl) dX5_copyFrom_33 (fun H locs hP hD hS => ?_)
  obtain ⟨f_30, ef_30⟩ : ∃ y : Nat → va_E, y = va_up f_20 a_10 (.inl (cI, 18, .inl (va_cpy g_28 g_26 (Int32.toNatClampNeg 0) (Int32.toNatClampNeg 0) (Int32.toNatClampNeg 18)))) := ⟨_, rfl⟩
  have hP : va_P (dC, dI) vwCl (va_pl L f_30) H := by rw [ef_30]; exact hP
  have hD : va_D (fun q => q ∈ L) (va_pl L f_30) := by rw [ef_30]; exact hD
  have hG : GI (okc cI cL cZ cR cG cH L kd) kd L f_30 := by rw [ef_30]; exact hG.set a_10 (mk_500 ka_10 ⟨_, rfl, okI_cpy (fun j => by have := hbg_28 j; constructor <;> omega) hbg_26 _ _ _⟩)
  have hfo_31 : f_30 o1 = .inr (5, [.ref a_2, .ref a_3, .ref a_4, .int v_5, .int v_6, .int v_7]) := by rw [ef_30, up_ne (kd_ne ka_10 ko1 (by decide))]; exact hfo_21
  have hfo_32 : f_30 o0 = .inr (5, [.ref a_9, .ref a_10, .ref a_11, .int v_12, .int v_13, .int v_14]) := by rw [ef_30, up_ne (kd_ne ka_10 ko0 (by decide))]; exact hfo_22
  have hfo_33 : f_30 a_2 = .inl (cI, 18, .inl g_18) := by rw [ef_30, up_ne (kd_ne ka_10 ka_2 (by decide))]; exact hfo_23
  have hfo_34 : f_30 a_3 = .inl (cI, 18, .inl g_28) := by rw [ef_30, up_ne (kd_ne ka_10 ka_3 (by decide))]; exact hfo_27
  have hfr0 : ∀ b, kd b ≠ 5 → kd b ≠ 500 → kd b ≠ 501 → f_30 b = f b := fun b q5 q500 q501 => (congrFun ef_30 b).trans ((up_ne (fun e9 => q500 (by rw [e9]; exact ka_10))).trans (hfr0 b q5 q500 q501))
  have hfo_35 : f_30 a_10 = .inl (cI, 18, .inl (va_cpy g_28 g_26 (Int32.toNatClampNeg 0) (Int32.toNatClampNeg 0) (Int32.toNatClampNeg 18))) := by rw [ef_30]; exact up_self
  refine lv_aload_n hx hb dX5_copyFrom_36 rfl (lv_at hl 1 rfl) ?_
  refine tk_getP (D := (dC, dI)) (ci := 5) (v := .ref a_4) (C := RX5) (T := TX5) (N := 6) hx hb hU inlX5 hown hK hP mo1 hfo_31 rfl 2 (by decide) (hU _ wd_112) (fun _ h9 => h9) rfl dX5_copyFrom_37 ?_
  refine lv_iconst (v := 0) hx hb dX5_copyFrom_40 (by decide) ?_
  refine lv_aload_n hx hb dX5_copyFrom_41 rfl (lv_at hl 0 rfl) ?_
  refine tk_getP (D := (dC, dI)) (ci := 5) (v := .ref a_11) (C := RX5) (T := TX5) (N := 6) hx hb hU inlX5 hown hK hP mo0 hfo_32 rfl 2 (by decide) (hU _ wd_112) (fun _ h9 => h9) rfl dX5_copyFrom_42 ?_
  refine lv_iconst (v := 0) hx hb dX5_copyFrom_45 (by decide) ?_
  refine lv_aload_n hx hb dX5_copyFrom_46 rfl (lv_at hl 0 rfl) ?_
  refine tk_getP (D := (dC, dI)) (ci := 5) (v := .ref a_11) (C := RX5) (T := TX5) (N := 6) hx hb hU inlX5 hown hK hP mo0 hfo_32 rfl 2 (by decide) (hU _ wd_112) (fun _ h9 => h9) rfl dX5_copyFrom_47 ?_
  obtain ⟨g_37, hfo_36, hbg_37⟩ := un_501 (hG _ ma_11) ka_11
  refine tk_alenP (v := 20) hx hb hK hP 0 ma_11 hfo_36 rfl rfl dX5_copyFrom_50 ?_
  obtain ⟨g_39, hfo_38, hbg_39⟩ := un_542 (hG _ ma_4) ka_4
  refine tk_copyP hx hb (by rw [hml]; exact hl.1.symm) hown (hU _ wd_466) (hU _ wd_253) (hU _ wd_254) (hU _ wd_255) hK hP hD hS 0 ma_4 ma_11 hfo_38 hfo_36 rfl (by decide) (by decide) (by decide) (by decide) (by decide) (Nat.le_of_ble_eq_true rfl) (Nat.le_of_ble_eq_true rfl) dX5_copyFrom_51 (fun H locs hP hD hS => ?_)
  obtain ⟨f_41, ef_41⟩ : ∃ y : Nat → va_E, y = va_up f_30 a_11 (.inl (cI, 20, .inl (va_cpy g_39 g_37 (Int32.toNatClampNeg 0) (Int32.toNatClampNeg 0) (Int32.toNatClampNeg 20)))) := ⟨_, rfl⟩
  have hP : va_P (dC, dI) vwCl (va_pl L f_41) H := by rw [ef_41]; exact hP
  have hD : va_D (fun q => q ∈ L) (va_pl L f_41) := by rw [ef_41]; exact hD
  have hG : GI (okc cI cL cZ cR cG cH L kd) kd L f_41 := by rw [ef_41]; exact hG.set a_11 (mk_501 ka_11 ⟨_, rfl, okI_cpy (fun j => by have := hbg_39 j; constructor <;> omega) hbg_37 _ _ _⟩)
  have hfo_42 : f_41 o1 = .inr (5, [.ref a_2, .ref a_3, .ref a_4, .int v_5, .int v_6, .int v_7]) := by rw [ef_41, up_ne (kd_ne ka_11 ko1 (by decide))]; exact hfo_31
  have hfo_43 : f_41 o0 = .inr (5, [.ref a_9, .ref a_10, .ref a_11, .int v_12, .int v_13, .int v_14]) := by rw [ef_41, up_ne (kd_ne ka_11 ko0 (by decide))]; exact hfo_32
  have hfo_44 : f_41 a_2 = .inl (cI, 18, .inl g_18) := by rw [ef_41, up_ne (kd_ne ka_11 ka_2 (by decide))]; exact hfo_33
  have hfo_45 : f_41 a_3 = .inl (cI, 18, .inl g_28) := by rw [ef_41, up_ne (kd_ne ka_11 ka_3 (by decide))]; exact hfo_34
  have hfo_46 : f_41 a_4 = .inl (cI, 20, .inl g_39) := by rw [ef_41, up_ne (kd_ne ka_11 ka_4 (by decide))]; exact hfo_38
  have hfr0 : ∀ b, kd b ≠ 5 → kd b ≠ 500 → kd b ≠ 501 → f_41 b = f b := fun b q5 q500 q501 => (congrFun ef_41 b).trans ((up_ne (fun e9 => q501 (by rw [e9]; exact ka_11))).trans (hfr0 b q5 q500 q501))
  have hfo_47 : f_41 a_11 = .inl (cI, 20, .inl (va_cpy g_39 g_37 (Int32.toNatClampNeg 0) (Int32.toNatClampNeg 0) (Int32.toNatClampNeg 20))) := by rw [ef_41]; exact up_self
  refine lv_aload_n hx hb dX5_copyFrom_54 rfl (lv_at hl 0 rfl) ?_
  refine lv_aload_n hx hb dX5_copyFrom_55 rfl (lv_at hl 1 rfl) ?_
  refine tk_getP (D := (dC, dI)) (ci := 5) (v := .int v_5) (C := RX5) (T := TX5) (N := 6) hx hb hU inlX5 hown hK hP mo1 hfo_42 rfl 3 (by decide) (hU _ wd_415) (fun _ h9 => h9) rfl dX5_copyFrom_56 ?_
  refine tk_putP (D := (dC, dI)) (ci := 5) (v := .int v_5) (ty := .int) (C := RX5) (T := TX5) (N := 6) hx hb hU inlX5 tyX5 tyX5_ok nmX5 hown hK hP hD hS mo0 hfo_43 rfl 3 (by decide) (hU _ wd_415) (fun _ h9 => h9) rfl (by decide +kernel) rfl rfl (Nat.le_of_ble_eq_true rfl) dX5_copyFrom_59 (fun H locs hP hD hS => ?_)
  obtain ⟨f_49, ef_49⟩ : ∃ y : Nat → va_E, y = va_up f_41 o0 (.inr (5, [.ref a_9, .ref a_10, .ref a_11, .int v_5, .int v_13, .int v_14])) := ⟨_, rfl⟩
  have hP : va_P (dC, dI) vwCl (va_pl L f_49) H := by rw [ef_49]; exact hP
  have hD : va_D (fun q => q ∈ L) (va_pl L f_49) := by rw [ef_49]; exact hD
  have hG : GI (okc cI cL cZ cR cG cH L kd) kd L f_49 := by rw [ef_49]; exact hG.set o0 (mk_5 ko0 ⟨a_9, a_10, a_11, v_5, v_13, v_14, rfl, ⟨ma_9, ka_9⟩, ⟨ma_10, ka_10⟩, ⟨ma_11, ka_11⟩⟩)
  have hfo_50 : f_49 o1 = .inr (5, [.ref a_2, .ref a_3, .ref a_4, .int v_5, .int v_6, .int v_7]) := by rw [ef_49, up_ne (kd_ne ko0 ko1 (by decide))]; exact hfo_42
  have hfo_51 : f_49 a_2 = .inl (cI, 18, .inl g_18) := by rw [ef_49, up_ne (kd_ne ko0 ka_2 (by decide))]; exact hfo_44
  have hfo_52 : f_49 a_3 = .inl (cI, 18, .inl g_28) := by rw [ef_49, up_ne (kd_ne ko0 ka_3 (by decide))]; exact hfo_45
  have hfo_53 : f_49 a_4 = .inl (cI, 20, .inl g_39) := by rw [ef_49, up_ne (kd_ne ko0 ka_4 (by decide))]; exact hfo_46
  have hfr0 : ∀ b, kd b ≠ 5 → kd b ≠ 500 → kd b ≠ 501 → f_49 b = f b := fun b q5 q500 q501 => (congrFun ef_49 b).trans ((up_ne (fun e9 => q5 (by rw [e9]; exact ko0))).trans (hfr0 b q5 q500 q501))
  have hfo_54 : f_49 o0 = .inr (5, [.ref a_9, .ref a_10, .ref a_11, .int v_5, .int v_13, .int v_14]) := by rw [ef_49]; exact up_self
  refine lv_aload_n hx hb dX5_copyFrom_62 rfl (lv_at hl 0 rfl) ?_
  refine lv_aload_n hx hb dX5_copyFrom_63 rfl (lv_at hl 1 rfl) ?_
  refine tk_getP (D := (dC, dI)) (ci := 5) (v := .int v_6) (C := RX5) (T := TX5) (N := 6) hx hb hU inlX5 hown hK hP mo1 hfo_50 rfl 4 (by decide) (hU _ wd_416) (fun _ h9 => h9) rfl dX5_copyFrom_64 ?_
  refine tk_putP (D := (dC, dI)) (ci := 5) (v := .int v_6) (ty := .int) (C := RX5) (T := TX5) (N := 6) hx hb hU inlX5 tyX5 tyX5_ok nmX5 hown hK hP hD hS mo0 hfo_54 rfl 4 (by decide) (hU _ wd_416) (fun _ h9 => h9) rfl (by decide +kernel) rfl rfl (Nat.le_of_ble_eq_true rfl) dX5_copyFrom_67 (fun H locs hP hD hS => ?_)
  obtain ⟨f_56, ef_56⟩ : ∃ y : Nat → va_E, y = va_up f_49 o0 (.inr (5, [.ref a_9, .ref a_10, .ref a_11, .int v_5, .int v_6, .int v_14])) := ⟨_, rfl⟩
  have hP : va_P (dC, dI) vwCl (va_pl L f_56) H := by rw [ef_56]; exact hP
  have hD : va_D (fun q => q ∈ L) (va_pl L f_56) := by rw [ef_56]; exact hD
  have hG : GI (okc cI cL cZ cR cG cH L kd) kd L f_56 := by rw [ef_56]; exact hG.set o0 (mk_5 ko0 ⟨a_9, a_10, a_11, v_5, v_6, v_14, rfl, ⟨ma_9, ka_9⟩, ⟨ma_10, ka_10⟩, ⟨ma_11, ka_11⟩⟩)
  have hfo_57 : f_56 o1 = .inr (5, [.ref a_2, .ref a_3, .ref a_4, .int v_5, .int v_6, .int v_7]) := by rw [ef_56, up_ne (kd_ne ko0 ko1 (by decide))]; exact hfo_50
  have hfo_58 : f_56 a_2 = .inl (cI, 18, .inl g_18) := by rw [ef_56, up_ne (kd_ne ko0 ka_2 (by decide))]; exact hfo_51
  have hfo_59 : f_56 a_3 = .inl (cI, 18, .inl g_28) := by rw [ef_56, up_ne (kd_ne ko0 ka_3 (by decide))]; exact hfo_52
  have hfo_60 : f_56 a_4 = .inl (cI, 20, .inl g_39) := by rw [ef_56, up_ne (kd_ne ko0 ka_4 (by decide))]; exact hfo_53
  have hfr0 : ∀ b, kd b ≠ 5 → kd b ≠ 500 → kd b ≠ 501 → f_56 b = f b := fun b q5 q500 q501 => (congrFun ef_56 b).trans ((up_ne (fun e9 => q5 (by rw [e9]; exact ko0))).trans (hfr0 b q5 q500 q501))
  have hfo_61 : f_56 o0 = .inr (5, [.ref a_9, .ref a_10, .ref a_11, .int v_5, .int v_6, .int v_14]) := by rw [ef_56]; exact up_self
  refine lv_aload_n hx hb dX5_copyFrom_70 rfl (lv_at hl 0 rfl) ?_
  refine lv_aload_n hx hb dX5_copyFrom_71 rfl (lv_at hl 1 rfl) ?_
  refine tk_getP (D := (dC, dI)) (ci := 5) (v := .int v_7) (C := RX5) (T := TX5) (N := 6) hx hb hU inlX5 hown hK hP mo1 hfo_57 rfl 5 (by decide) (hU _ wd_417) (fun _ h9 => h9) rfl dX5_copyFrom_72 ?_
  refine tk_putP (D := (dC, dI)) (ci := 5) (v := .int v_7) (ty := .int) (C := RX5) (T := TX5) (N := 6) hx hb hU inlX5 tyX5 tyX5_ok nmX5 hown hK hP hD hS mo0 hfo_61 rfl 5 (by decide) (hU _ wd_417) (fun _ h9 => h9) rfl (by decide +kernel) rfl rfl (Nat.le_of_ble_eq_true rfl) dX5_copyFrom_75 (fun H locs hP hD hS => ?_)
  obtain ⟨f_63, ef_63⟩ : ∃ y : Nat → va_E, y = va_up f_56 o0 (.inr (5, [.ref a_9, .ref a_10, .ref a_11, .int v_5, .int v_6, .int v_7])) := ⟨_, rfl⟩
  have hP : va_P (dC, dI) vwCl (va_pl L f_63) H := by rw [ef_63]; exact hP
  have hD : va_D (fun q => q ∈ L) (va_pl L f_63) := by rw [ef_63]; exact hD
  have hG : GI (okc cI cL cZ cR cG cH L kd) kd L f_63 := by rw [ef_63]; exact hG.set o0 (mk_5 ko0 ⟨a_9, a_10, a_11, v_5, v_6, v_7, rfl, ⟨ma_9, ka_9⟩, ⟨ma_10, ka_10⟩, ⟨ma_11, ka_11⟩⟩)
  have hfo_64 : f_63 o1 = .inr (5, [.ref a_2, .ref a_3, .ref a_4, .int v_5, .int v_6, .int v_7]) := by rw [ef_63, up_ne (kd_ne ko0 ko1 (by decide))]; exact hfo_57
  have hfo_65 : f_63 a_2 = .inl (cI, 18, .inl g_18) := by rw [ef_63, up_ne (kd_ne ko0 ka_2 (by decide))]; exact hfo_58
  have hfo_66 : f_63 a_3 = .inl (cI, 18, .inl g_28) := by rw [ef_63, up_ne (kd_ne ko0 ka_3 (by decide))]; exact hfo_59
  have hfo_67 : f_63 a_4 = .inl (cI, 20, .inl g_39) := by rw [ef_63, up_ne (kd_ne ko0 ka_4 (by decide))]; exact hfo_60
  have hfr0 : ∀ b, kd b ≠ 5 → kd b ≠ 500 → kd b ≠ 501 → f_63 b = f b := fun b q5 q500 q501 => (congrFun ef_63 b).trans ((up_ne (fun e9 => q5 (by rw [e9]; exact ko0))).trans (hfr0 b q5 q500 q501))
  have hfo_68 : f_63 o0 = .inr (5, [.ref a_9, .ref a_10, .ref a_11, .int v_5, .int v_6, .int v_7]) := by rw [ef_63]; exact up_self
  exact W.vret hx hb hr (fun t ht hW => ⟨⟨f_63, rfl, ⟨hG, hfr0⟩, by rw [ht]; exact hP, va_K.moved hW.alike hK, pl_in hD⟩, hS.F ht⟩) hS.2.2 dX5_copyFrom_78
set_option maxHeartbeats 8000000 in
set_option maxRecDepth 100000 in
theorem s_X5_openContext_k205 (l : Launch) (D : va_G) (cI cL cZ cR cG cH : ClassId) (Z : zT) (kd : Nat → Nat) (L : List Nat) (f : Nat → va_E) (hG : GI (okc cI cL cZ cR cG cH L kd) kd L f) (o0 : Nat) (mo0 : o0 ∈ L) (ko0 : kd o0 = 205) (p1 : Int32) : mPV l D cI cL cZ cR cG cH Z yX5_openContext cX5_openContext 2 none 0 0 [.ref o0, .int p1] L f (fun (f9 : Nat → va_E) => GI (okc cI cL cZ cR cG cH L kd) kd L f9 ∧ (∀ b, kd b ≠ 205 → f9 b = f b)) := by
  obtain ⟨dC, dI⟩ := D
  refine Met.ofW (cc := cX5_openContext) (maxL := 2) (ret := none) (by decide) rfl ?_
  intro p e s m args below meth c s₁ B hml hv
  obtain ⟨rfl, hP, hK, hD0, hN, hZ⟩ := hv
  have hx := B.exec
  have hb := B.bytes
  have hr := B.returns
  have hU : ∀ w ∈ wsU, w.before _ s = true := fun w h => atoms_spec (ws := wU yX5_openContext cX5_openContext 2 none) B.pre w (List.mem_cons_of_mem _ h)
  have hown : s.vm.findClass RX5 = some m.cls := findClass_of_methodNamed B.named
  have hlocks := B.notSynchronized
  have hD := pl_in hD0
  have hS : va_S (fun q => q ∈ L) s.heap s.heap [] := va_S.rf
  have hl := lv_entry ([.ref o0, .int p1]) (n := 2) (Nat.le_of_ble_eq_true rfl)
  rw [lg_entry_eq]
  generalize (lg_sl ([.ref o0, .int p1]) ++ List.replicate (2 - (lg_sl ([.ref o0, .int p1])).length) Slot.unset).toArray = ls at hl ⊢
  have hl : lv_has ls 2 [(0, .ref o0), (1, .int p1)] := hl
  have bp1 : ((-2147483648) ≤ p1.toInt ∧ p1.toInt ≤ 2147483647) := ⟨i32_lo _, i32_hi _⟩
  have hfr0 : ∀ b, kd b ≠ 205 → f b = f b := fun _ _ => rfl
  refine lv_aload_n hx hb dX5_openContext_0 rfl (lv_at hl 0 rfl) ?_
  refine lv_dup hx hb dX5_openContext_1 rfl ?_
  obtain ⟨a_2, a_3, a_4, v_5, v_6, v_7, hfo_1, ⟨ma_2, ka_2⟩, ⟨ma_3, ka_3⟩, ⟨ma_4, ka_4⟩⟩ := un_205 (hG _ mo0) ko0
  have bv_5 : ((-2147483648) ≤ v_5.toInt ∧ v_5.toInt ≤ 2147483647) := ⟨i32_lo _, i32_hi _⟩
  have bv_6 : ((-2147483648) ≤ v_6.toInt ∧ v_6.toInt ≤ 2147483647) := ⟨i32_lo _, i32_hi _⟩
  have bv_7 : ((-2147483648) ≤ v_7.toInt ∧ v_7.toInt ≤ 2147483647) := ⟨i32_lo _, i32_hi _⟩
  refine tk_getP (D := (dC, dI)) (ci := 5) (v := .int v_6) (C := RX5) (T := TX5) (N := 6) hx hb hU inlX5 hown hK hP mo0 hfo_1 rfl 4 (by decide) (hU _ wd_416) (fun _ h9 => h9) rfl dX5_openContext_2 ?_
  refine lv_iconst (v := 1) hx hb dX5_openContext_5 (by decide) ?_
  refine lv_iload_n hx hb dX5_openContext_6 rfl (lv_at hl 1 rfl) ?_
  refine lv_bipush (v := 6) hx hb dX5_openContext_7 (by decide) ?_
  refine lv_imul hx hb dX5_openContext_9 ?_
  refine lv_topi (fun x_8 ex_8 => ?_)
  have bx_8 : ((-2147483648) ≤ x_8.toInt ∧ x_8.toInt ≤ 2147483647) := ⟨i32_lo _, i32_hi _⟩
  refine lv_iconst (v := 5) hx hb dX5_openContext_10 (by decide) ?_
  refine lv_iadd hx hb dX5_openContext_11 ?_
  refine lv_topi (fun x_9 ex_9 => ?_)
  have bx_9 : ((-2147483648) ≤ x_9.toInt ∧ x_9.toInt ≤ 2147483647) := ⟨i32_lo _, i32_hi _⟩
  refine lv_ishl hx hb dX5_openContext_12 ?_
  refine lv_topi (fun x_10 ex_10 => ?_)
  have bx_10 : ((-2147483648) ≤ x_10.toInt ∧ x_10.toInt ≤ 2147483647) := ⟨i32_lo _, i32_hi _⟩
  refine lv_ior hx hb dX5_openContext_13 ?_
  refine lv_topi (fun x_11 ex_11 => ?_)
  have bx_11 : ((-2147483648) ≤ x_11.toInt ∧ x_11.toInt ≤ 2147483647) := ⟨i32_lo _, i32_hi _⟩
  refine tk_putP (D := (dC, dI)) (ci := 5) (v := .int x_11) (ty := .int) (C := RX5) (T := TX5) (N := 6) hx hb hU inlX5 tyX5 tyX5_ok nmX5 hown hK hP hD hS mo0 hfo_1 rfl 4 (by decide) (hU _ wd_416) (fun _ h9 => h9) rfl (by decide +kernel) rfl rfl (Nat.le_of_ble_eq_true rfl) dX5_openContext_14 (fun H locs hP hD hS => ?_)
  obtain ⟨f_13, ef_13⟩ : ∃ y : Nat → va_E, y = va_up f o0 (.inr (5, [.ref a_2, .ref a_3, .ref a_4, .int v_5, .int x_11, .int v_7])) := ⟨_, rfl⟩
  have hP : va_P (dC, dI) vwCl (va_pl L f_13) H := by rw [ef_13]; exact hP
  have hD : va_D (fun q => q ∈ L) (va_pl L f_13) := by rw [ef_13]; exact hD
  have hG : GI (okc cI cL cZ cR cG cH L kd) kd L f_13 := by rw [ef_13]; exact hG.set o0 (mk_205 ko0 ⟨a_2, a_3, a_4, v_5, x_11, v_7, rfl, ⟨ma_2, ka_2⟩, ⟨ma_3, ka_3⟩, ⟨ma_4, ka_4⟩⟩)
  have hfr0 : ∀ b, kd b ≠ 205 → f_13 b = f b := fun b q205 => (congrFun ef_13 b).trans ((up_ne (fun e9 => q205 (by rw [e9]; exact ko0))).trans (hfr0 b q205))
  have hfo_14 : f_13 o0 = .inr (5, [.ref a_2, .ref a_3, .ref a_4, .int v_5, .int x_11, .int v_7]) := by rw [ef_13]; exact up_self
  exact W.vret hx hb hr (fun t ht hW => ⟨⟨f_13, rfl, ⟨hG, hfr0⟩, by rw [ht]; exact hP, va_K.moved hW.alike hK, pl_in hD⟩, hS.F ht⟩) hS.2.2 dX5_openContext_17
set_option maxHeartbeats 8000000 in
set_option maxRecDepth 100000 in
theorem s_X5_putEdge_k205 (l : Launch) (D : va_G) (cI cL cZ cR cG cH : ClassId) (Z : zT) (kd : Nat → Nat) (L : List Nat) (f : Nat → va_E) (hG : GI (okc cI cL cZ cR cG cH L kd) kd L f) (o0 : Nat) (mo0 : o0 ∈ L) (ko0 : kd o0 = 205) (p1 : Int32) : mPV l D cI cL cZ cR cG cH Z yX5_putEdge cX5_putEdge 2 none 0 0 [.ref o0, .int p1] L f (fun (f9 : Nat → va_E) => GI (okc cI cL cZ cR cG cH L kd) kd L f9 ∧ (∀ b, kd b ≠ 205 → f9 b = f b)) := by
  obtain ⟨dC, dI⟩ := D
  refine Met.ofW (cc := cX5_putEdge) (maxL := 2) (ret := none) (by decide) rfl ?_
  intro p e s m args below meth c s₁ B hml hv
  obtain ⟨rfl, hP, hK, hD0, hN, hZ⟩ := hv
  have hx := B.exec
  have hb := B.bytes
  have hr := B.returns
  have hU : ∀ w ∈ wsU, w.before _ s = true := fun w h => atoms_spec (ws := wU yX5_putEdge cX5_putEdge 2 none) B.pre w (List.mem_cons_of_mem _ h)
  have hown : s.vm.findClass RX5 = some m.cls := findClass_of_methodNamed B.named
  have hlocks := B.notSynchronized
  have hD := pl_in hD0
  have hS : va_S (fun q => q ∈ L) s.heap s.heap [] := va_S.rf
  have hl := lv_entry ([.ref o0, .int p1]) (n := 2) (Nat.le_of_ble_eq_true rfl)
  rw [lg_entry_eq]
  generalize (lg_sl ([.ref o0, .int p1]) ++ List.replicate (2 - (lg_sl ([.ref o0, .int p1])).length) Slot.unset).toArray = ls at hl ⊢
  have hl : lv_has ls 2 [(0, .ref o0), (1, .int p1)] := hl
  have bp1 : ((-2147483648) ≤ p1.toInt ∧ p1.toInt ≤ 2147483647) := ⟨i32_lo _, i32_hi _⟩
  have hfr0 : ∀ b, kd b ≠ 205 → f b = f b := fun _ _ => rfl
  refine lv_aload_n hx hb dX5_putEdge_0 rfl (lv_at hl 0 rfl) ?_
  refine lv_dup hx hb dX5_putEdge_1 rfl ?_
  obtain ⟨a_2, a_3, a_4, v_5, v_6, v_7, hfo_1, ⟨ma_2, ka_2⟩, ⟨ma_3, ka_3⟩, ⟨ma_4, ka_4⟩⟩ := un_205 (hG _ mo0) ko0
  have bv_5 : ((-2147483648) ≤ v_5.toInt ∧ v_5.toInt ≤ 2147483647) := ⟨i32_lo _, i32_hi _⟩
  have bv_6 : ((-2147483648) ≤ v_6.toInt ∧ v_6.toInt ≤ 2147483647) := ⟨i32_lo _, i32_hi _⟩
  have bv_7 : ((-2147483648) ≤ v_7.toInt ∧ v_7.toInt ≤ 2147483647) := ⟨i32_lo _, i32_hi _⟩
  refine tk_getP (D := (dC, dI)) (ci := 5) (v := .int v_7) (C := RX5) (T := TX5) (N := 6) hx hb hU inlX5 hown hK hP mo0 hfo_1 rfl 5 (by decide) (hU _ wd_417) (fun _ h9 => h9) rfl dX5_putEdge_2 ?_
  refine lv_iconst (v := 1) hx hb dX5_putEdge_5 (by decide) ?_
  refine lv_iload_n hx hb dX5_putEdge_6 rfl (lv_at hl 1 rfl) ?_
  refine lv_ishl hx hb dX5_putEdge_7 ?_
  refine lv_topi (fun x_8 ex_8 => ?_)
  have bx_8 : ((-2147483648) ≤ x_8.toInt ∧ x_8.toInt ≤ 2147483647) := ⟨i32_lo _, i32_hi _⟩
  refine lv_ior hx hb dX5_putEdge_8 ?_
  refine lv_topi (fun x_9 ex_9 => ?_)
  have bx_9 : ((-2147483648) ≤ x_9.toInt ∧ x_9.toInt ≤ 2147483647) := ⟨i32_lo _, i32_hi _⟩
  refine tk_putP (D := (dC, dI)) (ci := 5) (v := .int x_9) (ty := .int) (C := RX5) (T := TX5) (N := 6) hx hb hU inlX5 tyX5 tyX5_ok nmX5 hown hK hP hD hS mo0 hfo_1 rfl 5 (by decide) (hU _ wd_417) (fun _ h9 => h9) rfl (by decide +kernel) rfl rfl (Nat.le_of_ble_eq_true rfl) dX5_putEdge_9 (fun H locs hP hD hS => ?_)
  obtain ⟨f_11, ef_11⟩ : ∃ y : Nat → va_E, y = va_up f o0 (.inr (5, [.ref a_2, .ref a_3, .ref a_4, .int v_5, .int v_6, .int x_9])) := ⟨_, rfl⟩
  have hP : va_P (dC, dI) vwCl (va_pl L f_11) H := by rw [ef_11]; exact hP
  have hD : va_D (fun q => q ∈ L) (va_pl L f_11) := by rw [ef_11]; exact hD
  have hG : GI (okc cI cL cZ cR cG cH L kd) kd L f_11 := by rw [ef_11]; exact hG.set o0 (mk_205 ko0 ⟨a_2, a_3, a_4, v_5, v_6, x_9, rfl, ⟨ma_2, ka_2⟩, ⟨ma_3, ka_3⟩, ⟨ma_4, ka_4⟩⟩)
  have hfr0 : ∀ b, kd b ≠ 205 → f_11 b = f b := fun b q205 => (congrFun ef_11 b).trans ((up_ne (fun e9 => q205 (by rw [e9]; exact ko0))).trans (hfr0 b q205))
  have hfo_12 : f_11 o0 = .inr (5, [.ref a_2, .ref a_3, .ref a_4, .int v_5, .int v_6, .int x_9]) := by rw [ef_11]; exact up_self
  exact W.vret hx hb hr (fun t ht hW => ⟨⟨f_11, rfl, ⟨hG, hfr0⟩, by rw [ht]; exact hP, va_K.moved hW.alike hK, pl_in hD⟩, hS.F ht⟩) hS.2.2 dX5_putEdge_12
