set_option maxHeartbeats 8000000 in
set_option maxRecDepth 100000 in
theorem s_X5_addItem_k205 (l : Launch) (D : va_G) (cI cL cZ cR cG cH : ClassId) (Z : zT) (kd : Nat → Nat) (L : List Nat) (f : Nat → va_E) (hG : GI (okc cI cL cZ cR cG cH L kd) kd L f) (o0 : Nat) (mo0 : o0 ∈ L) (ko0 : kd o0 = 205) (p1 : Int32) (bp1 : (0 ≤ p1.toInt ∧ p1.toInt ≤ 2)) (p2 : Int32) (p3 : Int32) (p4 : Int32) (bp4 : (0 ≤ p4.toInt ∧ p4.toInt ≤ 1)) : mPV l D cI cL cZ cR cG cH Z yX5_addItem cX5_addItem 7 none 1 40 [.ref o0, .int p1, .int p2, .int p3, .int p4] L f (fun (f9 : Nat → va_E) => GI (okc cI cL cZ cR cG cH L kd) kd L f9 ∧ (∀ b, kd b ≠ 205 → kd b ≠ 558 → f9 b = f b)) := by
  obtain ⟨dC, dI⟩ := D
  refine Met.ofW (cc := cX5_addItem) (maxL := 7) (ret := none) (by decide) rfl ?_
  intro p e s m args below meth c s₁ B hml hv
  obtain ⟨rfl, hP, hK, hD0, hN, hZ⟩ := hv
  have hx := B.exec
  have hb := B.bytes
  have hr := B.returns
  have hU : ∀ w ∈ wsU, w.before _ s = true := fun w h => atoms_spec (ws := wU yX5_addItem cX5_addItem 7 none) B.pre w (List.mem_cons_of_mem _ h)
  have hown : s.vm.findClass RX5 = some m.cls := findClass_of_methodNamed B.named
  have hlocks := B.notSynchronized
  have hD := pl_in hD0
  have hS : va_S (fun q => q ∈ L) s.heap s.heap [] := va_S.rf
  have hl := lv_entry ([.ref o0, .int p1, .int p2, .int p3, .int p4]) (n := 7) (Nat.le_of_ble_eq_true rfl)
  rw [lg_entry_eq]
  generalize (lg_sl ([.ref o0, .int p1, .int p2, .int p3, .int p4]) ++ List.replicate (7 - (lg_sl ([.ref o0, .int p1, .int p2, .int p3, .int p4])).length) Slot.unset).toArray = ls at hl ⊢
  have hl : lv_has ls 7 [(0, .ref o0), (1, .int p1), (2, .int p2), (3, .int p3), (4, .int p4)] := hl
  have bp2 : ((-2147483648) ≤ p2.toInt ∧ p2.toInt ≤ 2147483647) := ⟨i32_lo _, i32_hi _⟩
  have bp3 : ((-2147483648) ≤ p3.toInt ∧ p3.toInt ≤ 2147483647) := ⟨i32_lo _, i32_hi _⟩
  have hfr0 : ∀ b, kd b ≠ 205 → kd b ≠ 558 → f b = f b := fun _ _ _ => rfl
  refine lv_iload_n hx hb dX5_addItem_0 rfl (lv_at hl 1 rfl) ?_
  refine lv_bipush (v := 6) hx hb dX5_addItem_1 (by decide) ?_
  refine lv_imul hx hb dX5_addItem_3 ?_
  refine lv_topi (fun x_1 ex_1 => ?_)
  have hx_1 : x_1.toInt = p1.toInt * 6 := by rw [ex_1, ml_I (by rw [ti_6]; omega) (by rw [ti_6]; omega), ti_6]
  have bx_1 : (0 ≤ x_1.toInt ∧ x_1.toInt ≤ 12) := by constructor <;> omega
  refine lv_istore (lv' := [(5, .int x_1), (0, .ref o0), (1, .int p1), (2, .int p2), (3, .int p3), (4, .int p4)]) hx hb dX5_addItem_4 hl (by decide) rfl (fun ls hl => ?_)
  refine lv_bipush (v := 63) hx hb dX5_addItem_6 (by decide) ?_
  refine lv_iload hx hb dX5_addItem_8 (lv_at hl 0 rfl) ?_
  refine lv_ishl hx hb dX5_addItem_10 ?_
  refine lv_topi (fun x_2 ex_2 => ?_)
  have bx_2 : ((-2147483648) ≤ x_2.toInt ∧ x_2.toInt ≤ 2147483647) := ⟨i32_lo _, i32_hi _⟩
  refine lv_istore (lv' := [(6, .int x_2), (5, .int x_1), (0, .ref o0), (1, .int p1), (2, .int p2), (3, .int p3), (4, .int p4)]) hx hb dX5_addItem_11 hl (by decide) rfl (fun ls hl => ?_)
  refine lv_aload_n hx hb dX5_addItem_13 rfl (lv_at hl 2 rfl) ?_
  obtain ⟨a_4, a_5, a_6, v_7, v_8, v_9, hfo_3, ⟨ma_4, ka_4⟩, ⟨ma_5, ka_5⟩, ⟨ma_6, ka_6⟩⟩ := un_205 (hG _ mo0) ko0
  have bv_7 : ((-2147483648) ≤ v_7.toInt ∧ v_7.toInt ≤ 2147483647) := ⟨i32_lo _, i32_hi _⟩
  have bv_8 : ((-2147483648) ≤ v_8.toInt ∧ v_8.toInt ≤ 2147483647) := ⟨i32_lo _, i32_hi _⟩
  have bv_9 : ((-2147483648) ≤ v_9.toInt ∧ v_9.toInt ≤ 2147483647) := ⟨i32_lo _, i32_hi _⟩
  refine tk_getP (D := (dC, dI)) (ci := 5) (v := .ref a_4) (C := RX5) (T := TX5) (N := 6) hx hb hU inlX5 hown hK hP mo0 hfo_3 rfl 0 (by decide) (hU _ wd_110) (fun _ h9 => h9) rfl dX5_addItem_14 ?_
  refine lv_iload hx hb dX5_addItem_17 (lv_at hl 1 rfl) ?_
  refine lv_iconst (v := 1) hx hb dX5_addItem_19 (by decide) ?_
  refine lv_iadd hx hb dX5_addItem_20 ?_
  refine lv_topi (fun x_10 ex_10 => ?_)
  have hx_10 : x_10.toInt = x_1.toInt + 1 := by rw [ex_10, ad_I (by rw [ti_1]; omega) (by rw [ti_1]; omega), ti_1]
  have bx_10 : (1 ≤ x_10.toInt ∧ x_10.toInt ≤ 13) := by constructor <;> omega
  refine lv_aload_n hx hb dX5_addItem_21 rfl (lv_at hl 2 rfl) ?_
  refine tk_getP (D := (dC, dI)) (ci := 5) (v := .ref a_4) (C := RX5) (T := TX5) (N := 6) hx hb hU inlX5 hown hK hP mo0 hfo_3 rfl 0 (by decide) (hU _ wd_110) (fun _ h9 => h9) rfl dX5_addItem_22 ?_
  refine lv_iload hx hb dX5_addItem_25 (lv_at hl 1 rfl) ?_
  refine lv_iconst (v := 4) hx hb dX5_addItem_27 (by decide) ?_
  obtain ⟨g_12, hfo_11, hbg_12⟩ := un_558 (hG _ ma_4) ka_4
  refine tk_copyP hx hb (by rw [hml]; exact hl.1.symm) hown (hU _ wd_466) (hU _ wd_253) (hU _ wd_254) (hU _ wd_255) hK hP hD hS 0 ma_4 ma_4 hfo_11 hfo_11 rfl (by rw [Int32.lt_iff_toInt_lt, ti_0]; omega) (by rw [Int32.lt_iff_toInt_lt, ti_0]; omega) (by decide) (cp_ok (by omega) (by rw [ti_4]; omega) (by rw [ti_4]; omega)) (cp_ok (by omega) (by rw [ti_4]; omega) (by rw [ti_4]; omega)) (Nat.le_of_ble_eq_true rfl) (Nat.le_of_ble_eq_true rfl) dX5_addItem_28 (fun H locs hP hD hS => ?_)
  obtain ⟨f_14, ef_14⟩ : ∃ y : Nat → va_E, y = va_up f a_4 (.inl (cI, 18, .inl (va_cpy g_12 g_12 (Int32.toNatClampNeg x_10) (Int32.toNatClampNeg x_1) (Int32.toNatClampNeg 4)))) := ⟨_, rfl⟩
  have hP : va_P (dC, dI) vwCl (va_pl L f_14) H := by rw [ef_14]; exact hP
  have hD : va_D (fun q => q ∈ L) (va_pl L f_14) := by rw [ef_14]; exact hD
  have hG : GI (okc cI cL cZ cR cG cH L kd) kd L f_14 := by rw [ef_14]; exact hG.set a_4 (mk_558 ka_4 ⟨_, rfl, okI_cpy (fun j => by have := hbg_12 j; constructor <;> omega) hbg_12 _ _ _⟩)
  have hfo_15 : f_14 o0 = .inr (5, [.ref a_4, .ref a_5, .ref a_6, .int v_7, .int v_8, .int v_9]) := by rw [ef_14, up_ne (kd_ne ka_4 ko0 (by decide))]; exact hfo_3
  have hfr0 : ∀ b, kd b ≠ 205 → kd b ≠ 558 → f_14 b = f b := fun b q205 q558 => (congrFun ef_14 b).trans ((up_ne (fun e9 => q558 (by rw [e9]; exact ka_4))).trans (hfr0 b q205 q558))
  have hfo_16 : f_14 a_4 = .inl (cI, 18, .inl (va_cpy g_12 g_12 (Int32.toNatClampNeg x_10) (Int32.toNatClampNeg x_1) (Int32.toNatClampNeg 4))) := by rw [ef_14]; exact up_self
  refine lv_aload_n hx hb dX5_addItem_31 rfl (lv_at hl 2 rfl) ?_
  refine tk_getP (D := (dC, dI)) (ci := 5) (v := .ref a_5) (C := RX5) (T := TX5) (N := 6) hx hb hU inlX5 hown hK hP mo0 hfo_15 rfl 1 (by decide) (hU _ wd_111) (fun _ h9 => h9) rfl dX5_addItem_32 ?_
  refine lv_iload hx hb dX5_addItem_35 (lv_at hl 1 rfl) ?_
  refine lv_iconst (v := 1) hx hb dX5_addItem_37 (by decide) ?_
  refine lv_iadd hx hb dX5_addItem_38 ?_
  refine lv_topi (fun x_17 ex_17 => ?_)
  have hx_17 : x_17.toInt = x_1.toInt + 1 := by rw [ex_17, ad_I (by rw [ti_1]; omega) (by rw [ti_1]; omega), ti_1]
  have bx_17 : (1 ≤ x_17.toInt ∧ x_17.toInt ≤ 13) := by constructor <;> omega
  refine lv_aload_n hx hb dX5_addItem_39 rfl (lv_at hl 2 rfl) ?_
  refine tk_getP (D := (dC, dI)) (ci := 5) (v := .ref a_5) (C := RX5) (T := TX5) (N := 6) hx hb hU inlX5 hown hK hP mo0 hfo_15 rfl 1 (by decide) (hU _ wd_111) (fun _ h9 => h9) rfl dX5_addItem_40 ?_
  refine lv_iload hx hb dX5_addItem_43 (lv_at hl 1 rfl) ?_
  refine lv_iconst (v := 4) hx hb dX5_addItem_45 (by decide) ?_
  obtain ⟨g_19, hfo_18, hbg_19⟩ := un_558 (hG _ ma_5) ka_5
  refine tk_copyP hx hb (by rw [hml]; exact hl.1.symm) hown (hU _ wd_466) (hU _ wd_253) (hU _ wd_254) (hU _ wd_255) hK hP hD hS 0 ma_5 ma_5 hfo_18 hfo_18 rfl (by rw [Int32.lt_iff_toInt_lt, ti_0]; omega) (by rw [Int32.lt_iff_toInt_lt, ti_0]; omega) (by decide) (cp_ok (by omega) (by rw [ti_4]; omega) (by rw [ti_4]; omega)) (cp_ok (by omega) (by rw [ti_4]; omega) (by rw [ti_4]; omega)) (Nat.le_of_ble_eq_true rfl) (Nat.le_of_ble_eq_true rfl) dX5_addItem_46 (fun H locs hP hD hS => ?_)
  obtain ⟨f_21, ef_21⟩ : ∃ y : Nat → va_E, y = va_up f_14 a_5 (.inl (cI, 18, .inl (va_cpy g_19 g_19 (Int32.toNatClampNeg x_17) (Int32.toNatClampNeg x_1) (Int32.toNatClampNeg 4)))) := ⟨_, rfl⟩
  have hP : va_P (dC, dI) vwCl (va_pl L f_21) H := by rw [ef_21]; exact hP
  have hD : va_D (fun q => q ∈ L) (va_pl L f_21) := by rw [ef_21]; exact hD
  have hG : GI (okc cI cL cZ cR cG cH L kd) kd L f_21 := by rw [ef_21]; exact hG.set a_5 (mk_558 ka_5 ⟨_, rfl, okI_cpy (fun j => by have := hbg_19 j; constructor <;> omega) hbg_19 _ _ _⟩)
  have hfo_22 : f_21 o0 = .inr (5, [.ref a_4, .ref a_5, .ref a_6, .int v_7, .int v_8, .int v_9]) := by rw [ef_21, up_ne (kd_ne ka_5 ko0 (by decide))]; exact hfo_15
  have hfr0 : ∀ b, kd b ≠ 205 → kd b ≠ 558 → f_21 b = f b := fun b q205 q558 => (congrFun ef_21 b).trans ((up_ne (fun e9 => q558 (by rw [e9]; exact ka_5))).trans (hfr0 b q205 q558))
  have hfo_23 : f_21 a_5 = .inl (cI, 18, .inl (va_cpy g_19 g_19 (Int32.toNatClampNeg x_17) (Int32.toNatClampNeg x_1) (Int32.toNatClampNeg 4))) := by rw [ef_21]; exact up_self
  refine lv_aload_n hx hb dX5_addItem_49 rfl (lv_at hl 2 rfl) ?_
  refine tk_getP (D := (dC, dI)) (ci := 5) (v := .ref a_4) (C := RX5) (T := TX5) (N := 6) hx hb hU inlX5 hown hK hP mo0 hfo_22 rfl 0 (by decide) (hU _ wd_110) (fun _ h9 => h9) rfl dX5_addItem_50 ?_
  refine lv_iload hx hb dX5_addItem_53 (lv_at hl 1 rfl) ?_
  refine lv_iconst (v := 5) hx hb dX5_addItem_55 (by decide) ?_
  refine lv_iadd hx hb dX5_addItem_56 ?_
  refine lv_topi (fun x_24 ex_24 => ?_)
  have hx_24 : x_24.toInt = x_1.toInt + 5 := by rw [ex_24, ad_I (by rw [ti_5]; omega) (by rw [ti_5]; omega), ti_5]
  have bx_24 : (5 ≤ x_24.toInt ∧ x_24.toInt ≤ 17) := by constructor <;> omega
  refine lv_iconst (v := 1) hx hb dX5_addItem_57 (by decide) ?_
  refine lv_isub hx hb dX5_addItem_58 ?_
  refine lv_topi (fun x_25 ex_25 => ?_)
  have hx_25 : x_25.toInt = x_24.toInt - 1 := by rw [ex_25, sb_I (by rw [ti_1]; omega) (by rw [ti_1]; omega), ti_1]
  have bx_25 : (4 ≤ x_25.toInt ∧ x_25.toInt ≤ 16) := by constructor <;> omega
  refine lv_iload_n hx hb dX5_addItem_59 rfl (lv_at hl 4 rfl) ?_
  obtain ⟨g_27, hfo_26, hbg_27⟩ := un_558 (hG _ ma_4) ka_4
  refine tk_istP hx hb hK hP hD hS 0 ma_4 hfo_26 rfl (vp_in_iff.mpr (by constructor <;> omega)) dX5_addItem_60 (fun H locs hP hD hS => ?_)
  obtain ⟨f_29, ef_29⟩ : ∃ y : Nat → va_E, y = va_up f_21 a_4 (.inl (cI, 18, .inl (upd g_27 (Int32.toNatClampNeg x_25) p2))) := ⟨_, rfl⟩
  have hP : va_P (dC, dI) vwCl (va_pl L f_29) H := by rw [ef_29]; exact hP
  have hD : va_D (fun q => q ∈ L) (va_pl L f_29) := by rw [ef_29]; exact hD
  have hG : GI (okc cI cL cZ cR cG cH L kd) kd L f_29 := by rw [ef_29]; exact hG.set a_4 (mk_558 ka_4 ⟨_, rfl, okI_up hbg_27 ⟨i32_lo _, i32_hi _⟩ _⟩)
  have hfo_30 : f_29 o0 = .inr (5, [.ref a_4, .ref a_5, .ref a_6, .int v_7, .int v_8, .int v_9]) := by rw [ef_29, up_ne (kd_ne ka_4 ko0 (by decide))]; exact hfo_22
  have hfr0 : ∀ b, kd b ≠ 205 → kd b ≠ 558 → f_29 b = f b := fun b q205 q558 => (congrFun ef_29 b).trans ((up_ne (fun e9 => q558 (by rw [e9]; exact ka_4))).trans (hfr0 b q205 q558))
  have hfo_31 : f_29 a_4 = .inl (cI, 18, .inl (upd g_27 (Int32.toNatClampNeg x_25) p2)) := by rw [ef_29]; exact up_self
  refine lv_aload_n hx hb dX5_addItem_61 rfl (lv_at hl 2 rfl) ?_
  refine tk_getP (D := (dC, dI)) (ci := 5) (v := .ref a_5) (C := RX5) (T := TX5) (N := 6) hx hb hU inlX5 hown hK hP mo0 hfo_30 rfl 1 (by decide) (hU _ wd_111) (fun _ h9 => h9) rfl dX5_addItem_62 ?_
  refine lv_iload hx hb dX5_addItem_65 (lv_at hl 1 rfl) ?_
  refine lv_iconst (v := 5) hx hb dX5_addItem_67 (by decide) ?_
  refine lv_iadd hx hb dX5_addItem_68 ?_
  refine lv_topi (fun x_32 ex_32 => ?_)
  have hx_32 : x_32.toInt = x_1.toInt + 5 := by rw [ex_32, ad_I (by rw [ti_5]; omega) (by rw [ti_5]; omega), ti_5]
  have bx_32 : (5 ≤ x_32.toInt ∧ x_32.toInt ≤ 17) := by constructor <;> omega
  refine lv_iconst (v := 1) hx hb dX5_addItem_69 (by decide) ?_
  refine lv_isub hx hb dX5_addItem_70 ?_
  refine lv_topi (fun x_33 ex_33 => ?_)
  have hx_33 : x_33.toInt = x_32.toInt - 1 := by rw [ex_33, sb_I (by rw [ti_1]; omega) (by rw [ti_1]; omega), ti_1]
  have bx_33 : (4 ≤ x_33.toInt ∧ x_33.toInt ≤ 16) := by constructor <;> omega
  refine lv_iload_n hx hb dX5_addItem_71 rfl (lv_at hl 5 rfl) ?_
  obtain ⟨g_35, hfo_34, hbg_35⟩ := un_558 (hG _ ma_5) ka_5
  refine tk_istP hx hb hK hP hD hS 0 ma_5 hfo_34 rfl (vp_in_iff.mpr (by constructor <;> omega)) dX5_addItem_72 (fun H locs hP hD hS => ?_)
  obtain ⟨f_37, ef_37⟩ : ∃ y : Nat → va_E, y = va_up f_29 a_5 (.inl (cI, 18, .inl (upd g_35 (Int32.toNatClampNeg x_33) p3))) := ⟨_, rfl⟩
  have hP : va_P (dC, dI) vwCl (va_pl L f_37) H := by rw [ef_37]; exact hP
  have hD : va_D (fun q => q ∈ L) (va_pl L f_37) := by rw [ef_37]; exact hD
  have hG : GI (okc cI cL cZ cR cG cH L kd) kd L f_37 := by rw [ef_37]; exact hG.set a_5 (mk_558 ka_5 ⟨_, rfl, okI_up hbg_35 ⟨i32_lo _, i32_hi _⟩ _⟩)
  have hfo_38 : f_37 o0 = .inr (5, [.ref a_4, .ref a_5, .ref a_6, .int v_7, .int v_8, .int v_9]) := by rw [ef_37, up_ne (kd_ne ka_5 ko0 (by decide))]; exact hfo_30
  have hfr0 : ∀ b, kd b ≠ 205 → kd b ≠ 558 → f_37 b = f b := fun b q205 q558 => (congrFun ef_37 b).trans ((up_ne (fun e9 => q558 (by rw [e9]; exact ka_5))).trans (hfr0 b q205 q558))
  have hfo_39 : f_37 a_5 = .inl (cI, 18, .inl (upd g_35 (Int32.toNatClampNeg x_33) p3)) := by rw [ef_37]; exact up_self
  refine lv_aload_n hx hb dX5_addItem_73 rfl (lv_at hl 2 rfl) ?_
  refine lv_aload_n hx hb dX5_addItem_74 rfl (lv_at hl 2 rfl) ?_
  refine tk_getP (D := (dC, dI)) (ci := 5) (v := .int v_8) (C := RX5) (T := TX5) (N := 6) hx hb hU inlX5 hown hK hP mo0 hfo_38 rfl 4 (by decide) (hU _ wd_416) (fun _ h9 => h9) rfl dX5_addItem_75 ?_
  refine lv_iload hx hb dX5_addItem_78 (lv_at hl 0 rfl) ?_
  refine lv_iconst (v := (-1)) hx hb dX5_addItem_80 (by decide) ?_
  refine lv_ixor hx hb dX5_addItem_81 ?_
  refine lv_topi (fun x_40 ex_40 => ?_)
  have bx_40 : ((-2147483648) ≤ x_40.toInt ∧ x_40.toInt ≤ 2147483647) := ⟨i32_lo _, i32_hi _⟩
  refine lv_iand hx hb dX5_addItem_82 ?_
  refine lv_topi (fun x_41 ex_41 => ?_)
  have bx_41 : ((-2147483648) ≤ x_41.toInt ∧ x_41.toInt ≤ 2147483647) := ⟨i32_lo _, i32_hi _⟩
  refine lv_aload_n hx hb dX5_addItem_83 rfl (lv_at hl 2 rfl) ?_
  refine tk_getP (D := (dC, dI)) (ci := 5) (v := .int v_8) (C := RX5) (T := TX5) (N := 6) hx hb hU inlX5 hown hK hP mo0 hfo_38 rfl 4 (by decide) (hU _ wd_416) (fun _ h9 => h9) rfl dX5_addItem_84 ?_
  refine lv_iload hx hb dX5_addItem_87 (lv_at hl 0 rfl) ?_
  refine lv_iand hx hb dX5_addItem_89 ?_
  refine lv_topi (fun x_42 ex_42 => ?_)
  have bx_42 : ((-2147483648) ≤ x_42.toInt ∧ x_42.toInt ≤ 2147483647) := ⟨i32_lo _, i32_hi _⟩
  refine lv_iconst (v := 1) hx hb dX5_addItem_90 (by decide) ?_
  refine lv_ishr hx hb dX5_addItem_91 ?_
  refine lv_topi (fun x_43 ex_43 => ?_)
  have bx_43 : ((-2147483648) ≤ x_43.toInt ∧ x_43.toInt ≤ 2147483647) := ⟨i32_lo _, i32_hi _⟩
  refine lv_iload hx hb dX5_addItem_92 (lv_at hl 0 rfl) ?_
  refine lv_iand hx hb dX5_addItem_94 ?_
  refine lv_topi (fun x_44 ex_44 => ?_)
  have bx_44 : ((-2147483648) ≤ x_44.toInt ∧ x_44.toInt ≤ 2147483647) := ⟨i32_lo _, i32_hi _⟩
  refine lv_ior hx hb dX5_addItem_95 ?_
  refine lv_topi (fun x_45 ex_45 => ?_)
  have bx_45 : ((-2147483648) ≤ x_45.toInt ∧ x_45.toInt ≤ 2147483647) := ⟨i32_lo _, i32_hi _⟩
  refine tk_putP (D := (dC, dI)) (ci := 5) (v := .int x_45) (ty := .int) (C := RX5) (T := TX5) (N := 6) hx hb hU inlX5 tyX5 tyX5_ok nmX5 hown hK hP hD hS mo0 hfo_38 rfl 4 (by decide) (hU _ wd_416) (fun _ h9 => h9) rfl (by decide +kernel) rfl rfl (Nat.le_of_ble_eq_true rfl) dX5_addItem_96 (fun H locs hP hD hS => ?_)
  obtain ⟨f_47, ef_47⟩ : ∃ y : Nat → va_E, y = va_up f_37 o0 (.inr (5, [.ref a_4, .ref a_5, .ref a_6, .int v_7, .int x_45, .int v_9])) := ⟨_, rfl⟩
  have hP : va_P (dC, dI) vwCl (va_pl L f_47) H := by rw [ef_47]; exact hP
  have hD : va_D (fun q => q ∈ L) (va_pl L f_47) := by rw [ef_47]; exact hD
  have hG : GI (okc cI cL cZ cR cG cH L kd) kd L f_47 := by rw [ef_47]; exact hG.set o0 (mk_205 ko0 ⟨a_4, a_5, a_6, v_7, x_45, v_9, rfl, ⟨ma_4, ka_4⟩, ⟨ma_5, ka_5⟩, ⟨ma_6, ka_6⟩⟩)
  have hfr0 : ∀ b, kd b ≠ 205 → kd b ≠ 558 → f_47 b = f b := fun b q205 q558 => (congrFun ef_47 b).trans ((up_ne (fun e9 => q205 (by rw [e9]; exact ko0))).trans (hfr0 b q205 q558))
  have hfo_48 : f_47 o0 = .inr (5, [.ref a_4, .ref a_5, .ref a_6, .int v_7, .int x_45, .int v_9]) := by rw [ef_47]; exact up_self
  refine lv_aload_n hx hb dX5_addItem_99 rfl (lv_at hl 2 rfl) ?_
  refine lv_aload_n hx hb dX5_addItem_100 rfl (lv_at hl 2 rfl) ?_
  refine tk_getP (D := (dC, dI)) (ci := 5) (v := .int v_7) (C := RX5) (T := TX5) (N := 6) hx hb hU inlX5 hown hK hP mo0 hfo_48 rfl 3 (by decide) (hU _ wd_415) (fun _ h9 => h9) rfl dX5_addItem_101 ?_
  refine lv_iload hx hb dX5_addItem_104 (lv_at hl 0 rfl) ?_
  refine lv_iconst (v := (-1)) hx hb dX5_addItem_106 (by decide) ?_
  refine lv_ixor hx hb dX5_addItem_107 ?_
  refine lv_topi (fun x_49 ex_49 => ?_)
  have bx_49 : ((-2147483648) ≤ x_49.toInt ∧ x_49.toInt ≤ 2147483647) := ⟨i32_lo _, i32_hi _⟩
  refine lv_iand hx hb dX5_addItem_108 ?_
  refine lv_topi (fun x_50 ex_50 => ?_)
  have bx_50 : ((-2147483648) ≤ x_50.toInt ∧ x_50.toInt ≤ 2147483647) := ⟨i32_lo _, i32_hi _⟩
  refine lv_aload_n hx hb dX5_addItem_109 rfl (lv_at hl 2 rfl) ?_
  refine tk_getP (D := (dC, dI)) (ci := 5) (v := .int v_7) (C := RX5) (T := TX5) (N := 6) hx hb hU inlX5 hown hK hP mo0 hfo_48 rfl 3 (by decide) (hU _ wd_415) (fun _ h9 => h9) rfl dX5_addItem_110 ?_
  refine lv_iload hx hb dX5_addItem_113 (lv_at hl 0 rfl) ?_
  refine lv_iand hx hb dX5_addItem_115 ?_
  refine lv_topi (fun x_51 ex_51 => ?_)
  have bx_51 : ((-2147483648) ≤ x_51.toInt ∧ x_51.toInt ≤ 2147483647) := ⟨i32_lo _, i32_hi _⟩
  refine lv_iconst (v := 1) hx hb dX5_addItem_116 (by decide) ?_
  refine lv_ishr hx hb dX5_addItem_117 ?_
  refine lv_topi (fun x_52 ex_52 => ?_)
  have bx_52 : ((-2147483648) ≤ x_52.toInt ∧ x_52.toInt ≤ 2147483647) := ⟨i32_lo _, i32_hi _⟩
  refine lv_iload hx hb dX5_addItem_118 (lv_at hl 0 rfl) ?_
  refine lv_iand hx hb dX5_addItem_120 ?_
  refine lv_topi (fun x_53 ex_53 => ?_)
  have bx_53 : ((-2147483648) ≤ x_53.toInt ∧ x_53.toInt ≤ 2147483647) := ⟨i32_lo _, i32_hi _⟩
  refine lv_ior hx hb dX5_addItem_121 ?_
  refine lv_topi (fun x_54 ex_54 => ?_)
  have bx_54 : ((-2147483648) ≤ x_54.toInt ∧ x_54.toInt ≤ 2147483647) := ⟨i32_lo _, i32_hi _⟩
  refine tk_putP (D := (dC, dI)) (ci := 5) (v := .int x_54) (ty := .int) (C := RX5) (T := TX5) (N := 6) hx hb hU inlX5 tyX5 tyX5_ok nmX5 hown hK hP hD hS mo0 hfo_48 rfl 3 (by decide) (hU _ wd_415) (fun _ h9 => h9) rfl (by decide +kernel) rfl rfl (Nat.le_of_ble_eq_true rfl) dX5_addItem_122 (fun H locs hP hD hS => ?_)
  obtain ⟨f_56, ef_56⟩ : ∃ y : Nat → va_E, y = va_up f_47 o0 (.inr (5, [.ref a_4, .ref a_5, .ref a_6, .int x_54, .int x_45, .int v_9])) := ⟨_, rfl⟩
  have hP : va_P (dC, dI) vwCl (va_pl L f_56) H := by rw [ef_56]; exact hP
  have hD : va_D (fun q => q ∈ L) (va_pl L f_56) := by rw [ef_56]; exact hD
  have hG : GI (okc cI cL cZ cR cG cH L kd) kd L f_56 := by rw [ef_56]; exact hG.set o0 (mk_205 ko0 ⟨a_4, a_5, a_6, x_54, x_45, v_9, rfl, ⟨ma_4, ka_4⟩, ⟨ma_5, ka_5⟩, ⟨ma_6, ka_6⟩⟩)
  have hfr0 : ∀ b, kd b ≠ 205 → kd b ≠ 558 → f_56 b = f b := fun b q205 q558 => (congrFun ef_56 b).trans ((up_ne (fun e9 => q205 (by rw [e9]; exact ko0))).trans (hfr0 b q205 q558))
  have hfo_57 : f_56 o0 = .inr (5, [.ref a_4, .ref a_5, .ref a_6, .int x_54, .int x_45, .int v_9]) := by rw [ef_56]; exact up_self
  refine lv_iload hx hb dX5_addItem_125 (lv_at hl 6 rfl) ?_
  have hcut_60 : ∀ (f_59 : Nat → va_E), GI (okc cI cL cZ cR cG cH L kd) kd L f_59 → ∀ (H : Heap) (locs : List Loc), va_P (dC, dI) vwCl (va_pl L f_59) H → va_S (fun q => q ∈ L) s.heap H locs → va_D (fun q => q ∈ L) (va_pl L f_59) → (∀ b, kd b ≠ 205 → kd b ≠ 558 → f_59 b = f b) → ∀ (ls : Array Slot), lv_has ls 7 [(6, .int x_2), (5, .int x_1), (0, .ref o0), (1, .int p1), (2, .int p2), (3, .int p3), (4, .int p4)] → W p l e (headSpec (wU yX5_addItem cX5_addItem 7 none) { frames := 1, cells := 0, slots := 0, locals := 40 }).room s m [.ref o0, .int p1, .int p2, .int p3, .int p4].toArray below meth c H locs 0 0 (MQ below (va_Qv (fun (f9 : Nat → va_E) => GI (okc cI cL cZ cR cG cH L kd) kd L f9 ∧ (∀ b, kd b ≠ 205 → kd b ≠ 558 → f9 b = f b)) (qP (dC, dI) cI cL cZ cR cG cH L) (fun q => q ∈ L)) [.ref o0, .int p1, .int p2, .int p3, .int p4].toArray s 0 0 (fun q => q ∈ L)) (F0 m 147 ls []) := by
    intro f_59 hG H locs hP hS hD hfr0 ls hl
    exact W.vret hx hb hr (fun t ht hW => ⟨⟨f_59, rfl, ⟨hG, hfr0⟩, by rw [ht]; exact hP, va_K.moved hW.alike hK, pl_in hD⟩, hS.F ht⟩) hS.2.2 dX5_addItem_147
  refine lv_if_eq (tgt := 147) hx hb dX5_addItem_127 (by decide) (fun c_61 => ?_) (fun c_61 => ?_)
  · skip
    rw [← Int32.toInt_inj, ti_0] at c_61
    exact hcut_60 f_56 hG _ _ hP hS hD hfr0 ls (lv_sub hl [0, 1, 2, 3, 4, 5, 6] rfl)
  · skip
    rw [← Int32.toInt_inj, ti_0] at c_61
    refine lv_aload_n hx hb dX5_addItem_130 rfl (lv_at hl 2 rfl) ?_
    refine lv_dup hx hb dX5_addItem_131 rfl ?_
    refine tk_getP (D := (dC, dI)) (ci := 5) (v := .int x_54) (C := RX5) (T := TX5) (N := 6) hx hb hU inlX5 hown hK hP mo0 hfo_57 rfl 3 (by decide) (hU _ wd_415) (fun _ h9 => h9) rfl dX5_addItem_132 ?_
    refine lv_iconst (v := 1) hx hb dX5_addItem_135 (by decide) ?_
    refine lv_iload hx hb dX5_addItem_136 (lv_at hl 1 rfl) ?_
    refine lv_iconst (v := 5) hx hb dX5_addItem_138 (by decide) ?_
    refine lv_iadd hx hb dX5_addItem_139 ?_
    refine lv_topi (fun x_62 ex_62 => ?_)
    have hx_62 : x_62.toInt = x_1.toInt + 5 := by rw [ex_62, ad_I (by rw [ti_5]; omega) (by rw [ti_5]; omega), ti_5]
    have bx_62 : (5 ≤ x_62.toInt ∧ x_62.toInt ≤ 17) := by constructor <;> omega
    refine lv_iconst (v := 1) hx hb dX5_addItem_140 (by decide) ?_
    refine lv_isub hx hb dX5_addItem_141 ?_
    refine lv_topi (fun x_63 ex_63 => ?_)
    have hx_63 : x_63.toInt = x_62.toInt - 1 := by rw [ex_63, sb_I (by rw [ti_1]; omega) (by rw [ti_1]; omega), ti_1]
    have bx_63 : (4 ≤ x_63.toInt ∧ x_63.toInt ≤ 16) := by constructor <;> omega
    refine lv_ishl hx hb dX5_addItem_142 ?_
    refine lv_topi (fun x_64 ex_64 => ?_)
    have bx_64 : ((-2147483648) ≤ x_64.toInt ∧ x_64.toInt ≤ 2147483647) := ⟨i32_lo _, i32_hi _⟩
    refine lv_ior hx hb dX5_addItem_143 ?_
    refine lv_topi (fun x_65 ex_65 => ?_)
    have bx_65 : ((-2147483648) ≤ x_65.toInt ∧ x_65.toInt ≤ 2147483647) := ⟨i32_lo _, i32_hi _⟩
    refine tk_putP (D := (dC, dI)) (ci := 5) (v := .int x_65) (ty := .int) (C := RX5) (T := TX5) (N := 6) hx hb hU inlX5 tyX5 tyX5_ok nmX5 hown hK hP hD hS mo0 hfo_57 rfl 3 (by decide) (hU _ wd_415) (fun _ h9 => h9) rfl (by decide +kernel) rfl rfl (Nat.le_of_ble_eq_true rfl) dX5_addItem_144 (fun H locs hP hD hS => ?_)
    obtain ⟨f_67, ef_67⟩ : ∃ y : Nat → va_E, y = va_up f_56 o0 (.inr (5, [.ref a_4, .ref a_5, .ref a_6, .int x_65, .int x_45, .int v_9])) := ⟨_, rfl⟩
    have hP : va_P (dC, dI) vwCl (va_pl L f_67) H := by rw [ef_67]; exact hP
    have hD : va_D (fun q => q ∈ L) (va_pl L f_67) := by rw [ef_67]; exact hD
    have hG : GI (okc cI cL cZ cR cG cH L kd) kd L f_67 := by rw [ef_67]; exact hG.set o0 (mk_205 ko0 ⟨a_4, a_5, a_6, x_65, x_45, v_9, rfl, ⟨ma_4, ka_4⟩, ⟨ma_5, ka_5⟩, ⟨ma_6, ka_6⟩⟩)
    have hfr0 : ∀ b, kd b ≠ 205 → kd b ≠ 558 → f_67 b = f b := fun b q205 q558 => (congrFun ef_67 b).trans ((up_ne (fun e9 => q205 (by rw [e9]; exact ko0))).trans (hfr0 b q205 q558))
    have hfo_68 : f_67 o0 = .inr (5, [.ref a_4, .ref a_5, .ref a_6, .int x_65, .int x_45, .int v_9]) := by rw [ef_67]; exact up_self
    exact hcut_60 f_67 hG _ _ hP hS hD hfr0 ls (lv_sub hl [0, 1, 2, 3, 4, 5, 6] rfl)
set_option maxHeartbeats 8000000 in
set_option maxRecDepth 100000 in
theorem s_X5_startsOf_k5 (l : Launch) (D : va_G) (cI cL cZ cR cG cH : ClassId) (Z : zT) (kd : Nat → Nat) (L : List Nat) (f : Nat → va_E) (hG : GI (okc cI cL cZ cR cG cH L kd) kd L f) (o0 : Nat) (mo0 : o0 ∈ L) (ko0 : kd o0 = 5) (p1 : Int32) : mPI l D cI cL cZ cR cG cH Z yX5_startsOf cX5_startsOf 2 (some .int) 1 21 [.ref o0, .int p1] L f (fun (r : Int32) (f9 : Nat → va_E) => f = f9 ∧ ((-2147483648) ≤ r.toInt ∧ r.toInt ≤ 2147483647)) := by
  obtain ⟨dC, dI⟩ := D
  refine Met.ofW (cc := cX5_startsOf) (maxL := 2) (ret := (some .int)) (by decide) rfl ?_
  intro p e s m args below meth c s₁ B hml hv
  obtain ⟨rfl, hP, hK, hD0, hN, hZ⟩ := hv
  have hx := B.exec
  have hb := B.bytes
  have hr := B.returns
  have hU : ∀ w ∈ wsU, w.before _ s = true := fun w h => atoms_spec (ws := wU yX5_startsOf cX5_startsOf 2 (some .int)) B.pre w (List.mem_cons_of_mem _ h)
  have hown : s.vm.findClass RX5 = some m.cls := findClass_of_methodNamed B.named
  have hlocks := B.notSynchronized
  have hD := pl_in hD0
  have hS : va_S (fun q => q ∈ L) s.heap s.heap [] := va_S.rf
  have hl := lv_entry ([.ref o0, .int p1]) (n := 2) (Nat.le_of_ble_eq_true rfl)
  rw [lg_entry_eq]
  generalize (lg_sl ([.ref o0, .int p1]) ++ List.replicate (2 - (lg_sl ([.ref o0, .int p1])).length) Slot.unset).toArray = ls at hl ⊢
  have hl : lv_has ls 2 [(0, .ref o0), (1, .int p1)] := hl
  have bp1 : ((-2147483648) ≤ p1.toInt ∧ p1.toInt ≤ 2147483647) := ⟨i32_lo _, i32_hi _⟩
  refine lv_aload_n hx hb dX5_startsOf_0 rfl (lv_at hl 0 rfl) ?_
  refine lv_aload_n hx hb dX5_startsOf_1 rfl (lv_at hl 0 rfl) ?_
  obtain ⟨a_2, a_3, a_4, v_5, v_6, v_7, hfo_1, ⟨ma_2, ka_2⟩, ⟨ma_3, ka_3⟩, ⟨ma_4, ka_4⟩⟩ := un_5 (hG _ mo0) ko0
  have bv_5 : ((-2147483648) ≤ v_5.toInt ∧ v_5.toInt ≤ 2147483647) := ⟨i32_lo _, i32_hi _⟩
  have bv_6 : ((-2147483648) ≤ v_6.toInt ∧ v_6.toInt ≤ 2147483647) := ⟨i32_lo _, i32_hi _⟩
  have bv_7 : ((-2147483648) ≤ v_7.toInt ∧ v_7.toInt ≤ 2147483647) := ⟨i32_lo _, i32_hi _⟩
  refine tk_getP (D := (dC, dI)) (ci := 5) (v := .int v_6) (C := RX5) (T := TX5) (N := 6) hx hb hU inlX5 hown hK hP mo0 hfo_1 rfl 4 (by decide) (hU _ wd_416) (fun _ h9 => h9) rfl dX5_startsOf_2 ?_
  refine lv_bipush (v := 63) hx hb dX5_startsOf_5 (by decide) ?_
  refine lv_iload_n hx hb dX5_startsOf_7 rfl (lv_at hl 1 rfl) ?_
  refine lv_bipush (v := 6) hx hb dX5_startsOf_8 (by decide) ?_
  refine lv_imul hx hb dX5_startsOf_10 ?_
  refine lv_topi (fun x_8 ex_8 => ?_)
  have bx_8 : ((-2147483648) ≤ x_8.toInt ∧ x_8.toInt ≤ 2147483647) := ⟨i32_lo _, i32_hi _⟩
  refine lv_ishl hx hb dX5_startsOf_11 ?_
  refine lv_topi (fun x_9 ex_9 => ?_)
  have bx_9 : ((-2147483648) ≤ x_9.toInt ∧ x_9.toInt ≤ 2147483647) := ⟨i32_lo _, i32_hi _⟩
  refine lv_iand hx hb dX5_startsOf_12 ?_
  refine lv_topi (fun x_10 ex_10 => ?_)
  have bx_10 : ((-2147483648) ≤ x_10.toInt ∧ x_10.toInt ≤ 2147483647) := ⟨i32_lo _, i32_hi _⟩
  refine tk_ViP (As := [.int x_10]) (rest := []) (n := 1) hx hb hml hown hU hN hZ (s_X5_closure_k5 l (dC, dI) cI cL cZ cR cG cH Z kd L f hG o0 mo0 ko0 x_10) wd_516 wd_517 wd_518 wd_102 wd_519 (by decide +kernel) ⟨Nat.le_of_ble_eq_true rfl, Nat.le_of_ble_eq_true rfl⟩ hK hP hD hS mo0 hfo_1 5 rfl rfl rfl hl.1 rfl (Nat.le_of_ble_eq_true rfl) dX5_startsOf_13 ⟨Nat.le_of_ble_eq_true rfl, Nat.le_of_ble_eq_true rfl⟩ (fun x_11 f_12 H locs hw hP hD hS => ?_)
  obtain ⟨rfl, bx_11⟩ := hw
  exact W.iret (v := x_11) hx hb hr (fun t ht hW => ⟨⟨x_11, f, rfl, ⟨rfl, (by constructor <;> omega)⟩, by rw [ht]; exact hP, va_K.moved hW.alike hK, pl_in hD⟩, hS.F ht⟩) hS.2.2 dX5_startsOf_16
set_option maxHeartbeats 8000000 in
set_option maxRecDepth 100000 in
theorem s_X5_startsOf_k205 (l : Launch) (D : va_G) (cI cL cZ cR cG cH : ClassId) (Z : zT) (kd : Nat → Nat) (L : List Nat) (f : Nat → va_E) (hG : GI (okc cI cL cZ cR cG cH L kd) kd L f) (o0 : Nat) (mo0 : o0 ∈ L) (ko0 : kd o0 = 205) (p1 : Int32) : mPI l D cI cL cZ cR cG cH Z yX5_startsOf cX5_startsOf 2 (some .int) 1 21 [.ref o0, .int p1] L f (fun (r : Int32) (f9 : Nat → va_E) => f = f9 ∧ ((-2147483648) ≤ r.toInt ∧ r.toInt ≤ 2147483647)) := by
  obtain ⟨dC, dI⟩ := D
  refine Met.ofW (cc := cX5_startsOf) (maxL := 2) (ret := (some .int)) (by decide) rfl ?_
  intro p e s m args below meth c s₁ B hml hv
  obtain ⟨rfl, hP, hK, hD0, hN, hZ⟩ := hv
  have hx := B.exec
  have hb := B.bytes
  have hr := B.returns
  have hU : ∀ w ∈ wsU, w.before _ s = true := fun w h => atoms_spec (ws := wU yX5_startsOf cX5_startsOf 2 (some .int)) B.pre w (List.mem_cons_of_mem _ h)
  have hown : s.vm.findClass RX5 = some m.cls := findClass_of_methodNamed B.named
  have hlocks := B.notSynchronized
  have hD := pl_in hD0
  have hS : va_S (fun q => q ∈ L) s.heap s.heap [] := va_S.rf
  have hl := lv_entry ([.ref o0, .int p1]) (n := 2) (Nat.le_of_ble_eq_true rfl)
  rw [lg_entry_eq]
  generalize (lg_sl ([.ref o0, .int p1]) ++ List.replicate (2 - (lg_sl ([.ref o0, .int p1])).length) Slot.unset).toArray = ls at hl ⊢
  have hl : lv_has ls 2 [(0, .ref o0), (1, .int p1)] := hl
  have bp1 : ((-2147483648) ≤ p1.toInt ∧ p1.toInt ≤ 2147483647) := ⟨i32_lo _, i32_hi _⟩
  refine lv_aload_n hx hb dX5_startsOf_0 rfl (lv_at hl 0 rfl) ?_
  refine lv_aload_n hx hb dX5_startsOf_1 rfl (lv_at hl 0 rfl) ?_
  obtain ⟨a_2, a_3, a_4, v_5, v_6, v_7, hfo_1, ⟨ma_2, ka_2⟩, ⟨ma_3, ka_3⟩, ⟨ma_4, ka_4⟩⟩ := un_205 (hG _ mo0) ko0
  have bv_5 : ((-2147483648) ≤ v_5.toInt ∧ v_5.toInt ≤ 2147483647) := ⟨i32_lo _, i32_hi _⟩
  have bv_6 : ((-2147483648) ≤ v_6.toInt ∧ v_6.toInt ≤ 2147483647) := ⟨i32_lo _, i32_hi _⟩
  have bv_7 : ((-2147483648) ≤ v_7.toInt ∧ v_7.toInt ≤ 2147483647) := ⟨i32_lo _, i32_hi _⟩
  refine tk_getP (D := (dC, dI)) (ci := 5) (v := .int v_6) (C := RX5) (T := TX5) (N := 6) hx hb hU inlX5 hown hK hP mo0 hfo_1 rfl 4 (by decide) (hU _ wd_416) (fun _ h9 => h9) rfl dX5_startsOf_2 ?_
  refine lv_bipush (v := 63) hx hb dX5_startsOf_5 (by decide) ?_
  refine lv_iload_n hx hb dX5_startsOf_7 rfl (lv_at hl 1 rfl) ?_
  refine lv_bipush (v := 6) hx hb dX5_startsOf_8 (by decide) ?_
  refine lv_imul hx hb dX5_startsOf_10 ?_
  refine lv_topi (fun x_8 ex_8 => ?_)
  have bx_8 : ((-2147483648) ≤ x_8.toInt ∧ x_8.toInt ≤ 2147483647) := ⟨i32_lo _, i32_hi _⟩
  refine lv_ishl hx hb dX5_startsOf_11 ?_
  refine lv_topi (fun x_9 ex_9 => ?_)
  have bx_9 : ((-2147483648) ≤ x_9.toInt ∧ x_9.toInt ≤ 2147483647) := ⟨i32_lo _, i32_hi _⟩
  refine lv_iand hx hb dX5_startsOf_12 ?_
  refine lv_topi (fun x_10 ex_10 => ?_)
  have bx_10 : ((-2147483648) ≤ x_10.toInt ∧ x_10.toInt ≤ 2147483647) := ⟨i32_lo _, i32_hi _⟩
  refine tk_ViP (As := [.int x_10]) (rest := []) (n := 1) hx hb hml hown hU hN hZ (s_X5_closure_k205 l (dC, dI) cI cL cZ cR cG cH Z kd L f hG o0 mo0 ko0 x_10) wd_516 wd_517 wd_518 wd_102 wd_519 (by decide +kernel) ⟨Nat.le_of_ble_eq_true rfl, Nat.le_of_ble_eq_true rfl⟩ hK hP hD hS mo0 hfo_1 5 rfl rfl rfl hl.1 rfl (Nat.le_of_ble_eq_true rfl) dX5_startsOf_13 ⟨Nat.le_of_ble_eq_true rfl, Nat.le_of_ble_eq_true rfl⟩ (fun x_11 f_12 H locs hw hP hD hS => ?_)
  obtain ⟨rfl, bx_11⟩ := hw
  exact W.iret (v := x_11) hx hb hr (fun t ht hW => ⟨⟨x_11, f, rfl, ⟨rfl, (by constructor <;> omega)⟩, by rw [ht]; exact hP, va_K.moved hW.alike hK, pl_in hD⟩, hS.F ht⟩) hS.2.2 dX5_startsOf_16
set_option maxHeartbeats 8000000 in
set_option maxRecDepth 100000 in
theorem s_X5_freeStarts_k205 (l : Launch) (D : va_G) (cI cL cZ cR cG cH : ClassId) (Z : zT) (kd : Nat → Nat) (L : List Nat) (f : Nat → va_E) (hG : GI (okc cI cL cZ cR cG cH L kd) kd L f) (o0 : Nat) (mo0 : o0 ∈ L) (ko0 : kd o0 = 205) : mPI l D cI cL cZ cR cG cH Z yX5_freeStarts cX5_freeStarts 3 (some .int) 2 42 [.ref o0] L f (fun (r : Int32) (f9 : Nat → va_E) => f = f9 ∧ ((-2147483648) ≤ r.toInt ∧ r.toInt ≤ 2147483647)) := by
  obtain ⟨dC, dI⟩ := D
  refine Met.ofW (cc := cX5_freeStarts) (maxL := 3) (ret := (some .int)) (by decide) rfl ?_
  intro p e s m args below meth c s₁ B hml hv
  obtain ⟨rfl, hP, hK, hD0, hN, hZ⟩ := hv
  have hx := B.exec
  have hb := B.bytes
  have hr := B.returns
  have hU : ∀ w ∈ wsU, w.before _ s = true := fun w h => atoms_spec (ws := wU yX5_freeStarts cX5_freeStarts 3 (some .int)) B.pre w (List.mem_cons_of_mem _ h)
  have hown : s.vm.findClass RX5 = some m.cls := findClass_of_methodNamed B.named
  have hlocks := B.notSynchronized
  have hD := pl_in hD0
  have hS : va_S (fun q => q ∈ L) s.heap s.heap [] := va_S.rf
  have hl := lv_entry ([.ref o0]) (n := 3) (Nat.le_of_ble_eq_true rfl)
  rw [lg_entry_eq]
  generalize (lg_sl ([.ref o0]) ++ List.replicate (3 - (lg_sl ([.ref o0])).length) Slot.unset).toArray = ls at hl ⊢
  have hl : lv_has ls 3 [(0, .ref o0)] := hl
  refine lv_iconst (v := 0) hx hb dX5_freeStarts_0 (by decide) ?_
  refine lv_istore_n (lv' := [(1, .int 0), (0, .ref o0)]) hx hb dX5_freeStarts_1 rfl hl (by decide) rfl (fun ls hl => ?_)
  refine lv_iconst (v := 0) hx hb dX5_freeStarts_2 (by decide) ?_
  refine lv_istore_n (lv' := [(2, .int 0), (1, .int 0), (0, .ref o0)]) hx hb dX5_freeStarts_3 rfl hl (by decide) rfl (fun ls hl => ?_)
  have hloop_16 : ∀ (n : Nat), ∀ (y_17 : Int32), (0 ≤ y_17.toInt ∧ y_17.toInt ≤ 3) → ∀ (y_18 : Int32), ((-2147483648) ≤ y_18.toInt ∧ y_18.toInt ≤ 2147483647) → ∀ (H : Heap) (locs : List Loc), va_P (dC, dI) vwCl (va_pl L f) H → va_S (fun q => q ∈ L) s.heap H locs → 3 - y_17.toInt < (n : Int) → ∀ (ls : Array Slot), lv_has ls 3 [(2, .int y_17), (1, .int y_18), (0, .ref o0)] → W p l e (headSpec (wU yX5_freeStarts cX5_freeStarts 3 (some .int)) { frames := 2, cells := 0, slots := 0, locals := 42 }).room s m [.ref o0].toArray below meth c H locs 0 0 (MQ below (va_Qi (fun (r : Int32) (f9 : Nat → va_E) => f = f9 ∧ ((-2147483648) ≤ r.toInt ∧ r.toInt ≤ 2147483647)) (qP (dC, dI) cI cL cZ cR cG cH L) (fun q => q ∈ L)) [.ref o0].toArray s 0 0 (fun q => q ∈ L)) (F0 m 4 ls []) := by
    intro n
    induction n with
    | zero => intro y_17 by_17 y_18 by_18 H locs hP hS hmuhloop_16 ls hl; exfalso; omega
    | succ n ih_hloop_16 =>
      intro y_17 by_17 y_18 by_18 H locs hP hS hmuhloop_16 ls hl
      refine lv_iload_n hx hb dX5_freeStarts_4 rfl (lv_at hl 0 rfl) ?_
      refine lv_iconst (v := 3) hx hb dX5_freeStarts_5 (by decide) ?_
      refine lv_icmp_ge (tgt := 34) hx hb dX5_freeStarts_6 (by decide) (fun c_20 => ?_) (fun c_20 => ?_)
      · skip
        rw [Int32.le_iff_toInt_le, ti_3] at c_20
        refine lv_iload_n hx hb dX5_freeStarts_34 rfl (lv_at hl 1 rfl) ?_
        exact W.iret (v := y_18) hx hb hr (fun t ht hW => ⟨⟨y_18, f, rfl, ⟨rfl, (by constructor <;> omega)⟩, by rw [ht]; exact hP, va_K.moved hW.alike hK, pl_in hD⟩, hS.F ht⟩) hS.2.2 dX5_freeStarts_35
      · skip
        rw [Int32.le_iff_toInt_le, ti_3] at c_20
        refine lv_aload_n hx hb dX5_freeStarts_9 rfl (lv_at hl 2 rfl) ?_
        obtain ⟨a_22, a_23, a_24, v_25, v_26, v_27, hfo_21, ⟨ma_22, ka_22⟩, ⟨ma_23, ka_23⟩, ⟨ma_24, ka_24⟩⟩ := un_205 (hG _ mo0) ko0
        have bv_25 : ((-2147483648) ≤ v_25.toInt ∧ v_25.toInt ≤ 2147483647) := ⟨i32_lo _, i32_hi _⟩
        have bv_26 : ((-2147483648) ≤ v_26.toInt ∧ v_26.toInt ≤ 2147483647) := ⟨i32_lo _, i32_hi _⟩
        have bv_27 : ((-2147483648) ≤ v_27.toInt ∧ v_27.toInt ≤ 2147483647) := ⟨i32_lo _, i32_hi _⟩
        refine tk_getP (D := (dC, dI)) (ci := 5) (v := .int v_27) (C := RX5) (T := TX5) (N := 6) hx hb hU inlX5 hown hK hP mo0 hfo_21 rfl 5 (by decide) (hU _ wd_417) (fun _ h9 => h9) rfl dX5_freeStarts_10 ?_
        refine lv_iload_n hx hb dX5_freeStarts_13 rfl (lv_at hl 0 rfl) ?_
        refine lv_ishr hx hb dX5_freeStarts_14 ?_
        refine lv_topi (fun x_28 ex_28 => ?_)
        have bx_28 : ((-2147483648) ≤ x_28.toInt ∧ x_28.toInt ≤ 2147483647) := ⟨i32_lo _, i32_hi _⟩
        refine lv_iconst (v := 1) hx hb dX5_freeStarts_15 (by decide) ?_
        refine lv_iand hx hb dX5_freeStarts_16 ?_
        refine lv_topi (fun x_29 ex_29 => ?_)
        have bx_29 : (0 ≤ x_29.toInt ∧ x_29.toInt ≤ 1) := by rw [ex_29]; have h8 := an_C x_28 (m := 1) (by decide); rw [ti_1] at h8; exact h8
        have hcut_32 : ∀ (y_30 : Int32), ((-2147483648) ≤ y_30.toInt ∧ y_30.toInt ≤ 2147483647) → ∀ (H : Heap) (locs : List Loc), va_P (dC, dI) vwCl (va_pl L f) H → va_S (fun q => q ∈ L) s.heap H locs → ∀ (ls : Array Slot), lv_has ls 3 [(2, .int y_17), (1, .int y_30), (0, .ref o0)] → W p l e (headSpec (wU yX5_freeStarts cX5_freeStarts 3 (some .int)) { frames := 2, cells := 0, slots := 0, locals := 42 }).room s m [.ref o0].toArray below meth c H locs 0 0 (MQ below (va_Qi (fun (r : Int32) (f9 : Nat → va_E) => f = f9 ∧ ((-2147483648) ≤ r.toInt ∧ r.toInt ≤ 2147483647)) (qP (dC, dI) cI cL cZ cR cG cH L) (fun q => q ∈ L)) [.ref o0].toArray s 0 0 (fun q => q ∈ L)) (F0 m 28 ls []) := by
          intro y_30 by_30 H locs hP hS ls hl
          obtain ⟨x_33, ex_33⟩ : ∃ y : Int32, y_17 + 1 = y := ⟨_, rfl⟩
          have hx_33 : x_33.toInt = y_17.toInt + 1 := by rw [← ex_33, ad_I (by rw [ti_1]; omega) (by rw [ti_1]; omega), ti_1]
          have bx_33 : (1 ≤ x_33.toInt ∧ x_33.toInt ≤ 3) := by constructor <;> omega
          refine lv_iinc (v := x_33) (lv' := [(2, .int x_33), (1, .int y_30), (0, .ref o0)]) hx hb dX5_freeStarts_28 hl (k := 0) rfl ex_33 (by decide) rfl (fun ls hl => ?_)
          refine lv_goto (tgt := 4) hx hb dX5_freeStarts_31 (by decide) ?_
          exact ih_hloop_16 x_33 (by constructor <;> omega) y_30 (by constructor <;> omega) _ _ hP hS (by omega) ls (lv_sub hl [0, 1, 2] rfl)
        refine lv_if_ne (tgt := 28) hx hb dX5_freeStarts_17 (by decide) (fun c_34 => ?_) (fun c_34 => ?_)
        · skip
          rw [← Int32.toInt_inj, ti_0] at c_34
          exact hcut_32 y_18 (by constructor <;> omega) _ _ hP hS ls (lv_sub hl [0, 1, 2] rfl)
        · skip
          rw [← Int32.toInt_inj, ti_0] at c_34
          refine lv_iload_n hx hb dX5_freeStarts_20 rfl (lv_at hl 1 rfl) ?_
          refine lv_aload_n hx hb dX5_freeStarts_21 rfl (lv_at hl 2 rfl) ?_
          refine lv_iload_n hx hb dX5_freeStarts_22 rfl (lv_at hl 0 rfl) ?_
          refine tk_ViP (As := [.int y_17]) (rest := [.int y_18]) (n := 1) hx hb hml hown hU hN hZ (s_X5_startsOf_k205 l (dC, dI) cI cL cZ cR cG cH Z kd L f hG o0 mo0 ko0 y_17) wd_525 wd_513 wd_514 wd_102 wd_515 (by decide +kernel) ⟨Nat.le_of_ble_eq_true rfl, Nat.le_of_ble_eq_true rfl⟩ hK hP hD hS mo0 hfo_21 5 rfl rfl rfl hl.1 rfl (Nat.le_of_ble_eq_true rfl) dX5_freeStarts_23 ⟨Nat.le_of_ble_eq_true rfl, Nat.le_of_ble_eq_true rfl⟩ (fun x_35 f_36 H locs hw hP hD hS => ?_)
          obtain ⟨rfl, bx_35⟩ := hw
          refine lv_ior hx hb dX5_freeStarts_26 ?_
          refine lv_topi (fun x_38 ex_38 => ?_)
          have bx_38 : ((-2147483648) ≤ x_38.toInt ∧ x_38.toInt ≤ 2147483647) := ⟨i32_lo _, i32_hi _⟩
          refine lv_istore_n (lv' := [(1, .int x_38), (2, .int y_17), (0, .ref o0)]) hx hb dX5_freeStarts_27 rfl hl (by decide) rfl (fun ls hl => ?_)
          exact hcut_32 x_38 (by constructor <;> omega) _ _ hP hS ls (lv_sub hl [1, 0, 2] rfl)
  exact hloop_16 4 0 (by decide) 0 (by decide) _ _ hP hS (by (try rw [ti_0]) <;> omega) ls hl
set_option maxHeartbeats 8000000 in
set_option maxRecDepth 100000 in
theorem s_X5_freeFinals_k205 (l : Launch) (D : va_G) (cI cL cZ cR cG cH : ClassId) (Z : zT) (kd : Nat → Nat) (L : List Nat) (f : Nat → va_E) (hG : GI (okc cI cL cZ cR cG cH L kd) kd L f) (o0 : Nat) (mo0 : o0 ∈ L) (ko0 : kd o0 = 205) : mPI l D cI cL cZ cR cG cH Z yX5_freeFinals cX5_freeFinals 3 (some .int) 0 0 [.ref o0] L f (fun (r : Int32) (f9 : Nat → va_E) => f = f9 ∧ ((-2147483648) ≤ r.toInt ∧ r.toInt ≤ 2147483647)) := by
  obtain ⟨dC, dI⟩ := D
  refine Met.ofW (cc := cX5_freeFinals) (maxL := 3) (ret := (some .int)) (by decide) rfl ?_
  intro p e s m args below meth c s₁ B hml hv
  obtain ⟨rfl, hP, hK, hD0, hN, hZ⟩ := hv
  have hx := B.exec
  have hb := B.bytes
  have hr := B.returns
  have hU : ∀ w ∈ wsU, w.before _ s = true := fun w h => atoms_spec (ws := wU yX5_freeFinals cX5_freeFinals 3 (some .int)) B.pre w (List.mem_cons_of_mem _ h)
  have hown : s.vm.findClass RX5 = some m.cls := findClass_of_methodNamed B.named
  have hlocks := B.notSynchronized
  have hD := pl_in hD0
  have hS : va_S (fun q => q ∈ L) s.heap s.heap [] := va_S.rf
  have hl := lv_entry ([.ref o0]) (n := 3) (Nat.le_of_ble_eq_true rfl)
  rw [lg_entry_eq]
  generalize (lg_sl ([.ref o0]) ++ List.replicate (3 - (lg_sl ([.ref o0])).length) Slot.unset).toArray = ls at hl ⊢
  have hl : lv_has ls 3 [(0, .ref o0)] := hl
  refine lv_iconst (v := 0) hx hb dX5_freeFinals_0 (by decide) ?_
  refine lv_istore_n (lv' := [(1, .int 0), (0, .ref o0)]) hx hb dX5_freeFinals_1 rfl hl (by decide) rfl (fun ls hl => ?_)
  refine lv_iconst (v := 0) hx hb dX5_freeFinals_2 (by decide) ?_
  refine lv_istore_n (lv' := [(2, .int 0), (1, .int 0), (0, .ref o0)]) hx hb dX5_freeFinals_3 rfl hl (by decide) rfl (fun ls hl => ?_)
  have hloop_10 : ∀ (n : Nat), ∀ (y_11 : Int32), (0 ≤ y_11.toInt ∧ y_11.toInt ≤ 3) → ∀ (y_12 : Int32), ((-2147483648) ≤ y_12.toInt ∧ y_12.toInt ≤ 2147483647) → 3 - y_11.toInt < (n : Int) → ∀ (ls : Array Slot), lv_has ls 3 [(2, .int y_11), (1, .int y_12), (0, .ref o0)] → W p l e (headSpec (wU yX5_freeFinals cX5_freeFinals 3 (some .int)) { frames := 0, cells := 0, slots := 0, locals := 0 }).room s m [.ref o0].toArray below meth c s.heap [] 0 0 (MQ below (va_Qi (fun (r : Int32) (f9 : Nat → va_E) => f = f9 ∧ ((-2147483648) ≤ r.toInt ∧ r.toInt ≤ 2147483647)) (qP (dC, dI) cI cL cZ cR cG cH L) (fun q => q ∈ L)) [.ref o0].toArray s 0 0 (fun q => q ∈ L)) (F0 m 4 ls []) := by
    intro n
    induction n with
    | zero => intro y_11 by_11 y_12 by_12 hmuhloop_10 ls hl; exfalso; omega
    | succ n ih_hloop_10 =>
      intro y_11 by_11 y_12 by_12 hmuhloop_10 ls hl
      refine lv_iload_n hx hb dX5_freeFinals_4 rfl (lv_at hl 0 rfl) ?_
      refine lv_iconst (v := 3) hx hb dX5_freeFinals_5 (by decide) ?_
      refine lv_icmp_ge (tgt := 37) hx hb dX5_freeFinals_6 (by decide) (fun c_13 => ?_) (fun c_13 => ?_)
      · skip
        rw [Int32.le_iff_toInt_le, ti_3] at c_13
        refine lv_iload_n hx hb dX5_freeFinals_37 rfl (lv_at hl 1 rfl) ?_
        exact W.iret (v := y_12) hx hb hr (fun t ht hW => ⟨⟨y_12, f, rfl, ⟨rfl, (by constructor <;> omega)⟩, by rw [ht]; exact hP, va_K.moved hW.alike hK, pl_in hD⟩, hS.F ht⟩) hS.2.2 dX5_freeFinals_38
      · skip
        rw [Int32.le_iff_toInt_le, ti_3] at c_13
        refine lv_aload_n hx hb dX5_freeFinals_9 rfl (lv_at hl 2 rfl) ?_
        obtain ⟨a_15, a_16, a_17, v_18, v_19, v_20, hfo_14, ⟨ma_15, ka_15⟩, ⟨ma_16, ka_16⟩, ⟨ma_17, ka_17⟩⟩ := un_205 (hG _ mo0) ko0
        have bv_18 : ((-2147483648) ≤ v_18.toInt ∧ v_18.toInt ≤ 2147483647) := ⟨i32_lo _, i32_hi _⟩
        have bv_19 : ((-2147483648) ≤ v_19.toInt ∧ v_19.toInt ≤ 2147483647) := ⟨i32_lo _, i32_hi _⟩
        have bv_20 : ((-2147483648) ≤ v_20.toInt ∧ v_20.toInt ≤ 2147483647) := ⟨i32_lo _, i32_hi _⟩
        refine tk_getP (D := (dC, dI)) (ci := 5) (v := .int v_20) (C := RX5) (T := TX5) (N := 6) hx hb hU inlX5 hown hK hP mo0 hfo_14 rfl 5 (by decide) (hU _ wd_417) (fun _ h9 => h9) rfl dX5_freeFinals_10 ?_
        refine lv_iload_n hx hb dX5_freeFinals_13 rfl (lv_at hl 0 rfl) ?_
        refine lv_ishr hx hb dX5_freeFinals_14 ?_
        refine lv_topi (fun x_21 ex_21 => ?_)
        have bx_21 : ((-2147483648) ≤ x_21.toInt ∧ x_21.toInt ≤ 2147483647) := ⟨i32_lo _, i32_hi _⟩
        refine lv_iconst (v := 1) hx hb dX5_freeFinals_15 (by decide) ?_
        refine lv_iand hx hb dX5_freeFinals_16 ?_
        refine lv_topi (fun x_22 ex_22 => ?_)
        have bx_22 : (0 ≤ x_22.toInt ∧ x_22.toInt ≤ 1) := by rw [ex_22]; have h8 := an_C x_21 (m := 1) (by decide); rw [ti_1] at h8; exact h8
        have hcut_24 : ∀ (y_23 : Int32), ((-2147483648) ≤ y_23.toInt ∧ y_23.toInt ≤ 2147483647) → ∀ (ls : Array Slot), lv_has ls 3 [(2, .int y_11), (1, .int y_23), (0, .ref o0)] → W p l e (headSpec (wU yX5_freeFinals cX5_freeFinals 3 (some .int)) { frames := 0, cells := 0, slots := 0, locals := 0 }).room s m [.ref o0].toArray below meth c s.heap [] 0 0 (MQ below (va_Qi (fun (r : Int32) (f9 : Nat → va_E) => f = f9 ∧ ((-2147483648) ≤ r.toInt ∧ r.toInt ≤ 2147483647)) (qP (dC, dI) cI cL cZ cR cG cH L) (fun q => q ∈ L)) [.ref o0].toArray s 0 0 (fun q => q ∈ L)) (F0 m 31 ls []) := by
          intro y_23 by_23 ls hl
          obtain ⟨x_25, ex_25⟩ : ∃ y : Int32, y_11 + 1 = y := ⟨_, rfl⟩
          have hx_25 : x_25.toInt = y_11.toInt + 1 := by rw [← ex_25, ad_I (by rw [ti_1]; omega) (by rw [ti_1]; omega), ti_1]
          have bx_25 : (1 ≤ x_25.toInt ∧ x_25.toInt ≤ 3) := by constructor <;> omega
          refine lv_iinc (v := x_25) (lv' := [(2, .int x_25), (1, .int y_23), (0, .ref o0)]) hx hb dX5_freeFinals_31 hl (k := 0) rfl ex_25 (by decide) rfl (fun ls hl => ?_)
          refine lv_goto (tgt := 4) hx hb dX5_freeFinals_34 (by decide) ?_
          exact ih_hloop_10 x_25 (by constructor <;> omega) y_23 (by constructor <;> omega) (by omega) ls (lv_sub hl [0, 1, 2] rfl)
        refine lv_if_ne (tgt := 31) hx hb dX5_freeFinals_17 (by decide) (fun c_26 => ?_) (fun c_26 => ?_)
        · skip
          rw [← Int32.toInt_inj, ti_0] at c_26
          exact hcut_24 y_12 (by constructor <;> omega) ls (lv_sub hl [0, 1, 2] rfl)
        · skip
          rw [← Int32.toInt_inj, ti_0] at c_26
          refine lv_iload_n hx hb dX5_freeFinals_20 rfl (lv_at hl 1 rfl) ?_
          refine lv_iconst (v := 1) hx hb dX5_freeFinals_21 (by decide) ?_
          refine lv_iload_n hx hb dX5_freeFinals_22 rfl (lv_at hl 0 rfl) ?_
          refine lv_bipush (v := 6) hx hb dX5_freeFinals_23 (by decide) ?_
          refine lv_imul hx hb dX5_freeFinals_25 ?_
          refine lv_topi (fun x_27 ex_27 => ?_)
          have hx_27 : x_27.toInt = y_11.toInt * 6 := by rw [ex_27, ml_I (by rw [ti_6]; omega) (by rw [ti_6]; omega), ti_6]
          have bx_27 : (0 ≤ x_27.toInt ∧ x_27.toInt ≤ 12) := by constructor <;> omega
          refine lv_iconst (v := 5) hx hb dX5_freeFinals_26 (by decide) ?_
          refine lv_iadd hx hb dX5_freeFinals_27 ?_
          refine lv_topi (fun x_28 ex_28 => ?_)
          have hx_28 : x_28.toInt = x_27.toInt + 5 := by rw [ex_28, ad_I (by rw [ti_5]; omega) (by rw [ti_5]; omega), ti_5]
          have bx_28 : (5 ≤ x_28.toInt ∧ x_28.toInt ≤ 17) := by constructor <;> omega
          refine lv_ishl hx hb dX5_freeFinals_28 ?_
          refine lv_topi (fun x_29 ex_29 => ?_)
          have bx_29 : ((-2147483648) ≤ x_29.toInt ∧ x_29.toInt ≤ 2147483647) := ⟨i32_lo _, i32_hi _⟩
          refine lv_ior hx hb dX5_freeFinals_29 ?_
          refine lv_topi (fun x_30 ex_30 => ?_)
          have bx_30 : ((-2147483648) ≤ x_30.toInt ∧ x_30.toInt ≤ 2147483647) := ⟨i32_lo _, i32_hi _⟩
          refine lv_istore_n (lv' := [(1, .int x_30), (2, .int y_11), (0, .ref o0)]) hx hb dX5_freeFinals_30 rfl hl (by decide) rfl (fun ls hl => ?_)
          exact hcut_24 x_30 (by constructor <;> omega) ls (lv_sub hl [1, 0, 2] rfl)
  exact hloop_10 4 0 (by decide) 0 (by decide) (by (try rw [ti_0]) <;> omega) ls hl
set_option maxHeartbeats 8000000 in
set_option maxRecDepth 100000 in
theorem s_X5_takes_k205 (l : Launch) (D : va_G) (cI cL cZ cR cG cH : ClassId) (Z : zT) (kd : Nat → Nat) (L : List Nat) (f : Nat → va_E) (hG : GI (okc cI cL cZ cR cG cH L kd) kd L f) (o0 : Nat) (mo0 : o0 ∈ L) (ko0 : kd o0 = 205) (p1 : Int32) (bp1 : (0 ≤ p1.toInt ∧ p1.toInt ≤ 17)) (p2 : Int32) (p3 : Int32) : mPI l D cI cL cZ cR cG cH Z yX5_takes cX5_takes 5 (some .boolean) 0 0 [.ref o0, .int p1, .int p2, .int p3] L f (fun (r : Int32) (f9 : Nat → va_E) => f = f9 ∧ (0 ≤ r.toInt ∧ r.toInt ≤ 1)) := by
  obtain ⟨dC, dI⟩ := D
  refine Met.ofW (cc := cX5_takes) (maxL := 5) (ret := (some .boolean)) (by decide) rfl ?_
  intro p e s m args below meth c s₁ B hml hv
  obtain ⟨rfl, hP, hK, hD0, hN, hZ⟩ := hv
  have hx := B.exec
  have hb := B.bytes
  have hr := B.returns
  have hU : ∀ w ∈ wsU, w.before _ s = true := fun w h => atoms_spec (ws := wU yX5_takes cX5_takes 5 (some .boolean)) B.pre w (List.mem_cons_of_mem _ h)
  have hown : s.vm.findClass RX5 = some m.cls := findClass_of_methodNamed B.named
  have hlocks := B.notSynchronized
  have hD := pl_in hD0
  have hS : va_S (fun q => q ∈ L) s.heap s.heap [] := va_S.rf
  have hl := lv_entry ([.ref o0, .int p1, .int p2, .int p3]) (n := 5) (Nat.le_of_ble_eq_true rfl)
  rw [lg_entry_eq]
  generalize (lg_sl ([.ref o0, .int p1, .int p2, .int p3]) ++ List.replicate (5 - (lg_sl ([.ref o0, .int p1, .int p2, .int p3])).length) Slot.unset).toArray = ls at hl ⊢
  have hl : lv_has ls 5 [(0, .ref o0), (1, .int p1), (2, .int p2), (3, .int p3)] := hl
  have bp2 : ((-2147483648) ≤ p2.toInt ∧ p2.toInt ≤ 2147483647) := ⟨i32_lo _, i32_hi _⟩
  have bp3 : ((-2147483648) ≤ p3.toInt ∧ p3.toInt ≤ 2147483647) := ⟨i32_lo _, i32_hi _⟩
  refine lv_aload_n hx hb dX5_takes_0 rfl (lv_at hl 0 rfl) ?_
  obtain ⟨a_2, a_3, a_4, v_5, v_6, v_7, hfo_1, ⟨ma_2, ka_2⟩, ⟨ma_3, ka_3⟩, ⟨ma_4, ka_4⟩⟩ := un_205 (hG _ mo0) ko0
  have bv_5 : ((-2147483648) ≤ v_5.toInt ∧ v_5.toInt ≤ 2147483647) := ⟨i32_lo _, i32_hi _⟩
  have bv_6 : ((-2147483648) ≤ v_6.toInt ∧ v_6.toInt ≤ 2147483647) := ⟨i32_lo _, i32_hi _⟩
  have bv_7 : ((-2147483648) ≤ v_7.toInt ∧ v_7.toInt ≤ 2147483647) := ⟨i32_lo _, i32_hi _⟩
  refine tk_getP (D := (dC, dI)) (ci := 5) (v := .ref a_2) (C := RX5) (T := TX5) (N := 6) hx hb hU inlX5 hown hK hP mo0 hfo_1 rfl 0 (by decide) (hU _ wd_110) (fun _ h9 => h9) rfl dX5_takes_1 ?_
  refine lv_iload_n hx hb dX5_takes_4 rfl (lv_at hl 1 rfl) ?_
  obtain ⟨g_9, hfo_8, hbg_9⟩ := un_558 (hG _ ma_2) ka_2
  refine tk_ildP hx hb hK hP 0 ma_2 hfo_8 rfl (vp_in_iff.mpr (by constructor <;> omega)) dX5_takes_5 ?_
  refine lv_topi (fun x_10 ex_10 => ?_)
  have bx_10 : ((-2147483648) ≤ x_10.toInt ∧ x_10.toInt ≤ 2147483647) := ⟨i32_lo _, i32_hi _⟩
  refine lv_iload_n hx hb dX5_takes_6 rfl (lv_at hl 2 rfl) ?_
  refine lv_ishr hx hb dX5_takes_7 ?_
  refine lv_topi (fun x_11 ex_11 => ?_)
  have bx_11 : ((-2147483648) ≤ x_11.toInt ∧ x_11.toInt ≤ 2147483647) := ⟨i32_lo _, i32_hi _⟩
  refine lv_aload_n hx hb dX5_takes_8 rfl (lv_at hl 0 rfl) ?_
  refine tk_getP (D := (dC, dI)) (ci := 5) (v := .ref a_3) (C := RX5) (T := TX5) (N := 6) hx hb hU inlX5 hown hK hP mo0 hfo_1 rfl 1 (by decide) (hU _ wd_111) (fun _ h9 => h9) rfl dX5_takes_9 ?_
  refine lv_iload_n hx hb dX5_takes_12 rfl (lv_at hl 1 rfl) ?_
  obtain ⟨g_13, hfo_12, hbg_13⟩ := un_558 (hG _ ma_3) ka_3
  refine tk_ildP hx hb hK hP 0 ma_3 hfo_12 rfl (vp_in_iff.mpr (by constructor <;> omega)) dX5_takes_13 ?_
  refine lv_topi (fun x_14 ex_14 => ?_)
  have bx_14 : ((-2147483648) ≤ x_14.toInt ∧ x_14.toInt ≤ 2147483647) := ⟨i32_lo _, i32_hi _⟩
  refine lv_iload_n hx hb dX5_takes_14 rfl (lv_at hl 3 rfl) ?_
  refine lv_ishr hx hb dX5_takes_15 ?_
  refine lv_topi (fun x_15 ex_15 => ?_)
  have bx_15 : ((-2147483648) ≤ x_15.toInt ∧ x_15.toInt ≤ 2147483647) := ⟨i32_lo _, i32_hi _⟩
  refine lv_iand hx hb dX5_takes_16 ?_
  refine lv_topi (fun x_16 ex_16 => ?_)
  have bx_16 : ((-2147483648) ≤ x_16.toInt ∧ x_16.toInt ≤ 2147483647) := ⟨i32_lo _, i32_hi _⟩
  refine lv_iconst (v := 1) hx hb dX5_takes_17 (by decide) ?_
  refine lv_iand hx hb dX5_takes_18 ?_
  refine lv_topi (fun x_17 ex_17 => ?_)
  have bx_17 : (0 ≤ x_17.toInt ∧ x_17.toInt ≤ 1) := by rw [ex_17]; have h8 := an_C x_16 (m := 1) (by decide); rw [ti_1] at h8; exact h8
  refine lv_iconst (v := 1) hx hb dX5_takes_19 (by decide) ?_
  have hcut_19 : ∀ (y_18 : Int32), (0 ≤ y_18.toInt ∧ y_18.toInt ≤ 1) → ∀ (ls : Array Slot), lv_has ls 5 [(0, .ref o0), (1, .int p1), (2, .int p2), (3, .int p3)] → W p l e (headSpec (wU yX5_takes cX5_takes 5 (some .boolean)) { frames := 0, cells := 0, slots := 0, locals := 0 }).room s m [.ref o0, .int p1, .int p2, .int p3].toArray below meth c s.heap [] 0 0 (MQ below (va_Qi (fun (r : Int32) (f9 : Nat → va_E) => f = f9 ∧ (0 ≤ r.toInt ∧ r.toInt ≤ 1)) (qP (dC, dI) cI cL cZ cR cG cH L) (fun q => q ∈ L)) [.ref o0, .int p1, .int p2, .int p3].toArray s 0 0 (fun q => q ∈ L)) (F0 m 28 ls [.int y_18]) := by
    intro y_18 by_18 ls hl
    refine lv_istore (lv' := [(4, .int y_18), (0, .ref o0), (1, .int p1), (2, .int p2), (3, .int p3)]) hx hb dX5_takes_28 hl (by decide) rfl (fun ls hl => ?_)
    refine lv_iload hx hb dX5_takes_30 (lv_at hl 0 rfl) ?_
    refine lv_if_eq (tgt := 57) hx hb dX5_takes_32 (by decide) (fun c_20 => ?_) (fun c_20 => ?_)
    · skip
      rw [← Int32.toInt_inj, ti_0] at c_20
      refine lv_iconst (v := 0) hx hb dX5_takes_57 (by decide) ?_
      exact W.zret (v := 0) (ty := .boolean) hx hb hr rfl (fun t ht hW => ⟨⟨0, f, rfl, ⟨rfl, (by decide)⟩, by rw [ht]; exact hP, va_K.moved hW.alike hK, pl_in hD⟩, hS.F ht⟩) hS.2.2 dX5_takes_58
    · skip
      rw [← Int32.toInt_inj, ti_0] at c_20
      refine lv_iload_n hx hb dX5_takes_35 rfl (lv_at hl 3 rfl) ?_
      refine lv_iload_n hx hb dX5_takes_36 rfl (lv_at hl 4 rfl) ?_
      refine lv_icmp_eq (tgt := 53) hx hb dX5_takes_37 (by decide) (fun c_21 => ?_) (fun c_21 => ?_)
      · skip
        rw [← Int32.toInt_inj] at c_21
        refine lv_iconst (v := 1) hx hb dX5_takes_53 (by decide) ?_
        refine lv_goto (tgt := 58) hx hb dX5_takes_54 (by decide) ?_
        exact W.zret (v := 1) (ty := .boolean) hx hb hr rfl (fun t ht hW => ⟨⟨1, f, rfl, ⟨rfl, (by decide)⟩, by rw [ht]; exact hP, va_K.moved hW.alike hK, pl_in hD⟩, hS.F ht⟩) hS.2.2 dX5_takes_58
      · skip
        rw [← Int32.toInt_inj] at c_21
        refine lv_aload_n hx hb dX5_takes_40 rfl (lv_at hl 1 rfl) ?_
        refine tk_getP (D := (dC, dI)) (ci := 5) (v := .ref a_3) (C := RX5) (T := TX5) (N := 6) hx hb hU inlX5 hown hK hP mo0 hfo_1 rfl 1 (by decide) (hU _ wd_111) (fun _ h9 => h9) rfl dX5_takes_41 ?_
        refine lv_iload_n hx hb dX5_takes_44 rfl (lv_at hl 2 rfl) ?_
        refine tk_ildP hx hb hK hP 0 ma_3 hfo_12 rfl (vp_in_iff.mpr (by constructor <;> omega)) dX5_takes_45 ?_
        refine tk_topi (y := x_14) ex_14.symm ?_
        refine lv_sipush (v := 512) hx hb dX5_takes_46 (by decide) ?_
        refine lv_iand hx hb dX5_takes_49 ?_
        refine lv_topi (fun x_22 ex_22 => ?_)
        have bx_22 : (0 ≤ x_22.toInt ∧ x_22.toInt ≤ 512) := by rw [ex_22]; have h8 := an_C x_14 (m := 512) (by decide); rw [ti_512] at h8; exact h8
        refine lv_if_ne (tgt := 57) hx hb dX5_takes_50 (by decide) (fun c_23 => ?_) (fun c_23 => ?_)
        · skip
          rw [← Int32.toInt_inj, ti_0] at c_23
          refine lv_iconst (v := 0) hx hb dX5_takes_57 (by decide) ?_
          exact W.zret (v := 0) (ty := .boolean) hx hb hr rfl (fun t ht hW => ⟨⟨0, f, rfl, ⟨rfl, (by decide)⟩, by rw [ht]; exact hP, va_K.moved hW.alike hK, pl_in hD⟩, hS.F ht⟩) hS.2.2 dX5_takes_58
        · skip
          rw [← Int32.toInt_inj, ti_0] at c_23
          refine lv_iconst (v := 1) hx hb dX5_takes_53 (by decide) ?_
          refine lv_goto (tgt := 58) hx hb dX5_takes_54 (by decide) ?_
          exact W.zret (v := 1) (ty := .boolean) hx hb hr rfl (fun t ht hW => ⟨⟨1, f, rfl, ⟨rfl, (by decide)⟩, by rw [ht]; exact hP, va_K.moved hW.alike hK, pl_in hD⟩, hS.F ht⟩) hS.2.2 dX5_takes_58
  refine lv_icmp_ne (tgt := 27) hx hb dX5_takes_20 (by decide) (fun c_24 => ?_) (fun c_24 => ?_)
  · skip
    rw [← Int32.toInt_inj, ti_1] at c_24
    refine lv_iconst (v := 0) hx hb dX5_takes_27 (by decide) ?_
    exact hcut_19 0 (by decide) ls (lv_sub hl [0, 1, 2, 3] rfl)
  · skip
    rw [← Int32.toInt_inj, ti_1] at c_24
    refine lv_iconst (v := 1) hx hb dX5_takes_23 (by decide) ?_
    refine lv_goto (tgt := 28) hx hb dX5_takes_24 (by decide) ?_
    exact hcut_19 1 (by decide) ls (lv_sub hl [0, 1, 2, 3] rfl)
set_option maxHeartbeats 8000000 in
set_option maxRecDepth 100000 in
theorem s_X5_compile_k205_k207 (l : Launch) (D : va_G) (cI cL cZ cR cG cH : ClassId) (Z : zT) (kd : Nat → Nat) (L : List Nat) (f : Nat → va_E) (hG : GI (okc cI cL cZ cR cG cH L kd) kd L f) (o0 : Nat) (mo0 : o0 ∈ L) (ko0 : kd o0 = 205) (o1 : Nat) (mo1 : o1 ∈ L) (ko1 : kd o1 = 207) : mPV l D cI cL cZ cR cG cH Z yX5_compile cX5_compile 5 none 1 24 [.ref o0, .ref o1] L f (fun (f9 : Nat → va_E) => GI (okc cI cL cZ cR cG cH L kd) kd L f9 ∧ (∀ b, kd b ≠ 559 → f9 b = f b)) := by
  obtain ⟨dC, dI⟩ := D
  refine Met.ofW (cc := cX5_compile) (maxL := 5) (ret := none) (by decide) rfl ?_
  intro p e s m args below meth c s₁ B hml hv
  obtain ⟨rfl, hP, hK, hD0, hN, hZ⟩ := hv
  have hx := B.exec
  have hb := B.bytes
  have hr := B.returns
  have hU : ∀ w ∈ wsU, w.before _ s = true := fun w h => atoms_spec (ws := wU yX5_compile cX5_compile 5 none) B.pre w (List.mem_cons_of_mem _ h)
  have hown : s.vm.findClass RX5 = some m.cls := findClass_of_methodNamed B.named
  have hlocks := B.notSynchronized
  have hD := pl_in hD0
  have hS : va_S (fun q => q ∈ L) s.heap s.heap [] := va_S.rf
  have hl := lv_entry ([.ref o0, .ref o1]) (n := 5) (Nat.le_of_ble_eq_true rfl)
  rw [lg_entry_eq]
  generalize (lg_sl ([.ref o0, .ref o1]) ++ List.replicate (5 - (lg_sl ([.ref o0, .ref o1])).length) Slot.unset).toArray = ls at hl ⊢
  have hl : lv_has ls 5 [(0, .ref o0), (1, .ref o1)] := hl
  have hfr0 : ∀ b, kd b ≠ 559 → f b = f b := fun _ _ => rfl
  refine lv_iconst (v := 0) hx hb dX5_compile_0 (by decide) ?_
  refine lv_istore_n (lv' := [(2, .int 0), (0, .ref o0), (1, .ref o1)]) hx hb dX5_compile_1 rfl hl (by decide) rfl (fun ls hl => ?_)
  have hloop_13 : ∀ (n : Nat), ∀ (y_14 : Int32), (0 ≤ y_14.toInt ∧ y_14.toInt ≤ 20) → ∀ (f_16 : Nat → va_E), GI (okc cI cL cZ cR cG cH L kd) kd L f_16 → ∀ (H : Heap) (locs : List Loc), va_P (dC, dI) vwCl (va_pl L f_16) H → va_S (fun q => q ∈ L) s.heap H locs → va_D (fun q => q ∈ L) (va_pl L f_16) → (∀ b, kd b ≠ 559 → f_16 b = f b) → 20 - y_14.toInt < (n : Int) → ∀ (ls : Array Slot), lv_has ls 5 [(2, .int y_14), (0, .ref o0), (1, .ref o1)] → W p l e (headSpec (wU yX5_compile cX5_compile 5 none) { frames := 1, cells := 0, slots := 0, locals := 24 }).room s m [.ref o0, .ref o1].toArray below meth c H locs 0 0 (MQ below (va_Qv (fun (f9 : Nat → va_E) => GI (okc cI cL cZ cR cG cH L kd) kd L f9 ∧ (∀ b, kd b ≠ 559 → f9 b = f b)) (qP (dC, dI) cI cL cZ cR cG cH L) (fun q => q ∈ L)) [.ref o0, .ref o1].toArray s 0 0 (fun q => q ∈ L)) (F0 m 2 ls []) := by
    intro n
    induction n with
    | zero => intro y_14 by_14 f_16 hG H locs hP hS hD hfr0 hmuhloop_13 ls hl; exfalso; omega
    | succ n ih_hloop_13 =>
      intro y_14 by_14 f_16 hG H locs hP hS hD hfr0 hmuhloop_13 ls hl
      refine lv_iload_n hx hb dX5_compile_2 rfl (lv_at hl 0 rfl) ?_
      refine lv_aload_n hx hb dX5_compile_3 rfl (lv_at hl 2 rfl) ?_
      obtain ⟨a_18, v_19, a_20, a_21, a_22, a_23, v_24, a_25, a_26, a_27, a_28, a_29, v_30, a_31, a_32, a_33, hfo_17, ⟨ma_18, ka_18⟩, bv_19, ⟨ma_20, ka_20⟩, ⟨ma_21, ka_21⟩, ⟨ma_22, ka_22⟩, ⟨ma_23, ka_23⟩, bv_24, ⟨ma_25, ka_25⟩, ⟨ma_26, ka_26⟩, ⟨ma_27, ka_27⟩, ⟨ma_28, ka_28⟩, ⟨ma_29, ka_29⟩, bv_30, ⟨ma_31, ka_31⟩, ⟨ma_32, ka_32⟩, ⟨ma_33, ka_33⟩⟩ := un_207 (hG _ mo1) ko1
      refine tk_getP (D := (dC, dI)) (ci := 7) (v := .int v_24) (C := RX7) (T := TX7) (N := 16) hx hb hU inlX7 hown hK hP mo1 hfo_17 rfl 6 (by decide) (hU _ wd_500) (fun _ h9 => h9) rfl dX5_compile_4 ?_
      refine lv_icmp_ge (tgt := 72) hx hb dX5_compile_7 (by decide) (fun c_34 => ?_) (fun c_34 => ?_)
      · skip
        rw [Int32.le_iff_toInt_le] at c_34
        exact W.vret hx hb hr (fun t ht hW => ⟨⟨f_16, rfl, ⟨hG, hfr0⟩, by rw [ht]; exact hP, va_K.moved hW.alike hK, pl_in hD⟩, hS.F ht⟩) hS.2.2 dX5_compile_72
      · skip
        rw [Int32.le_iff_toInt_le] at c_34
        refine lv_iconst (v := 0) hx hb dX5_compile_10 (by decide) ?_
        refine lv_istore_n (lv' := [(3, .int 0), (2, .int y_14), (0, .ref o0), (1, .ref o1)]) hx hb dX5_compile_11 rfl hl (by decide) rfl (fun ls hl => ?_)
        refine lv_iconst (v := 0) hx hb dX5_compile_12 (by decide) ?_
        refine lv_istore (lv' := [(4, .int 0), (3, .int 0), (2, .int y_14), (0, .ref o0), (1, .ref o1)]) hx hb dX5_compile_13 hl (by decide) rfl (fun ls hl => ?_)
        have hloop_53 : ∀ (n : Nat), ∀ (y_54 : Int32), (0 ≤ y_54.toInt ∧ y_54.toInt ≤ 18) → ∀ (y_55 : Int32), ((-2147483648) ≤ y_55.toInt ∧ y_55.toInt ≤ 2147483647) → ∀ (H : Heap) (locs : List Loc), va_P (dC, dI) vwCl (va_pl L f_16) H → va_S (fun q => q ∈ L) s.heap H locs → 18 - y_54.toInt < (n : Int) → ∀ (ls : Array Slot), lv_has ls 5 [(4, .int y_54), (3, .int y_55), (2, .int y_14), (0, .ref o0), (1, .ref o1)] → W p l e (headSpec (wU yX5_compile cX5_compile 5 none) { frames := 1, cells := 0, slots := 0, locals := 24 }).room s m [.ref o0, .ref o1].toArray below meth c H locs 0 0 (MQ below (va_Qv (fun (f9 : Nat → va_E) => GI (okc cI cL cZ cR cG cH L kd) kd L f9 ∧ (∀ b, kd b ≠ 559 → f9 b = f b)) (qP (dC, dI) cI cL cZ cR cG cH L) (fun q => q ∈ L)) [.ref o0, .ref o1].toArray s 0 0 (fun q => q ∈ L)) (F0 m 15 ls []) := by
          intro n
          induction n with
          | zero => intro y_54 by_54 y_55 by_55 H locs hP hS hmuhloop_53 ls hl; exfalso; omega
          | succ n ih_hloop_53 =>
            intro y_54 by_54 y_55 by_55 H locs hP hS hmuhloop_53 ls hl
            refine lv_iload hx hb dX5_compile_15 (lv_at hl 0 rfl) ?_
            refine lv_aload_n hx hb dX5_compile_17 rfl (lv_at hl 3 rfl) ?_
            obtain ⟨a_58, a_59, a_60, v_61, v_62, v_63, hfo_57, ⟨ma_58, ka_58⟩, ⟨ma_59, ka_59⟩, ⟨ma_60, ka_60⟩⟩ := un_205 (hG _ mo0) ko0
            have bv_61 : ((-2147483648) ≤ v_61.toInt ∧ v_61.toInt ≤ 2147483647) := ⟨i32_lo _, i32_hi _⟩
            have bv_62 : ((-2147483648) ≤ v_62.toInt ∧ v_62.toInt ≤ 2147483647) := ⟨i32_lo _, i32_hi _⟩
            have bv_63 : ((-2147483648) ≤ v_63.toInt ∧ v_63.toInt ≤ 2147483647) := ⟨i32_lo _, i32_hi _⟩
            refine tk_getP (D := (dC, dI)) (ci := 5) (v := .ref a_58) (C := RX5) (T := TX5) (N := 6) hx hb hU inlX5 hown hK hP mo0 hfo_57 rfl 0 (by decide) (hU _ wd_110) (fun _ h9 => h9) rfl dX5_compile_18 ?_
            obtain ⟨g_65, hfo_64, hbg_65⟩ := un_558 (hG _ ma_58) ka_58
            refine tk_alenP (v := 18) hx hb hK hP 0 ma_58 hfo_64 rfl rfl dX5_compile_21 ?_
            refine lv_icmp_ge (tgt := 59) hx hb dX5_compile_22 (by decide) (fun c_66 => ?_) (fun c_66 => ?_)
            · skip
              rw [Int32.le_iff_toInt_le, ti_18] at c_66
              refine lv_aload_n hx hb dX5_compile_59 rfl (lv_at hl 3 rfl) ?_
              refine tk_getP (D := (dC, dI)) (ci := 5) (v := .ref a_60) (C := RX5) (T := TX5) (N := 6) hx hb hU inlX5 hown hK hP mo0 hfo_57 rfl 2 (by decide) (hU _ wd_112) (fun _ h9 => h9) rfl dX5_compile_60 ?_
              refine lv_iload_n hx hb dX5_compile_63 rfl (lv_at hl 2 rfl) ?_
              refine lv_iload_n hx hb dX5_compile_64 rfl (lv_at hl 1 rfl) ?_
              obtain ⟨g_68, hfo_67, hbg_68⟩ := un_559 (hG _ ma_60) ka_60
              refine tk_istP hx hb hK hP hD hS 0 ma_60 hfo_67 rfl (vp_in_iff.mpr (by constructor <;> omega)) dX5_compile_65 (fun H locs hP hD hS => ?_)
              obtain ⟨f_70, ef_70⟩ : ∃ y : Nat → va_E, y = va_up f_16 a_60 (.inl (cI, 20, .inl (upd g_68 (Int32.toNatClampNeg y_14) y_55))) := ⟨_, rfl⟩
              have hP : va_P (dC, dI) vwCl (va_pl L f_70) H := by rw [ef_70]; exact hP
              have hD : va_D (fun q => q ∈ L) (va_pl L f_70) := by rw [ef_70]; exact hD
              have hG : GI (okc cI cL cZ cR cG cH L kd) kd L f_70 := by rw [ef_70]; exact hG.set a_60 (mk_559 ka_60 ⟨_, rfl, okI_up hbg_68 ⟨i32_lo _, i32_hi _⟩ _⟩)
              have hfo_71 : f_70 o1 = .inr (7, [.ref a_18, .int v_19, .ref a_20, .ref a_21, .ref a_22, .ref a_23, .int v_24, .ref a_25, .ref a_26, .ref a_27, .ref a_28, .ref a_29, .int v_30, .ref a_31, .ref a_32, .ref a_33]) := by rw [ef_70, up_ne (kd_ne ka_60 ko1 (by decide))]; exact hfo_17
              have hfo_72 : f_70 o0 = .inr (5, [.ref a_58, .ref a_59, .ref a_60, .int v_61, .int v_62, .int v_63]) := by rw [ef_70, up_ne (kd_ne ka_60 ko0 (by decide))]; exact hfo_57
              have hfo_73 : f_70 a_58 = .inl (cI, 18, .inl g_65) := by rw [ef_70, up_ne (kd_ne ka_60 ka_58 (by decide))]; exact hfo_64
              have hfr0 : ∀ b, kd b ≠ 559 → f_70 b = f b := fun b q559 => (congrFun ef_70 b).trans ((up_ne (fun e9 => q559 (by rw [e9]; exact ka_60))).trans (hfr0 b q559))
              have hfo_74 : f_70 a_60 = .inl (cI, 20, .inl (upd g_68 (Int32.toNatClampNeg y_14) y_55)) := by rw [ef_70]; exact up_self
              obtain ⟨x_75, ex_75⟩ : ∃ y : Int32, y_14 + 1 = y := ⟨_, rfl⟩
              have hx_75 : x_75.toInt = y_14.toInt + 1 := by rw [← ex_75, ad_I (by rw [ti_1]; omega) (by rw [ti_1]; omega), ti_1]
              have bx_75 : (1 ≤ x_75.toInt ∧ x_75.toInt ≤ 20) := by constructor <;> omega
              refine lv_iinc (v := x_75) (lv' := [(2, .int x_75), (4, .int y_54), (3, .int y_55), (0, .ref o0), (1, .ref o1)]) hx hb dX5_compile_66 hl (k := 2) rfl ex_75 (by decide) rfl (fun ls hl => ?_)
              refine lv_goto (tgt := 2) hx hb dX5_compile_69 (by decide) ?_
              exact ih_hloop_13 x_75 (by constructor <;> omega) f_70 hG _ _ hP hS hD hfr0 (by omega) ls (lv_sub hl [0, 3, 4] rfl)
            · skip
              rw [Int32.le_iff_toInt_le, ti_18] at c_66
              refine lv_aload_n hx hb dX5_compile_25 rfl (lv_at hl 3 rfl) ?_
              refine lv_iload hx hb dX5_compile_26 (lv_at hl 0 rfl) ?_
              refine lv_aload_n hx hb dX5_compile_28 rfl (lv_at hl 4 rfl) ?_
              refine tk_getP (D := (dC, dI)) (ci := 7) (v := .ref a_22) (C := RX7) (T := TX7) (N := 16) hx hb hU inlX7 hown hK hP mo1 hfo_17 rfl 4 (by decide) (hU _ wd_501) (fun _ h9 => h9) rfl dX5_compile_29 ?_
              refine lv_iload_n hx hb dX5_compile_32 rfl (lv_at hl 2 rfl) ?_
              obtain ⟨g_77, hfo_76, hbg_77⟩ := un_569 (hG _ ma_22) ka_22
              refine tk_ildP hx hb hK hP 0 ma_22 hfo_76 rfl (vp_in_iff.mpr (by constructor <;> omega)) dX5_compile_33 ?_
              refine lv_topi (fun x_78 ex_78 => ?_)
              have bx_78 : (0 ≤ x_78.toInt ∧ x_78.toInt ≤ 8) := by rw [ex_78]; exact hbg_77 _
              refine lv_aload_n hx hb dX5_compile_34 rfl (lv_at hl 4 rfl) ?_
              refine tk_getP (D := (dC, dI)) (ci := 7) (v := .ref a_23) (C := RX7) (T := TX7) (N := 16) hx hb hU inlX7 hown hK hP mo1 hfo_17 rfl 5 (by decide) (hU _ wd_502) (fun _ h9 => h9) rfl dX5_compile_35 ?_
              refine lv_iload_n hx hb dX5_compile_38 rfl (lv_at hl 2 rfl) ?_
              obtain ⟨g_80, hfo_79, hbg_80⟩ := un_569 (hG _ ma_23) ka_23
              refine tk_ildP hx hb hK hP 0 ma_23 hfo_79 rfl (vp_in_iff.mpr (by constructor <;> omega)) dX5_compile_39 ?_
              refine lv_topi (fun x_81 ex_81 => ?_)
              have bx_81 : (0 ≤ x_81.toInt ∧ x_81.toInt ≤ 8) := by rw [ex_81]; exact hbg_80 _
              refine tk_ViP (As := [.int y_54, .int x_78, .int x_81]) (rest := []) (n := 3) hx hb hml hown hU hN hZ (s_X5_takes_k205 l (dC, dI) cI cL cZ cR cG cH Z kd L f_16 hG o0 mo0 ko0 y_54 (by constructor <;> omega) x_78 x_81) wd_503 wd_504 wd_505 wd_102 wd_506 (by decide +kernel) ⟨Nat.le_of_ble_eq_true rfl, Nat.le_of_ble_eq_true rfl⟩ hK hP hD hS mo0 hfo_57 5 rfl rfl rfl hl.1 rfl (Nat.le_of_ble_eq_true rfl) dX5_compile_40 ⟨Nat.le_of_ble_eq_true rfl, Nat.le_of_ble_eq_true rfl⟩ (fun x_82 f_83 H locs hw hP hD hS => ?_)
              obtain ⟨rfl, bx_82⟩ := hw
              have hcut_86 : ∀ (y_85 : Int32), ((-2147483648) ≤ y_85.toInt ∧ y_85.toInt ≤ 2147483647) → ∀ (ls : Array Slot), lv_has ls 5 [(4, .int y_54), (3, .int y_85), (2, .int y_14), (0, .ref o0), (1, .ref o1)] → W p l e (headSpec (wU yX5_compile cX5_compile 5 none) { frames := 1, cells := 0, slots := 0, locals := 24 }).room s m [.ref o0, .ref o1].toArray below meth c H locs 0 0 (MQ below (va_Qv (fun (f9 : Nat → va_E) => GI (okc cI cL cZ cR cG cH L kd) kd L f9 ∧ (∀ b, kd b ≠ 559 → f9 b = f b)) (qP (dC, dI) cI cL cZ cR cG cH L) (fun q => q ∈ L)) [.ref o0, .ref o1].toArray s 0 0 (fun q => q ∈ L)) (F0 m 53 ls []) := by
                intro y_85 by_85 ls hl
                obtain ⟨x_87, ex_87⟩ : ∃ y : Int32, y_54 + 1 = y := ⟨_, rfl⟩
                have hx_87 : x_87.toInt = y_54.toInt + 1 := by rw [← ex_87, ad_I (by rw [ti_1]; omega) (by rw [ti_1]; omega), ti_1]
                have bx_87 : (1 ≤ x_87.toInt ∧ x_87.toInt ≤ 18) := by constructor <;> omega
                refine lv_iinc (v := x_87) (lv' := [(4, .int x_87), (3, .int y_85), (2, .int y_14), (0, .ref o0), (1, .ref o1)]) hx hb dX5_compile_53 hl (k := 0) rfl ex_87 (by decide) rfl (fun ls hl => ?_)
                refine lv_goto (tgt := 15) hx hb dX5_compile_56 (by decide) ?_
                exact ih_hloop_53 x_87 (by constructor <;> omega) y_85 (by constructor <;> omega) _ _ hP hS (by omega) ls (lv_sub hl [0, 1, 2, 3, 4] rfl)
              refine lv_if_eq (tgt := 53) hx hb dX5_compile_43 (by decide) (fun c_88 => ?_) (fun c_88 => ?_)
              · skip
                rw [← Int32.toInt_inj, ti_0] at c_88
                exact hcut_86 y_55 (by constructor <;> omega) ls (lv_sub hl [0, 1, 2, 3, 4] rfl)
              · skip
                rw [← Int32.toInt_inj, ti_0] at c_88
                refine lv_iload_n hx hb dX5_compile_46 rfl (lv_at hl 1 rfl) ?_
                refine lv_iconst (v := 1) hx hb dX5_compile_47 (by decide) ?_
                refine lv_iload hx hb dX5_compile_48 (lv_at hl 0 rfl) ?_
                refine lv_ishl hx hb dX5_compile_50 ?_
                refine lv_topi (fun x_89 ex_89 => ?_)
                have bx_89 : ((-2147483648) ≤ x_89.toInt ∧ x_89.toInt ≤ 2147483647) := ⟨i32_lo _, i32_hi _⟩
                refine lv_ior hx hb dX5_compile_51 ?_
                refine lv_topi (fun x_90 ex_90 => ?_)
                have bx_90 : ((-2147483648) ≤ x_90.toInt ∧ x_90.toInt ≤ 2147483647) := ⟨i32_lo _, i32_hi _⟩
                refine lv_istore_n (lv' := [(3, .int x_90), (4, .int y_54), (2, .int y_14), (0, .ref o0), (1, .ref o1)]) hx hb dX5_compile_52 rfl hl (by decide) rfl (fun ls hl => ?_)
                exact hcut_86 x_90 (by constructor <;> omega) ls (lv_sub hl [1, 0, 2, 3, 4] rfl)
        exact hloop_53 19 0 (by decide) 0 (by decide) _ _ hP hS (by (try rw [ti_0]) <;> omega) ls hl
  exact hloop_13 21 0 (by decide) f hG _ _ hP hS hD hfr0 (by (try rw [ti_0]) <;> omega) ls hl
