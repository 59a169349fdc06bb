set_option maxHeartbeats 8000000 in
set_option maxRecDepth 100000 in
theorem s_X12_isRight_k12 (l : Launch) (D : va_G) (cI cL cZ cR cG cH : ClassId) (Z : zT) (kd : Nat → Nat) (L : List Nat) (f : Nat → va_E) (hG : GI (okc cI cL cZ cR cG cH L kd) kd L f) (o0 : Nat) (mo0 : o0 ∈ L) (ko0 : kd o0 = 12) (p1 : Int32) (bp1 : (0 ≤ p1.toInt ∧ p1.toInt ≤ 11)) (p2 : Int32) : mPI l D cI cL cZ cR cG cH Z yX12_isRight cX12_isRight 5 (some .boolean) 21 585 [.ref o0, .int p1, .int p2] L f (fun (r : Int32) (f9 : Nat → va_E) => GI (okc cI cL cZ cR cG cH L kd) kd L f9 ∧ (0 ≤ r.toInt ∧ r.toInt ≤ 1) ∧ (∀ b, kd b ≠ 12 → kd b ≠ 579 → kd b ≠ 581 → kd b ≠ 583 → kd b ≠ 585 → kd b ≠ 587 → kd b ≠ 588 → kd b ≠ 589 → kd b ≠ 594 → f9 b = f b) ∧ (∀ b, kd b = 12 → ∀ j, fldR (f9 b) j = fldR (f b) j) ∧ (∀ b, kd b = 12 → ∀ j, j ≠ 23 → j ≠ 35 → fldI (f9 b) j = fldI (f b) j)) := by
  obtain ⟨dC, dI⟩ := D
  refine Met.ofW (cc := cX12_isRight) (maxL := 5) (ret := (some .boolean)) (by decide) rfl ?_
  intro p e s m args below meth c s₁ B hml hv
  obtain ⟨rfl, hP, hK, hD0, hN, hZ⟩ := hv
  have hx := B.exec
  have hb := B.bytes
  have hr := B.returns
  have hU : ∀ w ∈ wsU, w.before _ s = true := fun w h => atoms_spec (ws := wU yX12_isRight cX12_isRight 5 (some .boolean)) B.pre w (List.mem_cons_of_mem _ h)
  have hown : s.vm.findClass RX12 = some m.cls := findClass_of_methodNamed B.named
  have hlocks := B.notSynchronized
  have hD := pl_in hD0
  have hS : va_S (fun q => q ∈ L) s.heap s.heap [] := va_S.rf
  have hl := lv_entry ([.ref o0, .int p1, .int p2]) (n := 5) (Nat.le_of_ble_eq_true rfl)
  rw [lg_entry_eq]
  generalize (lg_sl ([.ref o0, .int p1, .int p2]) ++ List.replicate (5 - (lg_sl ([.ref o0, .int p1, .int p2])).length) Slot.unset).toArray = ls at hl ⊢
  have hl : lv_has ls 5 [(0, .ref o0), (1, .int p1), (2, .int p2)] := hl
  have bp2 : ((-2147483648) ≤ p2.toInt ∧ p2.toInt ≤ 2147483647) := ⟨i32_lo _, i32_hi _⟩
  have hfr0 : ∀ b, kd b ≠ 12 → kd b ≠ 579 → kd b ≠ 581 → kd b ≠ 583 → kd b ≠ 585 → kd b ≠ 587 → kd b ≠ 588 → kd b ≠ 589 → kd b ≠ 594 → f b = f b := fun _ _ _ _ _ _ _ _ _ _ => rfl
  have hrA12 : ∀ b, kd b = 12 → ∀ j, fldR (f b) j = fldR (f b) j := fun _ _ _ => rfl
  have hfA12 : ∀ b, kd b = 12 → ∀ j, j ≠ 23 → j ≠ 35 → fldI (f b) j = fldI (f b) j := fun _ _ _ _ _ => rfl
  refine lv_sipush (v := 220) hx hb dX12_isRight_0 (by decide) ?_
  refine lv_bipush (v := 20) hx hb dX12_isRight_3 (by decide) ?_
  refine lv_iload_n hx hb dX12_isRight_5 rfl (lv_at hl 1 rfl) ?_
  refine lv_imul hx hb dX12_isRight_6 ?_
  refine lv_topi (fun x_1 ex_1 => ?_)
  have hx_1 : x_1.toInt = 20 * p1.toInt := by rw [ex_1, ml_I (by rw [ti_20]; omega) (by rw [ti_20]; omega), ti_20]
  have bx_1 : (0 ≤ x_1.toInt ∧ x_1.toInt ≤ 220) := by constructor <;> omega
  refine lv_iadd hx hb dX12_isRight_7 ?_
  refine lv_topi (fun x_2 ex_2 => ?_)
  have hx_2 : x_2.toInt = 220 + x_1.toInt := by rw [ex_2, ad_I (by rw [ti_220]; omega) (by rw [ti_220]; omega), ti_220]
  have bx_2 : (220 ≤ x_2.toInt ∧ x_2.toInt ≤ 440) := by constructor <;> omega
  refine lv_istore_n (lv' := [(3, .int x_2), (0, .ref o0), (1, .int p1), (2, .int p2)]) hx hb dX12_isRight_8 rfl hl (by decide) rfl (fun ls hl => ?_)
  refine lv_aload_n hx hb dX12_isRight_9 rfl (lv_at hl 1 rfl) ?_
  refine lv_aload_n hx hb dX12_isRight_10 rfl (lv_at hl 1 rfl) ?_
  obtain ⟨a_4, a_5, a_6, v_7, a_8, v_9, v_10, v_11, v_12, v_13, v_14, v_15, v_16, v_17, v_18, a_19, a_20, a_21, a_22, a_23, a_24, a_25, a_26, v_27, v_28, v_29, v_30, v_31, a_32, v_33, a_34, a_35, v_36, v_37, a_38, v_39, a_40, a_41, v_42, v_43, a_44, a_45, a_46, v_47, a_48, a_49, a_50, a_51, a_52, a_53, a_54, a_55, a_56, v_57, v_58, a_59, hfo_3, ⟨ma_4, ka_4⟩, ⟨ma_5, ka_5⟩, ⟨ma_6, ka_6⟩, bv_7, ⟨ma_8, ka_8⟩, bv_9, bv_10, bv_15, bv_16, bv_17, ⟨ma_19, ka_19⟩, ⟨ma_20, ka_20⟩, ⟨ma_21, ka_21⟩, ⟨ma_22, ka_22⟩, ⟨ma_23, ka_23⟩, ⟨ma_24, ka_24⟩, ⟨ma_25, ka_25⟩, ⟨ma_26, ka_26⟩, bv_27, bv_29, bv_31, ⟨ma_32, ka_32⟩, bv_33, ⟨ma_34, ka_34⟩, ⟨ma_35, ka_35⟩, bv_36, ⟨ma_38, ka_38⟩, bv_39, ⟨ma_40, ka_40⟩, ⟨ma_41, ka_41⟩, bv_42, ⟨ma_44, ka_44⟩, ⟨ma_45, ka_45⟩, ⟨ma_46, ka_46⟩, bv_47, ⟨ma_48, ka_48⟩, ⟨ma_49, ka_49⟩, ⟨ma_50, ka_50⟩, ⟨ma_51, ka_51⟩, ⟨ma_52, ka_52⟩, ⟨ma_53, ka_53⟩, ⟨ma_54, ka_54⟩, ⟨ma_55, ka_55⟩, ⟨ma_56, ka_56⟩, bv_57, ⟨ma_59, ka_59⟩⟩ := un_12 (hG _ mo0) ko0
  have bv_11 : ((-2147483648) ≤ v_11.toInt ∧ v_11.toInt ≤ 2147483647) := ⟨i32_lo _, i32_hi _⟩
  have bv_12 : ((-2147483648) ≤ v_12.toInt ∧ v_12.toInt ≤ 2147483647) := ⟨i32_lo _, i32_hi _⟩
  have bv_13 : ((-2147483648) ≤ v_13.toInt ∧ v_13.toInt ≤ 2147483647) := ⟨i32_lo _, i32_hi _⟩
  have bv_14 : ((-2147483648) ≤ v_14.toInt ∧ v_14.toInt ≤ 2147483647) := ⟨i32_lo _, i32_hi _⟩
  have bv_18 : ((-2147483648) ≤ v_18.toInt ∧ v_18.toInt ≤ 2147483647) := ⟨i32_lo _, i32_hi _⟩
  have bv_28 : ((-2147483648) ≤ v_28.toInt ∧ v_28.toInt ≤ 2147483647) := ⟨i32_lo _, i32_hi _⟩
  have bv_30 : ((-2147483648) ≤ v_30.toInt ∧ v_30.toInt ≤ 2147483647) := ⟨i32_lo _, i32_hi _⟩
  have bv_37 : ((-2147483648) ≤ v_37.toInt ∧ v_37.toInt ≤ 2147483647) := ⟨i32_lo _, i32_hi _⟩
  have bv_43 : ((-2147483648) ≤ v_43.toInt ∧ v_43.toInt ≤ 2147483647) := ⟨i32_lo _, i32_hi _⟩
  have bv_58 : ((-2147483648) ≤ v_58.toInt ∧ v_58.toInt ≤ 2147483647) := ⟨i32_lo _, i32_hi _⟩
  refine tk_getP (D := (dC, dI)) (ci := 12) (v := .ref a_4) (C := RX12) (T := TX12) (N := 56) hx hb hU inlX12 hown hK hP mo0 hfo_3 rfl 0 (by decide) (hU _ wd_169) (fun _ h9 => h9) rfl dX12_isRight_11 ?_
  refine lv_iload_n hx hb dX12_isRight_14 rfl (lv_at hl 0 rfl) ?_
  refine lv_iconst (v := 1) hx hb dX12_isRight_15 (by decide) ?_
  refine lv_iadd hx hb dX12_isRight_16 ?_
  refine lv_topi (fun x_60 ex_60 => ?_)
  have hx_60 : x_60.toInt = x_2.toInt + 1 := by rw [ex_60, ad_I (by rw [ti_1]; omega) (by rw [ti_1]; omega), ti_1]
  have bx_60 : (221 ≤ x_60.toInt ∧ x_60.toInt ≤ 441) := by constructor <;> omega
  obtain ⟨g_62, hfo_61, hbg_62⟩ := un_575 (hG _ ma_4) ka_4
  refine tk_ildP hx hb hK hP 0 ma_4 hfo_61 rfl (vp_in_iff.mpr (by constructor <;> omega)) dX12_isRight_17 ?_
  refine lv_topi (fun x_63 ex_63 => ?_)
  have bx_63 : (0 ≤ x_63.toInt ∧ x_63.toInt ≤ 8) := by have hc9 := cl_I (i := x_60) (by omega); rw [ex_63]; exact hbg_62.2.2.2.2.2.2.2.2.2.2.1 _ (by omega) (by omega) (by omega)
  refine tk_putP (D := (dC, dI)) (ci := 12) (v := .int x_63) (ty := .int) (C := RX12) (T := TX12) (N := 56) hx hb hU inlX12 tyX12 tyX12_ok nmX12 hown hK hP hD hS mo0 hfo_3 rfl 23 (by decide) (hU _ wd_867) (fun _ h9 => h9) rfl (by decide +kernel) rfl rfl (Nat.le_of_ble_eq_true rfl) dX12_isRight_18 (fun H locs hP hD hS => ?_)
  obtain ⟨f_65, ef_65⟩ : ∃ y : Nat → va_E, y = va_up f o0 (.inr (12, [.ref a_4, .ref a_5, .ref a_6, .int v_7, .ref a_8, .int v_9, .int v_10, .int v_11, .int v_12, .int v_13, .int v_14, .int v_15, .int v_16, .int v_17, .int v_18, .ref a_19, .ref a_20, .ref a_21, .ref a_22, .ref a_23, .ref a_24, .ref a_25, .ref a_26, .int x_63, .int v_28, .int v_29, .int v_30, .int v_31, .ref a_32, .int v_33, .ref a_34, .ref a_35, .int v_36, .int v_37, .ref a_38, .int v_39, .ref a_40, .ref a_41, .int v_42, .int v_43, .ref a_44, .ref a_45, .ref a_46, .int v_47, .ref a_48, .ref a_49, .ref a_50, .ref a_51, .ref a_52, .ref a_53, .ref a_54, .ref a_55, .ref a_56, .int v_57, .int v_58, .ref a_59])) := ⟨_, rfl⟩
  have hP : va_P (dC, dI) vwCl (va_pl L f_65) H := by rw [ef_65]; exact hP
  have hD : va_D (fun q => q ∈ L) (va_pl L f_65) := by rw [ef_65]; exact hD
  have hG : GI (okc cI cL cZ cR cG cH L kd) kd L f_65 := by rw [ef_65]; exact hG.set o0 (mk_12 ko0 ⟨a_4, a_5, a_6, v_7, a_8, v_9, v_10, v_11, v_12, v_13, v_14, v_15, v_16, v_17, v_18, a_19, a_20, a_21, a_22, a_23, a_24, a_25, a_26, x_63, v_28, v_29, v_30, v_31, a_32, v_33, a_34, a_35, v_36, v_37, a_38, v_39, a_40, a_41, v_42, v_43, a_44, a_45, a_46, v_47, a_48, a_49, a_50, a_51, a_52, a_53, a_54, a_55, a_56, v_57, v_58, a_59, rfl, ⟨ma_4, ka_4⟩, ⟨ma_5, ka_5⟩, ⟨ma_6, ka_6⟩, (by constructor <;> omega), ⟨ma_8, ka_8⟩, (by constructor <;> omega), (by constructor <;> omega), (by constructor <;> omega), (by constructor <;> omega), (by constructor <;> omega), ⟨ma_19, ka_19⟩, ⟨ma_20, ka_20⟩, ⟨ma_21, ka_21⟩, ⟨ma_22, ka_22⟩, ⟨ma_23, ka_23⟩, ⟨ma_24, ka_24⟩, ⟨ma_25, ka_25⟩, ⟨ma_26, ka_26⟩, (by constructor <;> omega), (by constructor <;> omega), (by constructor <;> omega), ⟨ma_32, ka_32⟩, (by constructor <;> omega), ⟨ma_34, ka_34⟩, ⟨ma_35, ka_35⟩, (by constructor <;> omega), ⟨ma_38, ka_38⟩, (by constructor <;> omega), ⟨ma_40, ka_40⟩, ⟨ma_41, ka_41⟩, (by constructor <;> omega), ⟨ma_44, ka_44⟩, ⟨ma_45, ka_45⟩, ⟨ma_46, ka_46⟩, (by constructor <;> omega), ⟨ma_48, ka_48⟩, ⟨ma_49, ka_49⟩, ⟨ma_50, ka_50⟩, ⟨ma_51, ka_51⟩, ⟨ma_52, ka_52⟩, ⟨ma_53, ka_53⟩, ⟨ma_54, ka_54⟩, ⟨ma_55, ka_55⟩, ⟨ma_56, ka_56⟩, (by constructor <;> omega), ⟨ma_59, ka_59⟩⟩)
  have hfo_66 : f_65 a_4 = .inl (cI, 1560, .inl g_62) := by rw [ef_65, up_ne (kd_ne ko0 ka_4 (by decide))]; exact hfo_61
  have hfr0 : ∀ b, kd b ≠ 12 → kd b ≠ 579 → kd b ≠ 581 → kd b ≠ 583 → kd b ≠ 585 → kd b ≠ 587 → kd b ≠ 588 → kd b ≠ 589 → kd b ≠ 594 → f_65 b = f b := fun b q12 q579 q581 q583 q585 q587 q588 q589 q594 => (congrFun ef_65 b).trans ((up_ne (fun e9 => q12 (by rw [e9]; exact ko0))).trans (hfr0 b q12 q579 q581 q583 q585 q587 q588 q589 q594))
  have hrA12 : ∀ b, kd b = 12 → ∀ j, fldR (f_65 b) j = fldR (f b) j := fun b kb j => ((congrArg (fun x => fldR x j) (congrFun ef_65 b)).trans (fra_up (fun j => by rw [hfo_3]; exact fr_set (k := 23) rfl rfl j) j b)).trans (hrA12 b kb j)
  have hfA12 : ∀ b, kd b = 12 → ∀ j, j ≠ 23 → j ≠ 35 → fldI (f_65 b) j = fldI (f b) j := fun b kb j n23 n35 => ((congrArg (fun x => fldI x j) (congrFun ef_65 b)).trans (fia_up (fun h9 => by rw [hfo_3]; exact fi_set (k := 23) rfl h9) n23 b)).trans (hfA12 b kb j n23 n35)
  have hfo_67 : f_65 o0 = .inr (12, [.ref a_4, .ref a_5, .ref a_6, .int v_7, .ref a_8, .int v_9, .int v_10, .int v_11, .int v_12, .int v_13, .int v_14, .int v_15, .int v_16, .int v_17, .int v_18, .ref a_19, .ref a_20, .ref a_21, .ref a_22, .ref a_23, .ref a_24, .ref a_25, .ref a_26, .int x_63, .int v_28, .int v_29, .int v_30, .int v_31, .ref a_32, .int v_33, .ref a_34, .ref a_35, .int v_36, .int v_37, .ref a_38, .int v_39, .ref a_40, .ref a_41, .int v_42, .int v_43, .ref a_44, .ref a_45, .ref a_46, .int v_47, .ref a_48, .ref a_49, .ref a_50, .ref a_51, .ref a_52, .ref a_53, .ref a_54, .ref a_55, .ref a_56, .int v_57, .int v_58, .ref a_59]) := by rw [ef_65]; exact up_self
  refine lv_aload_n hx hb dX12_isRight_21 rfl (lv_at hl 1 rfl) ?_
  refine lv_aload_n hx hb dX12_isRight_22 rfl (lv_at hl 1 rfl) ?_
  refine tk_getP (D := (dC, dI)) (ci := 12) (v := .ref a_4) (C := RX12) (T := TX12) (N := 56) hx hb hU inlX12 hown hK hP mo0 hfo_67 rfl 0 (by decide) (hU _ wd_169) (fun _ h9 => h9) rfl dX12_isRight_23 ?_
  refine lv_iload_n hx hb dX12_isRight_26 rfl (lv_at hl 0 rfl) ?_
  refine lv_iconst (v := 2) hx hb dX12_isRight_27 (by decide) ?_
  refine lv_iadd hx hb dX12_isRight_28 ?_
  refine lv_topi (fun x_68 ex_68 => ?_)
  have hx_68 : x_68.toInt = x_2.toInt + 2 := by rw [ex_68, ad_I (by rw [ti_2]; omega) (by rw [ti_2]; omega), ti_2]
  have bx_68 : (222 ≤ x_68.toInt ∧ x_68.toInt ≤ 442) := by constructor <;> omega
  refine tk_ildP hx hb hK hP 0 ma_4 hfo_66 rfl (vp_in_iff.mpr (by constructor <;> omega)) dX12_isRight_29 ?_
  refine lv_topi (fun x_69 ex_69 => ?_)
  have bx_69 : (0 ≤ x_69.toInt ∧ x_69.toInt ≤ 8) := by have hc9 := cl_I (i := x_68) (by omega); rw [ex_69]; exact hbg_62.2.2.2.2.2.2.2.2.2.2.1 _ (by omega) (by omega) (by omega)
  refine tk_putP (D := (dC, dI)) (ci := 12) (v := .int x_69) (ty := .int) (C := RX12) (T := TX12) (N := 56) hx hb hU inlX12 tyX12 tyX12_ok nmX12 hown hK hP hD hS mo0 hfo_67 rfl 35 (by decide) (hU _ wd_1049) (fun _ h9 => h9) rfl (by decide +kernel) rfl rfl (Nat.le_of_ble_eq_true rfl) dX12_isRight_30 (fun H locs hP hD hS => ?_)
  obtain ⟨f_71, ef_71⟩ : ∃ y : Nat → va_E, y = va_up f_65 o0 (.inr (12, [.ref a_4, .ref a_5, .ref a_6, .int v_7, .ref a_8, .int v_9, .int v_10, .int v_11, .int v_12, .int v_13, .int v_14, .int v_15, .int v_16, .int v_17, .int v_18, .ref a_19, .ref a_20, .ref a_21, .ref a_22, .ref a_23, .ref a_24, .ref a_25, .ref a_26, .int x_63, .int v_28, .int v_29, .int v_30, .int v_31, .ref a_32, .int v_33, .ref a_34, .ref a_35, .int v_36, .int v_37, .ref a_38, .int x_69, .ref a_40, .ref a_41, .int v_42, .int v_43, .ref a_44, .ref a_45, .ref a_46, .int v_47, .ref a_48, .ref a_49, .ref a_50, .ref a_51, .ref a_52, .ref a_53, .ref a_54, .ref a_55, .ref a_56, .int v_57, .int v_58, .ref a_59])) := ⟨_, rfl⟩
  have hP : va_P (dC, dI) vwCl (va_pl L f_71) H := by rw [ef_71]; exact hP
  have hD : va_D (fun q => q ∈ L) (va_pl L f_71) := by rw [ef_71]; exact hD
  have hG : GI (okc cI cL cZ cR cG cH L kd) kd L f_71 := by rw [ef_71]; exact hG.set o0 (mk_12 ko0 ⟨a_4, a_5, a_6, v_7, a_8, v_9, v_10, v_11, v_12, v_13, v_14, v_15, v_16, v_17, v_18, a_19, a_20, a_21, a_22, a_23, a_24, a_25, a_26, x_63, v_28, v_29, v_30, v_31, a_32, v_33, a_34, a_35, v_36, v_37, a_38, x_69, a_40, a_41, v_42, v_43, a_44, a_45, a_46, v_47, a_48, a_49, a_50, a_51, a_52, a_53, a_54, a_55, a_56, v_57, v_58, a_59, rfl, ⟨ma_4, ka_4⟩, ⟨ma_5, ka_5⟩, ⟨ma_6, ka_6⟩, (by constructor <;> omega), ⟨ma_8, ka_8⟩, (by constructor <;> omega), (by constructor <;> omega), (by constructor <;> omega), (by constructor <;> omega), (by constructor <;> omega), ⟨ma_19, ka_19⟩, ⟨ma_20, ka_20⟩, ⟨ma_21, ka_21⟩, ⟨ma_22, ka_22⟩, ⟨ma_23, ka_23⟩, ⟨ma_24, ka_24⟩, ⟨ma_25, ka_25⟩, ⟨ma_26, ka_26⟩, (by constructor <;> omega), (by constructor <;> omega), (by constructor <;> omega), ⟨ma_32, ka_32⟩, (by constructor <;> omega), ⟨ma_34, ka_34⟩, ⟨ma_35, ka_35⟩, (by constructor <;> omega), ⟨ma_38, ka_38⟩, (by constructor <;> omega), ⟨ma_40, ka_40⟩, ⟨ma_41, ka_41⟩, (by constructor <;> omega), ⟨ma_44, ka_44⟩, ⟨ma_45, ka_45⟩, ⟨ma_46, ka_46⟩, (by constructor <;> omega), ⟨ma_48, ka_48⟩, ⟨ma_49, ka_49⟩, ⟨ma_50, ka_50⟩, ⟨ma_51, ka_51⟩, ⟨ma_52, ka_52⟩, ⟨ma_53, ka_53⟩, ⟨ma_54, ka_54⟩, ⟨ma_55, ka_55⟩, ⟨ma_56, ka_56⟩, (by constructor <;> omega), ⟨ma_59, ka_59⟩⟩)
  have hfo_72 : f_71 a_4 = .inl (cI, 1560, .inl g_62) := by rw [ef_71, up_ne (kd_ne ko0 ka_4 (by decide))]; exact hfo_66
  have hfr0 : ∀ b, kd b ≠ 12 → kd b ≠ 579 → kd b ≠ 581 → kd b ≠ 583 → kd b ≠ 585 → kd b ≠ 587 → kd b ≠ 588 → kd b ≠ 589 → kd b ≠ 594 → f_71 b = f b := fun b q12 q579 q581 q583 q585 q587 q588 q589 q594 => (congrFun ef_71 b).trans ((up_ne (fun e9 => q12 (by rw [e9]; exact ko0))).trans (hfr0 b q12 q579 q581 q583 q585 q587 q588 q589 q594))
  have hrA12 : ∀ b, kd b = 12 → ∀ j, fldR (f_71 b) j = fldR (f b) j := fun b kb j => ((congrArg (fun x => fldR x j) (congrFun ef_71 b)).trans (fra_up (fun j => by rw [hfo_67]; exact fr_set (k := 35) rfl rfl j) j b)).trans (hrA12 b kb j)
  have hfA12 : ∀ b, kd b = 12 → ∀ j, j ≠ 23 → j ≠ 35 → fldI (f_71 b) j = fldI (f b) j := fun b kb j n23 n35 => ((congrArg (fun x => fldI x j) (congrFun ef_71 b)).trans (fia_up (fun h9 => by rw [hfo_67]; exact fi_set (k := 35) rfl h9) n35 b)).trans (hfA12 b kb j n23 n35)
  have hfo_73 : f_71 o0 = .inr (12, [.ref a_4, .ref a_5, .ref a_6, .int v_7, .ref a_8, .int v_9, .int v_10, .int v_11, .int v_12, .int v_13, .int v_14, .int v_15, .int v_16, .int v_17, .int v_18, .ref a_19, .ref a_20, .ref a_21, .ref a_22, .ref a_23, .ref a_24, .ref a_25, .ref a_26, .int x_63, .int v_28, .int v_29, .int v_30, .int v_31, .ref a_32, .int v_33, .ref a_34, .ref a_35, .int v_36, .int v_37, .ref a_38, .int x_69, .ref a_40, .ref a_41, .int v_42, .int v_43, .ref a_44, .ref a_45, .ref a_46, .int v_47, .ref a_48, .ref a_49, .ref a_50, .ref a_51, .ref a_52, .ref a_53, .ref a_54, .ref a_55, .ref a_56, .int v_57, .int v_58, .ref a_59]) := by rw [ef_71]; exact up_self
  refine lv_iconst (v := 0) hx hb dX12_isRight_33 (by decide) ?_
  refine lv_istore (lv' := [(4, .int 0), (3, .int x_2), (0, .ref o0), (1, .int p1), (2, .int p2)]) hx hb dX12_isRight_34 hl (by decide) rfl (fun ls hl => ?_)
  have hloop_92 : ∀ (n : Nat), ∀ (y_93 : Int32), (0 ≤ y_93.toInt ∧ y_93.toInt ≤ 8) → ∀ (f_95 : Nat → va_E), GI (okc cI cL cZ cR cG cH L kd) kd L f_95 → ∀ (H : Heap) (locs : List Loc), va_P (dC, dI) vwCl (va_pl L f_95) H → va_S (fun q => q ∈ L) s.heap H locs → va_D (fun q => q ∈ L) (va_pl L f_95) → (∀ b, kd b ≠ 12 → kd b ≠ 579 → kd b ≠ 581 → kd b ≠ 583 → kd b ≠ 585 → kd b ≠ 587 → kd b ≠ 588 → kd b ≠ 589 → kd b ≠ 594 → f_95 b = f b) → (∀ b, kd b = 12 → ∀ j, fldR (f_95 b) j = fldR (f b) j) → (∀ b, kd b = 12 → ∀ j, j ≠ 23 → j ≠ 35 → fldI (f_95 b) j = fldI (f b) j) → (f_95 a_4 = .inl (cI, 1560, .inl g_62)) → (f_95 o0 = .inr (12, [.ref a_4, .ref a_5, .ref a_6, .int v_7, .ref a_8, .int v_9, .int v_10, .int v_11, .int v_12, .int v_13, .int v_14, .int v_15, .int v_16, .int v_17, .int v_18, .ref a_19, .ref a_20, .ref a_21, .ref a_22, .ref a_23, .ref a_24, .ref a_25, .ref a_26, .int x_63, .int v_28, .int v_29, .int v_30, .int v_31, .ref a_32, .int v_33, .ref a_34, .ref a_35, .int v_36, .int v_37, .ref a_38, .int x_69, .ref a_40, .ref a_41, .int v_42, .int v_43, .ref a_44, .ref a_45, .ref a_46, .int v_47, .ref a_48, .ref a_49, .ref a_50, .ref a_51, .ref a_52, .ref a_53, .ref a_54, .ref a_55, .ref a_56, .int v_57, .int v_58, .ref a_59])) → 8 - y_93.toInt < (n : Int) → ∀ (ls : Array Slot), lv_has ls 5 [(4, .int y_93), (3, .int x_2), (0, .ref o0), (1, .int p1), (2, .int p2)] → W p l e (headSpec (wU yX12_isRight cX12_isRight 5 (some .boolean)) { frames := 21, cells := 0, slots := 0, locals := 585 }).room s m [.ref o0, .int p1, .int p2].toArray below meth c H locs 0 0 (MQ below (va_Qi (fun (r : Int32) (f9 : Nat → va_E) => GI (okc cI cL cZ cR cG cH L kd) kd L f9 ∧ (0 ≤ r.toInt ∧ r.toInt ≤ 1) ∧ (∀ b, kd b ≠ 12 → kd b ≠ 579 → kd b ≠ 581 → kd b ≠ 583 → kd b ≠ 585 → kd b ≠ 587 → kd b ≠ 588 → kd b ≠ 589 → kd b ≠ 594 → f9 b = f b) ∧ (∀ b, kd b = 12 → ∀ j, fldR (f9 b) j = fldR (f b) j) ∧ (∀ b, kd b = 12 → ∀ j, j ≠ 23 → j ≠ 35 → fldI (f9 b) j = fldI (f b) j)) (qP (dC, dI) cI cL cZ cR cG cH L) (fun q => q ∈ L)) [.ref o0, .int p1, .int p2].toArray s 0 0 (fun q => q ∈ L)) (F0 m 36 ls []) := by
    intro n
    induction n with
    | zero => intro y_93 by_93 f_95 hG H locs hP hS hD hfr0 hrA12 hfA12 hfo_96 hfo_97 hmuhloop_92 ls hl; exfalso; omega
    | succ n ih_hloop_92 =>
      intro y_93 by_93 f_95 hG H locs hP hS hD hfr0 hrA12 hfA12 hfo_96 hfo_97 hmuhloop_92 ls hl
      refine lv_iload hx hb dX12_isRight_36 (lv_at hl 0 rfl) ?_
      refine lv_aload_n hx hb dX12_isRight_38 rfl (lv_at hl 2 rfl) ?_
      refine tk_getP (D := (dC, dI)) (ci := 12) (v := .int x_63) (C := RX12) (T := TX12) (N := 56) hx hb hU inlX12 hown hK hP mo0 hfo_97 rfl 23 (by decide) (hU _ wd_867) (fun _ h9 => h9) rfl dX12_isRight_39 ?_
      refine lv_icmp_ge (tgt := 69) hx hb dX12_isRight_42 (by decide) (fun c_98 => ?_) (fun c_98 => ?_)
      · skip
        rw [Int32.le_iff_toInt_le] at c_98
        refine lv_iconst (v := 0) hx hb dX12_isRight_69 (by decide) ?_
        refine lv_istore (lv' := [(4, .int 0), (3, .int x_2), (0, .ref o0), (1, .int p1), (2, .int p2)]) hx hb dX12_isRight_70 hl (by decide) rfl (fun ls hl => ?_)
        have hloop_117 : ∀ (n : Nat), ∀ (y_118 : Int32), (0 ≤ y_118.toInt ∧ y_118.toInt ≤ 8) → ∀ (f_120 : Nat → va_E), GI (okc cI cL cZ cR cG cH L kd) kd L f_120 → ∀ (H : Heap) (locs : List Loc), va_P (dC, dI) vwCl (va_pl L f_120) H → va_S (fun q => q ∈ L) s.heap H locs → va_D (fun q => q ∈ L) (va_pl L f_120) → (∀ b, kd b ≠ 12 → kd b ≠ 579 → kd b ≠ 581 → kd b ≠ 583 → kd b ≠ 585 → kd b ≠ 587 → kd b ≠ 588 → kd b ≠ 589 → kd b ≠ 594 → f_120 b = f b) → (∀ b, kd b = 12 → ∀ j, fldR (f_120 b) j = fldR (f b) j) → (∀ b, kd b = 12 → ∀ j, j ≠ 23 → j ≠ 35 → fldI (f_120 b) j = fldI (f b) j) → (f_120 a_4 = .inl (cI, 1560, .inl g_62)) → (f_120 o0 = .inr (12, [.ref a_4, .ref a_5, .ref a_6, .int v_7, .ref a_8, .int v_9, .int v_10, .int v_11, .int v_12, .int v_13, .int v_14, .int v_15, .int v_16, .int v_17, .int v_18, .ref a_19, .ref a_20, .ref a_21, .ref a_22, .ref a_23, .ref a_24, .ref a_25, .ref a_26, .int x_63, .int v_28, .int v_29, .int v_30, .int v_31, .ref a_32, .int v_33, .ref a_34, .ref a_35, .int v_36, .int v_37, .ref a_38, .int x_69, .ref a_40, .ref a_41, .int v_42, .int v_43, .ref a_44, .ref a_45, .ref a_46, .int v_47, .ref a_48, .ref a_49, .ref a_50, .ref a_51, .ref a_52, .ref a_53, .ref a_54, .ref a_55, .ref a_56, .int v_57, .int v_58, .ref a_59])) → 8 - y_118.toInt < (n : Int) → ∀ (ls : Array Slot), lv_has ls 5 [(4, .int y_118), (3, .int x_2), (0, .ref o0), (1, .int p1), (2, .int p2)] → W p l e (headSpec (wU yX12_isRight cX12_isRight 5 (some .boolean)) { frames := 21, cells := 0, slots := 0, locals := 585 }).room s m [.ref o0, .int p1, .int p2].toArray below meth c H locs 0 0 (MQ below (va_Qi (fun (r : Int32) (f9 : Nat → va_E) => GI (okc cI cL cZ cR cG cH L kd) kd L f9 ∧ (0 ≤ r.toInt ∧ r.toInt ≤ 1) ∧ (∀ b, kd b ≠ 12 → kd b ≠ 579 → kd b ≠ 581 → kd b ≠ 583 → kd b ≠ 585 → kd b ≠ 587 → kd b ≠ 588 → kd b ≠ 589 → kd b ≠ 594 → f9 b = f b) ∧ (∀ b, kd b = 12 → ∀ j, fldR (f9 b) j = fldR (f b) j) ∧ (∀ b, kd b = 12 → ∀ j, j ≠ 23 → j ≠ 35 → fldI (f9 b) j = fldI (f b) j)) (qP (dC, dI) cI cL cZ cR cG cH L) (fun q => q ∈ L)) [.ref o0, .int p1, .int p2].toArray s 0 0 (fun q => q ∈ L)) (F0 m 72 ls []) := by
          intro n
          induction n with
          | zero => intro y_118 by_118 f_120 hG H locs hP hS hD hfr0 hrA12 hfA12 hfo_121 hfo_122 hmuhloop_117 ls hl; exfalso; omega
          | succ n ih_hloop_117 =>
            intro y_118 by_118 f_120 hG H locs hP hS hD hfr0 hrA12 hfA12 hfo_121 hfo_122 hmuhloop_117 ls hl
            refine lv_iload hx hb dX12_isRight_72 (lv_at hl 0 rfl) ?_
            refine lv_aload_n hx hb dX12_isRight_74 rfl (lv_at hl 2 rfl) ?_
            refine tk_getP (D := (dC, dI)) (ci := 12) (v := .int x_69) (C := RX12) (T := TX12) (N := 56) hx hb hU inlX12 hown hK hP mo0 hfo_122 rfl 35 (by decide) (hU _ wd_1049) (fun _ h9 => h9) rfl dX12_isRight_75 ?_
            refine lv_icmp_ge (tgt := 106) hx hb dX12_isRight_78 (by decide) (fun c_123 => ?_) (fun c_123 => ?_)
            · skip
              rw [Int32.le_iff_toInt_le] at c_123
              refine lv_aload_n hx hb dX12_isRight_106 rfl (lv_at hl 2 rfl) ?_
              refine lv_iload_n hx hb dX12_isRight_107 rfl (lv_at hl 4 rfl) ?_
              refine tk_ViP (As := [.int p2]) (rest := []) (n := 1) hx hb hml hown hU hN hZ (s_X12_isSaid_k12 l (dC, dI) cI cL cZ cR cG cH Z kd L f_120 hG o0 mo0 ko0 p2) wd_1050 wd_1051 wd_1052 wd_5 wd_1053 (by decide +kernel) ⟨Nat.le_of_ble_eq_true rfl, Nat.le_of_ble_eq_true rfl⟩ hK hP hD hS mo0 hfo_122 12 rfl rfl rfl hl.1 rfl (Nat.le_of_ble_eq_true rfl) dX12_isRight_108 ⟨Nat.le_of_ble_eq_true rfl, Nat.le_of_ble_eq_true rfl⟩ (fun x_124 f_125 H locs hw hP hD hS => ?_)
              obtain ⟨hG, bx_124, hkc_126⟩ := hw
              have hfo_128 : f_125 a_4 = .inl (cI, 1560, .inl g_62) := by rw [hkc_126 a_4 (by rw [ka_4]; decide) (by rw [ka_4]; decide) (by rw [ka_4]; decide) (by rw [ka_4]; decide) (by rw [ka_4]; decide) (by rw [ka_4]; decide)]; exact hfo_121
              have hfo_129 : f_125 o0 = .inr (12, [.ref a_4, .ref a_5, .ref a_6, .int v_7, .ref a_8, .int v_9, .int v_10, .int v_11, .int v_12, .int v_13, .int v_14, .int v_15, .int v_16, .int v_17, .int v_18, .ref a_19, .ref a_20, .ref a_21, .ref a_22, .ref a_23, .ref a_24, .ref a_25, .ref a_26, .int x_63, .int v_28, .int v_29, .int v_30, .int v_31, .ref a_32, .int v_33, .ref a_34, .ref a_35, .int v_36, .int v_37, .ref a_38, .int x_69, .ref a_40, .ref a_41, .int v_42, .int v_43, .ref a_44, .ref a_45, .ref a_46, .int v_47, .ref a_48, .ref a_49, .ref a_50, .ref a_51, .ref a_52, .ref a_53, .ref a_54, .ref a_55, .ref a_56, .int v_57, .int v_58, .ref a_59]) := by rw [hkc_126 o0 (by rw [ko0]; decide) (by rw [ko0]; decide) (by rw [ko0]; decide) (by rw [ko0]; decide) (by rw [ko0]; decide) (by rw [ko0]; decide)]; exact hfo_122
              have hfr0 : ∀ b, kd b ≠ 12 → kd b ≠ 579 → kd b ≠ 581 → kd b ≠ 583 → kd b ≠ 585 → kd b ≠ 587 → kd b ≠ 588 → kd b ≠ 589 → kd b ≠ 594 → f_125 b = f b := fun b q12 q579 q581 q583 q585 q587 q588 q589 q594 => (hkc_126 b q579 q581 q583 q585 q587 q588).trans (hfr0 b q12 q579 q581 q583 q585 q587 q588 q589 q594)
              have hrA12 : ∀ b, kd b = 12 → ∀ j, fldR (f_125 b) j = fldR (f b) j := fun b kb j => (congrArg (fun x => fldR x j) (hkc_126 b (by rw [kb]; decide) (by rw [kb]; decide) (by rw [kb]; decide) (by rw [kb]; decide) (by rw [kb]; decide) (by rw [kb]; decide))).trans (hrA12 b kb j)
              have hfA12 : ∀ b, kd b = 12 → ∀ j, j ≠ 23 → j ≠ 35 → fldI (f_125 b) j = fldI (f b) j := fun b kb j n23 n35 => (congrArg (fun x => fldI x j) (hkc_126 b (by rw [kb]; decide) (by rw [kb]; decide) (by rw [kb]; decide) (by rw [kb]; decide) (by rw [kb]; decide) (by rw [kb]; decide))).trans (hfA12 b kb j n23 n35)
              refine lv_aload_n hx hb dX12_isRight_111 rfl (lv_at hl 2 rfl) ?_
              refine tk_getP (D := (dC, dI)) (ci := 12) (v := .ref a_4) (C := RX12) (T := TX12) (N := 56) hx hb hU inlX12 hown hK hP mo0 hfo_129 rfl 0 (by decide) (hU _ wd_169) (fun _ h9 => h9) rfl dX12_isRight_112 ?_
              refine lv_iload_n hx hb dX12_isRight_115 rfl (lv_at hl 1 rfl) ?_
              refine tk_ildP hx hb hK hP 0 ma_4 hfo_128 rfl (vp_in_iff.mpr (by constructor <;> omega)) dX12_isRight_116 ?_
              refine lv_topi (fun x_130 ex_130 => ?_)
              have bx_130 : (0 ≤ x_130.toInt ∧ x_130.toInt ≤ 8) := by have hc9 := cl_I (i := x_2) (by omega); rw [ex_130]; exact hbg_62.2.2.2.2.2.2.2.2.2.2.1 _ (by omega) (by omega) (by omega)
              refine lv_iconst (v := 1) hx hb dX12_isRight_117 (by decide) ?_
              have hcut_132 : ∀ (y_131 : Int32), (0 ≤ y_131.toInt ∧ y_131.toInt ≤ 1) → ∀ (ls : Array Slot), lv_has ls 5 [(4, .int y_118), (3, .int x_2), (0, .ref o0), (1, .int p1), (2, .int p2)] → W p l e (headSpec (wU yX12_isRight cX12_isRight 5 (some .boolean)) { frames := 21, cells := 0, slots := 0, locals := 585 }).room s m [.ref o0, .int p1, .int p2].toArray below meth c H locs 0 0 (MQ below (va_Qi (fun (r : Int32) (f9 : Nat → va_E) => GI (okc cI cL cZ cR cG cH L kd) kd L f9 ∧ (0 ≤ r.toInt ∧ r.toInt ≤ 1) ∧ (∀ b, kd b ≠ 12 → kd b ≠ 579 → kd b ≠ 581 → kd b ≠ 583 → kd b ≠ 585 → kd b ≠ 587 → kd b ≠ 588 → kd b ≠ 589 → kd b ≠ 594 → f9 b = f b) ∧ (∀ b, kd b = 12 → ∀ j, fldR (f9 b) j = fldR (f b) j) ∧ (∀ b, kd b = 12 → ∀ j, j ≠ 23 → j ≠ 35 → fldI (f9 b) j = fldI (f b) j)) (qP (dC, dI) cI cL cZ cR cG cH L) (fun q => q ∈ L)) [.ref o0, .int p1, .int p2].toArray s 0 0 (fun q => q ∈ L)) (F0 m 126 ls [.int y_131, .int x_124]) := by
                intro y_131 by_131 ls hl
                refine lv_icmp_ne (tgt := 133) hx hb dX12_isRight_126 (by decide) (fun c_133 => ?_) (fun c_133 => ?_)
                · skip
                  rw [← Int32.toInt_inj] at c_133
                  refine lv_iconst (v := 0) hx hb dX12_isRight_133 (by decide) ?_
                  exact W.zret (v := 0) (ty := .boolean) hx hb hr rfl (fun t ht hW => ⟨⟨0, f_125, rfl, ⟨hG, (by decide), hfr0, hrA12, hfA12⟩, by rw [ht]; exact hP, va_K.moved hW.alike hK, pl_in hD⟩, hS.F ht⟩) hS.2.2 dX12_isRight_134
                · skip
                  rw [← Int32.toInt_inj] at c_133
                  refine lv_iconst (v := 1) hx hb dX12_isRight_129 (by decide) ?_
                  refine lv_goto (tgt := 134) hx hb dX12_isRight_130 (by decide) ?_
                  exact W.zret (v := 1) (ty := .boolean) hx hb hr rfl (fun t ht hW => ⟨⟨1, f_125, rfl, ⟨hG, (by decide), hfr0, hrA12, hfA12⟩, by rw [ht]; exact hP, va_K.moved hW.alike hK, pl_in hD⟩, hS.F ht⟩) hS.2.2 dX12_isRight_134
              refine lv_icmp_ne (tgt := 125) hx hb dX12_isRight_118 (by decide) (fun c_134 => ?_) (fun c_134 => ?_)
              · skip
                rw [← Int32.toInt_inj, ti_1] at c_134
                refine lv_iconst (v := 0) hx hb dX12_isRight_125 (by decide) ?_
                exact hcut_132 0 (by decide) ls (lv_sub hl [0, 1, 2, 3, 4] rfl)
              · skip
                rw [← Int32.toInt_inj, ti_1] at c_134
                refine lv_iconst (v := 1) hx hb dX12_isRight_121 (by decide) ?_
                refine lv_goto (tgt := 126) hx hb dX12_isRight_122 (by decide) ?_
                exact hcut_132 1 (by decide) ls (lv_sub hl [0, 1, 2, 3, 4] rfl)
            · skip
              rw [Int32.le_iff_toInt_le] at c_123
              refine lv_aload_n hx hb dX12_isRight_81 rfl (lv_at hl 2 rfl) ?_
              refine tk_getP (D := (dC, dI)) (ci := 12) (v := .ref a_38) (C := RX12) (T := TX12) (N := 56) hx hb hU inlX12 hown hK hP mo0 hfo_122 rfl 34 (by decide) (hU _ wd_186) (fun _ h9 => h9) rfl dX12_isRight_82 ?_
              refine lv_iload hx hb dX12_isRight_85 (lv_at hl 0 rfl) ?_
              refine lv_aload_n hx hb dX12_isRight_87 rfl (lv_at hl 2 rfl) ?_
              refine tk_getP (D := (dC, dI)) (ci := 12) (v := .ref a_4) (C := RX12) (T := TX12) (N := 56) hx hb hU inlX12 hown hK hP mo0 hfo_122 rfl 0 (by decide) (hU _ wd_169) (fun _ h9 => h9) rfl dX12_isRight_88 ?_
              refine lv_iload_n hx hb dX12_isRight_91 rfl (lv_at hl 1 rfl) ?_
              refine lv_bipush (v := 11) hx hb dX12_isRight_92 (by decide) ?_
              refine lv_iadd hx hb dX12_isRight_94 ?_
              refine lv_topi (fun x_135 ex_135 => ?_)
              have hx_135 : x_135.toInt = x_2.toInt + 11 := by rw [ex_135, ad_I (by rw [ti_11]; omega) (by rw [ti_11]; omega), ti_11]
              have bx_135 : (231 ≤ x_135.toInt ∧ x_135.toInt ≤ 451) := by constructor <;> omega
              refine lv_iload hx hb dX12_isRight_95 (lv_at hl 0 rfl) ?_
              refine lv_iadd hx hb dX12_isRight_97 ?_
              refine lv_topi (fun x_136 ex_136 => ?_)
              have hx_136 : x_136.toInt = x_135.toInt + y_118.toInt := by rw [ex_136, ad_I (by omega) (by omega)]
              have bx_136 : (231 ≤ x_136.toInt ∧ x_136.toInt ≤ 458) := by constructor <;> omega
              refine tk_ildP hx hb hK hP 0 ma_4 hfo_121 rfl (vp_in_iff.mpr (by constructor <;> omega)) dX12_isRight_98 ?_
              refine lv_topi (fun x_137 ex_137 => ?_)
              have bx_137 : (0 ≤ x_137.toInt ∧ x_137.toInt ≤ 8) := by have hc9 := cl_I (i := x_136) (by omega); rw [ex_137]; exact hbg_62.2.2.2.2.2.2.2.2.2.2.1 _ (by omega) (by omega) (by omega)
              obtain ⟨g_139, hfo_138, hbg_139⟩ := un_594 (hG _ ma_38) ka_38
              refine tk_istP hx hb hK hP hD hS 0 ma_38 hfo_138 rfl (vp_in_iff.mpr (by constructor <;> omega)) dX12_isRight_99 (fun H locs hP hD hS => ?_)
              obtain ⟨f_141, ef_141⟩ : ∃ y : Nat → va_E, y = va_up f_120 a_38 (.inl (cI, 16, .inl (upd g_139 (Int32.toNatClampNeg y_118) x_137))) := ⟨_, rfl⟩
              have hP : va_P (dC, dI) vwCl (va_pl L f_141) H := by rw [ef_141]; exact hP
              have hD : va_D (fun q => q ∈ L) (va_pl L f_141) := by rw [ef_141]; exact hD
              have hG : GI (okc cI cL cZ cR cG cH L kd) kd L f_141 := by rw [ef_141]; exact hG.set a_38 (mk_594 ka_38 ⟨_, rfl, okI_up hbg_139 (by constructor <;> omega) _⟩)
              have hfo_142 : f_141 a_4 = .inl (cI, 1560, .inl g_62) := by rw [ef_141, up_ne (kd_ne ka_38 ka_4 (by decide))]; exact hfo_121
              have hfo_143 : f_141 o0 = .inr (12, [.ref a_4, .ref a_5, .ref a_6, .int v_7, .ref a_8, .int v_9, .int v_10, .int v_11, .int v_12, .int v_13, .int v_14, .int v_15, .int v_16, .int v_17, .int v_18, .ref a_19, .ref a_20, .ref a_21, .ref a_22, .ref a_23, .ref a_24, .ref a_25, .ref a_26, .int x_63, .int v_28, .int v_29, .int v_30, .int v_31, .ref a_32, .int v_33, .ref a_34, .ref a_35, .int v_36, .int v_37, .ref a_38, .int x_69, .ref a_40, .ref a_41, .int v_42, .int v_43, .ref a_44, .ref a_45, .ref a_46, .int v_47, .ref a_48, .ref a_49, .ref a_50, .ref a_51, .ref a_52, .ref a_53, .ref a_54, .ref a_55, .ref a_56, .int v_57, .int v_58, .ref a_59]) := by rw [ef_141, up_ne (kd_ne ka_38 ko0 (by decide))]; exact hfo_122
              have hfr0 : ∀ b, kd b ≠ 12 → kd b ≠ 579 → kd b ≠ 581 → kd b ≠ 583 → kd b ≠ 585 → kd b ≠ 587 → kd b ≠ 588 → kd b ≠ 589 → kd b ≠ 594 → f_141 b = f b := fun b q12 q579 q581 q583 q585 q587 q588 q589 q594 => (congrFun ef_141 b).trans ((up_ne (fun e9 => q594 (by rw [e9]; exact ka_38))).trans (hfr0 b q12 q579 q581 q583 q585 q587 q588 q589 q594))
              have hrA12 : ∀ b, kd b = 12 → ∀ j, fldR (f_141 b) j = fldR (f b) j := fun b kb j => (congrArg (fun x => fldR x j) ((congrFun ef_141 b).trans (up_ne (kd_ne ka_38 kb (by decide))))).trans (hrA12 b kb j)
              have hfA12 : ∀ b, kd b = 12 → ∀ j, j ≠ 23 → j ≠ 35 → fldI (f_141 b) j = fldI (f b) j := fun b kb j n23 n35 => (congrArg (fun x => fldI x j) ((congrFun ef_141 b).trans (up_ne (kd_ne ka_38 kb (by decide))))).trans (hfA12 b kb j n23 n35)
              have hfo_144 : f_141 a_38 = .inl (cI, 16, .inl (upd g_139 (Int32.toNatClampNeg y_118) x_137)) := by rw [ef_141]; exact up_self
              obtain ⟨x_145, ex_145⟩ : ∃ y : Int32, y_118 + 1 = y := ⟨_, rfl⟩
              have hx_145 : x_145.toInt = y_118.toInt + 1 := by rw [← ex_145, ad_I (by rw [ti_1]; omega) (by rw [ti_1]; omega), ti_1]
              have bx_145 : (1 ≤ x_145.toInt ∧ x_145.toInt ≤ 8) := by constructor <;> omega
              refine lv_iinc (v := x_145) (lv' := [(4, .int x_145), (3, .int x_2), (0, .ref o0), (1, .int p1), (2, .int p2)]) hx hb dX12_isRight_100 hl (k := 0) rfl ex_145 (by decide) rfl (fun ls hl => ?_)
              refine lv_goto (tgt := 72) hx hb dX12_isRight_103 (by decide) ?_
              exact ih_hloop_117 x_145 (by constructor <;> omega) f_141 hG _ _ hP hS hD hfr0 hrA12 hfA12 hfo_142 hfo_143 (by omega) ls (lv_sub hl [0, 1, 2, 3, 4] rfl)
        exact hloop_117 9 0 (by decide) f_95 hG _ _ hP hS hD hfr0 hrA12 hfA12 hfo_96 hfo_97 (by (try rw [ti_0]) <;> omega) ls hl
      · skip
        rw [Int32.le_iff_toInt_le] at c_98
        refine lv_aload_n hx hb dX12_isRight_45 rfl (lv_at hl 2 rfl) ?_
        refine tk_getP (D := (dC, dI)) (ci := 12) (v := .ref a_25) (C := RX12) (T := TX12) (N := 56) hx hb hU inlX12 hown hK hP mo0 hfo_97 rfl 21 (by decide) (hU _ wd_181) (fun _ h9 => h9) rfl dX12_isRight_46 ?_
        refine lv_iload hx hb dX12_isRight_49 (lv_at hl 0 rfl) ?_
        refine lv_aload_n hx hb dX12_isRight_51 rfl (lv_at hl 2 rfl) ?_
        refine tk_getP (D := (dC, dI)) (ci := 12) (v := .ref a_4) (C := RX12) (T := TX12) (N := 56) hx hb hU inlX12 hown hK hP mo0 hfo_97 rfl 0 (by decide) (hU _ wd_169) (fun _ h9 => h9) rfl dX12_isRight_52 ?_
        refine lv_iload_n hx hb dX12_isRight_55 rfl (lv_at hl 1 rfl) ?_
        refine lv_iconst (v := 3) hx hb dX12_isRight_56 (by decide) ?_
        refine lv_iadd hx hb dX12_isRight_57 ?_
        refine lv_topi (fun x_146 ex_146 => ?_)
        have hx_146 : x_146.toInt = x_2.toInt + 3 := by rw [ex_146, ad_I (by rw [ti_3]; omega) (by rw [ti_3]; omega), ti_3]
        have bx_146 : (223 ≤ x_146.toInt ∧ x_146.toInt ≤ 443) := by constructor <;> omega
        refine lv_iload hx hb dX12_isRight_58 (lv_at hl 0 rfl) ?_
        refine lv_iadd hx hb dX12_isRight_60 ?_
        refine lv_topi (fun x_147 ex_147 => ?_)
        have hx_147 : x_147.toInt = x_146.toInt + y_93.toInt := by rw [ex_147, ad_I (by omega) (by omega)]
        have bx_147 : (223 ≤ x_147.toInt ∧ x_147.toInt ≤ 450) := by constructor <;> omega
        refine tk_ildP hx hb hK hP 0 ma_4 hfo_96 rfl (vp_in_iff.mpr (by constructor <;> omega)) dX12_isRight_61 ?_
        refine lv_topi (fun x_148 ex_148 => ?_)
        have bx_148 : (0 ≤ x_148.toInt ∧ x_148.toInt ≤ 8) := by have hc9 := cl_I (i := x_147) (by omega); rw [ex_148]; exact hbg_62.2.2.2.2.2.2.2.2.2.2.1 _ (by omega) (by omega) (by omega)
        obtain ⟨g_150, hfo_149, hbg_150⟩ := un_589 (hG _ ma_25) ka_25
        refine tk_istP hx hb hK hP hD hS 0 ma_25 hfo_149 rfl (vp_in_iff.mpr (by constructor <;> omega)) dX12_isRight_62 (fun H locs hP hD hS => ?_)
        obtain ⟨f_152, ef_152⟩ : ∃ y : Nat → va_E, y = va_up f_95 a_25 (.inl (cI, 16, .inl (upd g_150 (Int32.toNatClampNeg y_93) x_148))) := ⟨_, rfl⟩
        have hP : va_P (dC, dI) vwCl (va_pl L f_152) H := by rw [ef_152]; exact hP
        have hD : va_D (fun q => q ∈ L) (va_pl L f_152) := by rw [ef_152]; exact hD
        have hG : GI (okc cI cL cZ cR cG cH L kd) kd L f_152 := by rw [ef_152]; exact hG.set a_25 (mk_589 ka_25 ⟨_, rfl, okI_up hbg_150 (by constructor <;> omega) _⟩)
        have hfo_153 : f_152 a_4 = .inl (cI, 1560, .inl g_62) := by rw [ef_152, up_ne (kd_ne ka_25 ka_4 (by decide))]; exact hfo_96
        have hfo_154 : f_152 o0 = .inr (12, [.ref a_4, .ref a_5, .ref a_6, .int v_7, .ref a_8, .int v_9, .int v_10, .int v_11, .int v_12, .int v_13, .int v_14, .int v_15, .int v_16, .int v_17, .int v_18, .ref a_19, .ref a_20, .ref a_21, .ref a_22, .ref a_23, .ref a_24, .ref a_25, .ref a_26, .int x_63, .int v_28, .int v_29, .int v_30, .int v_31, .ref a_32, .int v_33, .ref a_34, .ref a_35, .int v_36, .int v_37, .ref a_38, .int x_69, .ref a_40, .ref a_41, .int v_42, .int v_43, .ref a_44, .ref a_45, .ref a_46, .int v_47, .ref a_48, .ref a_49, .ref a_50, .ref a_51, .ref a_52, .ref a_53, .ref a_54, .ref a_55, .ref a_56, .int v_57, .int v_58, .ref a_59]) := by rw [ef_152, up_ne (kd_ne ka_25 ko0 (by decide))]; exact hfo_97
        have hfr0 : ∀ b, kd b ≠ 12 → kd b ≠ 579 → kd b ≠ 581 → kd b ≠ 583 → kd b ≠ 585 → kd b ≠ 587 → kd b ≠ 588 → kd b ≠ 589 → kd b ≠ 594 → f_152 b = f b := fun b q12 q579 q581 q583 q585 q587 q588 q589 q594 => (congrFun ef_152 b).trans ((up_ne (fun e9 => q589 (by rw [e9]; exact ka_25))).trans (hfr0 b q12 q579 q581 q583 q585 q587 q588 q589 q594))
        have hrA12 : ∀ b, kd b = 12 → ∀ j, fldR (f_152 b) j = fldR (f b) j := fun b kb j => (congrArg (fun x => fldR x j) ((congrFun ef_152 b).trans (up_ne (kd_ne ka_25 kb (by decide))))).trans (hrA12 b kb j)
        have hfA12 : ∀ b, kd b = 12 → ∀ j, j ≠ 23 → j ≠ 35 → fldI (f_152 b) j = fldI (f b) j := fun b kb j n23 n35 => (congrArg (fun x => fldI x j) ((congrFun ef_152 b).trans (up_ne (kd_ne ka_25 kb (by decide))))).trans (hfA12 b kb j n23 n35)
        have hfo_155 : f_152 a_25 = .inl (cI, 16, .inl (upd g_150 (Int32.toNatClampNeg y_93) x_148)) := by rw [ef_152]; exact up_self
        obtain ⟨x_156, ex_156⟩ : ∃ y : Int32, y_93 + 1 = y := ⟨_, rfl⟩
        have hx_156 : x_156.toInt = y_93.toInt + 1 := by rw [← ex_156, ad_I (by rw [ti_1]; omega) (by rw [ti_1]; omega), ti_1]
        have bx_156 : (1 ≤ x_156.toInt ∧ x_156.toInt ≤ 8) := by constructor <;> omega
        refine lv_iinc (v := x_156) (lv' := [(4, .int x_156), (3, .int x_2), (0, .ref o0), (1, .int p1), (2, .int p2)]) hx hb dX12_isRight_63 hl (k := 0) rfl ex_156 (by decide) rfl (fun ls hl => ?_)
        refine lv_goto (tgt := 36) hx hb dX12_isRight_66 (by decide) ?_
        exact ih_hloop_92 x_156 (by constructor <;> omega) f_152 hG _ _ hP hS hD hfr0 hrA12 hfA12 hfo_153 hfo_154 (by omega) ls (lv_sub hl [0, 1, 2, 3, 4] rfl)
  exact hloop_92 9 0 (by decide) f_71 hG _ _ hP hS hD hfr0 hrA12 hfA12 hfo_72 hfo_73 (by (try rw [ti_0]) <;> omega) ls hl
set_option maxHeartbeats 8000000 in
set_option maxRecDepth 100000 in
theorem s_X12_firstWrong_k12 (l : Launch) (D : va_G) (cI cL cZ cR cG cH : ClassId) (Z : zT) (kd : Nat → Nat) (L : List Nat) (f : Nat → va_E) (hG : GI (okc cI cL cZ cR cG cH L kd) kd L f) (o0 : Nat) (mo0 : o0 ∈ L) (ko0 : kd o0 = 12) (p1 : Int32) : mPI l D cI cL cZ cR cG cH Z yX12_firstWrong cX12_firstWrong 3 (some .int) 22 609 [.ref o0, .int p1] L f (fun (r : Int32) (f9 : Nat → va_E) => GI (okc cI cL cZ cR cG cH L kd) kd L f9 ∧ ((-1) ≤ r.toInt ∧ r.toInt ≤ 11) ∧ (∀ b, kd b ≠ 12 → kd b ≠ 579 → kd b ≠ 581 → kd b ≠ 583 → kd b ≠ 585 → kd b ≠ 587 → kd b ≠ 588 → kd b ≠ 589 → kd b ≠ 594 → f9 b = f b) ∧ (∀ b, kd b = 12 → ∀ j, fldR (f9 b) j = fldR (f b) j) ∧ (∀ b, kd b = 12 → ∀ j, j ≠ 23 → j ≠ 35 → fldI (f9 b) j = fldI (f b) j)) := by
  obtain ⟨dC, dI⟩ := D
  refine Met.ofW (cc := cX12_firstWrong) (maxL := 3) (ret := (some .int)) (by decide) rfl ?_
  intro p e s m args below meth c s₁ B hml hv
  obtain ⟨rfl, hP, hK, hD0, hN, hZ⟩ := hv
  have hx := B.exec
  have hb := B.bytes
  have hr := B.returns
  have hU : ∀ w ∈ wsU, w.before _ s = true := fun w h => atoms_spec (ws := wU yX12_firstWrong cX12_firstWrong 3 (some .int)) B.pre w (List.mem_cons_of_mem _ h)
  have hown : s.vm.findClass RX12 = some m.cls := findClass_of_methodNamed B.named
  have hlocks := B.notSynchronized
  have hD := pl_in hD0
  have hS : va_S (fun q => q ∈ L) s.heap s.heap [] := va_S.rf
  have hl := lv_entry ([.ref o0, .int p1]) (n := 3) (Nat.le_of_ble_eq_true rfl)
  rw [lg_entry_eq]
  generalize (lg_sl ([.ref o0, .int p1]) ++ List.replicate (3 - (lg_sl ([.ref o0, .int p1])).length) Slot.unset).toArray = ls at hl ⊢
  have hl : lv_has ls 3 [(0, .ref o0), (1, .int p1)] := hl
  have bp1 : ((-2147483648) ≤ p1.toInt ∧ p1.toInt ≤ 2147483647) := ⟨i32_lo _, i32_hi _⟩
  have hfr0 : ∀ b, kd b ≠ 12 → kd b ≠ 579 → kd b ≠ 581 → kd b ≠ 583 → kd b ≠ 585 → kd b ≠ 587 → kd b ≠ 588 → kd b ≠ 589 → kd b ≠ 594 → f b = f b := fun _ _ _ _ _ _ _ _ _ _ => rfl
  have hrA12 : ∀ b, kd b = 12 → ∀ j, fldR (f b) j = fldR (f b) j := fun _ _ _ => rfl
  have hfA12 : ∀ b, kd b = 12 → ∀ j, j ≠ 23 → j ≠ 35 → fldI (f b) j = fldI (f b) j := fun _ _ _ _ _ => rfl
  refine lv_iconst (v := 0) hx hb dX12_firstWrong_0 (by decide) ?_
  refine lv_istore_n (lv' := [(2, .int 0), (0, .ref o0), (1, .int p1)]) hx hb dX12_firstWrong_1 rfl hl (by decide) rfl (fun ls hl => ?_)
  have hloop_13 : ∀ (n : Nat), ∀ (y_14 : Int32), (0 ≤ y_14.toInt ∧ y_14.toInt ≤ 12) → ∀ (f_16 : Nat → va_E), GI (okc cI cL cZ cR cG cH L kd) kd L f_16 → ∀ (H : Heap) (locs : List Loc), va_P (dC, dI) vwCl (va_pl L f_16) H → va_S (fun q => q ∈ L) s.heap H locs → va_D (fun q => q ∈ L) (va_pl L f_16) → (∀ b, kd b ≠ 12 → kd b ≠ 579 → kd b ≠ 581 → kd b ≠ 583 → kd b ≠ 585 → kd b ≠ 587 → kd b ≠ 588 → kd b ≠ 589 → kd b ≠ 594 → f_16 b = f b) → (∀ b, kd b = 12 → ∀ j, fldR (f_16 b) j = fldR (f b) j) → (∀ b, kd b = 12 → ∀ j, j ≠ 23 → j ≠ 35 → fldI (f_16 b) j = fldI (f b) j) → 12 - y_14.toInt < (n : Int) → ∀ (ls : Array Slot), lv_has ls 3 [(2, .int y_14), (0, .ref o0), (1, .int p1)] → W p l e (headSpec (wU yX12_firstWrong cX12_firstWrong 3 (some .int)) { frames := 22, cells := 0, slots := 0, locals := 609 }).room s m [.ref o0, .int p1].toArray below meth c H locs 0 0 (MQ below (va_Qi (fun (r : Int32) (f9 : Nat → va_E) => GI (okc cI cL cZ cR cG cH L kd) kd L f9 ∧ ((-1) ≤ r.toInt ∧ r.toInt ≤ 11) ∧ (∀ b, kd b ≠ 12 → kd b ≠ 579 → kd b ≠ 581 → kd b ≠ 583 → kd b ≠ 585 → kd b ≠ 587 → kd b ≠ 588 → kd b ≠ 589 → kd b ≠ 594 → f9 b = f b) ∧ (∀ b, kd b = 12 → ∀ j, fldR (f9 b) j = fldR (f b) j) ∧ (∀ b, kd b = 12 → ∀ j, j ≠ 23 → j ≠ 35 → fldI (f9 b) j = fldI (f b) j)) (qP (dC, dI) cI cL cZ cR cG cH L) (fun q => q ∈ L)) [.ref o0, .int p1].toArray s 0 0 (fun q => q ∈ L)) (F0 m 2 ls []) := by
    intro n
    induction n with
    | zero => intro y_14 by_14 f_16 hG H locs hP hS hD hfr0 hrA12 hfA12 hmuhloop_13 ls hl; exfalso; omega
    | succ n ih_hloop_13 =>
      intro y_14 by_14 f_16 hG H locs hP hS hD hfr0 hrA12 hfA12 hmuhloop_13 ls hl
      refine lv_iload_n hx hb dX12_firstWrong_2 rfl (lv_at hl 0 rfl) ?_
      refine lv_aload_n hx hb dX12_firstWrong_3 rfl (lv_at hl 1 rfl) ?_
      obtain ⟨a_18, a_19, a_20, v_21, a_22, v_23, v_24, v_25, v_26, v_27, v_28, v_29, v_30, v_31, v_32, a_33, a_34, a_35, a_36, a_37, a_38, a_39, a_40, v_41, v_42, v_43, v_44, v_45, a_46, v_47, a_48, a_49, v_50, v_51, a_52, v_53, a_54, a_55, v_56, v_57, a_58, a_59, a_60, v_61, a_62, a_63, a_64, a_65, a_66, a_67, a_68, a_69, a_70, v_71, v_72, a_73, hfo_17, ⟨ma_18, ka_18⟩, ⟨ma_19, ka_19⟩, ⟨ma_20, ka_20⟩, bv_21, ⟨ma_22, ka_22⟩, bv_23, bv_24, bv_29, bv_30, bv_31, ⟨ma_33, ka_33⟩, ⟨ma_34, ka_34⟩, ⟨ma_35, ka_35⟩, ⟨ma_36, ka_36⟩, ⟨ma_37, ka_37⟩, ⟨ma_38, ka_38⟩, ⟨ma_39, ka_39⟩, ⟨ma_40, ka_40⟩, bv_41, bv_43, bv_45, ⟨ma_46, ka_46⟩, bv_47, ⟨ma_48, ka_48⟩, ⟨ma_49, ka_49⟩, bv_50, ⟨ma_52, ka_52⟩, bv_53, ⟨ma_54, ka_54⟩, ⟨ma_55, ka_55⟩, bv_56, ⟨ma_58, ka_58⟩, ⟨ma_59, ka_59⟩, ⟨ma_60, ka_60⟩, bv_61, ⟨ma_62, ka_62⟩, ⟨ma_63, ka_63⟩, ⟨ma_64, ka_64⟩, ⟨ma_65, ka_65⟩, ⟨ma_66, ka_66⟩, ⟨ma_67, ka_67⟩, ⟨ma_68, ka_68⟩, ⟨ma_69, ka_69⟩, ⟨ma_70, ka_70⟩, bv_71, ⟨ma_73, ka_73⟩⟩ := un_12 (hG _ mo0) ko0
      have bv_25 : ((-2147483648) ≤ v_25.toInt ∧ v_25.toInt ≤ 2147483647) := ⟨i32_lo _, i32_hi _⟩
      have bv_26 : ((-2147483648) ≤ v_26.toInt ∧ v_26.toInt ≤ 2147483647) := ⟨i32_lo _, i32_hi _⟩
      have bv_27 : ((-2147483648) ≤ v_27.toInt ∧ v_27.toInt ≤ 2147483647) := ⟨i32_lo _, i32_hi _⟩
      have bv_28 : ((-2147483648) ≤ v_28.toInt ∧ v_28.toInt ≤ 2147483647) := ⟨i32_lo _, i32_hi _⟩
      have bv_32 : ((-2147483648) ≤ v_32.toInt ∧ v_32.toInt ≤ 2147483647) := ⟨i32_lo _, i32_hi _⟩
      have bv_42 : ((-2147483648) ≤ v_42.toInt ∧ v_42.toInt ≤ 2147483647) := ⟨i32_lo _, i32_hi _⟩
      have bv_44 : ((-2147483648) ≤ v_44.toInt ∧ v_44.toInt ≤ 2147483647) := ⟨i32_lo _, i32_hi _⟩
      have bv_51 : ((-2147483648) ≤ v_51.toInt ∧ v_51.toInt ≤ 2147483647) := ⟨i32_lo _, i32_hi _⟩
      have bv_57 : ((-2147483648) ≤ v_57.toInt ∧ v_57.toInt ≤ 2147483647) := ⟨i32_lo _, i32_hi _⟩
      have bv_72 : ((-2147483648) ≤ v_72.toInt ∧ v_72.toInt ≤ 2147483647) := ⟨i32_lo _, i32_hi _⟩
      refine tk_getP (D := (dC, dI)) (ci := 12) (v := .ref a_18) (C := RX12) (T := TX12) (N := 56) hx hb hU inlX12 hown hK hP mo0 hfo_17 rfl 0 (by decide) (hU _ wd_169) (fun _ h9 => h9) rfl dX12_firstWrong_4 ?_
      refine lv_bipush (v := 42) hx hb dX12_firstWrong_7 (by decide) ?_
      obtain ⟨g_75, hfo_74, hbg_75⟩ := un_575 (hG _ ma_18) ka_18
      refine tk_ildP hx hb hK hP 0 ma_18 hfo_74 rfl (vp_in_nI (n := 42) (by decide) (by decide)) dX12_firstWrong_9 ?_
      refine lv_topi (fun x_76 ex_76 => ?_)
      have bx_76 : (0 ≤ x_76.toInt ∧ x_76.toInt ≤ 12) := by rw [ex_76]; exact hbg_75.2.2.2.2.2.2.2.2.1 _ (by decide) (by decide) (by decide)
      refine lv_icmp_ge (tgt := 30) hx hb dX12_firstWrong_10 (by decide) (fun c_77 => ?_) (fun c_77 => ?_)
      · skip
        rw [Int32.le_iff_toInt_le] at c_77
        refine lv_iconst (v := (-1)) hx hb dX12_firstWrong_30 (by decide) ?_
        exact W.iret (v := (-1)) hx hb hr (fun t ht hW => ⟨⟨(-1), f_16, rfl, ⟨hG, (by decide), hfr0, hrA12, hfA12⟩, by rw [ht]; exact hP, va_K.moved hW.alike hK, pl_in hD⟩, hS.F ht⟩) hS.2.2 dX12_firstWrong_31
      · skip
        rw [Int32.le_iff_toInt_le] at c_77
        refine lv_aload_n hx hb dX12_firstWrong_13 rfl (lv_at hl 1 rfl) ?_
        refine lv_iload_n hx hb dX12_firstWrong_14 rfl (lv_at hl 0 rfl) ?_
        refine lv_iload_n hx hb dX12_firstWrong_15 rfl (lv_at hl 2 rfl) ?_
        refine tk_ViP (As := [.int y_14, .int p1]) (rest := []) (n := 2) hx hb hml hown hU hN hZ (s_X12_isRight_k12 l (dC, dI) cI cL cZ cR cG cH Z kd L f_16 hG o0 mo0 ko0 y_14 (by constructor <;> omega) p1) wd_1428 wd_1429 wd_1430 wd_5 wd_1431 (by decide +kernel) ⟨Nat.le_of_ble_eq_true rfl, Nat.le_of_ble_eq_true rfl⟩ hK hP hD hS mo0 hfo_17 12 rfl rfl rfl hl.1 rfl (Nat.le_of_ble_eq_true rfl) dX12_firstWrong_16 ⟨Nat.le_of_ble_eq_true rfl, Nat.le_of_ble_eq_true rfl⟩ (fun x_78 f_79 H locs hw hP hD hS => ?_)
        obtain ⟨hG, bx_78, hkc_80, hra_81, hfa_82⟩ := hw
        have hfo_84 : f_79 a_18 = .inl (cI, 1560, .inl g_75) := by rw [hkc_80 a_18 (by rw [ka_18]; decide) (by rw [ka_18]; decide) (by rw [ka_18]; decide) (by rw [ka_18]; decide) (by rw [ka_18]; decide) (by rw [ka_18]; decide) (by rw [ka_18]; decide) (by rw [ka_18]; decide) (by rw [ka_18]; decide)]; exact hfo_74
        have hfr0 : ∀ b, kd b ≠ 12 → kd b ≠ 579 → kd b ≠ 581 → kd b ≠ 583 → kd b ≠ 585 → kd b ≠ 587 → kd b ≠ 588 → kd b ≠ 589 → kd b ≠ 594 → f_79 b = f b := fun b q12 q579 q581 q583 q585 q587 q588 q589 q594 => (hkc_80 b q12 q579 q581 q583 q585 q587 q588 q589 q594).trans (hfr0 b q12 q579 q581 q583 q585 q587 q588 q589 q594)
        have hrA12 : ∀ b, kd b = 12 → ∀ j, fldR (f_79 b) j = fldR (f b) j := fun b kb j => (hra_81 b kb j).trans (hrA12 b kb j)
        have hfA12 : ∀ b, kd b = 12 → ∀ j, j ≠ 23 → j ≠ 35 → fldI (f_79 b) j = fldI (f b) j := fun b kb j n23 n35 => (hfa_82 b kb j n23 n35).trans (hfA12 b kb j n23 n35)
        obtain ⟨a_86, a_87, a_88, v_89, a_90, v_91, v_92, v_93, v_94, v_95, v_96, v_97, v_98, v_99, v_100, a_101, a_102, a_103, a_104, a_105, a_106, a_107, a_108, v_109, v_110, v_111, v_112, v_113, a_114, v_115, a_116, a_117, v_118, v_119, a_120, v_121, a_122, a_123, v_124, v_125, a_126, a_127, a_128, v_129, a_130, a_131, a_132, a_133, a_134, a_135, a_136, a_137, a_138, v_139, v_140, a_141, hfo_85, ⟨ma_86, ka_86⟩, ⟨ma_87, ka_87⟩, ⟨ma_88, ka_88⟩, bv_89, ⟨ma_90, ka_90⟩, bv_91, bv_92, bv_97, bv_98, bv_99, ⟨ma_101, ka_101⟩, ⟨ma_102, ka_102⟩, ⟨ma_103, ka_103⟩, ⟨ma_104, ka_104⟩, ⟨ma_105, ka_105⟩, ⟨ma_106, ka_106⟩, ⟨ma_107, ka_107⟩, ⟨ma_108, ka_108⟩, bv_109, bv_111, bv_113, ⟨ma_114, ka_114⟩, bv_115, ⟨ma_116, ka_116⟩, ⟨ma_117, ka_117⟩, bv_118, ⟨ma_120, ka_120⟩, bv_121, ⟨ma_122, ka_122⟩, ⟨ma_123, ka_123⟩, bv_124, ⟨ma_126, ka_126⟩, ⟨ma_127, ka_127⟩, ⟨ma_128, ka_128⟩, bv_129, ⟨ma_130, ka_130⟩, ⟨ma_131, ka_131⟩, ⟨ma_132, ka_132⟩, ⟨ma_133, ka_133⟩, ⟨ma_134, ka_134⟩, ⟨ma_135, ka_135⟩, ⟨ma_136, ka_136⟩, ⟨ma_137, ka_137⟩, ⟨ma_138, ka_138⟩, bv_139, ⟨ma_141, ka_141⟩⟩ := un_12 (hG _ mo0) ko0
        have bv_93 : ((-2147483648) ≤ v_93.toInt ∧ v_93.toInt ≤ 2147483647) := ⟨i32_lo _, i32_hi _⟩
        have bv_94 : ((-2147483648) ≤ v_94.toInt ∧ v_94.toInt ≤ 2147483647) := ⟨i32_lo _, i32_hi _⟩
        have bv_95 : ((-2147483648) ≤ v_95.toInt ∧ v_95.toInt ≤ 2147483647) := ⟨i32_lo _, i32_hi _⟩
        have bv_96 : ((-2147483648) ≤ v_96.toInt ∧ v_96.toInt ≤ 2147483647) := ⟨i32_lo _, i32_hi _⟩
        have bv_100 : ((-2147483648) ≤ v_100.toInt ∧ v_100.toInt ≤ 2147483647) := ⟨i32_lo _, i32_hi _⟩
        have bv_110 : ((-2147483648) ≤ v_110.toInt ∧ v_110.toInt ≤ 2147483647) := ⟨i32_lo _, i32_hi _⟩
        have bv_112 : ((-2147483648) ≤ v_112.toInt ∧ v_112.toInt ≤ 2147483647) := ⟨i32_lo _, i32_hi _⟩
        have bv_119 : ((-2147483648) ≤ v_119.toInt ∧ v_119.toInt ≤ 2147483647) := ⟨i32_lo _, i32_hi _⟩
        have bv_125 : ((-2147483648) ≤ v_125.toInt ∧ v_125.toInt ≤ 2147483647) := ⟨i32_lo _, i32_hi _⟩
        have bv_140 : ((-2147483648) ≤ v_140.toInt ∧ v_140.toInt ≤ 2147483647) := ⟨i32_lo _, i32_hi _⟩
        obtain ⟨rfl, rfl, rfl, rfl, rfl, rfl, rfl, rfl, rfl, rfl, rfl, rfl, rfl, rfl, rfl, rfl, rfl, rfl, rfl, rfl, rfl, rfl, rfl, rfl, rfl, rfl, rfl, rfl, rfl, rfl, rfl⟩ := re_12 hfo_17 hfo_85 (hra_81 o0 ko0)
        obtain rfl := ri_12_3 hfo_17 hfo_85 (hfa_82 o0 ko0 3 (by decide) (by decide))
        obtain rfl := ri_12_5 hfo_17 hfo_85 (hfa_82 o0 ko0 5 (by decide) (by decide))
        obtain rfl := ri_12_6 hfo_17 hfo_85 (hfa_82 o0 ko0 6 (by decide) (by decide))
        obtain rfl := ri_12_11 hfo_17 hfo_85 (hfa_82 o0 ko0 11 (by decide) (by decide))
        obtain rfl := ri_12_12 hfo_17 hfo_85 (hfa_82 o0 ko0 12 (by decide) (by decide))
        obtain rfl := ri_12_13 hfo_17 hfo_85 (hfa_82 o0 ko0 13 (by decide) (by decide))
        obtain rfl := ri_12_14 hfo_17 hfo_85 (hfa_82 o0 ko0 14 (by decide) (by decide))
        obtain rfl := ri_12_25 hfo_17 hfo_85 (hfa_82 o0 ko0 25 (by decide) (by decide))
        obtain rfl := ri_12_27 hfo_17 hfo_85 (hfa_82 o0 ko0 27 (by decide) (by decide))
        obtain rfl := ri_12_29 hfo_17 hfo_85 (hfa_82 o0 ko0 29 (by decide) (by decide))
        obtain rfl := ri_12_32 hfo_17 hfo_85 (hfa_82 o0 ko0 32 (by decide) (by decide))
        obtain rfl := ri_12_33 hfo_17 hfo_85 (hfa_82 o0 ko0 33 (by decide) (by decide))
        obtain rfl := ri_12_38 hfo_17 hfo_85 (hfa_82 o0 ko0 38 (by decide) (by decide))
        obtain rfl := ri_12_43 hfo_17 hfo_85 (hfa_82 o0 ko0 43 (by decide) (by decide))
        obtain rfl := ri_12_53 hfo_17 hfo_85 (hfa_82 o0 ko0 53 (by decide) (by decide))
        refine lv_if_ne (tgt := 24) hx hb dX12_firstWrong_19 (by decide) (fun c_142 => ?_) (fun c_142 => ?_)
        · skip
          rw [← Int32.toInt_inj, ti_0] at c_142
          obtain ⟨x_143, ex_143⟩ : ∃ y : Int32, y_14 + 1 = y := ⟨_, rfl⟩
          have hx_143 : x_143.toInt = y_14.toInt + 1 := by rw [← ex_143, ad_I (by rw [ti_1]; omega) (by rw [ti_1]; omega), ti_1]
          have bx_143 : (1 ≤ x_143.toInt ∧ x_143.toInt ≤ 12) := by constructor <;> omega
          refine lv_iinc (v := x_143) (lv' := [(2, .int x_143), (0, .ref o0), (1, .int p1)]) hx hb dX12_firstWrong_24 hl (k := 0) rfl ex_143 (by decide) rfl (fun ls hl => ?_)
          refine lv_goto (tgt := 2) hx hb dX12_firstWrong_27 (by decide) ?_
          exact ih_hloop_13 x_143 (by constructor <;> omega) f_79 hG _ _ hP hS hD hfr0 hrA12 hfA12 (by omega) ls (lv_sub hl [0, 1, 2] rfl)
        · skip
          rw [← Int32.toInt_inj, ti_0] at c_142
          refine lv_iload_n hx hb dX12_firstWrong_22 rfl (lv_at hl 0 rfl) ?_
          exact W.iret (v := y_14) hx hb hr (fun t ht hW => ⟨⟨y_14, f_79, rfl, ⟨hG, (by constructor <;> omega), hfr0, hrA12, hfA12⟩, by rw [ht]; exact hP, va_K.moved hW.alike hK, pl_in hD⟩, hS.F ht⟩) hS.2.2 dX12_firstWrong_23
  exact hloop_13 13 0 (by decide) f hG _ _ hP hS hD hfr0 hrA12 hfA12 (by (try rw [ti_0]) <;> omega) ls hl
set_option maxHeartbeats 8000000 in
set_option maxRecDepth 100000 in
theorem s_X12_fits_k12 (l : Launch) (D : va_G) (cI cL cZ cR cG cH : ClassId) (Z : zT) (kd : Nat → Nat) (L : List Nat) (f : Nat → va_E) (hG : GI (okc cI cL cZ cR cG cH L kd) kd L f) (o0 : Nat) (mo0 : o0 ∈ L) (ko0 : kd o0 = 12) (p1 : Int32) : mPI l D cI cL cZ cR cG cH Z yX12_fits cX12_fits 2 (some .int) 23 631 [.ref o0, .int p1] L f (fun (r : Int32) (f9 : Nat → va_E) => GI (okc cI cL cZ cR cG cH L kd) kd L f9 ∧ ((-2147483648) ≤ r.toInt ∧ r.toInt ≤ 2147483647) ∧ (∀ b, kd b ≠ 12 → kd b ≠ 579 → kd b ≠ 581 → kd b ≠ 583 → kd b ≠ 585 → kd b ≠ 587 → kd b ≠ 588 → kd b ≠ 589 → kd b ≠ 594 → f9 b = f b) ∧ (∀ b, kd b = 12 → ∀ j, fldR (f9 b) j = fldR (f b) j) ∧ (∀ b, kd b = 12 → ∀ j, j ≠ 23 → j ≠ 35 → fldI (f9 b) j = fldI (f b) j)) := by
  obtain ⟨dC, dI⟩ := D
  refine Met.ofW (cc := cX12_fits) (maxL := 2) (ret := (some .int)) (by decide) rfl ?_
  intro p e s m args below meth c s₁ B hml hv
  obtain ⟨rfl, hP, hK, hD0, hN, hZ⟩ := hv
  have hx := B.exec
  have hb := B.bytes
  have hr := B.returns
  have hU : ∀ w ∈ wsU, w.before _ s = true := fun w h => atoms_spec (ws := wU yX12_fits cX12_fits 2 (some .int)) B.pre w (List.mem_cons_of_mem _ h)
  have hown : s.vm.findClass RX12 = some m.cls := findClass_of_methodNamed B.named
  have hlocks := B.notSynchronized
  have hD := pl_in hD0
  have hS : va_S (fun q => q ∈ L) s.heap s.heap [] := va_S.rf
  have hl := lv_entry ([.ref o0, .int p1]) (n := 2) (Nat.le_of_ble_eq_true rfl)
  rw [lg_entry_eq]
  generalize (lg_sl ([.ref o0, .int p1]) ++ List.replicate (2 - (lg_sl ([.ref o0, .int p1])).length) Slot.unset).toArray = ls at hl ⊢
  have hl : lv_has ls 2 [(0, .ref o0), (1, .int p1)] := hl
  have bp1 : ((-2147483648) ≤ p1.toInt ∧ p1.toInt ≤ 2147483647) := ⟨i32_lo _, i32_hi _⟩
  have hfr0 : ∀ b, kd b ≠ 12 → kd b ≠ 579 → kd b ≠ 581 → kd b ≠ 583 → kd b ≠ 585 → kd b ≠ 587 → kd b ≠ 588 → kd b ≠ 589 → kd b ≠ 594 → f b = f b := fun _ _ _ _ _ _ _ _ _ _ => rfl
  have hrA12 : ∀ b, kd b = 12 → ∀ j, fldR (f b) j = fldR (f b) j := fun _ _ _ => rfl
  have hfA12 : ∀ b, kd b = 12 → ∀ j, j ≠ 23 → j ≠ 35 → fldI (f b) j = fldI (f b) j := fun _ _ _ _ _ => rfl
  refine lv_iload_n hx hb dX12_fits_0 rfl (lv_at hl 1 rfl) ?_
  refine lv_iconst (v := 0) hx hb dX12_fits_1 (by decide) ?_
  refine lv_aload_n hx hb dX12_fits_2 rfl (lv_at hl 0 rfl) ?_
  obtain ⟨a_2, a_3, a_4, v_5, a_6, v_7, v_8, v_9, v_10, v_11, v_12, v_13, v_14, v_15, v_16, a_17, a_18, a_19, a_20, a_21, a_22, a_23, a_24, v_25, v_26, v_27, v_28, v_29, a_30, v_31, a_32, a_33, v_34, v_35, a_36, v_37, a_38, a_39, v_40, v_41, a_42, a_43, a_44, v_45, a_46, a_47, a_48, a_49, a_50, a_51, a_52, a_53, a_54, v_55, v_56, a_57, hfo_1, ⟨ma_2, ka_2⟩, ⟨ma_3, ka_3⟩, ⟨ma_4, ka_4⟩, bv_5, ⟨ma_6, ka_6⟩, bv_7, bv_8, bv_13, bv_14, bv_15, ⟨ma_17, ka_17⟩, ⟨ma_18, ka_18⟩, ⟨ma_19, ka_19⟩, ⟨ma_20, ka_20⟩, ⟨ma_21, ka_21⟩, ⟨ma_22, ka_22⟩, ⟨ma_23, ka_23⟩, ⟨ma_24, ka_24⟩, bv_25, bv_27, bv_29, ⟨ma_30, ka_30⟩, bv_31, ⟨ma_32, ka_32⟩, ⟨ma_33, ka_33⟩, bv_34, ⟨ma_36, ka_36⟩, bv_37, ⟨ma_38, ka_38⟩, ⟨ma_39, ka_39⟩, bv_40, ⟨ma_42, ka_42⟩, ⟨ma_43, ka_43⟩, ⟨ma_44, ka_44⟩, bv_45, ⟨ma_46, ka_46⟩, ⟨ma_47, ka_47⟩, ⟨ma_48, ka_48⟩, ⟨ma_49, ka_49⟩, ⟨ma_50, ka_50⟩, ⟨ma_51, ka_51⟩, ⟨ma_52, ka_52⟩, ⟨ma_53, ka_53⟩, ⟨ma_54, ka_54⟩, bv_55, ⟨ma_57, ka_57⟩⟩ := un_12 (hG _ mo0) ko0
  have bv_9 : ((-2147483648) ≤ v_9.toInt ∧ v_9.toInt ≤ 2147483647) := ⟨i32_lo _, i32_hi _⟩
  have bv_10 : ((-2147483648) ≤ v_10.toInt ∧ v_10.toInt ≤ 2147483647) := ⟨i32_lo _, i32_hi _⟩
  have bv_11 : ((-2147483648) ≤ v_11.toInt ∧ v_11.toInt ≤ 2147483647) := ⟨i32_lo _, i32_hi _⟩
  have bv_12 : ((-2147483648) ≤ v_12.toInt ∧ v_12.toInt ≤ 2147483647) := ⟨i32_lo _, i32_hi _⟩
  have bv_16 : ((-2147483648) ≤ v_16.toInt ∧ v_16.toInt ≤ 2147483647) := ⟨i32_lo _, i32_hi _⟩
  have bv_26 : ((-2147483648) ≤ v_26.toInt ∧ v_26.toInt ≤ 2147483647) := ⟨i32_lo _, i32_hi _⟩
  have bv_28 : ((-2147483648) ≤ v_28.toInt ∧ v_28.toInt ≤ 2147483647) := ⟨i32_lo _, i32_hi _⟩
  have bv_35 : ((-2147483648) ≤ v_35.toInt ∧ v_35.toInt ≤ 2147483647) := ⟨i32_lo _, i32_hi _⟩
  have bv_41 : ((-2147483648) ≤ v_41.toInt ∧ v_41.toInt ≤ 2147483647) := ⟨i32_lo _, i32_hi _⟩
  have bv_56 : ((-2147483648) ≤ v_56.toInt ∧ v_56.toInt ≤ 2147483647) := ⟨i32_lo _, i32_hi _⟩
  refine tk_ViP (As := []) (rest := [.int 0, .int p1]) (n := 0) hx hb hml hown hU hN hZ (s_X12_allRules_k12 l (dC, dI) cI cL cZ cR cG cH Z kd L f hG o0 mo0 ko0) wd_686 wd_687 wd_688 wd_5 wd_689 (by decide +kernel) ⟨Nat.le_of_ble_eq_true rfl, Nat.le_of_ble_eq_true rfl⟩ hK hP hD hS mo0 hfo_1 12 rfl rfl rfl hl.1 rfl (Nat.le_of_ble_eq_true rfl) dX12_fits_3 ⟨Nat.le_of_ble_eq_true rfl, Nat.le_of_ble_eq_true rfl⟩ (fun x_58 f_59 H locs hw hP hD hS => ?_)
  obtain ⟨rfl, bx_58⟩ := hw
  refine tk_SiP (As := [.int p1, .int 0, .int x_58]) (rest := []) (n := 3) hx hb hml hown hU hN hZ (s_X12_isIn l (dC, dI) cI cL cZ cR cG cH Z kd L f hG p1 0 x_58) wd_227 wd_228 wd_5 wd_229 (by decide +kernel) ⟨Nat.le_of_ble_eq_true rfl, Nat.le_of_ble_eq_true rfl⟩ hK hP hD hS rfl hl.1 rfl (Nat.le_of_ble_eq_true rfl) dX12_fits_6 ⟨Nat.le_of_ble_eq_true rfl, Nat.le_of_ble_eq_true rfl⟩ (fun x_61 f_62 H locs hw hP hD hS => ?_)
  obtain ⟨rfl, bx_61, relx_61⟩ := hw
  try rw [ti_0] at relx_61
  refine lv_if_ne (tgt := 16) hx hb dX12_fits_9 (by decide) (fun c_64 => ?_) (fun c_64 => ?_)
  · skip
    rw [← Int32.toInt_inj, ti_0] at c_64
    refine lv_aload_n hx hb dX12_fits_16 rfl (lv_at hl 0 rfl) ?_
    refine lv_iload_n hx hb dX12_fits_17 rfl (lv_at hl 1 rfl) ?_
    refine tk_ViP (As := [.int p1]) (rest := []) (n := 1) hx hb hml hown hU hN hZ (s_X12_firstWrong_k12 l (dC, dI) cI cL cZ cR cG cH Z kd L f hG o0 mo0 ko0 p1) wd_1424 wd_1425 wd_1426 wd_5 wd_1427 (by decide +kernel) ⟨Nat.le_of_ble_eq_true rfl, Nat.le_of_ble_eq_true rfl⟩ hK hP hD hS mo0 hfo_1 12 rfl rfl rfl hl.1 rfl (Nat.le_of_ble_eq_true rfl) dX12_fits_18 ⟨Nat.le_of_ble_eq_true rfl, Nat.le_of_ble_eq_true rfl⟩ (fun x_65 f_66 H locs hw hP hD hS => ?_)
    obtain ⟨hG, bx_65, hkc_67, hra_68, hfa_69⟩ := hw
    have hfr0 : ∀ b, kd b ≠ 12 → kd b ≠ 579 → kd b ≠ 581 → kd b ≠ 583 → kd b ≠ 585 → kd b ≠ 587 → kd b ≠ 588 → kd b ≠ 589 → kd b ≠ 594 → f_66 b = f b := fun b q12 q579 q581 q583 q585 q587 q588 q589 q594 => (hkc_67 b q12 q579 q581 q583 q585 q587 q588 q589 q594).trans (hfr0 b q12 q579 q581 q583 q585 q587 q588 q589 q594)
    have hrA12 : ∀ b, kd b = 12 → ∀ j, fldR (f_66 b) j = fldR (f b) j := fun b kb j => (hra_68 b kb j).trans (hrA12 b kb j)
    have hfA12 : ∀ b, kd b = 12 → ∀ j, j ≠ 23 → j ≠ 35 → fldI (f_66 b) j = fldI (f b) j := fun b kb j n23 n35 => (hfa_69 b kb j n23 n35).trans (hfA12 b kb j n23 n35)
    obtain ⟨a_72, a_73, a_74, v_75, a_76, v_77, v_78, v_79, v_80, v_81, v_82, v_83, v_84, v_85, v_86, a_87, a_88, a_89, a_90, a_91, a_92, a_93, a_94, v_95, v_96, v_97, v_98, v_99, a_100, v_101, a_102, a_103, v_104, v_105, a_106, v_107, a_108, a_109, v_110, v_111, a_112, a_113, a_114, v_115, a_116, a_117, a_118, a_119, a_120, a_121, a_122, a_123, a_124, v_125, v_126, a_127, hfo_71, ⟨ma_72, ka_72⟩, ⟨ma_73, ka_73⟩, ⟨ma_74, ka_74⟩, bv_75, ⟨ma_76, ka_76⟩, bv_77, bv_78, bv_83, bv_84, bv_85, ⟨ma_87, ka_87⟩, ⟨ma_88, ka_88⟩, ⟨ma_89, ka_89⟩, ⟨ma_90, ka_90⟩, ⟨ma_91, ka_91⟩, ⟨ma_92, ka_92⟩, ⟨ma_93, ka_93⟩, ⟨ma_94, ka_94⟩, bv_95, bv_97, bv_99, ⟨ma_100, ka_100⟩, bv_101, ⟨ma_102, ka_102⟩, ⟨ma_103, ka_103⟩, bv_104, ⟨ma_106, ka_106⟩, bv_107, ⟨ma_108, ka_108⟩, ⟨ma_109, ka_109⟩, bv_110, ⟨ma_112, ka_112⟩, ⟨ma_113, ka_113⟩, ⟨ma_114, ka_114⟩, bv_115, ⟨ma_116, ka_116⟩, ⟨ma_117, ka_117⟩, ⟨ma_118, ka_118⟩, ⟨ma_119, ka_119⟩, ⟨ma_120, ka_120⟩, ⟨ma_121, ka_121⟩, ⟨ma_122, ka_122⟩, ⟨ma_123, ka_123⟩, ⟨ma_124, ka_124⟩, bv_125, ⟨ma_127, ka_127⟩⟩ := un_12 (hG _ mo0) ko0
    have bv_79 : ((-2147483648) ≤ v_79.toInt ∧ v_79.toInt ≤ 2147483647) := ⟨i32_lo _, i32_hi _⟩
    have bv_80 : ((-2147483648) ≤ v_80.toInt ∧ v_80.toInt ≤ 2147483647) := ⟨i32_lo _, i32_hi _⟩
    have bv_81 : ((-2147483648) ≤ v_81.toInt ∧ v_81.toInt ≤ 2147483647) := ⟨i32_lo _, i32_hi _⟩
    have bv_82 : ((-2147483648) ≤ v_82.toInt ∧ v_82.toInt ≤ 2147483647) := ⟨i32_lo _, i32_hi _⟩
    have bv_86 : ((-2147483648) ≤ v_86.toInt ∧ v_86.toInt ≤ 2147483647) := ⟨i32_lo _, i32_hi _⟩
    have bv_96 : ((-2147483648) ≤ v_96.toInt ∧ v_96.toInt ≤ 2147483647) := ⟨i32_lo _, i32_hi _⟩
    have bv_98 : ((-2147483648) ≤ v_98.toInt ∧ v_98.toInt ≤ 2147483647) := ⟨i32_lo _, i32_hi _⟩
    have bv_105 : ((-2147483648) ≤ v_105.toInt ∧ v_105.toInt ≤ 2147483647) := ⟨i32_lo _, i32_hi _⟩
    have bv_111 : ((-2147483648) ≤ v_111.toInt ∧ v_111.toInt ≤ 2147483647) := ⟨i32_lo _, i32_hi _⟩
    have bv_126 : ((-2147483648) ≤ v_126.toInt ∧ v_126.toInt ≤ 2147483647) := ⟨i32_lo _, i32_hi _⟩
    obtain ⟨rfl, rfl, rfl, rfl, rfl, rfl, rfl, rfl, rfl, rfl, rfl, rfl, rfl, rfl, rfl, rfl, rfl, rfl, rfl, rfl, rfl, rfl, rfl, rfl, rfl, rfl, rfl, rfl, rfl, rfl, rfl⟩ := re_12 hfo_1 hfo_71 (hrA12 o0 ko0)
    obtain rfl := ri_12_3 hfo_1 hfo_71 (hfA12 o0 ko0 3 (by decide) (by decide))
    obtain rfl := ri_12_5 hfo_1 hfo_71 (hfA12 o0 ko0 5 (by decide) (by decide))
    obtain rfl := ri_12_6 hfo_1 hfo_71 (hfA12 o0 ko0 6 (by decide) (by decide))
    obtain rfl := ri_12_11 hfo_1 hfo_71 (hfA12 o0 ko0 11 (by decide) (by decide))
    obtain rfl := ri_12_12 hfo_1 hfo_71 (hfA12 o0 ko0 12 (by decide) (by decide))
    obtain rfl := ri_12_13 hfo_1 hfo_71 (hfA12 o0 ko0 13 (by decide) (by decide))
    obtain rfl := ri_12_14 hfo_1 hfo_71 (hfA12 o0 ko0 14 (by decide) (by decide))
    obtain rfl := ri_12_25 hfo_1 hfo_71 (hfA12 o0 ko0 25 (by decide) (by decide))
    obtain rfl := ri_12_27 hfo_1 hfo_71 (hfA12 o0 ko0 27 (by decide) (by decide))
    obtain rfl := ri_12_29 hfo_1 hfo_71 (hfA12 o0 ko0 29 (by decide) (by decide))
    obtain rfl := ri_12_32 hfo_1 hfo_71 (hfA12 o0 ko0 32 (by decide) (by decide))
    obtain rfl := ri_12_33 hfo_1 hfo_71 (hfA12 o0 ko0 33 (by decide) (by decide))
    obtain rfl := ri_12_38 hfo_1 hfo_71 (hfA12 o0 ko0 38 (by decide) (by decide))
    obtain rfl := ri_12_43 hfo_1 hfo_71 (hfA12 o0 ko0 43 (by decide) (by decide))
    obtain rfl := ri_12_53 hfo_1 hfo_71 (hfA12 o0 ko0 53 (by decide) (by decide))
    refine lv_iconst (v := (-1)) hx hb dX12_fits_21 (by decide) ?_
    refine lv_icmp_ne (tgt := 29) hx hb dX12_fits_22 (by decide) (fun c_128 => ?_) (fun c_128 => ?_)
    · skip
      rw [← Int32.toInt_inj, ti_m1] at c_128
      refine lv_iconst (v := 0) hx hb dX12_fits_29 (by decide) ?_
      exact W.iret (v := 0) hx hb hr (fun t ht hW => ⟨⟨0, f_66, rfl, ⟨hG, (by decide), hfr0, hrA12, hfA12⟩, by rw [ht]; exact hP, va_K.moved hW.alike hK, pl_in hD⟩, hS.F ht⟩) hS.2.2 dX12_fits_30
    · skip
      rw [← Int32.toInt_inj, ti_m1] at c_128
      refine lv_iconst (v := 1) hx hb dX12_fits_25 (by decide) ?_
      refine lv_goto (tgt := 30) hx hb dX12_fits_26 (by decide) ?_
      exact W.iret (v := 1) hx hb hr (fun t ht hW => ⟨⟨1, f_66, rfl, ⟨hG, (by decide), hfr0, hrA12, hfA12⟩, by rw [ht]; exact hP, va_K.moved hW.alike hK, pl_in hD⟩, hS.F ht⟩) hS.2.2 dX12_fits_30
  · skip
    rw [← Int32.toInt_inj, ti_0] at c_64
    refine lv_iconst (v := (-1)) hx hb dX12_fits_12 (by decide) ?_
    refine lv_goto (tgt := 30) hx hb dX12_fits_13 (by decide) ?_
    exact W.iret (v := (-1)) hx hb hr (fun t ht hW => ⟨⟨(-1), f, rfl, ⟨hG, (by decide), hfr0, hrA12, hfA12⟩, by rw [ht]; exact hP, va_K.moved hW.alike hK, pl_in hD⟩, hS.F ht⟩) hS.2.2 dX12_fits_30
