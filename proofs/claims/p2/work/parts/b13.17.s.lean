set_option maxHeartbeats 8000000 in
set_option maxRecDepth 100000 in
theorem s_X12_isRight_k12 (l : Launch) (D : va_G) (cI cL cZ cR cG cH : ClassId) (Z : zT) (kd : Nat → Nat) (L : List Nat) (f : Nat → va_E) (hG : GI (okc cI cL cZ cR cG cH L kd) kd L f) (o0 : Nat) (mo0 : o0 ∈ L) (ko0 : kd o0 = 12) (p1 : Int32) (bp1 : (0 ≤ p1.toInt ∧ p1.toInt ≤ 11)) (p2 : Int32) : mPI l D cI cL cZ cR cG cH Z yX12_isRight cX12_isRight 5 (some .boolean) 21 585 [.ref o0, .int p1, .int p2] L f (fun (r : Int32) (f9 : Nat → va_E) => GI (okc cI cL cZ cR cG cH L kd) kd L f9 ∧ (0 ≤ r.toInt ∧ r.toInt ≤ 1) ∧ (∀ b, kd b ≠ 12 → kd b ≠ 579 → kd b ≠ 581 → kd b ≠ 583 → kd b ≠ 585 → kd b ≠ 587 → kd b ≠ 588 → kd b ≠ 589 → kd b ≠ 594 → f9 b = f b) ∧ (∀ b, kd b = 12 → ∀ j, fldR (f9 b) j = fldR (f b) j) ∧ (∀ b, kd b = 12 → ∀ j, j ≠ 23 → j ≠ 35 → fldI (f9 b) j = fldI (f b) j)) := by
  obtain ⟨dC, dI⟩ := D
  refine Met.ofW (cc := cX12_isRight) (maxL := 5) (ret := (some .boolean)) (by decide) rfl ?_
  intro p e s m args below meth c s₁ B hml hv
  obtain ⟨rfl, hP, hK, hD0, hN, hZ⟩ := hv
  have hx := B.exec
  have hb := B.bytes
  have hr := B.returns
  have hU : ∀ w ∈ wsU, w.before _ s = true := fun w h => atoms_spec (ws := wU yX12_isRight cX12_isRight 5 (some .boolean)) B.pre w (List.mem_cons_of_mem _ h)
  have hown : s.vm.findClass RX12 = some m.cls := findClass_of_methodNamed B.named
  have hlocks := B.notSynchronized
  have hD := pl_in hD0
  have hS : va_S (fun q => q ∈ L) s.heap s.heap [] := va_S.rf
  have hl := lv_entry ([.ref o0, .int p1, .int p2]) (n := 5) (Nat.le_of_ble_eq_true rfl)
  rw [lg_entry_eq]
  generalize (lg_sl ([.ref o0, .int p1, .int p2]) ++ List.replicate (5 - (lg_sl ([.ref o0, .int p1, .int p2])).length) Slot.unset).toArray = ls at hl ⊢
  have hl : lv_has ls 5 [(0, .ref o0), (1, .int p1), (2, .int p2)] := hl
  have bp2 : ((-2147483648) ≤ p2.toInt ∧ p2.toInt ≤ 2147483647) := ⟨i32_lo _, i32_hi _⟩
  have hfr0 : ∀ b, kd b ≠ 12 → kd b ≠ 579 → kd b ≠ 581 → kd b ≠ 583 → kd b ≠ 585 → kd b ≠ 587 → kd b ≠ 588 → kd b ≠ 589 → kd b ≠ 594 → f b = f b := fun _ _ _ _ _ _ _ _ _ _ => rfl
  have hrA12 : ∀ b, kd b = 12 → ∀ j, fldR (f b) j = fldR (f b) j := fun _ _ _ => rfl
  have hfA12 : ∀ b, kd b = 12 → ∀ j, j ≠ 23 → j ≠ 35 → fldI (f b) j = fldI (f b) j := fun _ _ _ _ _ => rfl
  refine lv_sipush (v := 220) hx hb dX12_isRight_0 (by decide) ?_
  refine lv_bipush (v := 20) hx hb dX12_isRight_3 (by decide) ?_
  refine lv_iload_n hx hb dX12_isRight_5 rfl (lv_at hl 1 rfl) ?_
  refine lv_imul hx hb dX12_isRight_6 ?_
  refine lv_topi (fun x_1 ex_1 => ?_)
  have hx_1 : x_1.toInt = 20 * p1.toInt := by rw [ex_1, ml_I (by rw [ti_20]; omega) (by rw [ti_20]; omega), ti_20]
  have bx_1 : (0 ≤ x_1.toInt ∧ x_1.toInt ≤ 220) := by constructor <;> omega
  refine lv_iadd hx hb dX12_isRight_7 ?_
  refine lv_topi (fun x_2 ex_2 => ?_)
  have hx_2 : x_2.toInt = 220 + x_1.toInt := by rw [ex_2, ad_I (by rw [ti_220]; omega) (by rw [ti_220]; omega), ti_220]
  have bx_2 : (220 ≤ x_2.toInt ∧ x_2.toInt ≤ 440) := by constructor <;> omega
  refine lv_istore_n (lv' := [(3, .int x_2), (0, .ref o0), (1, .int p1), (2, .int p2)]) hx hb dX12_isRight_8 rfl hl (by decide) rfl (fun ls hl => ?_)
  refine lv_aload_n hx hb dX12_isRight_9 rfl (lv_at hl 1 rfl) ?_
  refine lv_aload_n hx hb dX12_isRight_10 rfl (lv_at hl 1 rfl) ?_
  obtain ⟨a_3, a_4, a_5, v_6, a_7, v_8, v_9, v_10, v_11, v_12, v_13, v_14, v_15, v_16, v_17, a_18, a_19, a_20, a_21, a_22, a_23, a_24, a_25, v_26, v_27, v_28, v_29, v_30, a_31, v_32, a_33, a_34, v_35, v_36, a_37, v_38, a_39, a_40, v_41, v_42, a_43, a_44, a_45, v_46, a_47, a_48, a_49, a_50, a_51, a_52, a_53, a_54, a_55, v_56, v_57, a_58, hfo_59, fa_60⟩ := un12 (hG _ mo0) ko0
  obtain ⟨ma_3, ka_3⟩ := fa12_0 fa_60
  obtain ⟨ma_24, ka_24⟩ := fa12_21 fa_60
  obtain ⟨ma_37, ka_37⟩ := fa12_34 fa_60
  refine tk_getP (D := (dC, dI)) (ci := 12) (v := .ref a_3) (C := RX12) (T := TX12) (N := 56) hx hb hU inlX12 hown hK hP mo0 hfo_59 rfl 0 (by decide) (hU _ wd_169) (fun _ h9 => h9) rfl dX12_isRight_11 ?_
  refine lv_iload_n hx hb dX12_isRight_14 rfl (lv_at hl 0 rfl) ?_
  refine lv_iconst (v := 1) hx hb dX12_isRight_15 (by decide) ?_
  refine lv_iadd hx hb dX12_isRight_16 ?_
  refine lv_topi (fun x_61 ex_61 => ?_)
  have hx_61 : x_61.toInt = x_2.toInt + 1 := by rw [ex_61, ad_I (by rw [ti_1]; omega) (by rw [ti_1]; omega), ti_1]
  have bx_61 : (221 ≤ x_61.toInt ∧ x_61.toInt ≤ 441) := by constructor <;> omega
  obtain ⟨g_63, hfo_62, hbg_63⟩ := un_575 (hG _ ma_3) ka_3
  refine tk_ildP hx hb hK hP 0 ma_3 hfo_62 rfl (vp_in_iff.mpr (by constructor <;> omega)) dX12_isRight_17 ?_
  refine lv_topi (fun x_64 ex_64 => ?_)
  have bx_64 : (0 ≤ x_64.toInt ∧ x_64.toInt ≤ 8) := by have hc9 := cl_I (i := x_61) (by omega); rw [ex_64]; exact hbg_63.2.2.2.2.2.2.2.2.2.2.1 _ (by omega) (by omega) (by omega)
  refine tk_putP (D := (dC, dI)) (ci := 12) (v := .int x_64) (ty := .int) (C := RX12) (T := TX12) (N := 56) hx hb hU inlX12 tyX12 tyX12_ok nmX12 hown hK hP hD hS mo0 hfo_59 rfl 23 (by decide) (hU _ wd_867) (fun _ h9 => h9) rfl (by decide +kernel) rfl rfl (Nat.le_of_ble_eq_true rfl) dX12_isRight_18 (fun H locs hP hD hS => ?_)
  have fa_65 := fu12_23 (y := x_64) fa_60 (by constructor <;> omega)
  obtain ⟨f_67, ef_67⟩ : ∃ y : Nat → va_E, y = va_up f o0 (.inr (12, [.ref a_3, .ref a_4, .ref a_5, .int v_6, .ref a_7, .int v_8, .int v_9, .int v_10, .int v_11, .int v_12, .int v_13, .int v_14, .int v_15, .int v_16, .int v_17, .ref a_18, .ref a_19, .ref a_20, .ref a_21, .ref a_22, .ref a_23, .ref a_24, .ref a_25, .int x_64, .int v_27, .int v_28, .int v_29, .int v_30, .ref a_31, .int v_32, .ref a_33, .ref a_34, .int v_35, .int v_36, .ref a_37, .int v_38, .ref a_39, .ref a_40, .int v_41, .int v_42, .ref a_43, .ref a_44, .ref a_45, .int v_46, .ref a_47, .ref a_48, .ref a_49, .ref a_50, .ref a_51, .ref a_52, .ref a_53, .ref a_54, .ref a_55, .int v_56, .int v_57, .ref a_58])) := ⟨_, rfl⟩
  have hP : va_P (dC, dI) vwCl (va_pl L f_67) H := by rw [ef_67]; exact hP
  have hD : va_D (fun q => q ∈ L) (va_pl L f_67) := by rw [ef_67]; exact hD
  have hG : GI (okc cI cL cZ cR cG cH L kd) kd L f_67 := by rw [ef_67]; exact hG.set o0 (mk_12 ko0 (fo12 fa_65))
  have hfo_68 : f_67 a_3 = .inl (cI, 1560, .inl g_63) := by rw [ef_67, up_ne (kd_ne ko0 ka_3 (by decide))]; exact hfo_62
  have hfr0 : ∀ b, kd b ≠ 12 → kd b ≠ 579 → kd b ≠ 581 → kd b ≠ 583 → kd b ≠ 585 → kd b ≠ 587 → kd b ≠ 588 → kd b ≠ 589 → kd b ≠ 594 → f_67 b = f b := fun b q12 q579 q581 q583 q585 q587 q588 q589 q594 => (congrFun ef_67 b).trans ((up_ne (fun e9 => q12 (by rw [e9]; exact ko0))).trans (hfr0 b q12 q579 q581 q583 q585 q587 q588 q589 q594))
  have hrA12 : ∀ b, kd b = 12 → ∀ j, fldR (f_67 b) j = fldR (f b) j := fun b kb j => ((congrArg (fun x => fldR x j) (congrFun ef_67 b)).trans (fra_up (fun j => by rw [hfo_59]; exact fr_set (k := 23) rfl rfl) j b)).trans (hrA12 b kb j)
  have hfA12 : ∀ b, kd b = 12 → ∀ j, j ≠ 23 → j ≠ 35 → fldI (f_67 b) j = fldI (f b) j := fun b kb j n23 n35 => ((congrArg (fun x => fldI x j) (congrFun ef_67 b)).trans (fia_up (fun h9 => by rw [hfo_59]; exact fi_set (k := 23) rfl h9) n23 b)).trans (hfA12 b kb j n23 n35)
  have hfo_69 : f_67 o0 = .inr (12, [.ref a_3, .ref a_4, .ref a_5, .int v_6, .ref a_7, .int v_8, .int v_9, .int v_10, .int v_11, .int v_12, .int v_13, .int v_14, .int v_15, .int v_16, .int v_17, .ref a_18, .ref a_19, .ref a_20, .ref a_21, .ref a_22, .ref a_23, .ref a_24, .ref a_25, .int x_64, .int v_27, .int v_28, .int v_29, .int v_30, .ref a_31, .int v_32, .ref a_33, .ref a_34, .int v_35, .int v_36, .ref a_37, .int v_38, .ref a_39, .ref a_40, .int v_41, .int v_42, .ref a_43, .ref a_44, .ref a_45, .int v_46, .ref a_47, .ref a_48, .ref a_49, .ref a_50, .ref a_51, .ref a_52, .ref a_53, .ref a_54, .ref a_55, .int v_56, .int v_57, .ref a_58]) := by rw [ef_67]; exact up_self
  refine lv_aload_n hx hb dX12_isRight_21 rfl (lv_at hl 1 rfl) ?_
  refine lv_aload_n hx hb dX12_isRight_22 rfl (lv_at hl 1 rfl) ?_
  refine tk_getP (D := (dC, dI)) (ci := 12) (v := .ref a_3) (C := RX12) (T := TX12) (N := 56) hx hb hU inlX12 hown hK hP mo0 hfo_69 rfl 0 (by decide) (hU _ wd_169) (fun _ h9 => h9) rfl dX12_isRight_23 ?_
  refine lv_iload_n hx hb dX12_isRight_26 rfl (lv_at hl 0 rfl) ?_
  refine lv_iconst (v := 2) hx hb dX12_isRight_27 (by decide) ?_
  refine lv_iadd hx hb dX12_isRight_28 ?_
  refine lv_topi (fun x_70 ex_70 => ?_)
  have hx_70 : x_70.toInt = x_2.toInt + 2 := by rw [ex_70, ad_I (by rw [ti_2]; omega) (by rw [ti_2]; omega), ti_2]
  have bx_70 : (222 ≤ x_70.toInt ∧ x_70.toInt ≤ 442) := by constructor <;> omega
  refine tk_ildP hx hb hK hP 0 ma_3 hfo_68 rfl (vp_in_iff.mpr (by constructor <;> omega)) dX12_isRight_29 ?_
  refine lv_topi (fun x_71 ex_71 => ?_)
  have bx_71 : (0 ≤ x_71.toInt ∧ x_71.toInt ≤ 8) := by have hc9 := cl_I (i := x_70) (by omega); rw [ex_71]; exact hbg_63.2.2.2.2.2.2.2.2.2.2.1 _ (by omega) (by omega) (by omega)
  refine tk_putP (D := (dC, dI)) (ci := 12) (v := .int x_71) (ty := .int) (C := RX12) (T := TX12) (N := 56) hx hb hU inlX12 tyX12 tyX12_ok nmX12 hown hK hP hD hS mo0 hfo_69 rfl 35 (by decide) (hU _ wd_1049) (fun _ h9 => h9) rfl (by decide +kernel) rfl rfl (Nat.le_of_ble_eq_true rfl) dX12_isRight_30 (fun H locs hP hD hS => ?_)
  have fa_72 := fu12_35 (y := x_71) fa_65 (by constructor <;> omega)
  obtain ⟨f_74, ef_74⟩ : ∃ y : Nat → va_E, y = va_up f_67 o0 (.inr (12, [.ref a_3, .ref a_4, .ref a_5, .int v_6, .ref a_7, .int v_8, .int v_9, .int v_10, .int v_11, .int v_12, .int v_13, .int v_14, .int v_15, .int v_16, .int v_17, .ref a_18, .ref a_19, .ref a_20, .ref a_21, .ref a_22, .ref a_23, .ref a_24, .ref a_25, .int x_64, .int v_27, .int v_28, .int v_29, .int v_30, .ref a_31, .int v_32, .ref a_33, .ref a_34, .int v_35, .int v_36, .ref a_37, .int x_71, .ref a_39, .ref a_40, .int v_41, .int v_42, .ref a_43, .ref a_44, .ref a_45, .int v_46, .ref a_47, .ref a_48, .ref a_49, .ref a_50, .ref a_51, .ref a_52, .ref a_53, .ref a_54, .ref a_55, .int v_56, .int v_57, .ref a_58])) := ⟨_, rfl⟩
  have hP : va_P (dC, dI) vwCl (va_pl L f_74) H := by rw [ef_74]; exact hP
  have hD : va_D (fun q => q ∈ L) (va_pl L f_74) := by rw [ef_74]; exact hD
  have hG : GI (okc cI cL cZ cR cG cH L kd) kd L f_74 := by rw [ef_74]; exact hG.set o0 (mk_12 ko0 (fo12 fa_72))
  have hfo_75 : f_74 a_3 = .inl (cI, 1560, .inl g_63) := by rw [ef_74, up_ne (kd_ne ko0 ka_3 (by decide))]; exact hfo_68
  have hfr0 : ∀ b, kd b ≠ 12 → kd b ≠ 579 → kd b ≠ 581 → kd b ≠ 583 → kd b ≠ 585 → kd b ≠ 587 → kd b ≠ 588 → kd b ≠ 589 → kd b ≠ 594 → f_74 b = f b := fun b q12 q579 q581 q583 q585 q587 q588 q589 q594 => (congrFun ef_74 b).trans ((up_ne (fun e9 => q12 (by rw [e9]; exact ko0))).trans (hfr0 b q12 q579 q581 q583 q585 q587 q588 q589 q594))
  have hrA12 : ∀ b, kd b = 12 → ∀ j, fldR (f_74 b) j = fldR (f b) j := fun b kb j => ((congrArg (fun x => fldR x j) (congrFun ef_74 b)).trans (fra_up (fun j => by rw [hfo_69]; exact fr_set (k := 35) rfl rfl) j b)).trans (hrA12 b kb j)
  have hfA12 : ∀ b, kd b = 12 → ∀ j, j ≠ 23 → j ≠ 35 → fldI (f_74 b) j = fldI (f b) j := fun b kb j n23 n35 => ((congrArg (fun x => fldI x j) (congrFun ef_74 b)).trans (fia_up (fun h9 => by rw [hfo_69]; exact fi_set (k := 35) rfl h9) n35 b)).trans (hfA12 b kb j n23 n35)
  have hfo_76 : f_74 o0 = .inr (12, [.ref a_3, .ref a_4, .ref a_5, .int v_6, .ref a_7, .int v_8, .int v_9, .int v_10, .int v_11, .int v_12, .int v_13, .int v_14, .int v_15, .int v_16, .int v_17, .ref a_18, .ref a_19, .ref a_20, .ref a_21, .ref a_22, .ref a_23, .ref a_24, .ref a_25, .int x_64, .int v_27, .int v_28, .int v_29, .int v_30, .ref a_31, .int v_32, .ref a_33, .ref a_34, .int v_35, .int v_36, .ref a_37, .int x_71, .ref a_39, .ref a_40, .int v_41, .int v_42, .ref a_43, .ref a_44, .ref a_45, .int v_46, .ref a_47, .ref a_48, .ref a_49, .ref a_50, .ref a_51, .ref a_52, .ref a_53, .ref a_54, .ref a_55, .int v_56, .int v_57, .ref a_58]) := by rw [ef_74]; exact up_self
  refine lv_iconst (v := 0) hx hb dX12_isRight_33 (by decide) ?_
  refine lv_istore (lv' := [(4, .int 0), (3, .int x_2), (0, .ref o0), (1, .int p1), (2, .int p2)]) hx hb dX12_isRight_34 hl (by decide) rfl (fun ls hl => ?_)
  have hloop_95 : ∀ (n : Nat), ∀ (y_96 : Int32), (0 ≤ y_96.toInt ∧ y_96.toInt ≤ 8) → ∀ (f_98 : Nat → va_E), GI (okc cI cL cZ cR cG cH L kd) kd L f_98 → ∀ (H : Heap) (locs : List Loc), va_P (dC, dI) vwCl (va_pl L f_98) H → va_S (fun q => q ∈ L) s.heap H locs → va_D (fun q => q ∈ L) (va_pl L f_98) → (∀ b, kd b ≠ 12 → kd b ≠ 579 → kd b ≠ 581 → kd b ≠ 583 → kd b ≠ 585 → kd b ≠ 587 → kd b ≠ 588 → kd b ≠ 589 → kd b ≠ 594 → f_98 b = f b) → (∀ b, kd b = 12 → ∀ j, fldR (f_98 b) j = fldR (f b) j) → (∀ b, kd b = 12 → ∀ j, j ≠ 23 → j ≠ 35 → fldI (f_98 b) j = fldI (f b) j) → (f_98 a_3 = .inl (cI, 1560, .inl g_63)) → (f_98 o0 = .inr (12, [.ref a_3, .ref a_4, .ref a_5, .int v_6, .ref a_7, .int v_8, .int v_9, .int v_10, .int v_11, .int v_12, .int v_13, .int v_14, .int v_15, .int v_16, .int v_17, .ref a_18, .ref a_19, .ref a_20, .ref a_21, .ref a_22, .ref a_23, .ref a_24, .ref a_25, .int x_64, .int v_27, .int v_28, .int v_29, .int v_30, .ref a_31, .int v_32, .ref a_33, .ref a_34, .int v_35, .int v_36, .ref a_37, .int x_71, .ref a_39, .ref a_40, .int v_41, .int v_42, .ref a_43, .ref a_44, .ref a_45, .int v_46, .ref a_47, .ref a_48, .ref a_49, .ref a_50, .ref a_51, .ref a_52, .ref a_53, .ref a_54, .ref a_55, .int v_56, .int v_57, .ref a_58])) → 8 - y_96.toInt < (n : Int) → ∀ (ls : Array Slot), lv_has ls 5 [(4, .int y_96), (3, .int x_2), (0, .ref o0), (1, .int p1), (2, .int p2)] → W p l e (headSpec (wU yX12_isRight cX12_isRight 5 (some .boolean)) { frames := 21, cells := 0, slots := 0, locals := 585 }).room s m [.ref o0, .int p1, .int p2].toArray below meth c H locs 0 0 (MQ below (va_Qi (fun (r : Int32) (f9 : Nat → va_E) => GI (okc cI cL cZ cR cG cH L kd) kd L f9 ∧ (0 ≤ r.toInt ∧ r.toInt ≤ 1) ∧ (∀ b, kd b ≠ 12 → kd b ≠ 579 → kd b ≠ 581 → kd b ≠ 583 → kd b ≠ 585 → kd b ≠ 587 → kd b ≠ 588 → kd b ≠ 589 → kd b ≠ 594 → f9 b = f b) ∧ (∀ b, kd b = 12 → ∀ j, fldR (f9 b) j = fldR (f b) j) ∧ (∀ b, kd b = 12 → ∀ j, j ≠ 23 → j ≠ 35 → fldI (f9 b) j = fldI (f b) j)) (qP (dC, dI) cI cL cZ cR cG cH L) (fun q => q ∈ L)) [.ref o0, .int p1, .int p2].toArray s 0 0 (fun q => q ∈ L)) (F0 m 36 ls []) := by
    intro n
    induction n with
    | zero => intro y_96 by_96 f_98 hG H locs hP hS hD hfr0 hrA12 hfA12 hfo_99 hfo_100 hmuhloop_95 ls hl; exfalso; omega
    | succ n ih_hloop_95 =>
      intro y_96 by_96 f_98 hG H locs hP hS hD hfr0 hrA12 hfA12 hfo_99 hfo_100 hmuhloop_95 ls hl
      refine lv_iload hx hb dX12_isRight_36 (lv_at hl 0 rfl) ?_
      refine lv_aload_n hx hb dX12_isRight_38 rfl (lv_at hl 2 rfl) ?_
      refine tk_getP (D := (dC, dI)) (ci := 12) (v := .int x_64) (C := RX12) (T := TX12) (N := 56) hx hb hU inlX12 hown hK hP mo0 hfo_100 rfl 23 (by decide) (hU _ wd_867) (fun _ h9 => h9) rfl dX12_isRight_39 ?_
      refine lv_icmp_ge (tgt := 69) hx hb dX12_isRight_42 (by decide) (fun c_101 => ?_) (fun c_101 => ?_)
      · skip
        rw [Int32.le_iff_toInt_le] at c_101
        refine lv_iconst (v := 0) hx hb dX12_isRight_69 (by decide) ?_
        refine lv_istore (lv' := [(4, .int 0), (3, .int x_2), (0, .ref o0), (1, .int p1), (2, .int p2)]) hx hb dX12_isRight_70 hl (by decide) rfl (fun ls hl => ?_)
        have hloop_120 : ∀ (n : Nat), ∀ (y_121 : Int32), (0 ≤ y_121.toInt ∧ y_121.toInt ≤ 8) → ∀ (f_123 : Nat → va_E), GI (okc cI cL cZ cR cG cH L kd) kd L f_123 → ∀ (H : Heap) (locs : List Loc), va_P (dC, dI) vwCl (va_pl L f_123) H → va_S (fun q => q ∈ L) s.heap H locs → va_D (fun q => q ∈ L) (va_pl L f_123) → (∀ b, kd b ≠ 12 → kd b ≠ 579 → kd b ≠ 581 → kd b ≠ 583 → kd b ≠ 585 → kd b ≠ 587 → kd b ≠ 588 → kd b ≠ 589 → kd b ≠ 594 → f_123 b = f b) → (∀ b, kd b = 12 → ∀ j, fldR (f_123 b) j = fldR (f b) j) → (∀ b, kd b = 12 → ∀ j, j ≠ 23 → j ≠ 35 → fldI (f_123 b) j = fldI (f b) j) → (f_123 a_3 = .inl (cI, 1560, .inl g_63)) → (f_123 o0 = .inr (12, [.ref a_3, .ref a_4, .ref a_5, .int v_6, .ref a_7, .int v_8, .int v_9, .int v_10, .int v_11, .int v_12, .int v_13, .int v_14, .int v_15, .int v_16, .int v_17, .ref a_18, .ref a_19, .ref a_20, .ref a_21, .ref a_22, .ref a_23, .ref a_24, .ref a_25, .int x_64, .int v_27, .int v_28, .int v_29, .int v_30, .ref a_31, .int v_32, .ref a_33, .ref a_34, .int v_35, .int v_36, .ref a_37, .int x_71, .ref a_39, .ref a_40, .int v_41, .int v_42, .ref a_43, .ref a_44, .ref a_45, .int v_46, .ref a_47, .ref a_48, .ref a_49, .ref a_50, .ref a_51, .ref a_52, .ref a_53, .ref a_54, .ref a_55, .int v_56, .int v_57, .ref a_58])) → 8 - y_121.toInt < (n : Int) → ∀ (ls : Array Slot), lv_has ls 5 [(4, .int y_121), (3, .int x_2), (0, .ref o0), (1, .int p1), (2, .int p2)] → W p l e (headSpec (wU yX12_isRight cX12_isRight 5 (some .boolean)) { frames := 21, cells := 0, slots := 0, locals := 585 }).room s m [.ref o0, .int p1, .int p2].toArray below meth c H locs 0 0 (MQ below (va_Qi (fun (r : Int32) (f9 : Nat → va_E) => GI (okc cI cL cZ cR cG cH L kd) kd L f9 ∧ (0 ≤ r.toInt ∧ r.toInt ≤ 1) ∧ (∀ b, kd b ≠ 12 → kd b ≠ 579 → kd b ≠ 581 → kd b ≠ 583 → kd b ≠ 585 → kd b ≠ 587 → kd b ≠ 588 → kd b ≠ 589 → kd b ≠ 594 → f9 b = f b) ∧ (∀ b, kd b = 12 → ∀ j, fldR (f9 b) j = fldR (f b) j) ∧ (∀ b, kd b = 12 → ∀ j, j ≠ 23 → j ≠ 35 → fldI (f9 b) j = fldI (f b) j)) (qP (dC, dI) cI cL cZ cR cG cH L) (fun q => q ∈ L)) [.ref o0, .int p1, .int p2].toArray s 0 0 (fun q => q ∈ L)) (F0 m 72 ls []) := by
          intro n
          induction n with
          | zero => intro y_121 by_121 f_123 hG H locs hP hS hD hfr0 hrA12 hfA12 hfo_124 hfo_125 hmuhloop_120 ls hl; exfalso; omega
          | succ n ih_hloop_120 =>
            intro y_121 by_121 f_123 hG H locs hP hS hD hfr0 hrA12 hfA12 hfo_124 hfo_125 hmuhloop_120 ls hl
            refine lv_iload hx hb dX12_isRight_72 (lv_at hl 0 rfl) ?_
            refine lv_aload_n hx hb dX12_isRight_74 rfl (lv_at hl 2 rfl) ?_
            refine tk_getP (D := (dC, dI)) (ci := 12) (v := .int x_71) (C := RX12) (T := TX12) (N := 56) hx hb hU inlX12 hown hK hP mo0 hfo_125 rfl 35 (by decide) (hU _ wd_1049) (fun _ h9 => h9) rfl dX12_isRight_75 ?_
            refine lv_icmp_ge (tgt := 106) hx hb dX12_isRight_78 (by decide) (fun c_126 => ?_) (fun c_126 => ?_)
            · skip
              rw [Int32.le_iff_toInt_le] at c_126
              refine lv_aload_n hx hb dX12_isRight_106 rfl (lv_at hl 2 rfl) ?_
              refine lv_iload_n hx hb dX12_isRight_107 rfl (lv_at hl 4 rfl) ?_
              refine tk_ViP (As := [.int p2]) (rest := []) (n := 1) hx hb hml hown hU hN hZ (s_X12_isSaid_k12 l (dC, dI) cI cL cZ cR cG cH Z kd L f_123 hG o0 mo0 ko0 p2) wd_1050 wd_1051 wd_1052 wd_5 wd_1053 (by decide +kernel) ⟨Nat.le_of_ble_eq_true rfl, Nat.le_of_ble_eq_true rfl⟩ hK hP hD hS mo0 hfo_125 12 rfl rfl rfl hl.1 rfl (Nat.le_of_ble_eq_true rfl) dX12_isRight_108 ⟨Nat.le_of_ble_eq_true rfl, Nat.le_of_ble_eq_true rfl⟩ (fun x_127 f_128 H locs hw hP hD hS => ?_)
              obtain ⟨hG, bx_127, hkc_129⟩ := hw
              have hfo_131 : f_128 a_3 = .inl (cI, 1560, .inl g_63) := by rw [hkc_129 a_3 (by rw [ka_3]; decide) (by rw [ka_3]; decide) (by rw [ka_3]; decide) (by rw [ka_3]; decide) (by rw [ka_3]; decide) (by rw [ka_3]; decide)]; exact hfo_124
              have hfo_132 : f_128 o0 = .inr (12, [.ref a_3, .ref a_4, .ref a_5, .int v_6, .ref a_7, .int v_8, .int v_9, .int v_10, .int v_11, .int v_12, .int v_13, .int v_14, .int v_15, .int v_16, .int v_17, .ref a_18, .ref a_19, .ref a_20, .ref a_21, .ref a_22, .ref a_23, .ref a_24, .ref a_25, .int x_64, .int v_27, .int v_28, .int v_29, .int v_30, .ref a_31, .int v_32, .ref a_33, .ref a_34, .int v_35, .int v_36, .ref a_37, .int x_71, .ref a_39, .ref a_40, .int v_41, .int v_42, .ref a_43, .ref a_44, .ref a_45, .int v_46, .ref a_47, .ref a_48, .ref a_49, .ref a_50, .ref a_51, .ref a_52, .ref a_53, .ref a_54, .ref a_55, .int v_56, .int v_57, .ref a_58]) := by rw [hkc_129 o0 (by rw [ko0]; decide) (by rw [ko0]; decide) (by rw [ko0]; decide) (by rw [ko0]; decide) (by rw [ko0]; decide) (by rw [ko0]; decide)]; exact hfo_125
              have hfr0 : ∀ b, kd b ≠ 12 → kd b ≠ 579 → kd b ≠ 581 → kd b ≠ 583 → kd b ≠ 585 → kd b ≠ 587 → kd b ≠ 588 → kd b ≠ 589 → kd b ≠ 594 → f_128 b = f b := fun b q12 q579 q581 q583 q585 q587 q588 q589 q594 => (hkc_129 b q579 q581 q583 q585 q587 q588).trans (hfr0 b q12 q579 q581 q583 q585 q587 q588 q589 q594)
              have hrA12 : ∀ b, kd b = 12 → ∀ j, fldR (f_128 b) j = fldR (f b) j := fun b kb j => (congrArg (fun x => fldR x j) (hkc_129 b (by rw [kb]; decide) (by rw [kb]; decide) (by rw [kb]; decide) (by rw [kb]; decide) (by rw [kb]; decide) (by rw [kb]; decide))).trans (hrA12 b kb j)
              have hfA12 : ∀ b, kd b = 12 → ∀ j, j ≠ 23 → j ≠ 35 → fldI (f_128 b) j = fldI (f b) j := fun b kb j n23 n35 => (congrArg (fun x => fldI x j) (hkc_129 b (by rw [kb]; decide) (by rw [kb]; decide) (by rw [kb]; decide) (by rw [kb]; decide) (by rw [kb]; decide) (by rw [kb]; decide))).trans (hfA12 b kb j n23 n35)
              refine lv_aload_n hx hb dX12_isRight_111 rfl (lv_at hl 2 rfl) ?_
              refine tk_getP (D := (dC, dI)) (ci := 12) (v := .ref a_3) (C := RX12) (T := TX12) (N := 56) hx hb hU inlX12 hown hK hP mo0 hfo_132 rfl 0 (by decide) (hU _ wd_169) (fun _ h9 => h9) rfl dX12_isRight_112 ?_
              refine lv_iload_n hx hb dX12_isRight_115 rfl (lv_at hl 1 rfl) ?_
              refine tk_ildP hx hb hK hP 0 ma_3 hfo_131 rfl (vp_in_iff.mpr (by constructor <;> omega)) dX12_isRight_116 ?_
              refine lv_topi (fun x_133 ex_133 => ?_)
              have bx_133 : (0 ≤ x_133.toInt ∧ x_133.toInt ≤ 8) := by have hc9 := cl_I (i := x_2) (by omega); rw [ex_133]; exact hbg_63.2.2.2.2.2.2.2.2.2.2.1 _ (by omega) (by omega) (by omega)
              refine lv_iconst (v := 1) hx hb dX12_isRight_117 (by decide) ?_
              have hcut_135 : ∀ (y_134 : Int32), (0 ≤ y_134.toInt ∧ y_134.toInt ≤ 1) → ∀ (ls : Array Slot), lv_has ls 5 [(4, .int y_121), (3, .int x_2), (0, .ref o0), (1, .int p1), (2, .int p2)] → W p l e (headSpec (wU yX12_isRight cX12_isRight 5 (some .boolean)) { frames := 21, cells := 0, slots := 0, locals := 585 }).room s m [.ref o0, .int p1, .int p2].toArray below meth c H locs 0 0 (MQ below (va_Qi (fun (r : Int32) (f9 : Nat → va_E) => GI (okc cI cL cZ cR cG cH L kd) kd L f9 ∧ (0 ≤ r.toInt ∧ r.toInt ≤ 1) ∧ (∀ b, kd b ≠ 12 → kd b ≠ 579 → kd b ≠ 581 → kd b ≠ 583 → kd b ≠ 585 → kd b ≠ 587 → kd b ≠ 588 → kd b ≠ 589 → kd b ≠ 594 → f9 b = f b) ∧ (∀ b, kd b = 12 → ∀ j, fldR (f9 b) j = fldR (f b) j) ∧ (∀ b, kd b = 12 → ∀ j, j ≠ 23 → j ≠ 35 → fldI (f9 b) j = fldI (f b) j)) (qP (dC, dI) cI cL cZ cR cG cH L) (fun q => q ∈ L)) [.ref o0, .int p1, .int p2].toArray s 0 0 (fun q => q ∈ L)) (F0 m 126 ls [.int y_134, .int x_127]) := by
                intro y_134 by_134 ls hl
                refine lv_icmp_ne (tgt := 133) hx hb dX12_isRight_126 (by decide) (fun c_136 => ?_) (fun c_136 => ?_)
                · skip
                  rw [← Int32.toInt_inj] at c_136
                  refine lv_iconst (v := 0) hx hb dX12_isRight_133 (by decide) ?_
                  exact W.zret (v := 0) (ty := .boolean) hx hb hr rfl (fun t ht hW => ⟨⟨0, f_128, rfl, ⟨hG, (by decide), hfr0, hrA12, hfA12⟩, by rw [ht]; exact hP, va_K.moved hW.alike hK, pl_in hD⟩, hS.F ht⟩) hS.2.2 dX12_isRight_134
                · skip
                  rw [← Int32.toInt_inj] at c_136
                  refine lv_iconst (v := 1) hx hb dX12_isRight_129 (by decide) ?_
                  refine lv_goto (tgt := 134) hx hb dX12_isRight_130 (by decide) ?_
                  exact W.zret (v := 1) (ty := .boolean) hx hb hr rfl (fun t ht hW => ⟨⟨1, f_128, rfl, ⟨hG, (by decide), hfr0, hrA12, hfA12⟩, by rw [ht]; exact hP, va_K.moved hW.alike hK, pl_in hD⟩, hS.F ht⟩) hS.2.2 dX12_isRight_134
              refine lv_icmp_ne (tgt := 125) hx hb dX12_isRight_118 (by decide) (fun c_137 => ?_) (fun c_137 => ?_)
              · skip
                rw [← Int32.toInt_inj, ti_1] at c_137
                refine lv_iconst (v := 0) hx hb dX12_isRight_125 (by decide) ?_
                exact hcut_135 0 (by decide) ls (lv_sub hl [0, 1, 2, 3, 4] rfl)
              · skip
                rw [← Int32.toInt_inj, ti_1] at c_137
                refine lv_iconst (v := 1) hx hb dX12_isRight_121 (by decide) ?_
                refine lv_goto (tgt := 126) hx hb dX12_isRight_122 (by decide) ?_
                exact hcut_135 1 (by decide) ls (lv_sub hl [0, 1, 2, 3, 4] rfl)
            · skip
              rw [Int32.le_iff_toInt_le] at c_126
              refine lv_aload_n hx hb dX12_isRight_81 rfl (lv_at hl 2 rfl) ?_
              refine tk_getP (D := (dC, dI)) (ci := 12) (v := .ref a_37) (C := RX12) (T := TX12) (N := 56) hx hb hU inlX12 hown hK hP mo0 hfo_125 rfl 34 (by decide) (hU _ wd_186) (fun _ h9 => h9) rfl dX12_isRight_82 ?_
              refine lv_iload hx hb dX12_isRight_85 (lv_at hl 0 rfl) ?_
              refine lv_aload_n hx hb dX12_isRight_87 rfl (lv_at hl 2 rfl) ?_
              refine tk_getP (D := (dC, dI)) (ci := 12) (v := .ref a_3) (C := RX12) (T := TX12) (N := 56) hx hb hU inlX12 hown hK hP mo0 hfo_125 rfl 0 (by decide) (hU _ wd_169) (fun _ h9 => h9) rfl dX12_isRight_88 ?_
              refine lv_iload_n hx hb dX12_isRight_91 rfl (lv_at hl 1 rfl) ?_
              refine lv_bipush (v := 11) hx hb dX12_isRight_92 (by decide) ?_
              refine lv_iadd hx hb dX12_isRight_94 ?_
              refine lv_topi (fun x_138 ex_138 => ?_)
              have hx_138 : x_138.toInt = x_2.toInt + 11 := by rw [ex_138, ad_I (by rw [ti_11]; omega) (by rw [ti_11]; omega), ti_11]
              have bx_138 : (231 ≤ x_138.toInt ∧ x_138.toInt ≤ 451) := by constructor <;> omega
              refine lv_iload hx hb dX12_isRight_95 (lv_at hl 0 rfl) ?_
              refine lv_iadd hx hb dX12_isRight_97 ?_
              refine lv_topi (fun x_139 ex_139 => ?_)
              have hx_139 : x_139.toInt = x_138.toInt + y_121.toInt := by rw [ex_139, ad_I (by omega) (by omega)]
              have bx_139 : (231 ≤ x_139.toInt ∧ x_139.toInt ≤ 458) := by constructor <;> omega
              refine tk_ildP hx hb hK hP 0 ma_3 hfo_124 rfl (vp_in_iff.mpr (by constructor <;> omega)) dX12_isRight_98 ?_
              refine lv_topi (fun x_140 ex_140 => ?_)
              have bx_140 : (0 ≤ x_140.toInt ∧ x_140.toInt ≤ 8) := by have hc9 := cl_I (i := x_139) (by omega); rw [ex_140]; exact hbg_63.2.2.2.2.2.2.2.2.2.2.1 _ (by omega) (by omega) (by omega)
              obtain ⟨g_142, hfo_141, hbg_142⟩ := un_594 (hG _ ma_37) ka_37
              refine tk_istP hx hb hK hP hD hS 0 ma_37 hfo_141 rfl (vp_in_iff.mpr (by constructor <;> omega)) dX12_isRight_99 (fun H locs hP hD hS => ?_)
              obtain ⟨f_144, ef_144⟩ : ∃ y : Nat → va_E, y = va_up f_123 a_37 (.inl (cI, 16, .inl (upd g_142 (Int32.toNatClampNeg y_121) x_140))) := ⟨_, rfl⟩
              have hP : va_P (dC, dI) vwCl (va_pl L f_144) H := by rw [ef_144]; exact hP
              have hD : va_D (fun q => q ∈ L) (va_pl L f_144) := by rw [ef_144]; exact hD
              have hG : GI (okc cI cL cZ cR cG cH L kd) kd L f_144 := by rw [ef_144]; exact hG.set a_37 (mk_594 ka_37 ⟨_, rfl, okI_up hbg_142 (by constructor <;> omega) _⟩)
              have hfo_145 : f_144 a_3 = .inl (cI, 1560, .inl g_63) := by rw [ef_144, up_ne (kd_ne ka_37 ka_3 (by decide))]; exact hfo_124
              have hfo_146 : f_144 o0 = .inr (12, [.ref a_3, .ref a_4, .ref a_5, .int v_6, .ref a_7, .int v_8, .int v_9, .int v_10, .int v_11, .int v_12, .int v_13, .int v_14, .int v_15, .int v_16, .int v_17, .ref a_18, .ref a_19, .ref a_20, .ref a_21, .ref a_22, .ref a_23, .ref a_24, .ref a_25, .int x_64, .int v_27, .int v_28, .int v_29, .int v_30, .ref a_31, .int v_32, .ref a_33, .ref a_34, .int v_35, .int v_36, .ref a_37, .int x_71, .ref a_39, .ref a_40, .int v_41, .int v_42, .ref a_43, .ref a_44, .ref a_45, .int v_46, .ref a_47, .ref a_48, .ref a_49, .ref a_50, .ref a_51, .ref a_52, .ref a_53, .ref a_54, .ref a_55, .int v_56, .int v_57, .ref a_58]) := by rw [ef_144, up_ne (kd_ne ka_37 ko0 (by decide))]; exact hfo_125
              have hfr0 : ∀ b, kd b ≠ 12 → kd b ≠ 579 → kd b ≠ 581 → kd b ≠ 583 → kd b ≠ 585 → kd b ≠ 587 → kd b ≠ 588 → kd b ≠ 589 → kd b ≠ 594 → f_144 b = f b := fun b q12 q579 q581 q583 q585 q587 q588 q589 q594 => (congrFun ef_144 b).trans ((up_ne (fun e9 => q594 (by rw [e9]; exact ka_37))).trans (hfr0 b q12 q579 q581 q583 q585 q587 q588 q589 q594))
              have hrA12 : ∀ b, kd b = 12 → ∀ j, fldR (f_144 b) j = fldR (f b) j := fun b kb j => (congrArg (fun x => fldR x j) ((congrFun ef_144 b).trans (up_ne (kd_ne ka_37 kb (by decide))))).trans (hrA12 b kb j)
              have hfA12 : ∀ b, kd b = 12 → ∀ j, j ≠ 23 → j ≠ 35 → fldI (f_144 b) j = fldI (f b) j := fun b kb j n23 n35 => (congrArg (fun x => fldI x j) ((congrFun ef_144 b).trans (up_ne (kd_ne ka_37 kb (by decide))))).trans (hfA12 b kb j n23 n35)
              have hfo_147 : f_144 a_37 = .inl (cI, 16, .inl (upd g_142 (Int32.toNatClampNeg y_121) x_140)) := by rw [ef_144]; exact up_self
              obtain ⟨x_148, ex_148⟩ : ∃ y : Int32, y_121 + 1 = y := ⟨_, rfl⟩
              have hx_148 : x_148.toInt = y_121.toInt + 1 := by rw [← ex_148, ad_I (by rw [ti_1]; omega) (by rw [ti_1]; omega), ti_1]
              have bx_148 : (1 ≤ x_148.toInt ∧ x_148.toInt ≤ 8) := by constructor <;> omega
              refine lv_iinc (v := x_148) (lv' := [(4, .int x_148), (3, .int x_2), (0, .ref o0), (1, .int p1), (2, .int p2)]) hx hb dX12_isRight_100 hl (k := 0) rfl ex_148 (by decide) rfl (fun ls hl => ?_)
              refine lv_goto (tgt := 72) hx hb dX12_isRight_103 (by decide) ?_
              exact ih_hloop_120 x_148 (by constructor <;> omega) f_144 hG _ _ hP hS hD hfr0 hrA12 hfA12 hfo_145 hfo_146 (by omega) ls (lv_sub hl [0, 1, 2, 3, 4] rfl)
        exact hloop_120 9 0 (by decide) f_98 hG _ _ hP hS hD hfr0 hrA12 hfA12 hfo_99 hfo_100 (by (try rw [ti_0]) <;> omega) ls hl
      · skip
        rw [Int32.le_iff_toInt_le] at c_101
        refine lv_aload_n hx hb dX12_isRight_45 rfl (lv_at hl 2 rfl) ?_
        refine tk_getP (D := (dC, dI)) (ci := 12) (v := .ref a_24) (C := RX12) (T := TX12) (N := 56) hx hb hU inlX12 hown hK hP mo0 hfo_100 rfl 21 (by decide) (hU _ wd_181) (fun _ h9 => h9) rfl dX12_isRight_46 ?_
        refine lv_iload hx hb dX12_isRight_49 (lv_at hl 0 rfl) ?_
        refine lv_aload_n hx hb dX12_isRight_51 rfl (lv_at hl 2 rfl) ?_
        refine tk_getP (D := (dC, dI)) (ci := 12) (v := .ref a_3) (C := RX12) (T := TX12) (N := 56) hx hb hU inlX12 hown hK hP mo0 hfo_100 rfl 0 (by decide) (hU _ wd_169) (fun _ h9 => h9) rfl dX12_isRight_52 ?_
        refine lv_iload_n hx hb dX12_isRight_55 rfl (lv_at hl 1 rfl) ?_
        refine lv_iconst (v := 3) hx hb dX12_isRight_56 (by decide) ?_
        refine lv_iadd hx hb dX12_isRight_57 ?_
        refine lv_topi (fun x_149 ex_149 => ?_)
        have hx_149 : x_149.toInt = x_2.toInt + 3 := by rw [ex_149, ad_I (by rw [ti_3]; omega) (by rw [ti_3]; omega), ti_3]
        have bx_149 : (223 ≤ x_149.toInt ∧ x_149.toInt ≤ 443) := by constructor <;> omega
        refine lv_iload hx hb dX12_isRight_58 (lv_at hl 0 rfl) ?_
        refine lv_iadd hx hb dX12_isRight_60 ?_
        refine lv_topi (fun x_150 ex_150 => ?_)
        have hx_150 : x_150.toInt = x_149.toInt + y_96.toInt := by rw [ex_150, ad_I (by omega) (by omega)]
        have bx_150 : (223 ≤ x_150.toInt ∧ x_150.toInt ≤ 450) := by constructor <;> omega
        refine tk_ildP hx hb hK hP 0 ma_3 hfo_99 rfl (vp_in_iff.mpr (by constructor <;> omega)) dX12_isRight_61 ?_
        refine lv_topi (fun x_151 ex_151 => ?_)
        have bx_151 : (0 ≤ x_151.toInt ∧ x_151.toInt ≤ 8) := by have hc9 := cl_I (i := x_150) (by omega); rw [ex_151]; exact hbg_63.2.2.2.2.2.2.2.2.2.2.1 _ (by omega) (by omega) (by omega)
        obtain ⟨g_153, hfo_152, hbg_153⟩ := un_589 (hG _ ma_24) ka_24
        refine tk_istP hx hb hK hP hD hS 0 ma_24 hfo_152 rfl (vp_in_iff.mpr (by constructor <;> omega)) dX12_isRight_62 (fun H locs hP hD hS => ?_)
        obtain ⟨f_155, ef_155⟩ : ∃ y : Nat → va_E, y = va_up f_98 a_24 (.inl (cI, 16, .inl (upd g_153 (Int32.toNatClampNeg y_96) x_151))) := ⟨_, rfl⟩
        have hP : va_P (dC, dI) vwCl (va_pl L f_155) H := by rw [ef_155]; exact hP
        have hD : va_D (fun q => q ∈ L) (va_pl L f_155) := by rw [ef_155]; exact hD
        have hG : GI (okc cI cL cZ cR cG cH L kd) kd L f_155 := by rw [ef_155]; exact hG.set a_24 (mk_589 ka_24 ⟨_, rfl, okI_up hbg_153 (by constructor <;> omega) _⟩)
        have hfo_156 : f_155 a_3 = .inl (cI, 1560, .inl g_63) := by rw [ef_155, up_ne (kd_ne ka_24 ka_3 (by decide))]; exact hfo_99
        have hfo_157 : f_155 o0 = .inr (12, [.ref a_3, .ref a_4, .ref a_5, .int v_6, .ref a_7, .int v_8, .int v_9, .int v_10, .int v_11, .int v_12, .int v_13, .int v_14, .int v_15, .int v_16, .int v_17, .ref a_18, .ref a_19, .ref a_20, .ref a_21, .ref a_22, .ref a_23, .ref a_24, .ref a_25, .int x_64, .int v_27, .int v_28, .int v_29, .int v_30, .ref a_31, .int v_32, .ref a_33, .ref a_34, .int v_35, .int v_36, .ref a_37, .int x_71, .ref a_39, .ref a_40, .int v_41, .int v_42, .ref a_43, .ref a_44, .ref a_45, .int v_46, .ref a_47, .ref a_48, .ref a_49, .ref a_50, .ref a_51, .ref a_52, .ref a_53, .ref a_54, .ref a_55, .int v_56, .int v_57, .ref a_58]) := by rw [ef_155, up_ne (kd_ne ka_24 ko0 (by decide))]; exact hfo_100
        have hfr0 : ∀ b, kd b ≠ 12 → kd b ≠ 579 → kd b ≠ 581 → kd b ≠ 583 → kd b ≠ 585 → kd b ≠ 587 → kd b ≠ 588 → kd b ≠ 589 → kd b ≠ 594 → f_155 b = f b := fun b q12 q579 q581 q583 q585 q587 q588 q589 q594 => (congrFun ef_155 b).trans ((up_ne (fun e9 => q589 (by rw [e9]; exact ka_24))).trans (hfr0 b q12 q579 q581 q583 q585 q587 q588 q589 q594))
        have hrA12 : ∀ b, kd b = 12 → ∀ j, fldR (f_155 b) j = fldR (f b) j := fun b kb j => (congrArg (fun x => fldR x j) ((congrFun ef_155 b).trans (up_ne (kd_ne ka_24 kb (by decide))))).trans (hrA12 b kb j)
        have hfA12 : ∀ b, kd b = 12 → ∀ j, j ≠ 23 → j ≠ 35 → fldI (f_155 b) j = fldI (f b) j := fun b kb j n23 n35 => (congrArg (fun x => fldI x j) ((congrFun ef_155 b).trans (up_ne (kd_ne ka_24 kb (by decide))))).trans (hfA12 b kb j n23 n35)
        have hfo_158 : f_155 a_24 = .inl (cI, 16, .inl (upd g_153 (Int32.toNatClampNeg y_96) x_151)) := by rw [ef_155]; exact up_self
        obtain ⟨x_159, ex_159⟩ : ∃ y : Int32, y_96 + 1 = y := ⟨_, rfl⟩
        have hx_159 : x_159.toInt = y_96.toInt + 1 := by rw [← ex_159, ad_I (by rw [ti_1]; omega) (by rw [ti_1]; omega), ti_1]
        have bx_159 : (1 ≤ x_159.toInt ∧ x_159.toInt ≤ 8) := by constructor <;> omega
        refine lv_iinc (v := x_159) (lv' := [(4, .int x_159), (3, .int x_2), (0, .ref o0), (1, .int p1), (2, .int p2)]) hx hb dX12_isRight_63 hl (k := 0) rfl ex_159 (by decide) rfl (fun ls hl => ?_)
        refine lv_goto (tgt := 36) hx hb dX12_isRight_66 (by decide) ?_
        exact ih_hloop_95 x_159 (by constructor <;> omega) f_155 hG _ _ hP hS hD hfr0 hrA12 hfA12 hfo_156 hfo_157 (by omega) ls (lv_sub hl [0, 1, 2, 3, 4] rfl)
  exact hloop_95 9 0 (by decide) f_74 hG _ _ hP hS hD hfr0 hrA12 hfA12 hfo_75 hfo_76 (by (try rw [ti_0]) <;> omega) ls hl
set_option maxHeartbeats 8000000 in
set_option maxRecDepth 100000 in
theorem s_X12_firstWrong_k12 (l : Launch) (D : va_G) (cI cL cZ cR cG cH : ClassId) (Z : zT) (kd : Nat → Nat) (L : List Nat) (f : Nat → va_E) (hG : GI (okc cI cL cZ cR cG cH L kd) kd L f) (o0 : Nat) (mo0 : o0 ∈ L) (ko0 : kd o0 = 12) (p1 : Int32) : mPI l D cI cL cZ cR cG cH Z yX12_firstWrong cX12_firstWrong 3 (some .int) 22 609 [.ref o0, .int p1] L f (fun (r : Int32) (f9 : Nat → va_E) => GI (okc cI cL cZ cR cG cH L kd) kd L f9 ∧ ((-1) ≤ r.toInt ∧ r.toInt ≤ 11) ∧ (∀ b, kd b ≠ 12 → kd b ≠ 579 → kd b ≠ 581 → kd b ≠ 583 → kd b ≠ 585 → kd b ≠ 587 → kd b ≠ 588 → kd b ≠ 589 → kd b ≠ 594 → f9 b = f b) ∧ (∀ b, kd b = 12 → ∀ j, fldR (f9 b) j = fldR (f b) j) ∧ (∀ b, kd b = 12 → ∀ j, j ≠ 23 → j ≠ 35 → fldI (f9 b) j = fldI (f b) j)) := by
  obtain ⟨dC, dI⟩ := D
  refine Met.ofW (cc := cX12_firstWrong) (maxL := 3) (ret := (some .int)) (by decide) rfl ?_
  intro p e s m args below meth c s₁ B hml hv
  obtain ⟨rfl, hP, hK, hD0, hN, hZ⟩ := hv
  have hx := B.exec
  have hb := B.bytes
  have hr := B.returns
  have hU : ∀ w ∈ wsU, w.before _ s = true := fun w h => atoms_spec (ws := wU yX12_firstWrong cX12_firstWrong 3 (some .int)) B.pre w (List.mem_cons_of_mem _ h)
  have hown : s.vm.findClass RX12 = some m.cls := findClass_of_methodNamed B.named
  have hlocks := B.notSynchronized
  have hD := pl_in hD0
  have hS : va_S (fun q => q ∈ L) s.heap s.heap [] := va_S.rf
  have hl := lv_entry ([.ref o0, .int p1]) (n := 3) (Nat.le_of_ble_eq_true rfl)
  rw [lg_entry_eq]
  generalize (lg_sl ([.ref o0, .int p1]) ++ List.replicate (3 - (lg_sl ([.ref o0, .int p1])).length) Slot.unset).toArray = ls at hl ⊢
  have hl : lv_has ls 3 [(0, .ref o0), (1, .int p1)] := hl
  have bp1 : ((-2147483648) ≤ p1.toInt ∧ p1.toInt ≤ 2147483647) := ⟨i32_lo _, i32_hi _⟩
  have hfr0 : ∀ b, kd b ≠ 12 → kd b ≠ 579 → kd b ≠ 581 → kd b ≠ 583 → kd b ≠ 585 → kd b ≠ 587 → kd b ≠ 588 → kd b ≠ 589 → kd b ≠ 594 → f b = f b := fun _ _ _ _ _ _ _ _ _ _ => rfl
  have hrA12 : ∀ b, kd b = 12 → ∀ j, fldR (f b) j = fldR (f b) j := fun _ _ _ => rfl
  have hfA12 : ∀ b, kd b = 12 → ∀ j, j ≠ 23 → j ≠ 35 → fldI (f b) j = fldI (f b) j := fun _ _ _ _ _ => rfl
  refine lv_iconst (v := 0) hx hb dX12_firstWrong_0 (by decide) ?_
  refine lv_istore_n (lv' := [(2, .int 0), (0, .ref o0), (1, .int p1)]) hx hb dX12_firstWrong_1 rfl hl (by decide) rfl (fun ls hl => ?_)
  have hloop_13 : ∀ (n : Nat), ∀ (y_14 : Int32), (0 ≤ y_14.toInt ∧ y_14.toInt ≤ 12) → ∀ (f_16 : Nat → va_E), GI (okc cI cL cZ cR cG cH L kd) kd L f_16 → ∀ (H : Heap) (locs : List Loc), va_P (dC, dI) vwCl (va_pl L f_16) H → va_S (fun q => q ∈ L) s.heap H locs → va_D (fun q => q ∈ L) (va_pl L f_16) → (∀ b, kd b ≠ 12 → kd b ≠ 579 → kd b ≠ 581 → kd b ≠ 583 → kd b ≠ 585 → kd b ≠ 587 → kd b ≠ 588 → kd b ≠ 589 → kd b ≠ 594 → f_16 b = f b) → (∀ b, kd b = 12 → ∀ j, fldR (f_16 b) j = fldR (f b) j) → (∀ b, kd b = 12 → ∀ j, j ≠ 23 → j ≠ 35 → fldI (f_16 b) j = fldI (f b) j) → 12 - y_14.toInt < (n : Int) → ∀ (ls : Array Slot), lv_has ls 3 [(2, .int y_14), (0, .ref o0), (1, .int p1)] → W p l e (headSpec (wU yX12_firstWrong cX12_firstWrong 3 (some .int)) { frames := 22, cells := 0, slots := 0, locals := 609 }).room s m [.ref o0, .int p1].toArray below meth c H locs 0 0 (MQ below (va_Qi (fun (r : Int32) (f9 : Nat → va_E) => GI (okc cI cL cZ cR cG cH L kd) kd L f9 ∧ ((-1) ≤ r.toInt ∧ r.toInt ≤ 11) ∧ (∀ b, kd b ≠ 12 → kd b ≠ 579 → kd b ≠ 581 → kd b ≠ 583 → kd b ≠ 585 → kd b ≠ 587 → kd b ≠ 588 → kd b ≠ 589 → kd b ≠ 594 → f9 b = f b) ∧ (∀ b, kd b = 12 → ∀ j, fldR (f9 b) j = fldR (f b) j) ∧ (∀ b, kd b = 12 → ∀ j, j ≠ 23 → j ≠ 35 → fldI (f9 b) j = fldI (f b) j)) (qP (dC, dI) cI cL cZ cR cG cH L) (fun q => q ∈ L)) [.ref o0, .int p1].toArray s 0 0 (fun q => q ∈ L)) (F0 m 2 ls []) := by
    intro n
    induction n with
    | zero => intro y_14 by_14 f_16 hG H locs hP hS hD hfr0 hrA12 hfA12 hmuhloop_13 ls hl; exfalso; omega
    | succ n ih_hloop_13 =>
      intro y_14 by_14 f_16 hG H locs hP hS hD hfr0 hrA12 hfA12 hmuhloop_13 ls hl
      refine lv_iload_n hx hb dX12_firstWrong_2 rfl (lv_at hl 0 rfl) ?_
      refine lv_aload_n hx hb dX12_firstWrong_3 rfl (lv_at hl 1 rfl) ?_
      obtain ⟨a_17, a_18, a_19, v_20, a_21, v_22, v_23, v_24, v_25, v_26, v_27, v_28, v_29, v_30, v_31, a_32, a_33, a_34, a_35, a_36, a_37, a_38, a_39, v_40, v_41, v_42, v_43, v_44, a_45, v_46, a_47, a_48, v_49, v_50, a_51, v_52, a_53, a_54, v_55, v_56, a_57, a_58, a_59, v_60, a_61, a_62, a_63, a_64, a_65, a_66, a_67, a_68, a_69, v_70, v_71, a_72, hfo_73, fa_74⟩ := un12 (hG _ mo0) ko0
      obtain ⟨ma_17, ka_17⟩ := fa12_0 fa_74
      refine tk_getP (D := (dC, dI)) (ci := 12) (v := .ref a_17) (C := RX12) (T := TX12) (N := 56) hx hb hU inlX12 hown hK hP mo0 hfo_73 rfl 0 (by decide) (hU _ wd_169) (fun _ h9 => h9) rfl dX12_firstWrong_4 ?_
      refine lv_bipush (v := 42) hx hb dX12_firstWrong_7 (by decide) ?_
      obtain ⟨g_76, hfo_75, hbg_76⟩ := un_575 (hG _ ma_17) ka_17
      refine tk_ildP hx hb hK hP 0 ma_17 hfo_75 rfl (vp_in_nI (n := 42) (by decide) (by decide)) dX12_firstWrong_9 ?_
      refine lv_topi (fun x_77 ex_77 => ?_)
      have bx_77 : (0 ≤ x_77.toInt ∧ x_77.toInt ≤ 12) := by rw [ex_77]; exact hbg_76.2.2.2.2.2.2.2.2.1 _ (by decide) (by decide) (by decide)
      refine lv_icmp_ge (tgt := 30) hx hb dX12_firstWrong_10 (by decide) (fun c_78 => ?_) (fun c_78 => ?_)
      · skip
        rw [Int32.le_iff_toInt_le] at c_78
        refine lv_iconst (v := (-1)) hx hb dX12_firstWrong_30 (by decide) ?_
        exact W.iret (v := (-1)) hx hb hr (fun t ht hW => ⟨⟨(-1), f_16, rfl, ⟨hG, (by decide), hfr0, hrA12, hfA12⟩, by rw [ht]; exact hP, va_K.moved hW.alike hK, pl_in hD⟩, hS.F ht⟩) hS.2.2 dX12_firstWrong_31
      · skip
        rw [Int32.le_iff_toInt_le] at c_78
        refine lv_aload_n hx hb dX12_firstWrong_13 rfl (lv_at hl 1 rfl) ?_
        refine lv_iload_n hx hb dX12_firstWrong_14 rfl (lv_at hl 0 rfl) ?_
        refine lv_iload_n hx hb dX12_firstWrong_15 rfl (lv_at hl 2 rfl) ?_
        refine tk_ViP (As := [.int y_14, .int p1]) (rest := []) (n := 2) hx hb hml hown hU hN hZ (s_X12_isRight_k12 l (dC, dI) cI cL cZ cR cG cH Z kd L f_16 hG o0 mo0 ko0 y_14 (by constructor <;> omega) p1) wd_1428 wd_1429 wd_1430 wd_5 wd_1431 (by decide +kernel) ⟨Nat.le_of_ble_eq_true rfl, Nat.le_of_ble_eq_true rfl⟩ hK hP hD hS mo0 hfo_73 12 rfl rfl rfl hl.1 rfl (Nat.le_of_ble_eq_true rfl) dX12_firstWrong_16 ⟨Nat.le_of_ble_eq_true rfl, Nat.le_of_ble_eq_true rfl⟩ (fun x_79 f_80 H locs hw hP hD hS => ?_)
        obtain ⟨hG, bx_79, hkc_81, hra_82, hfa_83⟩ := hw
        have hfo_85 : f_80 a_17 = .inl (cI, 1560, .inl g_76) := by rw [hkc_81 a_17 (by rw [ka_17]; decide) (by rw [ka_17]; decide) (by rw [ka_17]; decide) (by rw [ka_17]; decide) (by rw [ka_17]; decide) (by rw [ka_17]; decide) (by rw [ka_17]; decide) (by rw [ka_17]; decide) (by rw [ka_17]; decide)]; exact hfo_75
        have hfr0 : ∀ b, kd b ≠ 12 → kd b ≠ 579 → kd b ≠ 581 → kd b ≠ 583 → kd b ≠ 585 → kd b ≠ 587 → kd b ≠ 588 → kd b ≠ 589 → kd b ≠ 594 → f_80 b = f b := fun b q12 q579 q581 q583 q585 q587 q588 q589 q594 => (hkc_81 b q12 q579 q581 q583 q585 q587 q588 q589 q594).trans (hfr0 b q12 q579 q581 q583 q585 q587 q588 q589 q594)
        have hrA12 : ∀ b, kd b = 12 → ∀ j, fldR (f_80 b) j = fldR (f b) j := fun b kb j => (hra_82 b kb j).trans (hrA12 b kb j)
        have hfA12 : ∀ b, kd b = 12 → ∀ j, j ≠ 23 → j ≠ 35 → fldI (f_80 b) j = fldI (f b) j := fun b kb j n23 n35 => (hfa_83 b kb j n23 n35).trans (hfA12 b kb j n23 n35)
        obtain ⟨v_86, v_87, hfo_88, fa_89⟩ := op12_23_35 hfo_73 (hG _ mo0) ko0 (hra_82 o0 ko0) (hfa_83 o0 ko0)
        have bv_86 : (0 ≤ v_86.toInt ∧ v_86.toInt ≤ 12) := fa12_23 fa_89
        have bv_87 : (0 ≤ v_87.toInt ∧ v_87.toInt ≤ 8) := fa12_35 fa_89
        refine lv_if_ne (tgt := 24) hx hb dX12_firstWrong_19 (by decide) (fun c_90 => ?_) (fun c_90 => ?_)
        · skip
          rw [← Int32.toInt_inj, ti_0] at c_90
          obtain ⟨x_91, ex_91⟩ : ∃ y : Int32, y_14 + 1 = y := ⟨_, rfl⟩
          have hx_91 : x_91.toInt = y_14.toInt + 1 := by rw [← ex_91, ad_I (by rw [ti_1]; omega) (by rw [ti_1]; omega), ti_1]
          have bx_91 : (1 ≤ x_91.toInt ∧ x_91.toInt ≤ 12) := by constructor <;> omega
          refine lv_iinc (v := x_91) (lv' := [(2, .int x_91), (0, .ref o0), (1, .int p1)]) hx hb dX12_firstWrong_24 hl (k := 0) rfl ex_91 (by decide) rfl (fun ls hl => ?_)
          refine lv_goto (tgt := 2) hx hb dX12_firstWrong_27 (by decide) ?_
          exact ih_hloop_13 x_91 (by constructor <;> omega) f_80 hG _ _ hP hS hD hfr0 hrA12 hfA12 (by omega) ls (lv_sub hl [0, 1, 2] rfl)
        · skip
          rw [← Int32.toInt_inj, ti_0] at c_90
          refine lv_iload_n hx hb dX12_firstWrong_22 rfl (lv_at hl 0 rfl) ?_
          exact W.iret (v := y_14) hx hb hr (fun t ht hW => ⟨⟨y_14, f_80, rfl, ⟨hG, (by constructor <;> omega), hfr0, hrA12, hfA12⟩, by rw [ht]; exact hP, va_K.moved hW.alike hK, pl_in hD⟩, hS.F ht⟩) hS.2.2 dX12_firstWrong_23
  exact hloop_13 13 0 (by decide) f hG _ _ hP hS hD hfr0 hrA12 hfA12 (by (try rw [ti_0]) <;> omega) ls hl
set_option maxHeartbeats 8000000 in
set_option maxRecDepth 100000 in
theorem s_X12_fits_k12 (l : Launch) (D : va_G) (cI cL cZ cR cG cH : ClassId) (Z : zT) (kd : Nat → Nat) (L : List Nat) (f : Nat → va_E) (hG : GI (okc cI cL cZ cR cG cH L kd) kd L f) (o0 : Nat) (mo0 : o0 ∈ L) (ko0 : kd o0 = 12) (p1 : Int32) : mPI l D cI cL cZ cR cG cH Z yX12_fits cX12_fits 2 (some .int) 23 631 [.ref o0, .int p1] L f (fun (r : Int32) (f9 : Nat → va_E) => GI (okc cI cL cZ cR cG cH L kd) kd L f9 ∧ ((-2147483648) ≤ r.toInt ∧ r.toInt ≤ 2147483647) ∧ (∀ b, kd b ≠ 12 → kd b ≠ 579 → kd b ≠ 581 → kd b ≠ 583 → kd b ≠ 585 → kd b ≠ 587 → kd b ≠ 588 → kd b ≠ 589 → kd b ≠ 594 → f9 b = f b) ∧ (∀ b, kd b = 12 → ∀ j, fldR (f9 b) j = fldR (f b) j) ∧ (∀ b, kd b = 12 → ∀ j, j ≠ 23 → j ≠ 35 → fldI (f9 b) j = fldI (f b) j)) := by
  obtain ⟨dC, dI⟩ := D
  refine Met.ofW (cc := cX12_fits) (maxL := 2) (ret := (some .int)) (by decide) rfl ?_
  intro p e s m args below meth c s₁ B hml hv
  obtain ⟨rfl, hP, hK, hD0, hN, hZ⟩ := hv
  have hx := B.exec
  have hb := B.bytes
  have hr := B.returns
  have hU : ∀ w ∈ wsU, w.before _ s = true := fun w h => atoms_spec (ws := wU yX12_fits cX12_fits 2 (some .int)) B.pre w (List.mem_cons_of_mem _ h)
  have hown : s.vm.findClass RX12 = some m.cls := findClass_of_methodNamed B.named
  have hlocks := B.notSynchronized
  have hD := pl_in hD0
  have hS : va_S (fun q => q ∈ L) s.heap s.heap [] := va_S.rf
  have hl := lv_entry ([.ref o0, .int p1]) (n := 2) (Nat.le_of_ble_eq_true rfl)
  rw [lg_entry_eq]
  generalize (lg_sl ([.ref o0, .int p1]) ++ List.replicate (2 - (lg_sl ([.ref o0, .int p1])).length) Slot.unset).toArray = ls at hl ⊢
  have hl : lv_has ls 2 [(0, .ref o0), (1, .int p1)] := hl
  have bp1 : ((-2147483648) ≤ p1.toInt ∧ p1.toInt ≤ 2147483647) := ⟨i32_lo _, i32_hi _⟩
  have hfr0 : ∀ b, kd b ≠ 12 → kd b ≠ 579 → kd b ≠ 581 → kd b ≠ 583 → kd b ≠ 585 → kd b ≠ 587 → kd b ≠ 588 → kd b ≠ 589 → kd b ≠ 594 → f b = f b := fun _ _ _ _ _ _ _ _ _ _ => rfl
  have hrA12 : ∀ b, kd b = 12 → ∀ j, fldR (f b) j = fldR (f b) j := fun _ _ _ => rfl
  have hfA12 : ∀ b, kd b = 12 → ∀ j, j ≠ 23 → j ≠ 35 → fldI (f b) j = fldI (f b) j := fun _ _ _ _ _ => rfl
  refine lv_iload_n hx hb dX12_fits_0 rfl (lv_at hl 1 rfl) ?_
  refine lv_iconst (v := 0) hx hb dX12_fits_1 (by decide) ?_
  refine lv_aload_n hx hb dX12_fits_2 rfl (lv_at hl 0 rfl) ?_
  obtain ⟨a_1, a_2, a_3, v_4, a_5, v_6, v_7, v_8, v_9, v_10, v_11, v_12, v_13, v_14, v_15, a_16, a_17, a_18, a_19, a_20, a_21, a_22, a_23, v_24, v_25, v_26, v_27, v_28, a_29, v_30, a_31, a_32, v_33, v_34, a_35, v_36, a_37, a_38, v_39, v_40, a_41, a_42, a_43, v_44, a_45, a_46, a_47, a_48, a_49, a_50, a_51, a_52, a_53, v_54, v_55, a_56, hfo_57, fa_58⟩ := un12 (hG _ mo0) ko0
  refine tk_ViP (As := []) (rest := [.int 0, .int p1]) (n := 0) hx hb hml hown hU hN hZ (s_X12_allRules_k12 l (dC, dI) cI cL cZ cR cG cH Z kd L f hG o0 mo0 ko0) wd_686 wd_687 wd_688 wd_5 wd_689 (by decide +kernel) ⟨Nat.le_of_ble_eq_true rfl, Nat.le_of_ble_eq_true rfl⟩ hK hP hD hS mo0 hfo_57 12 rfl rfl rfl hl.1 rfl (Nat.le_of_ble_eq_true rfl) dX12_fits_3 ⟨Nat.le_of_ble_eq_true rfl, Nat.le_of_ble_eq_true rfl⟩ (fun x_59 f_60 H locs hw hP hD hS => ?_)
  obtain ⟨rfl, bx_59⟩ := hw
  refine tk_SiP (As := [.int p1, .int 0, .int x_59]) (rest := []) (n := 3) hx hb hml hown hU hN hZ (s_X12_isIn l (dC, dI) cI cL cZ cR cG cH Z kd L f hG p1 0 x_59) wd_227 wd_228 wd_5 wd_229 (by decide +kernel) ⟨Nat.le_of_ble_eq_true rfl, Nat.le_of_ble_eq_true rfl⟩ hK hP hD hS rfl hl.1 rfl (Nat.le_of_ble_eq_true rfl) dX12_fits_6 ⟨Nat.le_of_ble_eq_true rfl, Nat.le_of_ble_eq_true rfl⟩ (fun x_62 f_63 H locs hw hP hD hS => ?_)
  obtain ⟨rfl, bx_62, relx_62⟩ := hw
  try rw [ti_0] at relx_62
  refine lv_if_ne (tgt := 16) hx hb dX12_fits_9 (by decide) (fun c_65 => ?_) (fun c_65 => ?_)
  · skip
    rw [← Int32.toInt_inj, ti_0] at c_65
    refine lv_aload_n hx hb dX12_fits_16 rfl (lv_at hl 0 rfl) ?_
    refine lv_iload_n hx hb dX12_fits_17 rfl (lv_at hl 1 rfl) ?_
    refine tk_ViP (As := [.int p1]) (rest := []) (n := 1) hx hb hml hown hU hN hZ (s_X12_firstWrong_k12 l (dC, dI) cI cL cZ cR cG cH Z kd L f hG o0 mo0 ko0 p1) wd_1424 wd_1425 wd_1426 wd_5 wd_1427 (by decide +kernel) ⟨Nat.le_of_ble_eq_true rfl, Nat.le_of_ble_eq_true rfl⟩ hK hP hD hS mo0 hfo_57 12 rfl rfl rfl hl.1 rfl (Nat.le_of_ble_eq_true rfl) dX12_fits_18 ⟨Nat.le_of_ble_eq_true rfl, Nat.le_of_ble_eq_true rfl⟩ (fun x_66 f_67 H locs hw hP hD hS => ?_)
    obtain ⟨hG, bx_66, hkc_68, hra_69, hfa_70⟩ := hw
    have hfr0 : ∀ b, kd b ≠ 12 → kd b ≠ 579 → kd b ≠ 581 → kd b ≠ 583 → kd b ≠ 585 → kd b ≠ 587 → kd b ≠ 588 → kd b ≠ 589 → kd b ≠ 594 → f_67 b = f b := fun b q12 q579 q581 q583 q585 q587 q588 q589 q594 => (hkc_68 b q12 q579 q581 q583 q585 q587 q588 q589 q594).trans (hfr0 b q12 q579 q581 q583 q585 q587 q588 q589 q594)
    have hrA12 : ∀ b, kd b = 12 → ∀ j, fldR (f_67 b) j = fldR (f b) j := fun b kb j => (hra_69 b kb j).trans (hrA12 b kb j)
    have hfA12 : ∀ b, kd b = 12 → ∀ j, j ≠ 23 → j ≠ 35 → fldI (f_67 b) j = fldI (f b) j := fun b kb j n23 n35 => (hfa_70 b kb j n23 n35).trans (hfA12 b kb j n23 n35)
    obtain ⟨v_72, v_73, hfo_74, fa_75⟩ := op12_23_35 hfo_57 (hG _ mo0) ko0 (hra_69 o0 ko0) (hfa_70 o0 ko0)
    have bv_72 : (0 ≤ v_72.toInt ∧ v_72.toInt ≤ 12) := fa12_23 fa_75
    have bv_73 : (0 ≤ v_73.toInt ∧ v_73.toInt ≤ 8) := fa12_35 fa_75
    refine lv_iconst (v := (-1)) hx hb dX12_fits_21 (by decide) ?_
    refine lv_icmp_ne (tgt := 29) hx hb dX12_fits_22 (by decide) (fun c_76 => ?_) (fun c_76 => ?_)
    · skip
      rw [← Int32.toInt_inj, ti_m1] at c_76
      refine lv_iconst (v := 0) hx hb dX12_fits_29 (by decide) ?_
      exact W.iret (v := 0) hx hb hr (fun t ht hW => ⟨⟨0, f_67, rfl, ⟨hG, (by decide), hfr0, hrA12, hfA12⟩, by rw [ht]; exact hP, va_K.moved hW.alike hK, pl_in hD⟩, hS.F ht⟩) hS.2.2 dX12_fits_30
    · skip
      rw [← Int32.toInt_inj, ti_m1] at c_76
      refine lv_iconst (v := 1) hx hb dX12_fits_25 (by decide) ?_
      refine lv_goto (tgt := 30) hx hb dX12_fits_26 (by decide) ?_
      exact W.iret (v := 1) hx hb hr (fun t ht hW => ⟨⟨1, f_67, rfl, ⟨hG, (by decide), hfr0, hrA12, hfA12⟩, by rw [ht]; exact hP, va_K.moved hW.alike hK, pl_in hD⟩, hS.F ht⟩) hS.2.2 dX12_fits_30
  · skip
    rw [← Int32.toInt_inj, ti_0] at c_65
    refine lv_iconst (v := (-1)) hx hb dX12_fits_12 (by decide) ?_
    refine lv_goto (tgt := 30) hx hb dX12_fits_13 (by decide) ?_
    exact W.iret (v := (-1)) hx hb hr (fun t ht hW => ⟨⟨(-1), f, rfl, ⟨hG, (by decide), hfr0, hrA12, hfA12⟩, by rw [ht]; exact hP, va_K.moved hW.alike hK, pl_in hD⟩, hS.F ht⟩) hS.2.2 dX12_fits_30
set_option maxHeartbeats 8000000 in
set_option maxRecDepth 100000 in
theorem s_X12_learn_k12 (l : Launch) (D : va_G) (cI cL cZ cR cG cH : ClassId) (Z : zT) (kd : Nat → Nat) (L : List Nat) (f : Nat → va_E) (hG : GI (okc cI cL cZ cR cG cH L kd) kd L f) (o0 : Nat) (mo0 : o0 ∈ L) (ko0 : kd o0 = 12) : mPI l D cI cL cZ cR cG cH Z yX12_learn cX12_learn 3 (some .int) 23 631 [.ref o0] L f (fun (r : Int32) (f9 : Nat → va_E) => GI (okc cI cL cZ cR cG cH L kd) kd L f9 ∧ ((-1) ≤ r.toInt ∧ r.toInt ≤ 255) ∧ (∀ b, kd b ≠ 12 → kd b ≠ 579 → kd b ≠ 581 → kd b ≠ 583 → kd b ≠ 585 → kd b ≠ 587 → kd b ≠ 588 → kd b ≠ 589 → kd b ≠ 594 → f9 b = f b) ∧ (∀ b, kd b = 12 → ∀ j, fldR (f9 b) j = fldR (f b) j) ∧ (∀ b, kd b = 12 → ∀ j, j ≠ 23 → j ≠ 35 → fldI (f9 b) j = fldI (f b) j)) := by
  obtain ⟨dC, dI⟩ := D
  refine Met.ofW (cc := cX12_learn) (maxL := 3) (ret := (some .int)) (by decide) rfl ?_
  intro p e s m args below meth c s₁ B hml hv
  obtain ⟨rfl, hP, hK, hD0, hN, hZ⟩ := hv
  have hx := B.exec
  have hb := B.bytes
  have hr := B.returns
  have hU : ∀ w ∈ wsU, w.before _ s = true := fun w h => atoms_spec (ws := wU yX12_learn cX12_learn 3 (some .int)) B.pre w (List.mem_cons_of_mem _ h)
  have hown : s.vm.findClass RX12 = some m.cls := findClass_of_methodNamed B.named
  have hlocks := B.notSynchronized
  have hD := pl_in hD0
  have hS : va_S (fun q => q ∈ L) s.heap s.heap [] := va_S.rf
  have hl := lv_entry ([.ref o0]) (n := 3) (Nat.le_of_ble_eq_true rfl)
  rw [lg_entry_eq]
  generalize (lg_sl ([.ref o0]) ++ List.replicate (3 - (lg_sl ([.ref o0])).length) Slot.unset).toArray = ls at hl ⊢
  have hl : lv_has ls 3 [(0, .ref o0)] := hl
  have hfr0 : ∀ b, kd b ≠ 12 → kd b ≠ 579 → kd b ≠ 581 → kd b ≠ 583 → kd b ≠ 585 → kd b ≠ 587 → kd b ≠ 588 → kd b ≠ 589 → kd b ≠ 594 → f b = f b := fun _ _ _ _ _ _ _ _ _ _ => rfl
  have hrA12 : ∀ b, kd b = 12 → ∀ j, fldR (f b) j = fldR (f b) j := fun _ _ _ => rfl
  have hfA12 : ∀ b, kd b = 12 → ∀ j, j ≠ 23 → j ≠ 35 → fldI (f b) j = fldI (f b) j := fun _ _ _ _ _ => rfl
  refine lv_iconst (v := (-1)) hx hb dX12_learn_0 (by decide) ?_
  refine lv_istore_n (lv' := [(1, .int (-1)), (0, .ref o0)]) hx hb dX12_learn_1 rfl hl (by decide) rfl (fun ls hl => ?_)
  refine lv_iconst (v := 0) hx hb dX12_learn_2 (by decide) ?_
  refine lv_istore_n (lv' := [(2, .int 0), (1, .int (-1)), (0, .ref o0)]) hx hb dX12_learn_3 rfl hl (by decide) rfl (fun ls hl => ?_)
  have hloop_6 : ∀ (n : Nat), ∀ (y_7 : Int32), (0 ≤ y_7.toInt ∧ y_7.toInt ≤ 256) → ∀ (y_8 : Int32), ((-1) ≤ y_8.toInt ∧ y_8.toInt ≤ 255) → ∀ (f_10 : Nat → va_E), GI (okc cI cL cZ cR cG cH L kd) kd L f_10 → ∀ (H : Heap) (locs : List Loc), va_P (dC, dI) vwCl (va_pl L f_10) H → va_S (fun q => q ∈ L) s.heap H locs → va_D (fun q => q ∈ L) (va_pl L f_10) → (∀ b, kd b ≠ 12 → kd b ≠ 579 → kd b ≠ 581 → kd b ≠ 583 → kd b ≠ 585 → kd b ≠ 587 → kd b ≠ 588 → kd b ≠ 589 → kd b ≠ 594 → f_10 b = f b) → (∀ b, kd b = 12 → ∀ j, fldR (f_10 b) j = fldR (f b) j) → (∀ b, kd b = 12 → ∀ j, j ≠ 23 → j ≠ 35 → fldI (f_10 b) j = fldI (f b) j) → 256 - y_7.toInt < (n : Int) → ∀ (ls : Array Slot), lv_has ls 3 [(2, .int y_7), (1, .int y_8), (0, .ref o0)] → W p l e (headSpec (wU yX12_learn cX12_learn 3 (some .int)) { frames := 23, cells := 0, slots := 0, locals := 631 }).room s m [.ref o0].toArray below meth c H locs 0 0 (MQ below (va_Qi (fun (r : Int32) (f9 : Nat → va_E) => GI (okc cI cL cZ cR cG cH L kd) kd L f9 ∧ ((-1) ≤ r.toInt ∧ r.toInt ≤ 255) ∧ (∀ b, kd b ≠ 12 → kd b ≠ 579 → kd b ≠ 581 → kd b ≠ 583 → kd b ≠ 585 → kd b ≠ 587 → kd b ≠ 588 → kd b ≠ 589 → kd b ≠ 594 → f9 b = f b) ∧ (∀ b, kd b = 12 → ∀ j, fldR (f9 b) j = fldR (f b) j) ∧ (∀ b, kd b = 12 → ∀ j, j ≠ 23 → j ≠ 35 → fldI (f9 b) j = fldI (f b) j)) (qP (dC, dI) cI cL cZ cR cG cH L) (fun q => q ∈ L)) [.ref o0].toArray s 0 0 (fun q => q ∈ L)) (F0 m 4 ls []) := by
    intro n
    induction n with
    | zero => intro y_7 by_7 y_8 by_8 f_10 hG H locs hP hS hD hfr0 hrA12 hfA12 hmuhloop_6 ls hl; exfalso; omega
    | succ n ih_hloop_6 =>
      intro y_7 by_7 y_8 by_8 f_10 hG H locs hP hS hD hfr0 hrA12 hfA12 hmuhloop_6 ls hl
      refine lv_iload_n hx hb dX12_learn_4 rfl (lv_at hl 0 rfl) ?_
      refine lv_aload_n hx hb dX12_learn_5 rfl (lv_at hl 2 rfl) ?_
      obtain ⟨a_11, a_12, a_13, v_14, a_15, v_16, v_17, v_18, v_19, v_20, v_21, v_22, v_23, v_24, v_25, a_26, a_27, a_28, a_29, a_30, a_31, a_32, a_33, v_34, v_35, v_36, v_37, v_38, a_39, v_40, a_41, a_42, v_43, v_44, a_45, v_46, a_47, a_48, v_49, v_50, a_51, a_52, a_53, v_54, a_55, a_56, a_57, a_58, a_59, a_60, a_61, a_62, a_63, v_64, v_65, a_66, hfo_67, fa_68⟩ := un12 (hG _ mo0) ko0
      refine tk_ViP (As := []) (rest := [.int y_7]) (n := 0) hx hb hml hown hU hN hZ (s_X12_allRules_k12 l (dC, dI) cI cL cZ cR cG cH Z kd L f_10 hG o0 mo0 ko0) wd_686 wd_687 wd_688 wd_5 wd_689 (by decide +kernel) ⟨Nat.le_of_ble_eq_true rfl, Nat.le_of_ble_eq_true rfl⟩ hK hP hD hS mo0 hfo_67 12 rfl rfl rfl hl.1 rfl (Nat.le_of_ble_eq_true rfl) dX12_learn_6 ⟨Nat.le_of_ble_eq_true rfl, Nat.le_of_ble_eq_true rfl⟩ (fun x_69 f_70 H locs hw hP hD hS => ?_)
      obtain ⟨rfl, bx_69⟩ := hw
      refine lv_icmp_gt (tgt := 45) hx hb dX12_learn_9 (by decide) (fun c_72 => ?_) (fun c_72 => ?_)
      · skip
        rw [Int32.lt_iff_toInt_lt] at c_72
        refine lv_iload_n hx hb dX12_learn_45 rfl (lv_at hl 1 rfl) ?_
        exact W.iret (v := y_8) hx hb hr (fun t ht hW => ⟨⟨y_8, f_10, rfl, ⟨hG, (by constructor <;> omega), hfr0, hrA12, hfA12⟩, by rw [ht]; exact hP, va_K.moved hW.alike hK, pl_in hD⟩, hS.F ht⟩) hS.2.2 dX12_learn_46
      · skip
        rw [Int32.lt_iff_toInt_lt] at c_72
        refine lv_iload_n hx hb dX12_learn_12 rfl (lv_at hl 1 rfl) ?_
        refine lv_iconst (v := (-1)) hx hb dX12_learn_13 (by decide) ?_
        have hcut_76 : ∀ (y_73 : Int32), ((-1) ≤ y_73.toInt ∧ y_73.toInt ≤ 255) → ∀ (f_75 : Nat → va_E), GI (okc cI cL cZ cR cG cH L kd) kd L f_75 → ∀ (H : Heap) (locs : List Loc), va_P (dC, dI) vwCl (va_pl L f_75) H → va_S (fun q => q ∈ L) s.heap H locs → va_D (fun q => q ∈ L) (va_pl L f_75) → (∀ b, kd b ≠ 12 → kd b ≠ 579 → kd b ≠ 581 → kd b ≠ 583 → kd b ≠ 585 → kd b ≠ 587 → kd b ≠ 588 → kd b ≠ 589 → kd b ≠ 594 → f_75 b = f b) → (∀ b, kd b = 12 → ∀ j, fldR (f_75 b) j = fldR (f b) j) → (∀ b, kd b = 12 → ∀ j, j ≠ 23 → j ≠ 35 → fldI (f_75 b) j = fldI (f b) j) → ∀ (ls : Array Slot), lv_has ls 3 [(2, .int y_7), (1, .int y_73), (0, .ref o0)] → W p l e (headSpec (wU yX12_learn cX12_learn 3 (some .int)) { frames := 23, cells := 0, slots := 0, locals := 631 }).room s m [.ref o0].toArray below meth c H locs 0 0 (MQ below (va_Qi (fun (r : Int32) (f9 : Nat → va_E) => GI (okc cI cL cZ cR cG cH L kd) kd L f9 ∧ ((-1) ≤ r.toInt ∧ r.toInt ≤ 255) ∧ (∀ b, kd b ≠ 12 → kd b ≠ 579 → kd b ≠ 581 → kd b ≠ 583 → kd b ≠ 585 → kd b ≠ 587 → kd b ≠ 588 → kd b ≠ 589 → kd b ≠ 594 → f9 b = f b) ∧ (∀ b, kd b = 12 → ∀ j, fldR (f9 b) j = fldR (f b) j) ∧ (∀ b, kd b = 12 → ∀ j, j ≠ 23 → j ≠ 35 → fldI (f9 b) j = fldI (f b) j)) (qP (dC, dI) cI cL cZ cR cG cH L) (fun q => q ∈ L)) [.ref o0].toArray s 0 0 (fun q => q ∈ L)) (F0 m 39 ls []) := by
          intro y_73 by_73 f_75 hG H locs hP hS hD hfr0 hrA12 hfA12 ls hl
          obtain ⟨x_77, ex_77⟩ : ∃ y : Int32, y_7 + 1 = y := ⟨_, rfl⟩
          have hx_77 : x_77.toInt = y_7.toInt + 1 := by rw [← ex_77, ad_I (by rw [ti_1]; omega) (by rw [ti_1]; omega), ti_1]
          have bx_77 : (1 ≤ x_77.toInt ∧ x_77.toInt ≤ 256) := by constructor <;> omega
          refine lv_iinc (v := x_77) (lv' := [(2, .int x_77), (1, .int y_73), (0, .ref o0)]) hx hb dX12_learn_39 hl (k := 0) rfl ex_77 (by decide) rfl (fun ls hl => ?_)
          refine lv_goto (tgt := 4) hx hb dX12_learn_42 (by decide) ?_
          exact ih_hloop_6 x_77 (by constructor <;> omega) y_73 (by constructor <;> omega) f_75 hG _ _ hP hS hD hfr0 hrA12 hfA12 (by omega) ls (lv_sub hl [0, 1, 2] rfl)
        refine lv_icmp_eq (tgt := 28) hx hb dX12_learn_14 (by decide) (fun c_78 => ?_) (fun c_78 => ?_)
        · skip
          rw [← Int32.toInt_inj, ti_m1] at c_78
          refine lv_aload_n hx hb dX12_learn_28 rfl (lv_at hl 2 rfl) ?_
          refine lv_iload_n hx hb dX12_learn_29 rfl (lv_at hl 0 rfl) ?_
          refine tk_ViP (As := [.int y_7]) (rest := []) (n := 1) hx hb hml hown hU hN hZ (s_X12_firstWrong_k12 l (dC, dI) cI cL cZ cR cG cH Z kd L f_10 hG o0 mo0 ko0 y_7) wd_1424 wd_1425 wd_1426 wd_5 wd_1427 (by decide +kernel) ⟨Nat.le_of_ble_eq_true rfl, Nat.le_of_ble_eq_true rfl⟩ hK hP hD hS mo0 hfo_67 12 rfl rfl rfl hl.1 rfl (Nat.le_of_ble_eq_true rfl) dX12_learn_30 ⟨Nat.le_of_ble_eq_true rfl, Nat.le_of_ble_eq_true rfl⟩ (fun x_79 f_80 H locs hw hP hD hS => ?_)
          obtain ⟨hG, bx_79, hkc_81, hra_82, hfa_83⟩ := hw
          have hfr0 : ∀ b, kd b ≠ 12 → kd b ≠ 579 → kd b ≠ 581 → kd b ≠ 583 → kd b ≠ 585 → kd b ≠ 587 → kd b ≠ 588 → kd b ≠ 589 → kd b ≠ 594 → f_80 b = f b := fun b q12 q579 q581 q583 q585 q587 q588 q589 q594 => (hkc_81 b q12 q579 q581 q583 q585 q587 q588 q589 q594).trans (hfr0 b q12 q579 q581 q583 q585 q587 q588 q589 q594)
          have hrA12 : ∀ b, kd b = 12 → ∀ j, fldR (f_80 b) j = fldR (f b) j := fun b kb j => (hra_82 b kb j).trans (hrA12 b kb j)
          have hfA12 : ∀ b, kd b = 12 → ∀ j, j ≠ 23 → j ≠ 35 → fldI (f_80 b) j = fldI (f b) j := fun b kb j n23 n35 => (hfa_83 b kb j n23 n35).trans (hfA12 b kb j n23 n35)
          obtain ⟨v_85, v_86, hfo_87, fa_88⟩ := op12_23_35 hfo_67 (hG _ mo0) ko0 (hra_82 o0 ko0) (hfa_83 o0 ko0)
          have bv_85 : (0 ≤ v_85.toInt ∧ v_85.toInt ≤ 12) := fa12_23 fa_88
          have bv_86 : (0 ≤ v_86.toInt ∧ v_86.toInt ≤ 8) := fa12_35 fa_88
          refine lv_iconst (v := (-1)) hx hb dX12_learn_33 (by decide) ?_
          refine lv_icmp_ne (tgt := 39) hx hb dX12_learn_34 (by decide) (fun c_89 => ?_) (fun c_89 => ?_)
          · skip
            rw [← Int32.toInt_inj, ti_m1] at c_89
            exact hcut_76 y_8 (by constructor <;> omega) f_80 hG _ _ hP hS hD hfr0 hrA12 hfA12 ls (lv_sub hl [0, 1, 2] rfl)
          · skip
            rw [← Int32.toInt_inj, ti_m1] at c_89
            refine lv_iload_n hx hb dX12_learn_37 rfl (lv_at hl 0 rfl) ?_
            refine lv_istore_n (lv' := [(1, .int y_7), (2, .int y_7), (0, .ref o0)]) hx hb dX12_learn_38 rfl hl (by decide) rfl (fun ls hl => ?_)
            exact hcut_76 y_7 (by constructor <;> omega) f_80 hG _ _ hP hS hD hfr0 hrA12 hfA12 ls (lv_sub hl [1, 0, 2] rfl)
        · skip
          rw [← Int32.toInt_inj, ti_m1] at c_78
          refine lv_iload_n hx hb dX12_learn_17 rfl (lv_at hl 0 rfl) ?_
          refine tk_SiP (As := [.int y_7]) (rest := []) (n := 1) hx hb hml hown hU hN hZ (s_X12_count l (dC, dI) cI cL cZ cR cG cH Z kd L f_10 hG y_7) wd_1380 wd_1381 wd_5 wd_1382 (by decide +kernel) ⟨Nat.le_of_ble_eq_true rfl, Nat.le_of_ble_eq_true rfl⟩ hK hP hD hS rfl hl.1 rfl (Nat.le_of_ble_eq_true rfl) dX12_learn_18 ⟨Nat.le_of_ble_eq_true rfl, Nat.le_of_ble_eq_true rfl⟩ (fun x_90 f_91 H locs hw hP hD hS => ?_)
          obtain ⟨rfl, bx_90⟩ := hw
          refine lv_iload_n hx hb dX12_learn_21 rfl (lv_at hl 1 rfl) ?_
          refine tk_SiP (As := [.int y_8]) (rest := [.int x_90]) (n := 1) hx hb hml hown hU hN hZ (s_X12_count l (dC, dI) cI cL cZ cR cG cH Z kd L f_10 hG y_8) wd_1380 wd_1381 wd_5 wd_1382 (by decide +kernel) ⟨Nat.le_of_ble_eq_true rfl, Nat.le_of_ble_eq_true rfl⟩ hK hP hD hS rfl hl.1 rfl (Nat.le_of_ble_eq_true rfl) dX12_learn_22 ⟨Nat.le_of_ble_eq_true rfl, Nat.le_of_ble_eq_true rfl⟩ (fun x_93 f_94 H locs hw hP hD hS => ?_)
          obtain ⟨rfl, bx_93⟩ := hw
          refine lv_icmp_ge (tgt := 39) hx hb dX12_learn_25 (by decide) (fun c_96 => ?_) (fun c_96 => ?_)
          · skip
            rw [Int32.le_iff_toInt_le] at c_96
            exact hcut_76 y_8 (by constructor <;> omega) f_10 hG _ _ hP hS hD hfr0 hrA12 hfA12 ls (lv_sub hl [0, 1, 2] rfl)
          · skip
            rw [Int32.le_iff_toInt_le] at c_96
            refine lv_aload_n hx hb dX12_learn_28 rfl (lv_at hl 2 rfl) ?_
            refine lv_iload_n hx hb dX12_learn_29 rfl (lv_at hl 0 rfl) ?_
            refine tk_ViP (As := [.int y_7]) (rest := []) (n := 1) hx hb hml hown hU hN hZ (s_X12_firstWrong_k12 l (dC, dI) cI cL cZ cR cG cH Z kd L f_10 hG o0 mo0 ko0 y_7) wd_1424 wd_1425 wd_1426 wd_5 wd_1427 (by decide +kernel) ⟨Nat.le_of_ble_eq_true rfl, Nat.le_of_ble_eq_true rfl⟩ hK hP hD hS mo0 hfo_67 12 rfl rfl rfl hl.1 rfl (Nat.le_of_ble_eq_true rfl) dX12_learn_30 ⟨Nat.le_of_ble_eq_true rfl, Nat.le_of_ble_eq_true rfl⟩ (fun x_97 f_98 H locs hw hP hD hS => ?_)
            obtain ⟨hG, bx_97, hkc_99, hra_100, hfa_101⟩ := hw
            have hfr0 : ∀ b, kd b ≠ 12 → kd b ≠ 579 → kd b ≠ 581 → kd b ≠ 583 → kd b ≠ 585 → kd b ≠ 587 → kd b ≠ 588 → kd b ≠ 589 → kd b ≠ 594 → f_98 b = f b := fun b q12 q579 q581 q583 q585 q587 q588 q589 q594 => (hkc_99 b q12 q579 q581 q583 q585 q587 q588 q589 q594).trans (hfr0 b q12 q579 q581 q583 q585 q587 q588 q589 q594)
            have hrA12 : ∀ b, kd b = 12 → ∀ j, fldR (f_98 b) j = fldR (f b) j := fun b kb j => (hra_100 b kb j).trans (hrA12 b kb j)
            have hfA12 : ∀ b, kd b = 12 → ∀ j, j ≠ 23 → j ≠ 35 → fldI (f_98 b) j = fldI (f b) j := fun b kb j n23 n35 => (hfa_101 b kb j n23 n35).trans (hfA12 b kb j n23 n35)
            obtain ⟨v_103, v_104, hfo_105, fa_106⟩ := op12_23_35 hfo_67 (hG _ mo0) ko0 (hra_100 o0 ko0) (hfa_101 o0 ko0)
            have bv_103 : (0 ≤ v_103.toInt ∧ v_103.toInt ≤ 12) := fa12_23 fa_106
            have bv_104 : (0 ≤ v_104.toInt ∧ v_104.toInt ≤ 8) := fa12_35 fa_106
            refine lv_iconst (v := (-1)) hx hb dX12_learn_33 (by decide) ?_
            refine lv_icmp_ne (tgt := 39) hx hb dX12_learn_34 (by decide) (fun c_107 => ?_) (fun c_107 => ?_)
            · skip
              rw [← Int32.toInt_inj, ti_m1] at c_107
              exact hcut_76 y_8 (by constructor <;> omega) f_98 hG _ _ hP hS hD hfr0 hrA12 hfA12 ls (lv_sub hl [0, 1, 2] rfl)
            · skip
              rw [← Int32.toInt_inj, ti_m1] at c_107
              refine lv_iload_n hx hb dX12_learn_37 rfl (lv_at hl 0 rfl) ?_
              refine lv_istore_n (lv' := [(1, .int y_7), (2, .int y_7), (0, .ref o0)]) hx hb dX12_learn_38 rfl hl (by decide) rfl (fun ls hl => ?_)
              exact hcut_76 y_7 (by constructor <;> omega) f_98 hG _ _ hP hS hD hfr0 hrA12 hfA12 ls (lv_sub hl [1, 0, 2] rfl)
  exact hloop_6 257 0 (by decide) (-1) (by decide) f hG _ _ hP hS hD hfr0 hrA12 hfA12 (by (try rw [ti_0]) <;> (try rw [ti_m1]) <;> omega) ls hl
