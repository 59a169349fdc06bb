set_option maxHeartbeats 8000000 in
set_option maxRecDepth 100000 in
theorem s_X12_marksAll_k12 (l : Launch) (D : va_G) (cI cL cZ cR cG cH : ClassId) (Z : zT) (kd : Nat → Nat) (L : List Nat) (f : Nat → va_E) (hG : GI (okc cI cL cZ cR cG cH L kd) kd L f) (o0 : Nat) (mo0 : o0 ∈ L) (ko0 : kd o0 = 12) (p1 : Int32) (hpreo0 : ∀ (w23 : Int32) (w29 : Int32), fldI (f o0) 23 = some w23 → fldI (f o0) 29 = some w29 → w23.toInt ≤ 3 ∧ w29.toInt ≤ 200) (hxtr0 : srel kd 592 f o0) : mPV l D cI cL cZ cR cG cH Z yX12_marksAll cX12_marksAll 2 none 23 655 [.ref o0, .int p1] L f (fun (f9 : Nat → va_E) => GI (okc cI cL cZ cR cG cH L kd) kd L f9 ∧ (∀ b, kd b ≠ 12 → kd b ≠ 579 → kd b ≠ 581 → kd b ≠ 583 → kd b ≠ 585 → kd b ≠ 587 → kd b ≠ 588 → kd b ≠ 590 → kd b ≠ 591 → kd b ≠ 592 → kd b ≠ 593 → kd b ≠ 603 → f9 b = f b) ∧ (∀ b, kd b = 12 → ∀ j, fldR (f9 b) j = fldR (f b) j) ∧ (∀ b, kd b = 12 → ∀ j, j ≠ 25 → j ≠ 27 → j ≠ 29 → j ≠ 32 → j ≠ 33 → fldI (f9 b) j = fldI (f b) j) ∧ (∀ (w29 z29 : Int32), fldI (f o0) 29 = some w29 → fldI (f9 o0) 29 = some z29 → z29.toInt = w29.toInt) ∧ (srel kd 592 f9 o0)) := by
  obtain ⟨dC, dI⟩ := D
  refine Met.ofW (cc := cX12_marksAll) (maxL := 2) (ret := none) (by decide) rfl ?_
  intro p e s m args below meth c s₁ B hml hv
  obtain ⟨rfl, hP, hK, hD0, hN, hZ⟩ := hv
  have hx := B.exec
  have hb := B.bytes
  have hr := B.returns
  have hU : ∀ w ∈ wsU, w.before _ s = true := fun w h => atoms_spec (ws := wU yX12_marksAll cX12_marksAll 2 none) B.pre w (List.mem_cons_of_mem _ h)
  have hown : s.vm.findClass RX12 = some m.cls := findClass_of_methodNamed B.named
  have hlocks := B.notSynchronized
  have hD := pl_in hD0
  have hS : va_S (fun q => q ∈ L) s.heap s.heap [] := va_S.rf
  have hl := lv_entry ([.ref o0, .int p1]) (n := 2) (Nat.le_of_ble_eq_true rfl)
  rw [lg_entry_eq]
  generalize (lg_sl ([.ref o0, .int p1]) ++ List.replicate (2 - (lg_sl ([.ref o0, .int p1])).length) Slot.unset).toArray = ls at hl ⊢
  have hl : lv_has ls 2 [(0, .ref o0), (1, .int p1)] := hl
  have bp1 : ((-2147483648) ≤ p1.toInt ∧ p1.toInt ≤ 2147483647) := ⟨i32_lo _, i32_hi _⟩
  have hfr0 : ∀ b, kd b ≠ 12 → kd b ≠ 579 → kd b ≠ 581 → kd b ≠ 583 → kd b ≠ 585 → kd b ≠ 587 → kd b ≠ 588 → kd b ≠ 590 → kd b ≠ 591 → kd b ≠ 592 → kd b ≠ 593 → kd b ≠ 603 → f b = f b := fun _ _ _ _ _ _ _ _ _ _ _ _ _ => rfl
  have hrA12 : ∀ b, kd b = 12 → ∀ j, fldR (f b) j = fldR (f b) j := fun _ _ _ => rfl
  have hfA12 : ∀ b, kd b = 12 → ∀ j, j ≠ 25 → j ≠ 27 → j ≠ 29 → j ≠ 32 → j ≠ 33 → fldI (f b) j = fldI (f b) j := fun _ _ _ _ _ _ _ _ => rfl
  obtain ⟨a_1, a_2, a_3, v_4, a_5, v_6, v_7, v_8, v_9, v_10, v_11, v_12, v_13, v_14, v_15, a_16, a_17, a_18, a_19, a_20, a_21, a_22, a_23, v_24, v_25, v_26, v_27, v_28, a_29, v_30, a_31, a_32, v_33, v_34, a_35, v_36, a_37, a_38, v_39, v_40, a_41, a_42, a_43, v_44, a_45, a_46, a_47, a_48, a_49, a_50, a_51, a_52, a_53, v_54, v_55, a_56, hfo_57, fa_58⟩ := un12 (hG _ mo0) ko0
  obtain ⟨ma_1, ka_1⟩ := fa12_0 fa_58
  have bv_24 : (0 ≤ v_24.toInt ∧ v_24.toInt ≤ 12) := fa12_23 fa_58
  have bv_26 : (0 ≤ v_26.toInt ∧ v_26.toInt ≤ 4) := fa12_25 fa_58
  have bv_28 : (0 ≤ v_28.toInt ∧ v_28.toInt ≤ 1) := fa12_27 fa_58
  have bv_30 : (0 ≤ v_30.toInt ∧ v_30.toInt ≤ 201) := fa12_29 fa_58
  obtain ⟨ma_31, ka_31⟩ := fa12_30 fa_58
  have bv_34 : ((-2147483648) ≤ v_34.toInt ∧ v_34.toInt ≤ 2147483647) := ⟨i32_lo _, i32_hi _⟩
  have hpo0 := hpreo0 v_24 v_30 (by rw [hfo_57]; rfl) (by rw [hfo_57]; rfl)
  have hT0 := hxtr0
  refine lv_aload_n hx hb dX12_marksAll_0 rfl (lv_at hl 0 rfl) ?_
  refine lv_dup hx hb dX12_marksAll_1 rfl ?_
  refine tk_getP (D := (dC, dI)) (ci := 12) (v := .int v_34) (C := RX12) (T := TX12) (N := 56) hx hb hU inlX12 hown hK hP mo0 hfo_57 rfl 33 (by decide) (hU _ wd_920) (fun _ h9 => h9) rfl dX12_marksAll_2 ?_
  refine lv_iconst (v := 1) hx hb dX12_marksAll_5 (by decide) ?_
  refine lv_iadd hx hb dX12_marksAll_6 ?_
  refine lv_topi (fun x_59 ex_59 => ?_)
  have bx_59 : ((-2147483648) ≤ x_59.toInt ∧ x_59.toInt ≤ 2147483647) := ⟨i32_lo _, i32_hi _⟩
  refine tk_putP (D := (dC, dI)) (ci := 12) (v := .int x_59) (ty := .int) (C := RX12) (T := TX12) (N := 56) hx hb hU inlX12 tyX12 tyX12_ok nmX12 hown hK hP hD hS mo0 hfo_57 rfl 33 (by decide) (hU _ wd_920) (fun _ h9 => h9) rfl (by decide +kernel) rfl rfl (Nat.le_of_ble_eq_true rfl) dX12_marksAll_7 (fun H locs hP hD hS => ?_)
  have fa_60 := fu12_33 (y := x_59) fa_58
  obtain ⟨f_62, ef_62⟩ : ∃ y : Nat → va_E, y = va_up f o0 (.inr (12, [.ref a_1, .ref a_2, .ref a_3, .int v_4, .ref a_5, .int v_6, .int v_7, .int v_8, .int v_9, .int v_10, .int v_11, .int v_12, .int v_13, .int v_14, .int v_15, .ref a_16, .ref a_17, .ref a_18, .ref a_19, .ref a_20, .ref a_21, .ref a_22, .ref a_23, .int v_24, .int v_25, .int v_26, .int v_27, .int v_28, .ref a_29, .int v_30, .ref a_31, .ref a_32, .int v_33, .int x_59, .ref a_35, .int v_36, .ref a_37, .ref a_38, .int v_39, .int v_40, .ref a_41, .ref a_42, .ref a_43, .int v_44, .ref a_45, .ref a_46, .ref a_47, .ref a_48, .ref a_49, .ref a_50, .ref a_51, .ref a_52, .ref a_53, .int v_54, .int v_55, .ref a_56])) := ⟨_, rfl⟩
  have hP : va_P (dC, dI) vwCl (va_pl L f_62) H := by rw [ef_62]; exact hP
  have hD : va_D (fun q => q ∈ L) (va_pl L f_62) := by rw [ef_62]; exact hD
  have hG : GI (okc cI cL cZ cR cG cH L kd) kd L f_62 := by rw [ef_62]; exact hG.set o0 (mk_12 ko0 (fo12 fa_60))
  have hfr0 : ∀ b, kd b ≠ 12 → kd b ≠ 579 → kd b ≠ 581 → kd b ≠ 583 → kd b ≠ 585 → kd b ≠ 587 → kd b ≠ 588 → kd b ≠ 590 → kd b ≠ 591 → kd b ≠ 592 → kd b ≠ 593 → kd b ≠ 603 → f_62 b = f b := fun b q12 q579 q581 q583 q585 q587 q588 q590 q591 q592 q593 q603 => (congrFun ef_62 b).trans ((up_ne (fun e9 => q12 (by rw [e9]; exact ko0))).trans (hfr0 b q12 q579 q581 q583 q585 q587 q588 q590 q591 q592 q593 q603))
  have hrA12 : ∀ b, kd b = 12 → ∀ j, fldR (f_62 b) j = fldR (f b) j := fun b kb j => ((congrArg (fun x => fldR x j) (congrFun ef_62 b)).trans (fra_up (fun j => by rw [hfo_57]; exact fr_set (k := 33) rfl rfl) j b)).trans (hrA12 b kb j)
  have hfA12 : ∀ b, kd b = 12 → ∀ j, j ≠ 25 → j ≠ 27 → j ≠ 29 → j ≠ 32 → j ≠ 33 → fldI (f_62 b) j = fldI (f b) j := fun b kb j n25 n27 n29 n32 n33 => ((congrArg (fun x => fldI x j) (congrFun ef_62 b)).trans (fia_up (fun h9 => by rw [hfo_57]; exact fi_set (k := 33) rfl h9) n33 b)).trans (hfA12 b kb j n25 n27 n29 n32 n33)
  have hfo_63 : f_62 o0 = .inr (12, [.ref a_1, .ref a_2, .ref a_3, .int v_4, .ref a_5, .int v_6, .int v_7, .int v_8, .int v_9, .int v_10, .int v_11, .int v_12, .int v_13, .int v_14, .int v_15, .ref a_16, .ref a_17, .ref a_18, .ref a_19, .ref a_20, .ref a_21, .ref a_22, .ref a_23, .int v_24, .int v_25, .int v_26, .int v_27, .int v_28, .ref a_29, .int v_30, .ref a_31, .ref a_32, .int v_33, .int x_59, .ref a_35, .int v_36, .ref a_37, .ref a_38, .int v_39, .int v_40, .ref a_41, .ref a_42, .ref a_43, .int v_44, .ref a_45, .ref a_46, .ref a_47, .ref a_48, .ref a_49, .ref a_50, .ref a_51, .ref a_52, .ref a_53, .int v_54, .int v_55, .ref a_56]) := by rw [ef_62]; exact up_self
  refine lv_aload_n hx hb dX12_marksAll_10 rfl (lv_at hl 0 rfl) ?_
  refine lv_iconst (v := 0) hx hb dX12_marksAll_11 (by decide) ?_
  refine tk_putP (D := (dC, dI)) (ci := 12) (v := .int 0) (ty := .int) (C := RX12) (T := TX12) (N := 56) hx hb hU inlX12 tyX12 tyX12_ok nmX12 hown hK hP hD hS mo0 hfo_63 rfl 32 (by decide) (hU _ wd_921) (fun _ h9 => h9) rfl (by decide +kernel) rfl rfl (Nat.le_of_ble_eq_true rfl) dX12_marksAll_12 (fun H locs hP hD hS => ?_)
  have fa_64 := fu12_32 (y := 0) fa_60 (by decide)
  obtain ⟨f_66, ef_66⟩ : ∃ y : Nat → va_E, y = va_up f_62 o0 (.inr (12, [.ref a_1, .ref a_2, .ref a_3, .int v_4, .ref a_5, .int v_6, .int v_7, .int v_8, .int v_9, .int v_10, .int v_11, .int v_12, .int v_13, .int v_14, .int v_15, .ref a_16, .ref a_17, .ref a_18, .ref a_19, .ref a_20, .ref a_21, .ref a_22, .ref a_23, .int v_24, .int v_25, .int v_26, .int v_27, .int v_28, .ref a_29, .int v_30, .ref a_31, .ref a_32, .int 0, .int x_59, .ref a_35, .int v_36, .ref a_37, .ref a_38, .int v_39, .int v_40, .ref a_41, .ref a_42, .ref a_43, .int v_44, .ref a_45, .ref a_46, .ref a_47, .ref a_48, .ref a_49, .ref a_50, .ref a_51, .ref a_52, .ref a_53, .int v_54, .int v_55, .ref a_56])) := ⟨_, rfl⟩
  have hP : va_P (dC, dI) vwCl (va_pl L f_66) H := by rw [ef_66]; exact hP
  have hD : va_D (fun q => q ∈ L) (va_pl L f_66) := by rw [ef_66]; exact hD
  have hG : GI (okc cI cL cZ cR cG cH L kd) kd L f_66 := by rw [ef_66]; exact hG.set o0 (mk_12 ko0 (fo12 fa_64))
  have hfr0 : ∀ b, kd b ≠ 12 → kd b ≠ 579 → kd b ≠ 581 → kd b ≠ 583 → kd b ≠ 585 → kd b ≠ 587 → kd b ≠ 588 → kd b ≠ 590 → kd b ≠ 591 → kd b ≠ 592 → kd b ≠ 593 → kd b ≠ 603 → f_66 b = f b := fun b q12 q579 q581 q583 q585 q587 q588 q590 q591 q592 q593 q603 => (congrFun ef_66 b).trans ((up_ne (fun e9 => q12 (by rw [e9]; exact ko0))).trans (hfr0 b q12 q579 q581 q583 q585 q587 q588 q590 q591 q592 q593 q603))
  have hrA12 : ∀ b, kd b = 12 → ∀ j, fldR (f_66 b) j = fldR (f b) j := fun b kb j => ((congrArg (fun x => fldR x j) (congrFun ef_66 b)).trans (fra_up (fun j => by rw [hfo_63]; exact fr_set (k := 32) rfl rfl) j b)).trans (hrA12 b kb j)
  have hfA12 : ∀ b, kd b = 12 → ∀ j, j ≠ 25 → j ≠ 27 → j ≠ 29 → j ≠ 32 → j ≠ 33 → fldI (f_66 b) j = fldI (f b) j := fun b kb j n25 n27 n29 n32 n33 => ((congrArg (fun x => fldI x j) (congrFun ef_66 b)).trans (fia_up (fun h9 => by rw [hfo_63]; exact fi_set (k := 32) rfl h9) n32 b)).trans (hfA12 b kb j n25 n27 n29 n32 n33)
  have hfo_67 : f_66 o0 = .inr (12, [.ref a_1, .ref a_2, .ref a_3, .int v_4, .ref a_5, .int v_6, .int v_7, .int v_8, .int v_9, .int v_10, .int v_11, .int v_12, .int v_13, .int v_14, .int v_15, .ref a_16, .ref a_17, .ref a_18, .ref a_19, .ref a_20, .ref a_21, .ref a_22, .ref a_23, .int v_24, .int v_25, .int v_26, .int v_27, .int v_28, .ref a_29, .int v_30, .ref a_31, .ref a_32, .int 0, .int x_59, .ref a_35, .int v_36, .ref a_37, .ref a_38, .int v_39, .int v_40, .ref a_41, .ref a_42, .ref a_43, .int v_44, .ref a_45, .ref a_46, .ref a_47, .ref a_48, .ref a_49, .ref a_50, .ref a_51, .ref a_52, .ref a_53, .int v_54, .int v_55, .ref a_56]) := by rw [ef_66]; exact up_self
  obtain ⟨g_69, hfo_68, hbg_69⟩ := un_592 (hG _ ma_31) ka_31
  have hTt_70 : srel kd 592 f_66 o0 := ⟨a_31, g_69, 0, x_59, ⟨ko0, ka_31⟩, (by rw [hfo_67]; rfl), (by rw [hfo_68]; rfl), (by rw [hfo_67]; exact ⟨rfl, rfl⟩), (by rw [show ((0 : Int32)).toInt = 0 from rfl]; omega)⟩
  refine lv_aload_n hx hb dX12_marksAll_15 rfl (lv_at hl 0 rfl) ?_
  refine lv_iconst (v := 2) hx hb dX12_marksAll_16 (by decide) ?_
  refine tk_VvP (As := [.int 2]) (rest := []) (n := 1) hx hb hml hown hU hN hZ (s_X12_sets_k12 l (dC, dI) cI cL cZ cR cG cH Z kd L f_66 hG o0 mo0 ko0 2 (by decide)) wd_868 wd_869 wd_870 wd_5 wd_871 (by decide +kernel) ⟨Nat.le_of_ble_eq_true rfl, Nat.le_of_ble_eq_true rfl⟩ hK hP hD hS mo0 hfo_67 12 rfl rfl rfl hl.1 rfl (Nat.le_of_ble_eq_true rfl) dX12_marksAll_17 ⟨Nat.le_of_ble_eq_true rfl, Nat.le_of_ble_eq_true rfl⟩ (fun f_72 H locs hw hP hD hS => ?_)
  obtain ⟨hG, hkc_73, hra_74, hfa_75, hpost_76⟩ := hw
  have hfo_78 : f_72 a_31 = .inl (cI, 6561, .inl g_69) := by rw [hkc_73 a_31 (by rw [ka_31]; decide) (by rw [ka_31]; decide) (by rw [ka_31]; decide) (by rw [ka_31]; decide)]; exact hfo_68
  have hfr0 : ∀ b, kd b ≠ 12 → kd b ≠ 579 → kd b ≠ 581 → kd b ≠ 583 → kd b ≠ 585 → kd b ≠ 587 → kd b ≠ 588 → kd b ≠ 590 → kd b ≠ 591 → kd b ≠ 592 → kd b ≠ 593 → kd b ≠ 603 → f_72 b = f b := fun b q12 q579 q581 q583 q585 q587 q588 q590 q591 q592 q593 q603 => (hkc_73 b q12 q579 q581 q587).trans (hfr0 b q12 q579 q581 q583 q585 q587 q588 q590 q591 q592 q593 q603)
  have hrA12 : ∀ b, kd b = 12 → ∀ j, fldR (f_72 b) j = fldR (f b) j := fun b kb j => (hra_74 b kb j).trans (hrA12 b kb j)
  have hfA12 : ∀ b, kd b = 12 → ∀ j, j ≠ 25 → j ≠ 27 → j ≠ 29 → j ≠ 32 → j ≠ 33 → fldI (f_72 b) j = fldI (f b) j := fun b kb j n25 n27 n29 n32 n33 => (hfa_75 b kb j n25 n27).trans (hfA12 b kb j n25 n27 n29 n32 n33)
  have hTt_70 : srel kd 592 f_72 o0 := hTt_70.keep (fun b q => hra_74 b q 30) (fun b q => hfa_75 b q 32 (by decide) (by decide)) (fun b q => hfa_75 b q 33 (by decide) (by decide)) (fun b q => hkc_73 b (by rw [q]; decide) (by rw [q]; decide) (by rw [q]; decide) (by rw [q]; decide))
  obtain ⟨v_79, v_80, hfo_81, fa_82⟩ := op12_25_27 hfo_67 (hG _ mo0) ko0 (hra_74 o0 ko0) (hfa_75 o0 ko0)
  have bv_79 : (0 ≤ v_79.toInt ∧ v_79.toInt ≤ 4) := fa12_25 fa_82
  have bv_80 : (0 ≤ v_80.toInt ∧ v_80.toInt ≤ 1) := fa12_27 fa_82
  have hqhpost_76 := hpost_76 v_26 v_79 v_28 v_80 (by rw [hfo_67]; rfl) (by rw [hfo_67]; rfl) (by rw [hfo_81]; rfl) (by rw [hfo_81]; rfl)
  try rw [ti_2] at hqhpost_76
  refine lv_aload_n hx hb dX12_marksAll_20 rfl (lv_at hl 0 rfl) ?_
  refine lv_iconst (v := 0) hx hb dX12_marksAll_21 (by decide) ?_
  refine lv_aload_n hx hb dX12_marksAll_22 rfl (lv_at hl 0 rfl) ?_
  refine tk_getP (D := (dC, dI)) (ci := 12) (v := .ref a_1) (C := RX12) (T := TX12) (N := 56) hx hb hU inlX12 hown hK hP mo0 hfo_81 rfl 0 (by decide) (hU _ wd_169) (fun _ h9 => h9) rfl dX12_marksAll_23 ?_
  refine lv_bipush (v := 41) hx hb dX12_marksAll_26 (by decide) ?_
  obtain ⟨g_84, hfo_83, hbg_84⟩ := un_575 (hG _ ma_1) ka_1
  refine tk_ildP hx hb hK hP 0 ma_1 hfo_83 rfl (vp_in_nI (n := 41) (by decide) (by decide)) dX12_marksAll_28 ?_
  refine lv_topi (fun x_85 ex_85 => ?_)
  have bx_85 : (0 ≤ x_85.toInt ∧ x_85.toInt ≤ 1) := by rw [ex_85]; exact hbg_84.2.2.2.2.2.2.2.1 _ (by decide) (by decide) (by decide)
  refine lv_iconst (v := 0) hx hb dX12_marksAll_29 (by decide) ?_
  refine lv_iconst (v := 0) hx hb dX12_marksAll_30 (by decide) ?_
  refine lv_iload_n hx hb dX12_marksAll_31 rfl (lv_at hl 1 rfl) ?_
  refine tk_VvP (As := [.int 0, .int x_85, .int 0, .int 0, .int p1]) (rest := []) (n := 5) hx hb hml hown hU hN hZ (s_X12_goes_k12 l (dC, dI) cI cL cZ cR cG cH Z kd L 14 f_72 hG o0 mo0 ko0 0 (by decide) x_85 (by constructor <;> omega) 0 (by decide) 0 (by decide) p1 (by intro w23 w25 w27 w29 e23 e25 e27 e29; rw [hfo_81] at e23 e25 e27 e29; obtain rfl := Option.some.inj e23; obtain rfl := Option.some.inj e25; obtain rfl := Option.some.inj e27; obtain rfl := Option.some.inj e29; (try rw [ti_0]) <;> omega) (by (try rw [ti_0]) <;> omega) hTt_70 (by (try rw [ti_0]) <;> omega)) wd_886 wd_887 wd_888 wd_5 wd_889 (by decide +kernel) ⟨Nat.le_of_ble_eq_true rfl, Nat.le_of_ble_eq_true rfl⟩ hK hP hD hS mo0 hfo_81 12 rfl rfl rfl hl.1 rfl (Nat.le_of_ble_eq_true rfl) dX12_marksAll_32 ⟨Nat.le_of_ble_eq_true rfl, Nat.le_of_ble_eq_true rfl⟩ (fun f_87 H locs hw hP hD hS => ?_)
  obtain ⟨hG, hkc_88, hra_89, hfa_90, hpost_91, hTc_92⟩ := hw
  have hfo_94 : f_87 a_1 = .inl (cI, 1560, .inl g_84) := by rw [hkc_88 a_1 (by rw [ka_1]; decide) (by rw [ka_1]; decide) (by rw [ka_1]; decide) (by rw [ka_1]; decide) (by rw [ka_1]; decide) (by rw [ka_1]; decide) (by rw [ka_1]; decide) (by rw [ka_1]; decide) (by rw [ka_1]; decide) (by rw [ka_1]; decide) (by rw [ka_1]; decide) (by rw [ka_1]; decide)]; exact hfo_83
  have hfr0 : ∀ b, kd b ≠ 12 → kd b ≠ 579 → kd b ≠ 581 → kd b ≠ 583 → kd b ≠ 585 → kd b ≠ 587 → kd b ≠ 588 → kd b ≠ 590 → kd b ≠ 591 → kd b ≠ 592 → kd b ≠ 593 → kd b ≠ 603 → f_87 b = f b := fun b q12 q579 q581 q583 q585 q587 q588 q590 q591 q592 q593 q603 => (hkc_88 b q12 q579 q581 q583 q585 q587 q588 q590 q591 q592 q593 q603).trans (hfr0 b q12 q579 q581 q583 q585 q587 q588 q590 q591 q592 q593 q603)
  have hrA12 : ∀ b, kd b = 12 → ∀ j, fldR (f_87 b) j = fldR (f b) j := fun b kb j => (hra_89 b kb j).trans (hrA12 b kb j)
  have hfA12 : ∀ b, kd b = 12 → ∀ j, j ≠ 25 → j ≠ 27 → j ≠ 29 → j ≠ 32 → j ≠ 33 → fldI (f_87 b) j = fldI (f b) j := fun b kb j n25 n27 n29 n32 n33 => (hfa_90 b kb j n27 n29 n32).trans (hfA12 b kb j n25 n27 n29 n32 n33)
  obtain ⟨v_95, v_96, v_97, hfo_98, fa_99⟩ := op12_27_29_32 hfo_81 (hG _ mo0) ko0 (hra_89 o0 ko0) (hfa_90 o0 ko0)
  have bv_95 : (0 ≤ v_95.toInt ∧ v_95.toInt ≤ 1) := fa12_27 fa_99
  have bv_96 : (0 ≤ v_96.toInt ∧ v_96.toInt ≤ 201) := fa12_29 fa_99
  have bv_97 : (0 ≤ v_97.toInt ∧ v_97.toInt ≤ 6561) := fa12_32 fa_99
  have hqhpost_91 := hpost_91 v_79 v_79 v_80 v_95 v_30 v_96 (by rw [hfo_81]; rfl) (by rw [hfo_81]; rfl) (by rw [hfo_81]; rfl) (by rw [hfo_98]; rfl) (by rw [hfo_98]; rfl) (by rw [hfo_98]; rfl)
  try rw [ti_0] at hqhpost_91
  exact W.vret hx hb hr (fun t ht hW => ⟨⟨f_87, rfl, ⟨hG, hfr0, hrA12, hfA12, (by intro w29 z29 e29 d29; rw [hfo_57] at e29; rw [hfo_98] at d29; obtain rfl := Option.some.inj e29; obtain rfl := Option.some.inj d29; omega), hTc_92⟩, by rw [ht]; exact hP, va_K.moved hW.alike hK, pl_in hD⟩, hS.F ht⟩) hS.2.2 dX12_marksAll_35
set_option maxHeartbeats 8000000 in
set_option maxRecDepth 100000 in
theorem s_X12_isParted_k12 (l : Launch) (D : va_G) (cI cL cZ cR cG cH : ClassId) (Z : zT) (kd : Nat → Nat) (L : List Nat) (f : Nat → va_E) (hG : GI (okc cI cL cZ cR cG cH L kd) kd L f) (o0 : Nat) (mo0 : o0 ∈ L) (ko0 : kd o0 = 12) (p1 : Int32) (p2 : Int32) (hpreo0 : ∀ (w23 : Int32) (w29 : Int32), fldI (f o0) 23 = some w23 → fldI (f o0) 29 = some w29 → w23.toInt ≤ 3 ∧ w29.toInt ≤ 200) (hxtr0 : srel kd 592 f o0) : mPI l D cI cL cZ cR cG cH Z yX12_isParted cX12_isParted 5 (some .boolean) 24 676 [.ref o0, .int p1, .int p2] L f (fun (r : Int32) (f9 : Nat → va_E) => GI (okc cI cL cZ cR cG cH L kd) kd L f9 ∧ (0 ≤ r.toInt ∧ r.toInt ≤ 1) ∧ (∀ b, kd b ≠ 12 → kd b ≠ 579 → kd b ≠ 581 → kd b ≠ 583 → kd b ≠ 585 → kd b ≠ 587 → kd b ≠ 588 → kd b ≠ 590 → kd b ≠ 591 → kd b ≠ 592 → kd b ≠ 593 → kd b ≠ 602 → kd b ≠ 603 → f9 b = f b) ∧ (∀ b, kd b = 12 → ∀ j, fldR (f9 b) j = fldR (f b) j) ∧ (∀ b, kd b = 12 → ∀ j, j ≠ 25 → j ≠ 27 → j ≠ 29 → j ≠ 32 → j ≠ 33 → fldI (f9 b) j = fldI (f b) j) ∧ (∀ (w29 z29 : Int32), fldI (f o0) 29 = some w29 → fldI (f9 o0) 29 = some z29 → z29.toInt = w29.toInt) ∧ (srel kd 592 f9 o0)) := by
  obtain ⟨dC, dI⟩ := D
  refine Met.ofW (cc := cX12_isParted) (maxL := 5) (ret := (some .boolean)) (by decide) rfl ?_
  intro p e s m args below meth c s₁ B hml hv
  obtain ⟨rfl, hP, hK, hD0, hN, hZ⟩ := hv
  have hx := B.exec
  have hb := B.bytes
  have hr := B.returns
  have hU : ∀ w ∈ wsU, w.before _ s = true := fun w h => atoms_spec (ws := wU yX12_isParted cX12_isParted 5 (some .boolean)) B.pre w (List.mem_cons_of_mem _ h)
  have hown : s.vm.findClass RX12 = some m.cls := findClass_of_methodNamed B.named
  have hlocks := B.notSynchronized
  have hD := pl_in hD0
  have hS : va_S (fun q => q ∈ L) s.heap s.heap [] := va_S.rf
  have hl := lv_entry ([.ref o0, .int p1, .int p2]) (n := 5) (Nat.le_of_ble_eq_true rfl)
  rw [lg_entry_eq]
  generalize (lg_sl ([.ref o0, .int p1, .int p2]) ++ List.replicate (5 - (lg_sl ([.ref o0, .int p1, .int p2])).length) Slot.unset).toArray = ls at hl ⊢
  have hl : lv_has ls 5 [(0, .ref o0), (1, .int p1), (2, .int p2)] := hl
  have bp1 : ((-2147483648) ≤ p1.toInt ∧ p1.toInt ≤ 2147483647) := ⟨i32_lo _, i32_hi _⟩
  have bp2 : ((-2147483648) ≤ p2.toInt ∧ p2.toInt ≤ 2147483647) := ⟨i32_lo _, i32_hi _⟩
  have hfr0 : ∀ b, kd b ≠ 12 → kd b ≠ 579 → kd b ≠ 581 → kd b ≠ 583 → kd b ≠ 585 → kd b ≠ 587 → kd b ≠ 588 → kd b ≠ 590 → kd b ≠ 591 → kd b ≠ 592 → kd b ≠ 593 → kd b ≠ 602 → kd b ≠ 603 → f b = f b := fun _ _ _ _ _ _ _ _ _ _ _ _ _ _ => rfl
  have hrA12 : ∀ b, kd b = 12 → ∀ j, fldR (f b) j = fldR (f b) j := fun _ _ _ => rfl
  have hfA12 : ∀ b, kd b = 12 → ∀ j, j ≠ 25 → j ≠ 27 → j ≠ 29 → j ≠ 32 → j ≠ 33 → fldI (f b) j = fldI (f b) j := fun _ _ _ _ _ _ _ _ => rfl
  obtain ⟨a_1, a_2, a_3, v_4, a_5, v_6, v_7, v_8, v_9, v_10, v_11, v_12, v_13, v_14, v_15, a_16, a_17, a_18, a_19, a_20, a_21, a_22, a_23, v_24, v_25, v_26, v_27, v_28, a_29, v_30, a_31, a_32, v_33, v_34, a_35, v_36, a_37, a_38, v_39, v_40, a_41, a_42, a_43, v_44, a_45, a_46, a_47, a_48, a_49, a_50, a_51, a_52, a_53, v_54, v_55, a_56, hfo_57, fa_58⟩ := un12 (hG _ mo0) ko0
  have bv_24 : (0 ≤ v_24.toInt ∧ v_24.toInt ≤ 12) := fa12_23 fa_58
  have bv_30 : (0 ≤ v_30.toInt ∧ v_30.toInt ≤ 201) := fa12_29 fa_58
  obtain ⟨ma_31, ka_31⟩ := fa12_30 fa_58
  obtain ⟨ma_32, ka_32⟩ := fa12_31 fa_58
  obtain ⟨ma_47, ka_47⟩ := fa12_46 fa_58
  have hpo0 := hpreo0 v_24 v_30 (by rw [hfo_57]; rfl) (by rw [hfo_57]; rfl)
  have hT0 := hxtr0
  refine lv_aload_n hx hb dX12_isParted_0 rfl (lv_at hl 0 rfl) ?_
  refine lv_iload_n hx hb dX12_isParted_1 rfl (lv_at hl 1 rfl) ?_
  refine tk_VvP (As := [.int p1]) (rest := []) (n := 1) hx hb hml hown hU hN hZ (s_X12_marksAll_k12 l (dC, dI) cI cL cZ cR cG cH Z kd L f hG o0 mo0 ko0 p1 (by intro w23 w29 e23 e29; rw [hfo_57] at e23 e29; obtain rfl := Option.some.inj e23; obtain rfl := Option.some.inj e29; omega) hT0) wd_1243 wd_1244 wd_1245 wd_5 wd_1246 (by decide +kernel) ⟨Nat.le_of_ble_eq_true rfl, Nat.le_of_ble_eq_true rfl⟩ hK hP hD hS mo0 hfo_57 12 rfl rfl rfl hl.1 rfl (Nat.le_of_ble_eq_true rfl) dX12_isParted_2 ⟨Nat.le_of_ble_eq_true rfl, Nat.le_of_ble_eq_true rfl⟩ (fun f_60 H locs hw hP hD hS => ?_)
  obtain ⟨hG, hkc_61, hra_62, hfa_63, hpost_64, hTc_65⟩ := hw
  have hfr0 : ∀ b, kd b ≠ 12 → kd b ≠ 579 → kd b ≠ 581 → kd b ≠ 583 → kd b ≠ 585 → kd b ≠ 587 → kd b ≠ 588 → kd b ≠ 590 → kd b ≠ 591 → kd b ≠ 592 → kd b ≠ 593 → kd b ≠ 602 → kd b ≠ 603 → f_60 b = f b := fun b q12 q579 q581 q583 q585 q587 q588 q590 q591 q592 q593 q602 q603 => (hkc_61 b q12 q579 q581 q583 q585 q587 q588 q590 q591 q592 q593 q603).trans (hfr0 b q12 q579 q581 q583 q585 q587 q588 q590 q591 q592 q593 q602 q603)
  have hrA12 : ∀ b, kd b = 12 → ∀ j, fldR (f_60 b) j = fldR (f b) j := fun b kb j => (hra_62 b kb j).trans (hrA12 b kb j)
  have hfA12 : ∀ b, kd b = 12 → ∀ j, j ≠ 25 → j ≠ 27 → j ≠ 29 → j ≠ 32 → j ≠ 33 → fldI (f_60 b) j = fldI (f b) j := fun b kb j n25 n27 n29 n32 n33 => (hfa_63 b kb j n25 n27 n29 n32 n33).trans (hfA12 b kb j n25 n27 n29 n32 n33)
  obtain ⟨v_67, v_68, v_69, v_70, v_71, hfo_72, fa_73⟩ := op12_25_27_29_32_33 hfo_57 (hG _ mo0) ko0 (hra_62 o0 ko0) (hfa_63 o0 ko0)
  have bv_67 : (0 ≤ v_67.toInt ∧ v_67.toInt ≤ 4) := fa12_25 fa_73
  have bv_68 : (0 ≤ v_68.toInt ∧ v_68.toInt ≤ 1) := fa12_27 fa_73
  have bv_69 : (0 ≤ v_69.toInt ∧ v_69.toInt ≤ 201) := fa12_29 fa_73
  have bv_70 : (0 ≤ v_70.toInt ∧ v_70.toInt ≤ 6561) := fa12_32 fa_73
  have bv_71 : ((-2147483648) ≤ v_71.toInt ∧ v_71.toInt ≤ 2147483647) := ⟨i32_lo _, i32_hi _⟩
  have hqhpost_64 := hpost_64 v_30 v_69 (by rw [hfo_57]; rfl) (by rw [hfo_72]; rfl)
  refine lv_aload_n hx hb dX12_isParted_5 rfl (lv_at hl 0 rfl) ?_
  refine tk_getP (D := (dC, dI)) (ci := 12) (v := .int v_70) (C := RX12) (T := TX12) (N := 56) hx hb hU inlX12 hown hK hP mo0 hfo_72 rfl 32 (by decide) (hU _ wd_921) (fun _ h9 => h9) rfl dX12_isParted_6 ?_
  refine lv_istore_n (lv' := [(3, .int v_70), (0, .ref o0), (1, .int p1), (2, .int p2)]) hx hb dX12_isParted_9 rfl hl (by decide) rfl (fun ls hl => ?_)
  refine lv_iconst (v := 0) hx hb dX12_isParted_10 (by decide) ?_
  refine lv_istore (lv' := [(4, .int 0), (3, .int v_70), (0, .ref o0), (1, .int p1), (2, .int p2)]) hx hb dX12_isParted_11 hl (by decide) rfl (fun ls hl => ?_)
  have hloop_89 : ∀ (n : Nat), ∀ (y_90 : Int32), (0 ≤ y_90.toInt ∧ y_90.toInt ≤ 6561) → ∀ (f_92 : Nat → va_E), GI (okc cI cL cZ cR cG cH L kd) kd L f_92 → ∀ (H : Heap) (locs : List Loc), va_P (dC, dI) vwCl (va_pl L f_92) H → va_S (fun q => q ∈ L) s.heap H locs → va_D (fun q => q ∈ L) (va_pl L f_92) → (∀ b, kd b ≠ 12 → kd b ≠ 579 → kd b ≠ 581 → kd b ≠ 583 → kd b ≠ 585 → kd b ≠ 587 → kd b ≠ 588 → kd b ≠ 590 → kd b ≠ 591 → kd b ≠ 592 → kd b ≠ 593 → kd b ≠ 602 → kd b ≠ 603 → f_92 b = f b) → (∀ b, kd b = 12 → ∀ j, fldR (f_92 b) j = fldR (f b) j) → (∀ b, kd b = 12 → ∀ j, j ≠ 25 → j ≠ 27 → j ≠ 29 → j ≠ 32 → j ≠ 33 → fldI (f_92 b) j = fldI (f b) j) → (f_92 o0 = .inr (12, [.ref a_1, .ref a_2, .ref a_3, .int v_4, .ref a_5, .int v_6, .int v_7, .int v_8, .int v_9, .int v_10, .int v_11, .int v_12, .int v_13, .int v_14, .int v_15, .ref a_16, .ref a_17, .ref a_18, .ref a_19, .ref a_20, .ref a_21, .ref a_22, .ref a_23, .int v_24, .int v_25, .int v_67, .int v_27, .int v_68, .ref a_29, .int v_69, .ref a_31, .ref a_32, .int v_70, .int v_71, .ref a_35, .int v_36, .ref a_37, .ref a_38, .int v_39, .int v_40, .ref a_41, .ref a_42, .ref a_43, .int v_44, .ref a_45, .ref a_46, .ref a_47, .ref a_48, .ref a_49, .ref a_50, .ref a_51, .ref a_52, .ref a_53, .int v_54, .int v_55, .ref a_56])) → srel kd 592 f_92 o0 → 6561 - y_90.toInt < (n : Int) → ∀ (ls : Array Slot), lv_has ls 5 [(4, .int y_90), (3, .int v_70), (0, .ref o0), (1, .int p1), (2, .int p2)] → W p l e (headSpec (wU yX12_isParted cX12_isParted 5 (some .boolean)) { frames := 24, cells := 0, slots := 0, locals := 676 }).room s m [.ref o0, .int p1, .int p2].toArray below meth c H locs 0 0 (MQ below (va_Qi (fun (r : Int32) (f9 : Nat → va_E) => GI (okc cI cL cZ cR cG cH L kd) kd L f9 ∧ (0 ≤ r.toInt ∧ r.toInt ≤ 1) ∧ (∀ b, kd b ≠ 12 → kd b ≠ 579 → kd b ≠ 581 → kd b ≠ 583 → kd b ≠ 585 → kd b ≠ 587 → kd b ≠ 588 → kd b ≠ 590 → kd b ≠ 591 → kd b ≠ 592 → kd b ≠ 593 → kd b ≠ 602 → kd b ≠ 603 → f9 b = f b) ∧ (∀ b, kd b = 12 → ∀ j, fldR (f9 b) j = fldR (f b) j) ∧ (∀ b, kd b = 12 → ∀ j, j ≠ 25 → j ≠ 27 → j ≠ 29 → j ≠ 32 → j ≠ 33 → fldI (f9 b) j = fldI (f b) j) ∧ (∀ (w29 z29 : Int32), fldI (f o0) 29 = some w29 → fldI (f9 o0) 29 = some z29 → z29.toInt = w29.toInt) ∧ (srel kd 592 f9 o0)) (qP (dC, dI) cI cL cZ cR cG cH L) (fun q => q ∈ L)) [.ref o0, .int p1, .int p2].toArray s 0 0 (fun q => q ∈ L)) (F0 m 13 ls []) := by
    intro n
    induction n with
    | zero => intro y_90 by_90 f_92 hG H locs hP hS hD hfr0 hrA12 hfA12 hfo_93 hTc_65 hmuhloop_89 ls hl; exfalso; omega
    | succ n ih_hloop_89 =>
      intro y_90 by_90 f_92 hG H locs hP hS hD hfr0 hrA12 hfA12 hfo_93 hTc_65 hmuhloop_89 ls hl
      refine lv_iload hx hb dX12_isParted_13 (lv_at hl 0 rfl) ?_
      refine lv_iload_n hx hb dX12_isParted_15 rfl (lv_at hl 1 rfl) ?_
      refine lv_icmp_ge (tgt := 39) hx hb dX12_isParted_16 (by decide) (fun c_94 => ?_) (fun c_94 => ?_)
      · skip
        rw [Int32.le_iff_toInt_le] at c_94
        refine lv_aload_n hx hb dX12_isParted_39 rfl (lv_at hl 2 rfl) ?_
        refine lv_iload_n hx hb dX12_isParted_40 rfl (lv_at hl 4 rfl) ?_
        refine tk_VvP (As := [.int p2]) (rest := []) (n := 1) hx hb hml hown hU hN hZ (s_X12_marksAll_k12 l (dC, dI) cI cL cZ cR cG cH Z kd L f_92 hG o0 mo0 ko0 p2 (by intro w23 w29 e23 e29; rw [hfo_93] at e23 e29; obtain rfl := Option.some.inj e23; obtain rfl := Option.some.inj e29; omega) hTc_65) wd_1243 wd_1244 wd_1245 wd_5 wd_1246 (by decide +kernel) ⟨Nat.le_of_ble_eq_true rfl, Nat.le_of_ble_eq_true rfl⟩ hK hP hD hS mo0 hfo_93 12 rfl rfl rfl hl.1 rfl (Nat.le_of_ble_eq_true rfl) dX12_isParted_41 ⟨Nat.le_of_ble_eq_true rfl, Nat.le_of_ble_eq_true rfl⟩ (fun f_96 H locs hw hP hD hS => ?_)
        obtain ⟨hG, hkc_97, hra_98, hfa_99, hpost_100, hTc_101⟩ := hw
        have hfr0 : ∀ b, kd b ≠ 12 → kd b ≠ 579 → kd b ≠ 581 → kd b ≠ 583 → kd b ≠ 585 → kd b ≠ 587 → kd b ≠ 588 → kd b ≠ 590 → kd b ≠ 591 → kd b ≠ 592 → kd b ≠ 593 → kd b ≠ 602 → kd b ≠ 603 → f_96 b = f b := fun b q12 q579 q581 q583 q585 q587 q588 q590 q591 q592 q593 q602 q603 => (hkc_97 b q12 q579 q581 q583 q585 q587 q588 q590 q591 q592 q593 q603).trans (hfr0 b q12 q579 q581 q583 q585 q587 q588 q590 q591 q592 q593 q602 q603)
        have hrA12 : ∀ b, kd b = 12 → ∀ j, fldR (f_96 b) j = fldR (f b) j := fun b kb j => (hra_98 b kb j).trans (hrA12 b kb j)
        have hfA12 : ∀ b, kd b = 12 → ∀ j, j ≠ 25 → j ≠ 27 → j ≠ 29 → j ≠ 32 → j ≠ 33 → fldI (f_96 b) j = fldI (f b) j := fun b kb j n25 n27 n29 n32 n33 => (hfa_99 b kb j n25 n27 n29 n32 n33).trans (hfA12 b kb j n25 n27 n29 n32 n33)
        obtain ⟨v_103, v_104, v_105, v_106, v_107, hfo_108, fa_109⟩ := op12_25_27_29_32_33 hfo_93 (hG _ mo0) ko0 (hra_98 o0 ko0) (hfa_99 o0 ko0)
        have bv_103 : (0 ≤ v_103.toInt ∧ v_103.toInt ≤ 4) := fa12_25 fa_109
        have bv_104 : (0 ≤ v_104.toInt ∧ v_104.toInt ≤ 1) := fa12_27 fa_109
        have bv_105 : (0 ≤ v_105.toInt ∧ v_105.toInt ≤ 201) := fa12_29 fa_109
        have bv_106 : (0 ≤ v_106.toInt ∧ v_106.toInt ≤ 6561) := fa12_32 fa_109
        have bv_107 : ((-2147483648) ≤ v_107.toInt ∧ v_107.toInt ≤ 2147483647) := ⟨i32_lo _, i32_hi _⟩
        have hqhpost_100 := hpost_100 v_69 v_105 (by rw [hfo_93]; rfl) (by rw [hfo_108]; rfl)
        refine lv_aload_n hx hb dX12_isParted_44 rfl (lv_at hl 2 rfl) ?_
        refine tk_getP (D := (dC, dI)) (ci := 12) (v := .int v_106) (C := RX12) (T := TX12) (N := 56) hx hb hU inlX12 hown hK hP mo0 hfo_108 rfl 32 (by decide) (hU _ wd_921) (fun _ h9 => h9) rfl dX12_isParted_45 ?_
        refine lv_iload_n hx hb dX12_isParted_48 rfl (lv_at hl 1 rfl) ?_
        refine lv_icmp_eq (tgt := 54) hx hb dX12_isParted_49 (by decide) (fun c_110 => ?_) (fun c_110 => ?_)
        · skip
          rw [← Int32.toInt_inj] at c_110
          refine lv_iconst (v := 0) hx hb dX12_isParted_54 (by decide) ?_
          refine lv_istore (lv' := [(4, .int 0), (3, .int v_70), (0, .ref o0), (1, .int p1), (2, .int p2)]) hx hb dX12_isParted_55 hl (by decide) rfl (fun ls hl => ?_)
          have hloop_117 : ∀ (n : Nat), ∀ (y_118 : Int32), (0 ≤ y_118.toInt ∧ y_118.toInt ≤ 6561) → 6561 - y_118.toInt < (n : Int) → ∀ (ls : Array Slot), lv_has ls 5 [(4, .int y_118), (3, .int v_70), (0, .ref o0), (1, .int p1), (2, .int p2)] → W p l e (headSpec (wU yX12_isParted cX12_isParted 5 (some .boolean)) { frames := 24, cells := 0, slots := 0, locals := 676 }).room s m [.ref o0, .int p1, .int p2].toArray below meth c H locs 0 0 (MQ below (va_Qi (fun (r : Int32) (f9 : Nat → va_E) => GI (okc cI cL cZ cR cG cH L kd) kd L f9 ∧ (0 ≤ r.toInt ∧ r.toInt ≤ 1) ∧ (∀ b, kd b ≠ 12 → kd b ≠ 579 → kd b ≠ 581 → kd b ≠ 583 → kd b ≠ 585 → kd b ≠ 587 → kd b ≠ 588 → kd b ≠ 590 → kd b ≠ 591 → kd b ≠ 592 → kd b ≠ 593 → kd b ≠ 602 → kd b ≠ 603 → f9 b = f b) ∧ (∀ b, kd b = 12 → ∀ j, fldR (f9 b) j = fldR (f b) j) ∧ (∀ b, kd b = 12 → ∀ j, j ≠ 25 → j ≠ 27 → j ≠ 29 → j ≠ 32 → j ≠ 33 → fldI (f9 b) j = fldI (f b) j) ∧ (∀ (w29 z29 : Int32), fldI (f o0) 29 = some w29 → fldI (f9 o0) 29 = some z29 → z29.toInt = w29.toInt) ∧ (srel kd 592 f9 o0)) (qP (dC, dI) cI cL cZ cR cG cH L) (fun q => q ∈ L)) [.ref o0, .int p1, .int p2].toArray s 0 0 (fun q => q ∈ L)) (F0 m 57 ls []) := by
            intro n
            induction n with
            | zero => intro y_118 by_118 hmuhloop_117 ls hl; exfalso; omega
            | succ n ih_hloop_117 =>
              intro y_118 by_118 hmuhloop_117 ls hl
              refine lv_iload hx hb dX12_isParted_57 (lv_at hl 0 rfl) ?_
              refine lv_iload_n hx hb dX12_isParted_59 rfl (lv_at hl 1 rfl) ?_
              refine lv_icmp_ge (tgt := 90) hx hb dX12_isParted_60 (by decide) (fun c_119 => ?_) (fun c_119 => ?_)
              · skip
                rw [Int32.le_iff_toInt_le] at c_119
                refine lv_iconst (v := 0) hx hb dX12_isParted_90 (by decide) ?_
                exact W.zret (v := 0) (ty := .boolean) hx hb hr rfl (fun t ht hW => ⟨⟨0, f_96, rfl, ⟨hG, (by decide), hfr0, hrA12, hfA12, (by intro w29 z29 e29 d29; rw [hfo_57] at e29; rw [hfo_108] at d29; obtain rfl := Option.some.inj e29; obtain rfl := Option.some.inj d29; (try rw [ti_0]) <;> omega), hTc_101⟩, by rw [ht]; exact hP, va_K.moved hW.alike hK, pl_in hD⟩, hS.F ht⟩) hS.2.2 dX12_isParted_91
              · skip
                rw [Int32.le_iff_toInt_le] at c_119
                refine lv_aload_n hx hb dX12_isParted_63 rfl (lv_at hl 2 rfl) ?_
                refine tk_getP (D := (dC, dI)) (ci := 12) (v := .ref a_31) (C := RX12) (T := TX12) (N := 56) hx hb hU inlX12 hown hK hP mo0 hfo_108 rfl 30 (by decide) (hU _ wd_184) (fun _ h9 => h9) rfl dX12_isParted_64 ?_
                refine lv_aload_n hx hb dX12_isParted_67 rfl (lv_at hl 2 rfl) ?_
                refine tk_getP (D := (dC, dI)) (ci := 12) (v := .ref a_47) (C := RX12) (T := TX12) (N := 56) hx hb hU inlX12 hown hK hP mo0 hfo_108 rfl 46 (by decide) (hU _ wd_195) (fun _ h9 => h9) rfl dX12_isParted_68 ?_
                refine lv_iload hx hb dX12_isParted_71 (lv_at hl 0 rfl) ?_
                obtain ⟨g_121, hfo_120, hbg_121⟩ := un_602 (hG _ ma_47) ka_47
                refine tk_ildP hx hb hK hP 0 ma_47 hfo_120 rfl (vp_in_iff.mpr (by constructor <;> omega)) dX12_isParted_73 ?_
                refine lv_topi (fun x_122 ex_122 => ?_)
                have bx_122 : (0 ≤ x_122.toInt ∧ x_122.toInt ≤ 6560) := by rw [ex_122]; exact hbg_121 _
                obtain ⟨g_124, hfo_123, hbg_124⟩ := un_592 (hG _ ma_31) ka_31
                refine tk_ildP hx hb hK hP 0 ma_31 hfo_123 rfl (vp_in_iff.mpr (by constructor <;> omega)) dX12_isParted_74 ?_
                refine lv_topi (fun x_125 ex_125 => ?_)
                have bx_125 : ((-2147483648) ≤ x_125.toInt ∧ x_125.toInt ≤ 2147483647) := ⟨i32_lo _, i32_hi _⟩
                refine lv_aload_n hx hb dX12_isParted_75 rfl (lv_at hl 2 rfl) ?_
                refine tk_getP (D := (dC, dI)) (ci := 12) (v := .int v_107) (C := RX12) (T := TX12) (N := 56) hx hb hU inlX12 hown hK hP mo0 hfo_108 rfl 33 (by decide) (hU _ wd_920) (fun _ h9 => h9) rfl dX12_isParted_76 ?_
                refine lv_icmp_eq (tgt := 84) hx hb dX12_isParted_79 (by decide) (fun c_126 => ?_) (fun c_126 => ?_)
                · skip
                  rw [← Int32.toInt_inj] at c_126
                  obtain ⟨x_127, ex_127⟩ : ∃ y : Int32, y_118 + 1 = y := ⟨_, rfl⟩
                  have hx_127 : x_127.toInt = y_118.toInt + 1 := by rw [← ex_127, ad_I (by rw [ti_1]; omega) (by rw [ti_1]; omega), ti_1]
                  have bx_127 : (1 ≤ x_127.toInt ∧ x_127.toInt ≤ 6561) := by constructor <;> omega
                  refine lv_iinc (v := x_127) (lv' := [(4, .int x_127), (3, .int v_70), (0, .ref o0), (1, .int p1), (2, .int p2)]) hx hb dX12_isParted_84 hl (k := 0) rfl ex_127 (by decide) rfl (fun ls hl => ?_)
                  refine lv_goto (tgt := 57) hx hb dX12_isParted_87 (by decide) ?_
                  exact ih_hloop_117 x_127 (by constructor <;> omega) (by omega) ls (lv_sub hl [0, 1, 2, 3, 4] rfl)
                · skip
                  rw [← Int32.toInt_inj] at c_126
                  refine lv_iconst (v := 1) hx hb dX12_isParted_82 (by decide) ?_
                  exact W.zret (v := 1) (ty := .boolean) hx hb hr rfl (fun t ht hW => ⟨⟨1, f_96, rfl, ⟨hG, (by decide), hfr0, hrA12, hfA12, (by intro w29 z29 e29 d29; rw [hfo_57] at e29; rw [hfo_108] at d29; obtain rfl := Option.some.inj e29; obtain rfl := Option.some.inj d29; (try rw [ti_1]) <;> omega), hTc_101⟩, by rw [ht]; exact hP, va_K.moved hW.alike hK, pl_in hD⟩, hS.F ht⟩) hS.2.2 dX12_isParted_83
          exact hloop_117 6562 0 (by decide) (by (try rw [ti_0]) <;> omega) ls hl
        · skip
          rw [← Int32.toInt_inj] at c_110
          refine lv_iconst (v := 1) hx hb dX12_isParted_52 (by decide) ?_
          exact W.zret (v := 1) (ty := .boolean) hx hb hr rfl (fun t ht hW => ⟨⟨1, f_96, rfl, ⟨hG, (by decide), hfr0, hrA12, hfA12, (by intro w29 z29 e29 d29; rw [hfo_57] at e29; rw [hfo_108] at d29; obtain rfl := Option.some.inj e29; obtain rfl := Option.some.inj d29; (try rw [ti_1]) <;> omega), hTc_101⟩, by rw [ht]; exact hP, va_K.moved hW.alike hK, pl_in hD⟩, hS.F ht⟩) hS.2.2 dX12_isParted_53
      · skip
        rw [Int32.le_iff_toInt_le] at c_94
        refine lv_aload_n hx hb dX12_isParted_19 rfl (lv_at hl 2 rfl) ?_
        refine tk_getP (D := (dC, dI)) (ci := 12) (v := .ref a_47) (C := RX12) (T := TX12) (N := 56) hx hb hU inlX12 hown hK hP mo0 hfo_93 rfl 46 (by decide) (hU _ wd_195) (fun _ h9 => h9) rfl dX12_isParted_20 ?_
        refine lv_iload hx hb dX12_isParted_23 (lv_at hl 0 rfl) ?_
        refine lv_aload_n hx hb dX12_isParted_25 rfl (lv_at hl 2 rfl) ?_
        refine tk_getP (D := (dC, dI)) (ci := 12) (v := .ref a_32) (C := RX12) (T := TX12) (N := 56) hx hb hU inlX12 hown hK hP mo0 hfo_93 rfl 31 (by decide) (hU _ wd_185) (fun _ h9 => h9) rfl dX12_isParted_26 ?_
        refine lv_iload hx hb dX12_isParted_29 (lv_at hl 0 rfl) ?_
        obtain ⟨g_129, hfo_128, hbg_129⟩ := un_593 (hG _ ma_32) ka_32
        refine tk_ildP hx hb hK hP 0 ma_32 hfo_128 rfl (vp_in_iff.mpr (by constructor <;> omega)) dX12_isParted_31 ?_
        refine lv_topi (fun x_130 ex_130 => ?_)
        have bx_130 : (0 ≤ x_130.toInt ∧ x_130.toInt ≤ 6560) := by rw [ex_130]; exact hbg_129 _
        obtain ⟨g_132, hfo_131, hbg_132⟩ := un_602 (hG _ ma_47) ka_47
        refine tk_istP hx hb hK hP hD hS 0 ma_47 hfo_131 rfl (vp_in_iff.mpr (by constructor <;> omega)) dX12_isParted_32 (fun H locs hP hD hS => ?_)
        obtain ⟨f_134, ef_134⟩ : ∃ y : Nat → va_E, y = va_up f_92 a_47 (.inl (cI, 6561, .inl (upd g_132 (Int32.toNatClampNeg y_90) x_130))) := ⟨_, rfl⟩
        have hP : va_P (dC, dI) vwCl (va_pl L f_134) H := by rw [ef_134]; exact hP
        have hD : va_D (fun q => q ∈ L) (va_pl L f_134) := by rw [ef_134]; exact hD
        have hG : GI (okc cI cL cZ cR cG cH L kd) kd L f_134 := by rw [ef_134]; exact hG.set a_47 (mk_602 ka_47 ⟨_, rfl, okI_up hbg_132 (by constructor <;> omega) _⟩)
        have hfo_135 : f_134 o0 = .inr (12, [.ref a_1, .ref a_2, .ref a_3, .int v_4, .ref a_5, .int v_6, .int v_7, .int v_8, .int v_9, .int v_10, .int v_11, .int v_12, .int v_13, .int v_14, .int v_15, .ref a_16, .ref a_17, .ref a_18, .ref a_19, .ref a_20, .ref a_21, .ref a_22, .ref a_23, .int v_24, .int v_25, .int v_67, .int v_27, .int v_68, .ref a_29, .int v_69, .ref a_31, .ref a_32, .int v_70, .int v_71, .ref a_35, .int v_36, .ref a_37, .ref a_38, .int v_39, .int v_40, .ref a_41, .ref a_42, .ref a_43, .int v_44, .ref a_45, .ref a_46, .ref a_47, .ref a_48, .ref a_49, .ref a_50, .ref a_51, .ref a_52, .ref a_53, .int v_54, .int v_55, .ref a_56]) := by rw [ef_134, up_ne (kd_ne ka_47 ko0 (by decide))]; exact hfo_93
        have hfo_136 : f_134 a_32 = .inl (cI, 6561, .inl g_129) := by rw [ef_134, up_ne (kd_ne ka_47 ka_32 (by decide))]; exact hfo_128
        have hfr0 : ∀ b, kd b ≠ 12 → kd b ≠ 579 → kd b ≠ 581 → kd b ≠ 583 → kd b ≠ 585 → kd b ≠ 587 → kd b ≠ 588 → kd b ≠ 590 → kd b ≠ 591 → kd b ≠ 592 → kd b ≠ 593 → kd b ≠ 602 → kd b ≠ 603 → f_134 b = f b := fun b q12 q579 q581 q583 q585 q587 q588 q590 q591 q592 q593 q602 q603 => (congrFun ef_134 b).trans ((up_ne (fun e9 => q602 (by rw [e9]; exact ka_47))).trans (hfr0 b q12 q579 q581 q583 q585 q587 q588 q590 q591 q592 q593 q602 q603))
        have hrA12 : ∀ b, kd b = 12 → ∀ j, fldR (f_134 b) j = fldR (f b) j := fun b kb j => (congrArg (fun x => fldR x j) ((congrFun ef_134 b).trans (up_ne (kd_ne ka_47 kb (by decide))))).trans (hrA12 b kb j)
        have hfA12 : ∀ b, kd b = 12 → ∀ j, j ≠ 25 → j ≠ 27 → j ≠ 29 → j ≠ 32 → j ≠ 33 → fldI (f_134 b) j = fldI (f b) j := fun b kb j n25 n27 n29 n32 n33 => (congrArg (fun x => fldI x j) ((congrFun ef_134 b).trans (up_ne (kd_ne ka_47 kb (by decide))))).trans (hfA12 b kb j n25 n27 n29 n32 n33)
        have hTc_65 : srel kd 592 f_134 o0 := by rw [ef_134]; exact hTc_65.keep (fun b q => congrArg (fun x => fldR x 30) (up_ne (kd_ne ka_47 q (by decide)))) (fun b q => congrArg (fun x => fldI x 32) (up_ne (kd_ne ka_47 q (by decide)))) (fun b q => congrArg (fun x => fldI x 33) (up_ne (kd_ne ka_47 q (by decide)))) (fun b q => up_ne (kd_ne ka_47 q (by decide)))
        have hfo_137 : f_134 a_47 = .inl (cI, 6561, .inl (upd g_132 (Int32.toNatClampNeg y_90) x_130)) := by rw [ef_134]; exact up_self
        obtain ⟨x_138, ex_138⟩ : ∃ y : Int32, y_90 + 1 = y := ⟨_, rfl⟩
        have hx_138 : x_138.toInt = y_90.toInt + 1 := by rw [← ex_138, ad_I (by rw [ti_1]; omega) (by rw [ti_1]; omega), ti_1]
        have bx_138 : (1 ≤ x_138.toInt ∧ x_138.toInt ≤ 6561) := by constructor <;> omega
        refine lv_iinc (v := x_138) (lv' := [(4, .int x_138), (3, .int v_70), (0, .ref o0), (1, .int p1), (2, .int p2)]) hx hb dX12_isParted_33 hl (k := 0) rfl ex_138 (by decide) rfl (fun ls hl => ?_)
        refine lv_goto (tgt := 13) hx hb dX12_isParted_36 (by decide) ?_
        exact ih_hloop_89 x_138 (by constructor <;> omega) f_134 hG _ _ hP hS hD hfr0 hrA12 hfA12 hfo_135 hTc_65 (by omega) ls (lv_sub hl [0, 1, 2, 3, 4] rfl)
  exact hloop_89 6562 0 (by decide) f_60 hG _ _ hP hS hD hfr0 hrA12 hfA12 hfo_72 hTc_65 (by (try rw [ti_0]) <;> omega) ls hl
set_option maxHeartbeats 8000000 in
set_option maxRecDepth 100000 in
theorem s_X12_partsOf_k12 (l : Launch) (D : va_G) (cI cL cZ cR cG cH : ClassId) (Z : zT) (kd : Nat → Nat) (L : List Nat) (f : Nat → va_E) (hG : GI (okc cI cL cZ cR cG cH L kd) kd L f) (o0 : Nat) (mo0 : o0 ∈ L) (ko0 : kd o0 = 12) (p1 : Int32) (p2 : Int32) (p3 : Int32) (bp3 : (1 ≤ p3.toInt ∧ p3.toInt ≤ 3)) (hpreo0 : ∀ (w29 : Int32), fldI (f o0) 29 = some w29 → w29.toInt ≤ 200) (hxtr0 : srel kd 592 f o0) : mPI l D cI cL cZ cR cG cH Z yX12_partsOf cX12_partsOf 6 (some .int) 25 700 [.ref o0, .int p1, .int p2, .int p3] L f (fun (r : Int32) (f9 : Nat → va_E) => GI (okc cI cL cZ cR cG cH L kd) kd L f9 ∧ ((-2147483648) ≤ r.toInt ∧ r.toInt ≤ 2147483647) ∧ (∀ b, kd b ≠ 12 → kd b ≠ 579 → kd b ≠ 581 → kd b ≠ 583 → kd b ≠ 585 → kd b ≠ 587 → kd b ≠ 588 → kd b ≠ 589 → kd b ≠ 590 → kd b ≠ 591 → kd b ≠ 592 → kd b ≠ 593 → kd b ≠ 602 → kd b ≠ 603 → f9 b = f b) ∧ (∀ b, kd b = 12 → ∀ j, fldR (f9 b) j = fldR (f b) j) ∧ (∀ b, kd b = 12 → ∀ j, j ≠ 23 → j ≠ 25 → j ≠ 27 → j ≠ 29 → j ≠ 32 → j ≠ 33 → fldI (f9 b) j = fldI (f b) j) ∧ (∀ (w29 z29 : Int32), fldI (f o0) 29 = some w29 → fldI (f9 o0) 29 = some z29 → z29.toInt = w29.toInt) ∧ (srel kd 592 f9 o0)) := by
  obtain ⟨dC, dI⟩ := D
  refine Met.ofW (cc := cX12_partsOf) (maxL := 6) (ret := (some .int)) (by decide) rfl ?_
  intro p e s m args below meth c s₁ B hml hv
  obtain ⟨rfl, hP, hK, hD0, hN, hZ⟩ := hv
  have hx := B.exec
  have hb := B.bytes
  have hr := B.returns
  have hU : ∀ w ∈ wsU, w.before _ s = true := fun w h => atoms_spec (ws := wU yX12_partsOf cX12_partsOf 6 (some .int)) B.pre w (List.mem_cons_of_mem _ h)
  have hown : s.vm.findClass RX12 = some m.cls := findClass_of_methodNamed B.named
  have hlocks := B.notSynchronized
  have hD := pl_in hD0
  have hS : va_S (fun q => q ∈ L) s.heap s.heap [] := va_S.rf
  have hl := lv_entry ([.ref o0, .int p1, .int p2, .int p3]) (n := 6) (Nat.le_of_ble_eq_true rfl)
  rw [lg_entry_eq]
  generalize (lg_sl ([.ref o0, .int p1, .int p2, .int p3]) ++ List.replicate (6 - (lg_sl ([.ref o0, .int p1, .int p2, .int p3])).length) Slot.unset).toArray = ls at hl ⊢
  have hl : lv_has ls 6 [(0, .ref o0), (1, .int p1), (2, .int p2), (3, .int p3)] := hl
  have bp1 : ((-2147483648) ≤ p1.toInt ∧ p1.toInt ≤ 2147483647) := ⟨i32_lo _, i32_hi _⟩
  have bp2 : ((-2147483648) ≤ p2.toInt ∧ p2.toInt ≤ 2147483647) := ⟨i32_lo _, i32_hi _⟩
  have hfr0 : ∀ b, kd b ≠ 12 → kd b ≠ 579 → kd b ≠ 581 → kd b ≠ 583 → kd b ≠ 585 → kd b ≠ 587 → kd b ≠ 588 → kd b ≠ 589 → kd b ≠ 590 → kd b ≠ 591 → kd b ≠ 592 → kd b ≠ 593 → kd b ≠ 602 → kd b ≠ 603 → f b = f b := fun _ _ _ _ _ _ _ _ _ _ _ _ _ _ _ => rfl
  have hrA12 : ∀ b, kd b = 12 → ∀ j, fldR (f b) j = fldR (f b) j := fun _ _ _ => rfl
  have hfA12 : ∀ b, kd b = 12 → ∀ j, j ≠ 23 → j ≠ 25 → j ≠ 27 → j ≠ 29 → j ≠ 32 → j ≠ 33 → fldI (f b) j = fldI (f b) j := fun _ _ _ _ _ _ _ _ _ => rfl
  obtain ⟨a_1, a_2, a_3, v_4, a_5, v_6, v_7, v_8, v_9, v_10, v_11, v_12, v_13, v_14, v_15, a_16, a_17, a_18, a_19, a_20, a_21, a_22, a_23, v_24, v_25, v_26, v_27, v_28, a_29, v_30, a_31, a_32, v_33, v_34, a_35, v_36, a_37, a_38, v_39, v_40, a_41, a_42, a_43, v_44, a_45, a_46, a_47, a_48, a_49, a_50, a_51, a_52, a_53, v_54, v_55, a_56, hfo_57, fa_58⟩ := un12 (hG _ mo0) ko0
  obtain ⟨ma_1, ka_1⟩ := fa12_0 fa_58
  have bv_30 : (0 ≤ v_30.toInt ∧ v_30.toInt ≤ 201) := fa12_29 fa_58
  have hpo0 := hpreo0 v_30 (by rw [hfo_57]; rfl)
  have hT0 := hxtr0
  refine lv_aload_n hx hb dX12_partsOf_0 rfl (lv_at hl 0 rfl) ?_
  refine lv_iload_n hx hb dX12_partsOf_1 rfl (lv_at hl 3 rfl) ?_
  refine tk_ViP (As := [.int p3]) (rest := []) (n := 1) hx hb hml hown hU hN hZ (s_X12_wordsUpTo_k12 l (dC, dI) cI cL cZ cR cG cH Z kd L f hG o0 mo0 ko0 p3 (by constructor <;> omega)) wd_1169 wd_1170 wd_1171 wd_5 wd_1172 (by decide +kernel) ⟨Nat.le_of_ble_eq_true rfl, Nat.le_of_ble_eq_true rfl⟩ hK hP hD hS mo0 hfo_57 12 rfl rfl rfl hl.1 rfl (Nat.le_of_ble_eq_true rfl) dX12_partsOf_2 ⟨Nat.le_of_ble_eq_true rfl, Nat.le_of_ble_eq_true rfl⟩ (fun x_59 f_60 H locs hw hP hD hS => ?_)
  obtain ⟨rfl, bx_59, hxp_61⟩ := hw
  obtain ⟨g_64, hfo_63, hbg_64⟩ := un_575 (hG _ ma_1) ka_1
  have hwu := hxp_61 a_1 g_64 (by rw [hfo_57]; rfl) hfo_63
  have hsq := lw_sq (L := (g_64 0).toInt) (hbg_64.1 0 (by decide) (by decide) (by decide))
  refine lv_istore (lv' := [(4, .int x_59), (0, .ref o0), (1, .int p1), (2, .int p2), (3, .int p3)]) hx hb dX12_partsOf_5 hl (by decide) rfl (fun ls hl => ?_)
  refine lv_iconst (v := 0) hx hb dX12_partsOf_7 (by decide) ?_
  refine lv_istore (lv' := [(5, .int 0), (4, .int x_59), (0, .ref o0), (1, .int p1), (2, .int p2), (3, .int p3)]) hx hb dX12_partsOf_8 hl (by decide) rfl (fun ls hl => ?_)
  have hloop_71 : ∀ (n : Nat), ∀ (y_72 : Int32), (0 ≤ y_72.toInt ∧ y_72.toInt ≤ 584) → ∀ (f_74 : Nat → va_E), GI (okc cI cL cZ cR cG cH L kd) kd L f_74 → ∀ (H : Heap) (locs : List Loc), va_P (dC, dI) vwCl (va_pl L f_74) H → va_S (fun q => q ∈ L) s.heap H locs → va_D (fun q => q ∈ L) (va_pl L f_74) → (∀ b, kd b ≠ 12 → kd b ≠ 579 → kd b ≠ 581 → kd b ≠ 583 → kd b ≠ 585 → kd b ≠ 587 → kd b ≠ 588 → kd b ≠ 589 → kd b ≠ 590 → kd b ≠ 591 → kd b ≠ 592 → kd b ≠ 593 → kd b ≠ 602 → kd b ≠ 603 → f_74 b = f b) → (∀ b, kd b = 12 → ∀ j, fldR (f_74 b) j = fldR (f b) j) → (∀ b, kd b = 12 → ∀ j, j ≠ 23 → j ≠ 25 → j ≠ 27 → j ≠ 29 → j ≠ 32 → j ≠ 33 → fldI (f_74 b) j = fldI (f b) j) → (f_74 a_1 = .inl (cI, 1560, .inl g_64)) → srel kd 592 f_74 o0 → ∀ (whloop_71_0_29 : Int32), fldI (f_74 o0) 29 = some whloop_71_0_29 → (whloop_71_0_29.toInt = v_30.toInt) → (0 ≤ whloop_71_0_29.toInt ∧ whloop_71_0_29.toInt ≤ 201) → 584 - y_72.toInt < (n : Int) → ∀ (ls : Array Slot), lv_has ls 6 [(5, .int y_72), (4, .int x_59), (0, .ref o0), (1, .int p1), (2, .int p2), (3, .int p3)] → W p l e (headSpec (wU yX12_partsOf cX12_partsOf 6 (some .int)) { frames := 25, cells := 0, slots := 0, locals := 700 }).room s m [.ref o0, .int p1, .int p2, .int p3].toArray below meth c H locs 0 0 (MQ below (va_Qi (fun (r : Int32) (f9 : Nat → va_E) => GI (okc cI cL cZ cR cG cH L kd) kd L f9 ∧ ((-2147483648) ≤ r.toInt ∧ r.toInt ≤ 2147483647) ∧ (∀ b, kd b ≠ 12 → kd b ≠ 579 → kd b ≠ 581 → kd b ≠ 583 → kd b ≠ 585 → kd b ≠ 587 → kd b ≠ 588 → kd b ≠ 589 → kd b ≠ 590 → kd b ≠ 591 → kd b ≠ 592 → kd b ≠ 593 → kd b ≠ 602 → kd b ≠ 603 → f9 b = f b) ∧ (∀ b, kd b = 12 → ∀ j, fldR (f9 b) j = fldR (f b) j) ∧ (∀ b, kd b = 12 → ∀ j, j ≠ 23 → j ≠ 25 → j ≠ 27 → j ≠ 29 → j ≠ 32 → j ≠ 33 → fldI (f9 b) j = fldI (f b) j) ∧ (∀ (w29 z29 : Int32), fldI (f o0) 29 = some w29 → fldI (f9 o0) 29 = some z29 → z29.toInt = w29.toInt) ∧ (srel kd 592 f9 o0)) (qP (dC, dI) cI cL cZ cR cG cH L) (fun q => q ∈ L)) [.ref o0, .int p1, .int p2, .int p3].toArray s 0 0 (fun q => q ∈ L)) (F0 m 10 ls []) := by
    intro n
    induction n with
    | zero => intro y_72 by_72 f_74 hG H locs hP hS hD hfr0 hrA12 hfA12 hfo_75 hT0 whloop_71_0_29 hghloop_71_0_29 hrelhloop_71_0 hrelhloop_71_1 hmuhloop_71 ls hl; exfalso; omega
    | succ n ih_hloop_71 =>
      intro y_72 by_72 f_74 hG H locs hP hS hD hfr0 hrA12 hfA12 hfo_75 hT0 whloop_71_0_29 hghloop_71_0_29 hrelhloop_71_0 hrelhloop_71_1 hmuhloop_71 ls hl
      obtain ⟨v_76, v_77, v_78, v_79, v_80, v_81, hfo_82, fa_83⟩ := op12_23_25_27_29_32_33 hfo_57 (hG _ mo0) ko0 (hrA12 o0 ko0) (hfA12 o0 ko0)
      have bv_76 : (0 ≤ v_76.toInt ∧ v_76.toInt ≤ 12) := fa12_23 fa_83
      have bv_77 : (0 ≤ v_77.toInt ∧ v_77.toInt ≤ 4) := fa12_25 fa_83
      have bv_78 : (0 ≤ v_78.toInt ∧ v_78.toInt ≤ 1) := fa12_27 fa_83
      have bv_79 : (0 ≤ v_79.toInt ∧ v_79.toInt ≤ 201) := fa12_29 fa_83
      have bv_80 : (0 ≤ v_80.toInt ∧ v_80.toInt ≤ 6561) := fa12_32 fa_83
      have bv_81 : ((-2147483648) ≤ v_81.toInt ∧ v_81.toInt ≤ 2147483647) := ⟨i32_lo _, i32_hi _⟩
      obtain rfl : v_79 = whloop_71_0_29 := by rw [hfo_82] at hghloop_71_0_29; exact Option.some.inj hghloop_71_0_29
      refine lv_iload hx hb dX12_partsOf_10 (lv_at hl 0 rfl) ?_
      refine lv_iload hx hb dX12_partsOf_12 (lv_at hl 1 rfl) ?_
      refine lv_icmp_ge (tgt := 41) hx hb dX12_partsOf_14 (by decide) (fun c_84 => ?_) (fun c_84 => ?_)
      · skip
        rw [Int32.le_iff_toInt_le] at c_84
        refine lv_iconst (v := (-1)) hx hb dX12_partsOf_41 (by decide) ?_
        exact W.iret (v := (-1)) hx hb hr (fun t ht hW => ⟨⟨(-1), f_74, rfl, ⟨hG, (by decide), hfr0, hrA12, hfA12, (by intro w29 z29 e29 d29; rw [hfo_57] at e29; rw [hfo_82] at d29; obtain rfl := Option.some.inj e29; obtain rfl := Option.some.inj d29; (try rw [ti_m1]) <;> omega), hT0⟩, by rw [ht]; exact hP, va_K.moved hW.alike hK, pl_in hD⟩, hS.F ht⟩) hS.2.2 dX12_partsOf_42
      · skip
        rw [Int32.le_iff_toInt_le] at c_84
        refine lv_aload_n hx hb dX12_partsOf_17 rfl (lv_at hl 2 rfl) ?_
        refine lv_iload hx hb dX12_partsOf_18 (lv_at hl 0 rfl) ?_
        refine tk_VvP (As := [.int y_72]) (rest := []) (n := 1) hx hb hml hown hU hN hZ (s_X12_laysWord_k12 l (dC, dI) cI cL cZ cR cG cH Z kd L f_74 hG o0 mo0 ko0 y_72 (by constructor <;> omega) (fun b9 g9 h1 h2 => by rw [hfo_82] at h1; obtain rfl := Option.some.inj h1; rw [hfo_75] at h2; cases h2; omega)) wd_1173 wd_1174 wd_1175 wd_5 wd_1176 (by decide +kernel) ⟨Nat.le_of_ble_eq_true rfl, Nat.le_of_ble_eq_true rfl⟩ hK hP hD hS mo0 hfo_82 12 rfl rfl rfl hl.1 rfl (Nat.le_of_ble_eq_true rfl) dX12_partsOf_20 ⟨Nat.le_of_ble_eq_true rfl, Nat.le_of_ble_eq_true rfl⟩ (fun f_86 H locs hw hP hD hS => ?_)
        obtain ⟨hG, hkc_87, hra_88, hfa_89, hpost_90, hxp_91⟩ := hw
        have hfo_93 : f_86 a_1 = .inl (cI, 1560, .inl g_64) := by rw [hkc_87 a_1 (by rw [ka_1]; decide) (by rw [ka_1]; decide)]; exact hfo_75
        have hfr0 : ∀ b, kd b ≠ 12 → kd b ≠ 579 → kd b ≠ 581 → kd b ≠ 583 → kd b ≠ 585 → kd b ≠ 587 → kd b ≠ 588 → kd b ≠ 589 → kd b ≠ 590 → kd b ≠ 591 → kd b ≠ 592 → kd b ≠ 593 → kd b ≠ 602 → kd b ≠ 603 → f_86 b = f b := fun b q12 q579 q581 q583 q585 q587 q588 q589 q590 q591 q592 q593 q602 q603 => (hkc_87 b q12 q589).trans (hfr0 b q12 q579 q581 q583 q585 q587 q588 q589 q590 q591 q592 q593 q602 q603)
        have hrA12 : ∀ b, kd b = 12 → ∀ j, fldR (f_86 b) j = fldR (f b) j := fun b kb j => (hra_88 b kb j).trans (hrA12 b kb j)
        have hfA12 : ∀ b, kd b = 12 → ∀ j, j ≠ 23 → j ≠ 25 → j ≠ 27 → j ≠ 29 → j ≠ 32 → j ≠ 33 → fldI (f_86 b) j = fldI (f b) j := fun b kb j n23 n25 n27 n29 n32 n33 => (hfa_89 b kb j n23).trans (hfA12 b kb j n23 n25 n27 n29 n32 n33)
        have hT0 : srel kd 592 f_86 o0 := hT0.keep (fun b q => hra_88 b q 30) (fun b q => hfa_89 b q 32 (by decide)) (fun b q => hfa_89 b q 33 (by decide)) (fun b q => hkc_87 b (by rw [q]; decide) (by rw [q]; decide))
        obtain ⟨v_94, hfo_95, fa_96⟩ := op12_23 hfo_82 (hG _ mo0) ko0 (hra_88 o0 ko0) (hfa_89 o0 ko0)
        have bv_94 : (0 ≤ v_94.toInt ∧ v_94.toInt ≤ 12) := fa12_23 fa_96
        have hqhpost_90 := hpost_90 v_76 v_94 (by rw [hfo_82]; rfl) (by rw [hfo_95]; rfl)
        have hlw2 := hxp_91 a_1 g_64 v_94 (by rw [hfo_82]; rfl) hfo_75 (by rw [hfo_95]; rfl)
        refine lv_aload_n hx hb dX12_partsOf_23 rfl (lv_at hl 2 rfl) ?_
        refine lv_iload_n hx hb dX12_partsOf_24 rfl (lv_at hl 3 rfl) ?_
        refine lv_iload_n hx hb dX12_partsOf_25 rfl (lv_at hl 4 rfl) ?_
        refine tk_ViP (As := [.int p1, .int p2]) (rest := []) (n := 2) hx hb hml hown hU hN hZ (s_X12_isParted_k12 l (dC, dI) cI cL cZ cR cG cH Z kd L f_86 hG o0 mo0 ko0 p1 p2 (by intro w23 w29 e23 e29; rw [hfo_95] at e23 e29; obtain rfl := Option.some.inj e23; obtain rfl := Option.some.inj e29; omega) hT0) wd_1338 wd_1339 wd_1340 wd_5 wd_1341 (by decide +kernel) ⟨Nat.le_of_ble_eq_true rfl, Nat.le_of_ble_eq_true rfl⟩ hK hP hD hS mo0 hfo_95 12 rfl rfl rfl hl.1 rfl (Nat.le_of_ble_eq_true rfl) dX12_partsOf_26 ⟨Nat.le_of_ble_eq_true rfl, Nat.le_of_ble_eq_true rfl⟩ (fun x_97 f_98 H locs hw hP hD hS => ?_)
        obtain ⟨hG, bx_97, hkc_99, hra_100, hfa_101, hpost_102, hTc_103⟩ := hw
        have hfo_105 : f_98 a_1 = .inl (cI, 1560, .inl g_64) := by rw [hkc_99 a_1 (by rw [ka_1]; decide) (by rw [ka_1]; decide) (by rw [ka_1]; decide) (by rw [ka_1]; decide) (by rw [ka_1]; decide) (by rw [ka_1]; decide) (by rw [ka_1]; decide) (by rw [ka_1]; decide) (by rw [ka_1]; decide) (by rw [ka_1]; decide) (by rw [ka_1]; decide) (by rw [ka_1]; decide) (by rw [ka_1]; decide)]; exact hfo_93
        have hfr0 : ∀ b, kd b ≠ 12 → kd b ≠ 579 → kd b ≠ 581 → kd b ≠ 583 → kd b ≠ 585 → kd b ≠ 587 → kd b ≠ 588 → kd b ≠ 589 → kd b ≠ 590 → kd b ≠ 591 → kd b ≠ 592 → kd b ≠ 593 → kd b ≠ 602 → kd b ≠ 603 → f_98 b = f b := fun b q12 q579 q581 q583 q585 q587 q588 q589 q590 q591 q592 q593 q602 q603 => (hkc_99 b q12 q579 q581 q583 q585 q587 q588 q590 q591 q592 q593 q602 q603).trans (hfr0 b q12 q579 q581 q583 q585 q587 q588 q589 q590 q591 q592 q593 q602 q603)
        have hrA12 : ∀ b, kd b = 12 → ∀ j, fldR (f_98 b) j = fldR (f b) j := fun b kb j => (hra_100 b kb j).trans (hrA12 b kb j)
        have hfA12 : ∀ b, kd b = 12 → ∀ j, j ≠ 23 → j ≠ 25 → j ≠ 27 → j ≠ 29 → j ≠ 32 → j ≠ 33 → fldI (f_98 b) j = fldI (f b) j := fun b kb j n23 n25 n27 n29 n32 n33 => (hfa_101 b kb j n25 n27 n29 n32 n33).trans (hfA12 b kb j n23 n25 n27 n29 n32 n33)
        obtain ⟨v_106, v_107, v_108, v_109, v_110, hfo_111, fa_112⟩ := op12_25_27_29_32_33 hfo_95 (hG _ mo0) ko0 (hra_100 o0 ko0) (hfa_101 o0 ko0)
        have bv_106 : (0 ≤ v_106.toInt ∧ v_106.toInt ≤ 4) := fa12_25 fa_112
        have bv_107 : (0 ≤ v_107.toInt ∧ v_107.toInt ≤ 1) := fa12_27 fa_112
        have bv_108 : (0 ≤ v_108.toInt ∧ v_108.toInt ≤ 201) := fa12_29 fa_112
        have bv_109 : (0 ≤ v_109.toInt ∧ v_109.toInt ≤ 6561) := fa12_32 fa_112
        have bv_110 : ((-2147483648) ≤ v_110.toInt ∧ v_110.toInt ≤ 2147483647) := ⟨i32_lo _, i32_hi _⟩
        have hqhpost_102 := hpost_102 v_79 v_108 (by rw [hfo_95]; rfl) (by rw [hfo_111]; rfl)
        refine lv_if_eq (tgt := 35) hx hb dX12_partsOf_29 (by decide) (fun c_113 => ?_) (fun c_113 => ?_)
        · skip
          rw [← Int32.toInt_inj, ti_0] at c_113
          obtain ⟨x_114, ex_114⟩ : ∃ y : Int32, y_72 + 1 = y := ⟨_, rfl⟩
          have hx_114 : x_114.toInt = y_72.toInt + 1 := by rw [← ex_114, ad_I (by rw [ti_1]; omega) (by rw [ti_1]; omega), ti_1]
          have bx_114 : (1 ≤ x_114.toInt ∧ x_114.toInt ≤ 584) := by constructor <;> omega
          refine lv_iinc (v := x_114) (lv' := [(5, .int x_114), (4, .int x_59), (0, .ref o0), (1, .int p1), (2, .int p2), (3, .int p3)]) hx hb dX12_partsOf_35 hl (k := 0) rfl ex_114 (by decide) rfl (fun ls hl => ?_)
          refine lv_goto (tgt := 10) hx hb dX12_partsOf_38 (by decide) ?_
          exact ih_hloop_71 x_114 (by constructor <;> omega) f_98 hG _ _ hP hS hD hfr0 hrA12 hfA12 hfo_105 hTc_103 v_108 (by rw [hfo_111]; rfl) (by omega) (by omega) (by omega) ls (lv_sub hl [0, 1, 2, 3, 4, 5] rfl)
        · skip
          rw [← Int32.toInt_inj, ti_0] at c_113
          refine lv_iload hx hb dX12_partsOf_32 (lv_at hl 0 rfl) ?_
          exact W.iret (v := y_72) hx hb hr (fun t ht hW => ⟨⟨y_72, f_98, rfl, ⟨hG, (by constructor <;> omega), hfr0, hrA12, hfA12, (by intro w29 z29 e29 d29; rw [hfo_57] at e29; rw [hfo_111] at d29; obtain rfl := Option.some.inj e29; obtain rfl := Option.some.inj d29; omega), hTc_103⟩, by rw [ht]; exact hP, va_K.moved hW.alike hK, pl_in hD⟩, hS.F ht⟩) hS.2.2 dX12_partsOf_34
  exact hloop_71 585 0 (by decide) f hG _ _ hP hS hD hfr0 hrA12 hfA12 hfo_63 hT0 v_30 (by rw [hfo_57]; rfl) (by (try rw [ti_0]) <;> omega) (by (try rw [ti_0]) <;> omega) (by (try rw [ti_0]) <;> omega) ls hl
set_option maxHeartbeats 8000000 in
set_option maxRecDepth 100000 in
theorem s_X12_parts_k12 (l : Launch) (D : va_G) (cI cL cZ cR cG cH : ClassId) (Z : zT) (kd : Nat → Nat) (L : List Nat) (f : Nat → va_E) (hG : GI (okc cI cL cZ cR cG cH L kd) kd L f) (o0 : Nat) (mo0 : o0 ∈ L) (ko0 : kd o0 = 12) (p1 : Int32) (p2 : Int32) (p3 : Int32) (hpreo0 : ∀ (w29 : Int32), fldI (f o0) 29 = some w29 → w29.toInt ≤ 200) (hxtr0 : srel kd 592 f o0) : mPI l D cI cL cZ cR cG cH Z yX12_parts cX12_parts 4 (some .int) 26 725 [.ref o0, .int p1, .int p2, .int p3] L f (fun (r : Int32) (f9 : Nat → va_E) => GI (okc cI cL cZ cR cG cH L kd) kd L f9 ∧ ((-2147483648) ≤ r.toInt ∧ r.toInt ≤ 2147483647) ∧ (∀ b, kd b ≠ 12 → kd b ≠ 579 → kd b ≠ 581 → kd b ≠ 583 → kd b ≠ 585 → kd b ≠ 587 → kd b ≠ 588 → kd b ≠ 589 → kd b ≠ 590 → kd b ≠ 591 → kd b ≠ 592 → kd b ≠ 593 → kd b ≠ 602 → kd b ≠ 603 → f9 b = f b) ∧ (∀ b, kd b = 12 → ∀ j, fldR (f9 b) j = fldR (f b) j) ∧ (∀ b, kd b = 12 → ∀ j, j ≠ 23 → j ≠ 25 → j ≠ 27 → j ≠ 29 → j ≠ 32 → j ≠ 33 → fldI (f9 b) j = fldI (f b) j) ∧ (∀ (w29 z29 : Int32), fldI (f o0) 29 = some w29 → fldI (f9 o0) 29 = some z29 → z29.toInt = w29.toInt) ∧ (srel kd 592 f9 o0)) := by
  obtain ⟨dC, dI⟩ := D
  refine Met.ofW (cc := cX12_parts) (maxL := 4) (ret := (some .int)) (by decide) rfl ?_
  intro p e s m args below meth c s₁ B hml hv
  obtain ⟨rfl, hP, hK, hD0, hN, hZ⟩ := hv
  have hx := B.exec
  have hb := B.bytes
  have hr := B.returns
  have hU : ∀ w ∈ wsU, w.before _ s = true := fun w h => atoms_spec (ws := wU yX12_parts cX12_parts 4 (some .int)) B.pre w (List.mem_cons_of_mem _ h)
  have hown : s.vm.findClass RX12 = some m.cls := findClass_of_methodNamed B.named
  have hlocks := B.notSynchronized
  have hD := pl_in hD0
  have hS : va_S (fun q => q ∈ L) s.heap s.heap [] := va_S.rf
  have hl := lv_entry ([.ref o0, .int p1, .int p2, .int p3]) (n := 4) (Nat.le_of_ble_eq_true rfl)
  rw [lg_entry_eq]
  generalize (lg_sl ([.ref o0, .int p1, .int p2, .int p3]) ++ List.replicate (4 - (lg_sl ([.ref o0, .int p1, .int p2, .int p3])).length) Slot.unset).toArray = ls at hl ⊢
  have hl : lv_has ls 4 [(0, .ref o0), (1, .int p1), (2, .int p2), (3, .int p3)] := hl
  have bp1 : ((-2147483648) ≤ p1.toInt ∧ p1.toInt ≤ 2147483647) := ⟨i32_lo _, i32_hi _⟩
  have bp2 : ((-2147483648) ≤ p2.toInt ∧ p2.toInt ≤ 2147483647) := ⟨i32_lo _, i32_hi _⟩
  have bp3 : ((-2147483648) ≤ p3.toInt ∧ p3.toInt ≤ 2147483647) := ⟨i32_lo _, i32_hi _⟩
  have hfr0 : ∀ b, kd b ≠ 12 → kd b ≠ 579 → kd b ≠ 581 → kd b ≠ 583 → kd b ≠ 585 → kd b ≠ 587 → kd b ≠ 588 → kd b ≠ 589 → kd b ≠ 590 → kd b ≠ 591 → kd b ≠ 592 → kd b ≠ 593 → kd b ≠ 602 → kd b ≠ 603 → f b = f b := fun _ _ _ _ _ _ _ _ _ _ _ _ _ _ _ => rfl
  have hrA12 : ∀ b, kd b = 12 → ∀ j, fldR (f b) j = fldR (f b) j := fun _ _ _ => rfl
  have hfA12 : ∀ b, kd b = 12 → ∀ j, j ≠ 23 → j ≠ 25 → j ≠ 27 → j ≠ 29 → j ≠ 32 → j ≠ 33 → fldI (f b) j = fldI (f b) j := fun _ _ _ _ _ _ _ _ _ => rfl
  obtain ⟨a_1, a_2, a_3, v_4, a_5, v_6, v_7, v_8, v_9, v_10, v_11, v_12, v_13, v_14, v_15, a_16, a_17, a_18, a_19, a_20, a_21, a_22, a_23, v_24, v_25, v_26, v_27, v_28, a_29, v_30, a_31, a_32, v_33, v_34, a_35, v_36, a_37, a_38, v_39, v_40, a_41, a_42, a_43, v_44, a_45, a_46, a_47, a_48, a_49, a_50, a_51, a_52, a_53, v_54, v_55, a_56, hfo_57, fa_58⟩ := un12 (hG _ mo0) ko0
  have bv_30 : (0 ≤ v_30.toInt ∧ v_30.toInt ≤ 201) := fa12_29 fa_58
  have hpo0 := hpreo0 v_30 (by rw [hfo_57]; rfl)
  have hT0 := hxtr0
  refine lv_iload_n hx hb dX12_parts_0 rfl (lv_at hl 1 rfl) ?_
  refine lv_iconst (v := 0) hx hb dX12_parts_1 (by decide) ?_
  refine lv_aload_n hx hb dX12_parts_2 rfl (lv_at hl 0 rfl) ?_
  refine tk_ViP (As := []) (rest := [.int 0, .int p1]) (n := 0) hx hb hml hown hU hN hZ (s_X12_allRules_k12 l (dC, dI) cI cL cZ cR cG cH Z kd L f hG o0 mo0 ko0) wd_686 wd_687 wd_688 wd_5 wd_689 (by decide +kernel) ⟨Nat.le_of_ble_eq_true rfl, Nat.le_of_ble_eq_true rfl⟩ hK hP hD hS mo0 hfo_57 12 rfl rfl rfl hl.1 rfl (Nat.le_of_ble_eq_true rfl) dX12_parts_3 ⟨Nat.le_of_ble_eq_true rfl, Nat.le_of_ble_eq_true rfl⟩ (fun x_59 f_60 H locs hw hP hD hS => ?_)
  obtain ⟨rfl, bx_59⟩ := hw
  refine tk_SiP (As := [.int p1, .int 0, .int x_59]) (rest := []) (n := 3) hx hb hml hown hU hN hZ (s_X12_isIn l (dC, dI) cI cL cZ cR cG cH Z kd L f hG p1 0 x_59) wd_227 wd_228 wd_5 wd_229 (by decide +kernel) ⟨Nat.le_of_ble_eq_true rfl, Nat.le_of_ble_eq_true rfl⟩ hK hP hD hS rfl hl.1 rfl (Nat.le_of_ble_eq_true rfl) dX12_parts_6 ⟨Nat.le_of_ble_eq_true rfl, Nat.le_of_ble_eq_true rfl⟩ (fun x_62 f_63 H locs hw hP hD hS => ?_)
  obtain ⟨rfl, bx_62, relx_62⟩ := hw
  try rw [ti_0] at relx_62
  refine lv_if_eq (tgt := 33) hx hb dX12_parts_9 (by decide) (fun c_65 => ?_) (fun c_65 => ?_)
  · skip
    rw [← Int32.toInt_inj, ti_0] at c_65
    refine lv_bipush (v := (-2)) hx hb dX12_parts_33 (by decide) ?_
    exact W.iret (v := (-2)) hx hb hr (fun t ht hW => ⟨⟨(-2), f, rfl, ⟨hG, (by decide), hfr0, hrA12, hfA12, (by intro w29 z29 e29 d29; rw [hfo_57] at e29; rw [hfo_57] at d29; obtain rfl := Option.some.inj e29; obtain rfl := Option.some.inj d29; (try rw [ti_m2]) <;> omega), hT0⟩, by rw [ht]; exact hP, va_K.moved hW.alike hK, pl_in hD⟩, hS.F ht⟩) hS.2.2 dX12_parts_35
  · skip
    rw [← Int32.toInt_inj, ti_0] at c_65
    refine lv_iload_n hx hb dX12_parts_12 rfl (lv_at hl 2 rfl) ?_
    refine lv_iconst (v := 0) hx hb dX12_parts_13 (by decide) ?_
    refine lv_aload_n hx hb dX12_parts_14 rfl (lv_at hl 0 rfl) ?_
    refine tk_ViP (As := []) (rest := [.int 0, .int p2]) (n := 0) hx hb hml hown hU hN hZ (s_X12_allRules_k12 l (dC, dI) cI cL cZ cR cG cH Z kd L f hG o0 mo0 ko0) wd_686 wd_687 wd_688 wd_5 wd_689 (by decide +kernel) ⟨Nat.le_of_ble_eq_true rfl, Nat.le_of_ble_eq_true rfl⟩ hK hP hD hS mo0 hfo_57 12 rfl rfl rfl hl.1 rfl (Nat.le_of_ble_eq_true rfl) dX12_parts_15 ⟨Nat.le_of_ble_eq_true rfl, Nat.le_of_ble_eq_true rfl⟩ (fun x_66 f_67 H locs hw hP hD hS => ?_)
    obtain ⟨rfl, bx_66⟩ := hw
    refine tk_SiP (As := [.int p2, .int 0, .int x_66]) (rest := []) (n := 3) hx hb hml hown hU hN hZ (s_X12_isIn l (dC, dI) cI cL cZ cR cG cH Z kd L f hG p2 0 x_66) wd_227 wd_228 wd_5 wd_229 (by decide +kernel) ⟨Nat.le_of_ble_eq_true rfl, Nat.le_of_ble_eq_true rfl⟩ hK hP hD hS rfl hl.1 rfl (Nat.le_of_ble_eq_true rfl) dX12_parts_18 ⟨Nat.le_of_ble_eq_true rfl, Nat.le_of_ble_eq_true rfl⟩ (fun x_69 f_70 H locs hw hP hD hS => ?_)
    obtain ⟨rfl, bx_69, relx_69⟩ := hw
    try rw [ti_0] at relx_69
    refine lv_if_eq (tgt := 33) hx hb dX12_parts_21 (by decide) (fun c_72 => ?_) (fun c_72 => ?_)
    · skip
      rw [← Int32.toInt_inj, ti_0] at c_72
      refine lv_bipush (v := (-2)) hx hb dX12_parts_33 (by decide) ?_
      exact W.iret (v := (-2)) hx hb hr (fun t ht hW => ⟨⟨(-2), f, rfl, ⟨hG, (by decide), hfr0, hrA12, hfA12, (by intro w29 z29 e29 d29; rw [hfo_57] at e29; rw [hfo_57] at d29; obtain rfl := Option.some.inj e29; obtain rfl := Option.some.inj d29; (try rw [ti_m2]) <;> omega), hT0⟩, by rw [ht]; exact hP, va_K.moved hW.alike hK, pl_in hD⟩, hS.F ht⟩) hS.2.2 dX12_parts_35
    · skip
      rw [← Int32.toInt_inj, ti_0] at c_72
      refine lv_iload_n hx hb dX12_parts_24 rfl (lv_at hl 3 rfl) ?_
      refine lv_iconst (v := 1) hx hb dX12_parts_25 (by decide) ?_
      refine lv_iconst (v := 3) hx hb dX12_parts_26 (by decide) ?_
      refine tk_SiP (As := [.int p3, .int 1, .int 3]) (rest := []) (n := 3) hx hb hml hown hU hN hZ (s_X12_isIn l (dC, dI) cI cL cZ cR cG cH Z kd L f hG p3 1 3) wd_227 wd_228 wd_5 wd_229 (by decide +kernel) ⟨Nat.le_of_ble_eq_true rfl, Nat.le_of_ble_eq_true rfl⟩ hK hP hD hS rfl hl.1 rfl (Nat.le_of_ble_eq_true rfl) dX12_parts_27 ⟨Nat.le_of_ble_eq_true rfl, Nat.le_of_ble_eq_true rfl⟩ (fun x_73 f_74 H locs hw hP hD hS => ?_)
      obtain ⟨rfl, bx_73, relx_73⟩ := hw
      try rw [ti_1] at relx_73
      try rw [ti_3] at relx_73
      refine lv_if_ne (tgt := 36) hx hb dX12_parts_30 (by decide) (fun c_76 => ?_) (fun c_76 => ?_)
      · skip
        rw [← Int32.toInt_inj, ti_0] at c_76
        refine lv_aload_n hx hb dX12_parts_36 rfl (lv_at hl 0 rfl) ?_
        refine lv_iload_n hx hb dX12_parts_37 rfl (lv_at hl 1 rfl) ?_
        refine lv_iload_n hx hb dX12_parts_38 rfl (lv_at hl 2 rfl) ?_
        refine lv_iload_n hx hb dX12_parts_39 rfl (lv_at hl 3 rfl) ?_
        refine tk_ViP (As := [.int p1, .int p2, .int p3]) (rest := []) (n := 3) hx hb hml hown hU hN hZ (s_X12_partsOf_k12 l (dC, dI) cI cL cZ cR cG cH Z kd L f hG o0 mo0 ko0 p1 p2 p3 (by constructor <;> omega) (by intro w29 e29; rw [hfo_57] at e29; obtain rfl := Option.some.inj e29; omega) hT0) wd_1334 wd_1335 wd_1336 wd_5 wd_1337 (by decide +kernel) ⟨Nat.le_of_ble_eq_true rfl, Nat.le_of_ble_eq_true rfl⟩ hK hP hD hS mo0 hfo_57 12 rfl rfl rfl hl.1 rfl (Nat.le_of_ble_eq_true rfl) dX12_parts_40 ⟨Nat.le_of_ble_eq_true rfl, Nat.le_of_ble_eq_true rfl⟩ (fun x_77 f_78 H locs hw hP hD hS => ?_)
        obtain ⟨hG, bx_77, hkc_79, hra_80, hfa_81, hpost_82, hTc_83⟩ := hw
        have hfr0 : ∀ b, kd b ≠ 12 → kd b ≠ 579 → kd b ≠ 581 → kd b ≠ 583 → kd b ≠ 585 → kd b ≠ 587 → kd b ≠ 588 → kd b ≠ 589 → kd b ≠ 590 → kd b ≠ 591 → kd b ≠ 592 → kd b ≠ 593 → kd b ≠ 602 → kd b ≠ 603 → f_78 b = f b := fun b q12 q579 q581 q583 q585 q587 q588 q589 q590 q591 q592 q593 q602 q603 => (hkc_79 b q12 q579 q581 q583 q585 q587 q588 q589 q590 q591 q592 q593 q602 q603).trans (hfr0 b q12 q579 q581 q583 q585 q587 q588 q589 q590 q591 q592 q593 q602 q603)
        have hrA12 : ∀ b, kd b = 12 → ∀ j, fldR (f_78 b) j = fldR (f b) j := fun b kb j => (hra_80 b kb j).trans (hrA12 b kb j)
        have hfA12 : ∀ b, kd b = 12 → ∀ j, j ≠ 23 → j ≠ 25 → j ≠ 27 → j ≠ 29 → j ≠ 32 → j ≠ 33 → fldI (f_78 b) j = fldI (f b) j := fun b kb j n23 n25 n27 n29 n32 n33 => (hfa_81 b kb j n23 n25 n27 n29 n32 n33).trans (hfA12 b kb j n23 n25 n27 n29 n32 n33)
        obtain ⟨v_85, v_86, v_87, v_88, v_89, v_90, hfo_91, fa_92⟩ := op12_23_25_27_29_32_33 hfo_57 (hG _ mo0) ko0 (hra_80 o0 ko0) (hfa_81 o0 ko0)
        have bv_85 : (0 ≤ v_85.toInt ∧ v_85.toInt ≤ 12) := fa12_23 fa_92
        have bv_86 : (0 ≤ v_86.toInt ∧ v_86.toInt ≤ 4) := fa12_25 fa_92
        have bv_87 : (0 ≤ v_87.toInt ∧ v_87.toInt ≤ 1) := fa12_27 fa_92
        have bv_88 : (0 ≤ v_88.toInt ∧ v_88.toInt ≤ 201) := fa12_29 fa_92
        have bv_89 : (0 ≤ v_89.toInt ∧ v_89.toInt ≤ 6561) := fa12_32 fa_92
        have bv_90 : ((-2147483648) ≤ v_90.toInt ∧ v_90.toInt ≤ 2147483647) := ⟨i32_lo _, i32_hi _⟩
        have hqhpost_82 := hpost_82 v_30 v_88 (by rw [hfo_57]; rfl) (by rw [hfo_91]; rfl)
        exact W.iret (v := x_77) hx hb hr (fun t ht hW => ⟨⟨x_77, f_78, rfl, ⟨hG, (by constructor <;> omega), hfr0, hrA12, hfA12, (by intro w29 z29 e29 d29; rw [hfo_57] at e29; rw [hfo_91] at d29; obtain rfl := Option.some.inj e29; obtain rfl := Option.some.inj d29; omega), hTc_83⟩, by rw [ht]; exact hP, va_K.moved hW.alike hK, pl_in hD⟩, hS.F ht⟩) hS.2.2 dX12_parts_43
      · skip
        rw [← Int32.toInt_inj, ti_0] at c_76
        refine lv_bipush (v := (-2)) hx hb dX12_parts_33 (by decide) ?_
        exact W.iret (v := (-2)) hx hb hr (fun t ht hW => ⟨⟨(-2), f, rfl, ⟨hG, (by decide), hfr0, hrA12, hfA12, (by intro w29 z29 e29 d29; rw [hfo_57] at e29; rw [hfo_57] at d29; obtain rfl := Option.some.inj e29; obtain rfl := Option.some.inj d29; (try rw [ti_m2]) <;> omega), hT0⟩, by rw [ht]; exact hP, va_K.moved hW.alike hK, pl_in hD⟩, hS.F ht⟩) hS.2.2 dX12_parts_35
