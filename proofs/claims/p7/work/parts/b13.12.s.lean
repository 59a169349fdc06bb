set_option maxHeartbeats 8000000 in
set_option maxRecDepth 100000 in
theorem s_X12_marksAll_k12 (l : Launch) (D : va_G) (cI cL cZ cR cG cH : ClassId) (Z : zT) (kd : Nat → Nat) (L : List Nat) (f : Nat → va_E) (hG : GI (okc cI cL cZ cR cG cH L kd) kd L f) (o0 : Nat) (mo0 : o0 ∈ L) (ko0 : kd o0 = 12) (p1 : Int32) (hpreo0 : ∀ (w23 : Int32) (w29 : Int32), fldI (f o0) 23 = some w23 → fldI (f o0) 29 = some w29 → w23.toInt ≤ 3 ∧ w29.toInt ≤ 200) (hxtr0 : srel kd 592 f o0) : mPV l D cI cL cZ cR cG cH Z yX12_marksAll cX12_marksAll 2 none 23 655 [.ref o0, .int p1] L f (fun (f9 : Nat → va_E) => GI (okc cI cL cZ cR cG cH L kd) kd L f9 ∧ (∀ b, kd b ≠ 12 → kd b ≠ 579 → kd b ≠ 581 → kd b ≠ 583 → kd b ≠ 585 → kd b ≠ 587 → kd b ≠ 588 → kd b ≠ 590 → kd b ≠ 591 → kd b ≠ 592 → kd b ≠ 593 → kd b ≠ 603 → f9 b = f b) ∧ (∀ b, kd b = 12 → ∀ j, fldR (f9 b) j = fldR (f b) j) ∧ (∀ b, kd b = 12 → ∀ j, j ≠ 25 → j ≠ 27 → j ≠ 29 → j ≠ 32 → j ≠ 33 → fldI (f9 b) j = fldI (f b) j) ∧ (∀ (w29 z29 : Int32), fldI (f o0) 29 = some w29 → fldI (f9 o0) 29 = some z29 → z29.toInt = w29.toInt) ∧ (srel kd 592 f9 o0)) := by
  obtain ⟨dC, dI⟩ := D
  refine Met.ofW (cc := cX12_marksAll) (maxL := 2) (ret := none) (by decide) rfl ?_
  intro p e s m args below meth c s₁ B hml hv
  obtain ⟨rfl, hP, hK, hD0, hN, hZ⟩ := hv
  have hx := B.exec
  have hb := B.bytes
  have hr := B.returns
  have hU : ∀ w ∈ wsU, w.before _ s = true := fun w h => atoms_spec (ws := wU yX12_marksAll cX12_marksAll 2 none) B.pre w (List.mem_cons_of_mem _ h)
  have hown : s.vm.findClass RX12 = some m.cls := findClass_of_methodNamed B.named
  have hlocks := B.notSynchronized
  have hD := pl_in hD0
  have hS : va_S (fun q => q ∈ L) s.heap s.heap [] := va_S.rf
  have hl := lv_entry ([.ref o0, .int p1]) (n := 2) (Nat.le_of_ble_eq_true rfl)
  rw [lg_entry_eq]
  generalize (lg_sl ([.ref o0, .int p1]) ++ List.replicate (2 - (lg_sl ([.ref o0, .int p1])).length) Slot.unset).toArray = ls at hl ⊢
  have hl : lv_has ls 2 [(0, .ref o0), (1, .int p1)] := hl
  have bp1 : ((-2147483648) ≤ p1.toInt ∧ p1.toInt ≤ 2147483647) := ⟨i32_lo _, i32_hi _⟩
  have hfr0 : ∀ b, kd b ≠ 12 → kd b ≠ 579 → kd b ≠ 581 → kd b ≠ 583 → kd b ≠ 585 → kd b ≠ 587 → kd b ≠ 588 → kd b ≠ 590 → kd b ≠ 591 → kd b ≠ 592 → kd b ≠ 593 → kd b ≠ 603 → f b = f b := fun _ _ _ _ _ _ _ _ _ _ _ _ _ => rfl
  have hrA12 : ∀ b, kd b = 12 → ∀ j, fldR (f b) j = fldR (f b) j := fun _ _ _ => rfl
  have hfA12 : ∀ b, kd b = 12 → ∀ j, j ≠ 25 → j ≠ 27 → j ≠ 29 → j ≠ 32 → j ≠ 33 → fldI (f b) j = fldI (f b) j := fun _ _ _ _ _ _ _ _ => rfl
  obtain ⟨a_2, a_3, a_4, v_5, a_6, v_7, v_8, v_9, v_10, v_11, v_12, v_13, v_14, v_15, v_16, a_17, a_18, a_19, a_20, a_21, a_22, a_23, a_24, v_25, v_26, v_27, v_28, v_29, a_30, v_31, a_32, a_33, v_34, v_35, a_36, v_37, a_38, a_39, v_40, v_41, a_42, a_43, a_44, v_45, a_46, a_47, a_48, a_49, a_50, a_51, a_52, a_53, a_54, v_55, v_56, a_57, hfo_1, ⟨ma_2, ka_2⟩, ⟨ma_3, ka_3⟩, ⟨ma_4, ka_4⟩, bv_5, ⟨ma_6, ka_6⟩, bv_7, bv_8, bv_13, bv_14, bv_15, ⟨ma_17, ka_17⟩, ⟨ma_18, ka_18⟩, ⟨ma_19, ka_19⟩, ⟨ma_20, ka_20⟩, ⟨ma_21, ka_21⟩, ⟨ma_22, ka_22⟩, ⟨ma_23, ka_23⟩, ⟨ma_24, ka_24⟩, bv_25, bv_27, bv_29, ⟨ma_30, ka_30⟩, bv_31, ⟨ma_32, ka_32⟩, ⟨ma_33, ka_33⟩, bv_34, ⟨ma_36, ka_36⟩, bv_37, ⟨ma_38, ka_38⟩, ⟨ma_39, ka_39⟩, bv_40, ⟨ma_42, ka_42⟩, ⟨ma_43, ka_43⟩, ⟨ma_44, ka_44⟩, bv_45, ⟨ma_46, ka_46⟩, ⟨ma_47, ka_47⟩, ⟨ma_48, ka_48⟩, ⟨ma_49, ka_49⟩, ⟨ma_50, ka_50⟩, ⟨ma_51, ka_51⟩, ⟨ma_52, ka_52⟩, ⟨ma_53, ka_53⟩, ⟨ma_54, ka_54⟩, bv_55, ⟨ma_57, ka_57⟩⟩ := un_12 (hG _ mo0) ko0
  have bv_9 : ((-2147483648) ≤ v_9.toInt ∧ v_9.toInt ≤ 2147483647) := ⟨i32_lo _, i32_hi _⟩
  have bv_10 : ((-2147483648) ≤ v_10.toInt ∧ v_10.toInt ≤ 2147483647) := ⟨i32_lo _, i32_hi _⟩
  have bv_11 : ((-2147483648) ≤ v_11.toInt ∧ v_11.toInt ≤ 2147483647) := ⟨i32_lo _, i32_hi _⟩
  have bv_12 : ((-2147483648) ≤ v_12.toInt ∧ v_12.toInt ≤ 2147483647) := ⟨i32_lo _, i32_hi _⟩
  have bv_16 : ((-2147483648) ≤ v_16.toInt ∧ v_16.toInt ≤ 2147483647) := ⟨i32_lo _, i32_hi _⟩
  have bv_26 : ((-2147483648) ≤ v_26.toInt ∧ v_26.toInt ≤ 2147483647) := ⟨i32_lo _, i32_hi _⟩
  have bv_28 : ((-2147483648) ≤ v_28.toInt ∧ v_28.toInt ≤ 2147483647) := ⟨i32_lo _, i32_hi _⟩
  have bv_35 : ((-2147483648) ≤ v_35.toInt ∧ v_35.toInt ≤ 2147483647) := ⟨i32_lo _, i32_hi _⟩
  have bv_41 : ((-2147483648) ≤ v_41.toInt ∧ v_41.toInt ≤ 2147483647) := ⟨i32_lo _, i32_hi _⟩
  have bv_56 : ((-2147483648) ≤ v_56.toInt ∧ v_56.toInt ≤ 2147483647) := ⟨i32_lo _, i32_hi _⟩
  have hpo0 := hpreo0 v_25 v_31 (by rw [hfo_1]; rfl) (by rw [hfo_1]; rfl)
  have hT0 := hxtr0
  refine lv_aload_n hx hb dX12_marksAll_0 rfl (lv_at hl 0 rfl) ?_
  refine lv_dup hx hb dX12_marksAll_1 rfl ?_
  refine tk_getP (D := (dC, dI)) (ci := 12) (v := .int v_35) (C := RX12) (T := TX12) (N := 56) hx hb hU inlX12 hown hK hP mo0 hfo_1 rfl 33 (by decide) (hU _ wd_920) (fun _ h9 => h9) rfl dX12_marksAll_2 ?_
  refine lv_iconst (v := 1) hx hb dX12_marksAll_5 (by decide) ?_
  refine lv_iadd hx hb dX12_marksAll_6 ?_
  refine lv_topi (fun x_58 ex_58 => ?_)
  have bx_58 : ((-2147483648) ≤ x_58.toInt ∧ x_58.toInt ≤ 2147483647) := ⟨i32_lo _, i32_hi _⟩
  refine tk_putP (D := (dC, dI)) (ci := 12) (v := .int x_58) (ty := .int) (C := RX12) (T := TX12) (N := 56) hx hb hU inlX12 tyX12 tyX12_ok nmX12 hown hK hP hD hS mo0 hfo_1 rfl 33 (by decide) (hU _ wd_920) (fun _ h9 => h9) rfl (by decide +kernel) rfl rfl (Nat.le_of_ble_eq_true rfl) dX12_marksAll_7 (fun H locs hP hD hS => ?_)
  obtain ⟨f_60, ef_60⟩ : ∃ y : Nat → va_E, y = va_up f o0 (.inr (12, [.ref a_2, .ref a_3, .ref a_4, .int v_5, .ref a_6, .int v_7, .int v_8, .int v_9, .int v_10, .int v_11, .int v_12, .int v_13, .int v_14, .int v_15, .int v_16, .ref a_17, .ref a_18, .ref a_19, .ref a_20, .ref a_21, .ref a_22, .ref a_23, .ref a_24, .int v_25, .int v_26, .int v_27, .int v_28, .int v_29, .ref a_30, .int v_31, .ref a_32, .ref a_33, .int v_34, .int x_58, .ref a_36, .int v_37, .ref a_38, .ref a_39, .int v_40, .int v_41, .ref a_42, .ref a_43, .ref a_44, .int v_45, .ref a_46, .ref a_47, .ref a_48, .ref a_49, .ref a_50, .ref a_51, .ref a_52, .ref a_53, .ref a_54, .int v_55, .int v_56, .ref a_57])) := ⟨_, rfl⟩
  have hP : va_P (dC, dI) vwCl (va_pl L f_60) H := by rw [ef_60]; exact hP
  have hD : va_D (fun q => q ∈ L) (va_pl L f_60) := by rw [ef_60]; exact hD
  have hG : GI (okc cI cL cZ cR cG cH L kd) kd L f_60 := by rw [ef_60]; exact hG.set o0 (mk_12 ko0 ⟨a_2, a_3, a_4, v_5, a_6, v_7, v_8, v_9, v_10, v_11, v_12, v_13, v_14, v_15, v_16, a_17, a_18, a_19, a_20, a_21, a_22, a_23, a_24, v_25, v_26, v_27, v_28, v_29, a_30, v_31, a_32, a_33, v_34, x_58, a_36, v_37, a_38, a_39, v_40, v_41, a_42, a_43, a_44, v_45, a_46, a_47, a_48, a_49, a_50, a_51, a_52, a_53, a_54, v_55, v_56, a_57, rfl, ⟨ma_2, ka_2⟩, ⟨ma_3, ka_3⟩, ⟨ma_4, ka_4⟩, (by constructor <;> omega), ⟨ma_6, ka_6⟩, (by constructor <;> omega), (by constructor <;> omega), (by constructor <;> omega), (by constructor <;> omega), (by constructor <;> omega), ⟨ma_17, ka_17⟩, ⟨ma_18, ka_18⟩, ⟨ma_19, ka_19⟩, ⟨ma_20, ka_20⟩, ⟨ma_21, ka_21⟩, ⟨ma_22, ka_22⟩, ⟨ma_23, ka_23⟩, ⟨ma_24, ka_24⟩, (by constructor <;> omega), (by constructor <;> omega), (by constructor <;> omega), ⟨ma_30, ka_30⟩, (by constructor <;> omega), ⟨ma_32, ka_32⟩, ⟨ma_33, ka_33⟩, (by constructor <;> omega), ⟨ma_36, ka_36⟩, (by constructor <;> omega), ⟨ma_38, ka_38⟩, ⟨ma_39, ka_39⟩, (by constructor <;> omega), ⟨ma_42, ka_42⟩, ⟨ma_43, ka_43⟩, ⟨ma_44, ka_44⟩, (by constructor <;> omega), ⟨ma_46, ka_46⟩, ⟨ma_47, ka_47⟩, ⟨ma_48, ka_48⟩, ⟨ma_49, ka_49⟩, ⟨ma_50, ka_50⟩, ⟨ma_51, ka_51⟩, ⟨ma_52, ka_52⟩, ⟨ma_53, ka_53⟩, ⟨ma_54, ka_54⟩, (by constructor <;> omega), ⟨ma_57, ka_57⟩⟩)
  have hfr0 : ∀ b, kd b ≠ 12 → kd b ≠ 579 → kd b ≠ 581 → kd b ≠ 583 → kd b ≠ 585 → kd b ≠ 587 → kd b ≠ 588 → kd b ≠ 590 → kd b ≠ 591 → kd b ≠ 592 → kd b ≠ 593 → kd b ≠ 603 → f_60 b = f b := fun b q12 q579 q581 q583 q585 q587 q588 q590 q591 q592 q593 q603 => (congrFun ef_60 b).trans ((up_ne (fun e9 => q12 (by rw [e9]; exact ko0))).trans (hfr0 b q12 q579 q581 q583 q585 q587 q588 q590 q591 q592 q593 q603))
  have hrA12 : ∀ b, kd b = 12 → ∀ j, fldR (f_60 b) j = fldR (f b) j := fun b kb j => ((congrArg (fun x => fldR x j) (congrFun ef_60 b)).trans (fra_up (fun j => by rw [hfo_1]; exact fr_set (k := 33) rfl rfl j) j b)).trans (hrA12 b kb j)
  have hfA12 : ∀ b, kd b = 12 → ∀ j, j ≠ 25 → j ≠ 27 → j ≠ 29 → j ≠ 32 → j ≠ 33 → fldI (f_60 b) j = fldI (f b) j := fun b kb j n25 n27 n29 n32 n33 => ((congrArg (fun x => fldI x j) (congrFun ef_60 b)).trans (fia_up (fun h9 => by rw [hfo_1]; exact fi_set (k := 33) rfl h9) n33 b)).trans (hfA12 b kb j n25 n27 n29 n32 n33)
  have hfo_61 : f_60 o0 = .inr (12, [.ref a_2, .ref a_3, .ref a_4, .int v_5, .ref a_6, .int v_7, .int v_8, .int v_9, .int v_10, .int v_11, .int v_12, .int v_13, .int v_14, .int v_15, .int v_16, .ref a_17, .ref a_18, .ref a_19, .ref a_20, .ref a_21, .ref a_22, .ref a_23, .ref a_24, .int v_25, .int v_26, .int v_27, .int v_28, .int v_29, .ref a_30, .int v_31, .ref a_32, .ref a_33, .int v_34, .int x_58, .ref a_36, .int v_37, .ref a_38, .ref a_39, .int v_40, .int v_41, .ref a_42, .ref a_43, .ref a_44, .int v_45, .ref a_46, .ref a_47, .ref a_48, .ref a_49, .ref a_50, .ref a_51, .ref a_52, .ref a_53, .ref a_54, .int v_55, .int v_56, .ref a_57]) := by rw [ef_60]; exact up_self
  refine lv_aload_n hx hb dX12_marksAll_10 rfl (lv_at hl 0 rfl) ?_
  refine lv_iconst (v := 0) hx hb dX12_marksAll_11 (by decide) ?_
  refine tk_putP (D := (dC, dI)) (ci := 12) (v := .int 0) (ty := .int) (C := RX12) (T := TX12) (N := 56) hx hb hU inlX12 tyX12 tyX12_ok nmX12 hown hK hP hD hS mo0 hfo_61 rfl 32 (by decide) (hU _ wd_921) (fun _ h9 => h9) rfl (by decide +kernel) rfl rfl (Nat.le_of_ble_eq_true rfl) dX12_marksAll_12 (fun H locs hP hD hS => ?_)
  obtain ⟨f_63, ef_63⟩ : ∃ y : Nat → va_E, y = va_up f_60 o0 (.inr (12, [.ref a_2, .ref a_3, .ref a_4, .int v_5, .ref a_6, .int v_7, .int v_8, .int v_9, .int v_10, .int v_11, .int v_12, .int v_13, .int v_14, .int v_15, .int v_16, .ref a_17, .ref a_18, .ref a_19, .ref a_20, .ref a_21, .ref a_22, .ref a_23, .ref a_24, .int v_25, .int v_26, .int v_27, .int v_28, .int v_29, .ref a_30, .int v_31, .ref a_32, .ref a_33, .int 0, .int x_58, .ref a_36, .int v_37, .ref a_38, .ref a_39, .int v_40, .int v_41, .ref a_42, .ref a_43, .ref a_44, .int v_45, .ref a_46, .ref a_47, .ref a_48, .ref a_49, .ref a_50, .ref a_51, .ref a_52, .ref a_53, .ref a_54, .int v_55, .int v_56, .ref a_57])) := ⟨_, rfl⟩
  have hP : va_P (dC, dI) vwCl (va_pl L f_63) H := by rw [ef_63]; exact hP
  have hD : va_D (fun q => q ∈ L) (va_pl L f_63) := by rw [ef_63]; exact hD
  have hG : GI (okc cI cL cZ cR cG cH L kd) kd L f_63 := by rw [ef_63]; exact hG.set o0 (mk_12 ko0 ⟨a_2, a_3, a_4, v_5, a_6, v_7, v_8, v_9, v_10, v_11, v_12, v_13, v_14, v_15, v_16, a_17, a_18, a_19, a_20, a_21, a_22, a_23, a_24, v_25, v_26, v_27, v_28, v_29, a_30, v_31, a_32, a_33, 0, x_58, a_36, v_37, a_38, a_39, v_40, v_41, a_42, a_43, a_44, v_45, a_46, a_47, a_48, a_49, a_50, a_51, a_52, a_53, a_54, v_55, v_56, a_57, rfl, ⟨ma_2, ka_2⟩, ⟨ma_3, ka_3⟩, ⟨ma_4, ka_4⟩, (by constructor <;> omega), ⟨ma_6, ka_6⟩, (by constructor <;> omega), (by constructor <;> omega), (by constructor <;> omega), (by constructor <;> omega), (by constructor <;> omega), ⟨ma_17, ka_17⟩, ⟨ma_18, ka_18⟩, ⟨ma_19, ka_19⟩, ⟨ma_20, ka_20⟩, ⟨ma_21, ka_21⟩, ⟨ma_22, ka_22⟩, ⟨ma_23, ka_23⟩, ⟨ma_24, ka_24⟩, (by constructor <;> omega), (by constructor <;> omega), (by constructor <;> omega), ⟨ma_30, ka_30⟩, (by constructor <;> omega), ⟨ma_32, ka_32⟩, ⟨ma_33, ka_33⟩, (by decide), ⟨ma_36, ka_36⟩, (by constructor <;> omega), ⟨ma_38, ka_38⟩, ⟨ma_39, ka_39⟩, (by constructor <;> omega), ⟨ma_42, ka_42⟩, ⟨ma_43, ka_43⟩, ⟨ma_44, ka_44⟩, (by constructor <;> omega), ⟨ma_46, ka_46⟩, ⟨ma_47, ka_47⟩, ⟨ma_48, ka_48⟩, ⟨ma_49, ka_49⟩, ⟨ma_50, ka_50⟩, ⟨ma_51, ka_51⟩, ⟨ma_52, ka_52⟩, ⟨ma_53, ka_53⟩, ⟨ma_54, ka_54⟩, (by constructor <;> omega), ⟨ma_57, ka_57⟩⟩)
  have hfr0 : ∀ b, kd b ≠ 12 → kd b ≠ 579 → kd b ≠ 581 → kd b ≠ 583 → kd b ≠ 585 → kd b ≠ 587 → kd b ≠ 588 → kd b ≠ 590 → kd b ≠ 591 → kd b ≠ 592 → kd b ≠ 593 → kd b ≠ 603 → f_63 b = f b := fun b q12 q579 q581 q583 q585 q587 q588 q590 q591 q592 q593 q603 => (congrFun ef_63 b).trans ((up_ne (fun e9 => q12 (by rw [e9]; exact ko0))).trans (hfr0 b q12 q579 q581 q583 q585 q587 q588 q590 q591 q592 q593 q603))
  have hrA12 : ∀ b, kd b = 12 → ∀ j, fldR (f_63 b) j = fldR (f b) j := fun b kb j => ((congrArg (fun x => fldR x j) (congrFun ef_63 b)).trans (fra_up (fun j => by rw [hfo_61]; exact fr_set (k := 32) rfl rfl j) j b)).trans (hrA12 b kb j)
  have hfA12 : ∀ b, kd b = 12 → ∀ j, j ≠ 25 → j ≠ 27 → j ≠ 29 → j ≠ 32 → j ≠ 33 → fldI (f_63 b) j = fldI (f b) j := fun b kb j n25 n27 n29 n32 n33 => ((congrArg (fun x => fldI x j) (congrFun ef_63 b)).trans (fia_up (fun h9 => by rw [hfo_61]; exact fi_set (k := 32) rfl h9) n32 b)).trans (hfA12 b kb j n25 n27 n29 n32 n33)
  have hfo_64 : f_63 o0 = .inr (12, [.ref a_2, .ref a_3, .ref a_4, .int v_5, .ref a_6, .int v_7, .int v_8, .int v_9, .int v_10, .int v_11, .int v_12, .int v_13, .int v_14, .int v_15, .int v_16, .ref a_17, .ref a_18, .ref a_19, .ref a_20, .ref a_21, .ref a_22, .ref a_23, .ref a_24, .int v_25, .int v_26, .int v_27, .int v_28, .int v_29, .ref a_30, .int v_31, .ref a_32, .ref a_33, .int 0, .int x_58, .ref a_36, .int v_37, .ref a_38, .ref a_39, .int v_40, .int v_41, .ref a_42, .ref a_43, .ref a_44, .int v_45, .ref a_46, .ref a_47, .ref a_48, .ref a_49, .ref a_50, .ref a_51, .ref a_52, .ref a_53, .ref a_54, .int v_55, .int v_56, .ref a_57]) := by rw [ef_63]; exact up_self
  obtain ⟨g_66, hfo_65, hbg_66⟩ := un_592 (hG _ ma_32) ka_32
  have hTt_67 : srel kd 592 f_63 o0 := ⟨a_32, g_66, 0, x_58, ⟨ko0, ka_32⟩, (by rw [hfo_64]; rfl), (by rw [hfo_65]; rfl), (by rw [hfo_64]; exact ⟨rfl, rfl⟩), (by rw [show ((0 : Int32)).toInt = 0 from rfl]; omega)⟩
  refine lv_aload_n hx hb dX12_marksAll_15 rfl (lv_at hl 0 rfl) ?_
  refine lv_iconst (v := 2) hx hb dX12_marksAll_16 (by decide) ?_
  refine tk_VvP (As := [.int 2]) (rest := []) (n := 1) hx hb hml hown hU hN hZ (s_X12_sets_k12 l (dC, dI) cI cL cZ cR cG cH Z kd L f_63 hG o0 mo0 ko0 2 (by decide)) wd_868 wd_869 wd_870 wd_5 wd_871 (by decide +kernel) ⟨Nat.le_of_ble_eq_true rfl, Nat.le_of_ble_eq_true rfl⟩ hK hP hD hS mo0 hfo_64 12 rfl rfl rfl hl.1 rfl (Nat.le_of_ble_eq_true rfl) dX12_marksAll_17 ⟨Nat.le_of_ble_eq_true rfl, Nat.le_of_ble_eq_true rfl⟩ (fun f_69 H locs hw hP hD hS => ?_)
  obtain ⟨hG, hkc_70, hra_71, hfa_72, hpost_73⟩ := hw
  have hfo_75 : f_69 a_32 = .inl (cI, 6561, .inl g_66) := by rw [hkc_70 a_32 (by rw [ka_32]; decide) (by rw [ka_32]; decide) (by rw [ka_32]; decide) (by rw [ka_32]; decide)]; exact hfo_65
  have hfr0 : ∀ b, kd b ≠ 12 → kd b ≠ 579 → kd b ≠ 581 → kd b ≠ 583 → kd b ≠ 585 → kd b ≠ 587 → kd b ≠ 588 → kd b ≠ 590 → kd b ≠ 591 → kd b ≠ 592 → kd b ≠ 593 → kd b ≠ 603 → f_69 b = f b := fun b q12 q579 q581 q583 q585 q587 q588 q590 q591 q592 q593 q603 => (hkc_70 b q12 q579 q581 q587).trans (hfr0 b q12 q579 q581 q583 q585 q587 q588 q590 q591 q592 q593 q603)
  have hrA12 : ∀ b, kd b = 12 → ∀ j, fldR (f_69 b) j = fldR (f b) j := fun b kb j => (hra_71 b kb j).trans (hrA12 b kb j)
  have hfA12 : ∀ b, kd b = 12 → ∀ j, j ≠ 25 → j ≠ 27 → j ≠ 29 → j ≠ 32 → j ≠ 33 → fldI (f_69 b) j = fldI (f b) j := fun b kb j n25 n27 n29 n32 n33 => (hfa_72 b kb j n25 n27).trans (hfA12 b kb j n25 n27 n29 n32 n33)
  have hTt_67 : srel kd 592 f_69 o0 := hTt_67.keep (fun b q => hra_71 b q 30) (fun b q => hfa_72 b q 32 (by decide) (by decide)) (fun b q => hfa_72 b q 33 (by decide) (by decide)) (fun b q => hkc_70 b (by rw [q]; decide) (by rw [q]; decide) (by rw [q]; decide) (by rw [q]; decide))
  obtain ⟨a_77, a_78, a_79, v_80, a_81, v_82, v_83, v_84, v_85, v_86, v_87, v_88, v_89, v_90, v_91, a_92, a_93, a_94, a_95, a_96, a_97, a_98, a_99, v_100, v_101, v_102, v_103, v_104, a_105, v_106, a_107, a_108, v_109, v_110, a_111, v_112, a_113, a_114, v_115, v_116, a_117, a_118, a_119, v_120, a_121, a_122, a_123, a_124, a_125, a_126, a_127, a_128, a_129, v_130, v_131, a_132, hfo_76, ⟨ma_77, ka_77⟩, ⟨ma_78, ka_78⟩, ⟨ma_79, ka_79⟩, bv_80, ⟨ma_81, ka_81⟩, bv_82, bv_83, bv_88, bv_89, bv_90, ⟨ma_92, ka_92⟩, ⟨ma_93, ka_93⟩, ⟨ma_94, ka_94⟩, ⟨ma_95, ka_95⟩, ⟨ma_96, ka_96⟩, ⟨ma_97, ka_97⟩, ⟨ma_98, ka_98⟩, ⟨ma_99, ka_99⟩, bv_100, bv_102, bv_104, ⟨ma_105, ka_105⟩, bv_106, ⟨ma_107, ka_107⟩, ⟨ma_108, ka_108⟩, bv_109, ⟨ma_111, ka_111⟩, bv_112, ⟨ma_113, ka_113⟩, ⟨ma_114, ka_114⟩, bv_115, ⟨ma_117, ka_117⟩, ⟨ma_118, ka_118⟩, ⟨ma_119, ka_119⟩, bv_120, ⟨ma_121, ka_121⟩, ⟨ma_122, ka_122⟩, ⟨ma_123, ka_123⟩, ⟨ma_124, ka_124⟩, ⟨ma_125, ka_125⟩, ⟨ma_126, ka_126⟩, ⟨ma_127, ka_127⟩, ⟨ma_128, ka_128⟩, ⟨ma_129, ka_129⟩, bv_130, ⟨ma_132, ka_132⟩⟩ := un_12 (hG _ mo0) ko0
  have bv_84 : ((-2147483648) ≤ v_84.toInt ∧ v_84.toInt ≤ 2147483647) := ⟨i32_lo _, i32_hi _⟩
  have bv_85 : ((-2147483648) ≤ v_85.toInt ∧ v_85.toInt ≤ 2147483647) := ⟨i32_lo _, i32_hi _⟩
  have bv_86 : ((-2147483648) ≤ v_86.toInt ∧ v_86.toInt ≤ 2147483647) := ⟨i32_lo _, i32_hi _⟩
  have bv_87 : ((-2147483648) ≤ v_87.toInt ∧ v_87.toInt ≤ 2147483647) := ⟨i32_lo _, i32_hi _⟩
  have bv_91 : ((-2147483648) ≤ v_91.toInt ∧ v_91.toInt ≤ 2147483647) := ⟨i32_lo _, i32_hi _⟩
  have bv_101 : ((-2147483648) ≤ v_101.toInt ∧ v_101.toInt ≤ 2147483647) := ⟨i32_lo _, i32_hi _⟩
  have bv_103 : ((-2147483648) ≤ v_103.toInt ∧ v_103.toInt ≤ 2147483647) := ⟨i32_lo _, i32_hi _⟩
  have bv_110 : ((-2147483648) ≤ v_110.toInt ∧ v_110.toInt ≤ 2147483647) := ⟨i32_lo _, i32_hi _⟩
  have bv_116 : ((-2147483648) ≤ v_116.toInt ∧ v_116.toInt ≤ 2147483647) := ⟨i32_lo _, i32_hi _⟩
  have bv_131 : ((-2147483648) ≤ v_131.toInt ∧ v_131.toInt ≤ 2147483647) := ⟨i32_lo _, i32_hi _⟩
  obtain ⟨rfl, rfl, rfl, rfl, rfl, rfl, rfl, rfl, rfl, rfl, rfl, rfl, rfl, rfl, rfl, rfl, rfl, rfl, rfl, rfl, rfl, rfl, rfl, rfl, rfl, rfl, rfl, rfl, rfl, rfl, rfl⟩ := re_12 hfo_1 hfo_76 (hrA12 o0 ko0)
  obtain rfl := ri_12_3 hfo_1 hfo_76 (hfA12 o0 ko0 3 (by decide) (by decide) (by decide) (by decide) (by decide))
  obtain rfl := ri_12_5 hfo_1 hfo_76 (hfA12 o0 ko0 5 (by decide) (by decide) (by decide) (by decide) (by decide))
  obtain rfl := ri_12_6 hfo_1 hfo_76 (hfA12 o0 ko0 6 (by decide) (by decide) (by decide) (by decide) (by decide))
  obtain rfl := ri_12_11 hfo_1 hfo_76 (hfA12 o0 ko0 11 (by decide) (by decide) (by decide) (by decide) (by decide))
  obtain rfl := ri_12_12 hfo_1 hfo_76 (hfA12 o0 ko0 12 (by decide) (by decide) (by decide) (by decide) (by decide))
  obtain rfl := ri_12_13 hfo_1 hfo_76 (hfA12 o0 ko0 13 (by decide) (by decide) (by decide) (by decide) (by decide))
  obtain rfl := ri_12_14 hfo_1 hfo_76 (hfA12 o0 ko0 14 (by decide) (by decide) (by decide) (by decide) (by decide))
  obtain rfl := ri_12_23 hfo_1 hfo_76 (hfA12 o0 ko0 23 (by decide) (by decide) (by decide) (by decide) (by decide))
  obtain rfl := ri_12_35 hfo_1 hfo_76 (hfA12 o0 ko0 35 (by decide) (by decide) (by decide) (by decide) (by decide))
  obtain rfl := ri_12_38 hfo_1 hfo_76 (hfA12 o0 ko0 38 (by decide) (by decide) (by decide) (by decide) (by decide))
  obtain rfl := ri_12_43 hfo_1 hfo_76 (hfA12 o0 ko0 43 (by decide) (by decide) (by decide) (by decide) (by decide))
  obtain rfl := ri_12_53 hfo_1 hfo_76 (hfA12 o0 ko0 53 (by decide) (by decide) (by decide) (by decide) (by decide))
  obtain rfl := ri_12_29 hfo_64 hfo_76 (hfa_72 o0 ko0 29 (by decide) (by decide))
  obtain rfl := ri_12_32 hfo_64 hfo_76 (hfa_72 o0 ko0 32 (by decide) (by decide))
  obtain rfl := ri_12_33 hfo_64 hfo_76 (hfa_72 o0 ko0 33 (by decide) (by decide))
  have hqhpost_73 := hpost_73 v_27 v_102 v_29 v_104 (by rw [hfo_64]; rfl) (by rw [hfo_64]; rfl) (by rw [hfo_76]; rfl) (by rw [hfo_76]; rfl)
  try rw [ti_2] at hqhpost_73
  refine lv_aload_n hx hb dX12_marksAll_20 rfl (lv_at hl 0 rfl) ?_
  refine lv_iconst (v := 0) hx hb dX12_marksAll_21 (by decide) ?_
  refine lv_aload_n hx hb dX12_marksAll_22 rfl (lv_at hl 0 rfl) ?_
  refine tk_getP (D := (dC, dI)) (ci := 12) (v := .ref a_2) (C := RX12) (T := TX12) (N := 56) hx hb hU inlX12 hown hK hP mo0 hfo_76 rfl 0 (by decide) (hU _ wd_169) (fun _ h9 => h9) rfl dX12_marksAll_23 ?_
  refine lv_bipush (v := 41) hx hb dX12_marksAll_26 (by decide) ?_
  obtain ⟨g_134, hfo_133, hbg_134⟩ := un_575 (hG _ ma_2) ka_2
  refine tk_ildP hx hb hK hP 0 ma_2 hfo_133 rfl (vp_in_nI (n := 41) (by decide) (by decide)) dX12_marksAll_28 ?_
  refine lv_topi (fun x_135 ex_135 => ?_)
  have bx_135 : (0 ≤ x_135.toInt ∧ x_135.toInt ≤ 1) := by rw [ex_135]; exact hbg_134.2.2.2.2.2.2.2.1 _ (by decide) (by decide) (by decide)
  refine lv_iconst (v := 0) hx hb dX12_marksAll_29 (by decide) ?_
  refine lv_iconst (v := 0) hx hb dX12_marksAll_30 (by decide) ?_
  refine lv_iload_n hx hb dX12_marksAll_31 rfl (lv_at hl 1 rfl) ?_
  refine tk_VvP (As := [.int 0, .int x_135, .int 0, .int 0, .int p1]) (rest := []) (n := 5) hx hb hml hown hU hN hZ (s_X12_goes_k12 l (dC, dI) cI cL cZ cR cG cH Z kd L 14 f_69 hG o0 mo0 ko0 0 (by decide) x_135 (by constructor <;> omega) 0 (by decide) 0 (by decide) p1 (by intro w23 w25 w27 w29 e23 e25 e27 e29; rw [hfo_76] at e23 e25 e27 e29; obtain rfl := Option.some.inj e23; obtain rfl := Option.some.inj e25; obtain rfl := Option.some.inj e27; obtain rfl := Option.some.inj e29; omega) (by (try rw [ti_0]) <;> omega) hTt_67 (by (try rw [ti_0]) <;> omega)) wd_886 wd_887 wd_888 wd_5 wd_889 (by decide +kernel) ⟨Nat.le_of_ble_eq_true rfl, Nat.le_of_ble_eq_true rfl⟩ hK hP hD hS mo0 hfo_76 12 rfl rfl rfl hl.1 rfl (Nat.le_of_ble_eq_true rfl) dX12_marksAll_32 ⟨Nat.le_of_ble_eq_true rfl, Nat.le_of_ble_eq_true rfl⟩ (fun f_137 H locs hw hP hD hS => ?_)
  obtain ⟨hG, hkc_138, hra_139, hfa_140, hpost_141, hTc_142⟩ := hw
  have hfo_144 : f_137 a_2 = .inl (cI, 1560, .inl g_134) := by rw [hkc_138 a_2 (by rw [ka_2]; decide) (by rw [ka_2]; decide) (by rw [ka_2]; decide) (by rw [ka_2]; decide) (by rw [ka_2]; decide) (by rw [ka_2]; decide) (by rw [ka_2]; decide) (by rw [ka_2]; decide) (by rw [ka_2]; decide) (by rw [ka_2]; decide) (by rw [ka_2]; decide) (by rw [ka_2]; decide)]; exact hfo_133
  have hfr0 : ∀ b, kd b ≠ 12 → kd b ≠ 579 → kd b ≠ 581 → kd b ≠ 583 → kd b ≠ 585 → kd b ≠ 587 → kd b ≠ 588 → kd b ≠ 590 → kd b ≠ 591 → kd b ≠ 592 → kd b ≠ 593 → kd b ≠ 603 → f_137 b = f b := fun b q12 q579 q581 q583 q585 q587 q588 q590 q591 q592 q593 q603 => (hkc_138 b q12 q579 q581 q583 q585 q587 q588 q590 q591 q592 q593 q603).trans (hfr0 b q12 q579 q581 q583 q585 q587 q588 q590 q591 q592 q593 q603)
  have hrA12 : ∀ b, kd b = 12 → ∀ j, fldR (f_137 b) j = fldR (f b) j := fun b kb j => (hra_139 b kb j).trans (hrA12 b kb j)
  have hfA12 : ∀ b, kd b = 12 → ∀ j, j ≠ 25 → j ≠ 27 → j ≠ 29 → j ≠ 32 → j ≠ 33 → fldI (f_137 b) j = fldI (f b) j := fun b kb j n25 n27 n29 n32 n33 => (hfa_140 b kb j n27 n29 n32).trans (hfA12 b kb j n25 n27 n29 n32 n33)
  obtain ⟨a_146, a_147, a_148, v_149, a_150, v_151, v_152, v_153, v_154, v_155, v_156, v_157, v_158, v_159, v_160, a_161, a_162, a_163, a_164, a_165, a_166, a_167, a_168, v_169, v_170, v_171, v_172, v_173, a_174, v_175, a_176, a_177, v_178, v_179, a_180, v_181, a_182, a_183, v_184, v_185, a_186, a_187, a_188, v_189, a_190, a_191, a_192, a_193, a_194, a_195, a_196, a_197, a_198, v_199, v_200, a_201, hfo_145, ⟨ma_146, ka_146⟩, ⟨ma_147, ka_147⟩, ⟨ma_148, ka_148⟩, bv_149, ⟨ma_150, ka_150⟩, bv_151, bv_152, bv_157, bv_158, bv_159, ⟨ma_161, ka_161⟩, ⟨ma_162, ka_162⟩, ⟨ma_163, ka_163⟩, ⟨ma_164, ka_164⟩, ⟨ma_165, ka_165⟩, ⟨ma_166, ka_166⟩, ⟨ma_167, ka_167⟩, ⟨ma_168, ka_168⟩, bv_169, bv_171, bv_173, ⟨ma_174, ka_174⟩, bv_175, ⟨ma_176, ka_176⟩, ⟨ma_177, ka_177⟩, bv_178, ⟨ma_180, ka_180⟩, bv_181, ⟨ma_182, ka_182⟩, ⟨ma_183, ka_183⟩, bv_184, ⟨ma_186, ka_186⟩, ⟨ma_187, ka_187⟩, ⟨ma_188, ka_188⟩, bv_189, ⟨ma_190, ka_190⟩, ⟨ma_191, ka_191⟩, ⟨ma_192, ka_192⟩, ⟨ma_193, ka_193⟩, ⟨ma_194, ka_194⟩, ⟨ma_195, ka_195⟩, ⟨ma_196, ka_196⟩, ⟨ma_197, ka_197⟩, ⟨ma_198, ka_198⟩, bv_199, ⟨ma_201, ka_201⟩⟩ := un_12 (hG _ mo0) ko0
  have bv_153 : ((-2147483648) ≤ v_153.toInt ∧ v_153.toInt ≤ 2147483647) := ⟨i32_lo _, i32_hi _⟩
  have bv_154 : ((-2147483648) ≤ v_154.toInt ∧ v_154.toInt ≤ 2147483647) := ⟨i32_lo _, i32_hi _⟩
  have bv_155 : ((-2147483648) ≤ v_155.toInt ∧ v_155.toInt ≤ 2147483647) := ⟨i32_lo _, i32_hi _⟩
  have bv_156 : ((-2147483648) ≤ v_156.toInt ∧ v_156.toInt ≤ 2147483647) := ⟨i32_lo _, i32_hi _⟩
  have bv_160 : ((-2147483648) ≤ v_160.toInt ∧ v_160.toInt ≤ 2147483647) := ⟨i32_lo _, i32_hi _⟩
  have bv_170 : ((-2147483648) ≤ v_170.toInt ∧ v_170.toInt ≤ 2147483647) := ⟨i32_lo _, i32_hi _⟩
  have bv_172 : ((-2147483648) ≤ v_172.toInt ∧ v_172.toInt ≤ 2147483647) := ⟨i32_lo _, i32_hi _⟩
  have bv_179 : ((-2147483648) ≤ v_179.toInt ∧ v_179.toInt ≤ 2147483647) := ⟨i32_lo _, i32_hi _⟩
  have bv_185 : ((-2147483648) ≤ v_185.toInt ∧ v_185.toInt ≤ 2147483647) := ⟨i32_lo _, i32_hi _⟩
  have bv_200 : ((-2147483648) ≤ v_200.toInt ∧ v_200.toInt ≤ 2147483647) := ⟨i32_lo _, i32_hi _⟩
  obtain ⟨rfl, rfl, rfl, rfl, rfl, rfl, rfl, rfl, rfl, rfl, rfl, rfl, rfl, rfl, rfl, rfl, rfl, rfl, rfl, rfl, rfl, rfl, rfl, rfl, rfl, rfl, rfl, rfl, rfl, rfl, rfl⟩ := re_12 hfo_1 hfo_145 (hrA12 o0 ko0)
  obtain rfl := ri_12_3 hfo_1 hfo_145 (hfA12 o0 ko0 3 (by decide) (by decide) (by decide) (by decide) (by decide))
  obtain rfl := ri_12_5 hfo_1 hfo_145 (hfA12 o0 ko0 5 (by decide) (by decide) (by decide) (by decide) (by decide))
  obtain rfl := ri_12_6 hfo_1 hfo_145 (hfA12 o0 ko0 6 (by decide) (by decide) (by decide) (by decide) (by decide))
  obtain rfl := ri_12_11 hfo_1 hfo_145 (hfA12 o0 ko0 11 (by decide) (by decide) (by decide) (by decide) (by decide))
  obtain rfl := ri_12_12 hfo_1 hfo_145 (hfA12 o0 ko0 12 (by decide) (by decide) (by decide) (by decide) (by decide))
  obtain rfl := ri_12_13 hfo_1 hfo_145 (hfA12 o0 ko0 13 (by decide) (by decide) (by decide) (by decide) (by decide))
  obtain rfl := ri_12_14 hfo_1 hfo_145 (hfA12 o0 ko0 14 (by decide) (by decide) (by decide) (by decide) (by decide))
  obtain rfl := ri_12_23 hfo_1 hfo_145 (hfA12 o0 ko0 23 (by decide) (by decide) (by decide) (by decide) (by decide))
  obtain rfl := ri_12_35 hfo_1 hfo_145 (hfA12 o0 ko0 35 (by decide) (by decide) (by decide) (by decide) (by decide))
  obtain rfl := ri_12_38 hfo_1 hfo_145 (hfA12 o0 ko0 38 (by decide) (by decide) (by decide) (by decide) (by decide))
  obtain rfl := ri_12_43 hfo_1 hfo_145 (hfA12 o0 ko0 43 (by decide) (by decide) (by decide) (by decide) (by decide))
  obtain rfl := ri_12_53 hfo_1 hfo_145 (hfA12 o0 ko0 53 (by decide) (by decide) (by decide) (by decide) (by decide))
  obtain rfl := ri_12_25 hfo_76 hfo_145 (hfa_140 o0 ko0 25 (by decide) (by decide) (by decide))
  obtain rfl := ri_12_33 hfo_76 hfo_145 (hfa_140 o0 ko0 33 (by decide) (by decide) (by decide))
  have hqhpost_141 := hpost_141 v_102 v_102 v_104 v_173 v_31 v_175 (by rw [hfo_76]; rfl) (by rw [hfo_76]; rfl) (by rw [hfo_76]; rfl) (by rw [hfo_145]; rfl) (by rw [hfo_145]; rfl) (by rw [hfo_145]; rfl)
  try rw [ti_0] at hqhpost_141
  exact W.vret hx hb hr (fun t ht hW => ⟨⟨f_137, rfl, ⟨hG, hfr0, hrA12, hfA12, (by intro w29 z29 e29 d29; rw [hfo_1] at e29; rw [hfo_145] at d29; obtain rfl := Option.some.inj e29; obtain rfl := Option.some.inj d29; omega), hTc_142⟩, by rw [ht]; exact hP, va_K.moved hW.alike hK, pl_in hD⟩, hS.F ht⟩) hS.2.2 dX12_marksAll_35
set_option maxHeartbeats 8000000 in
set_option maxRecDepth 100000 in
theorem s_X12_isParted_k12 (l : Launch) (D : va_G) (cI cL cZ cR cG cH : ClassId) (Z : zT) (kd : Nat → Nat) (L : List Nat) (f : Nat → va_E) (hG : GI (okc cI cL cZ cR cG cH L kd) kd L f) (o0 : Nat) (mo0 : o0 ∈ L) (ko0 : kd o0 = 12) (p1 : Int32) (p2 : Int32) (hpreo0 : ∀ (w23 : Int32) (w29 : Int32), fldI (f o0) 23 = some w23 → fldI (f o0) 29 = some w29 → w23.toInt ≤ 3 ∧ w29.toInt ≤ 200) (hxtr0 : srel kd 592 f o0) : mPI l D cI cL cZ cR cG cH Z yX12_isParted cX12_isParted 5 (some .boolean) 24 676 [.ref o0, .int p1, .int p2] L f (fun (r : Int32) (f9 : Nat → va_E) => GI (okc cI cL cZ cR cG cH L kd) kd L f9 ∧ (0 ≤ r.toInt ∧ r.toInt ≤ 1) ∧ (∀ b, kd b ≠ 12 → kd b ≠ 579 → kd b ≠ 581 → kd b ≠ 583 → kd b ≠ 585 → kd b ≠ 587 → kd b ≠ 588 → kd b ≠ 590 → kd b ≠ 591 → kd b ≠ 592 → kd b ≠ 593 → kd b ≠ 602 → kd b ≠ 603 → f9 b = f b) ∧ (∀ b, kd b = 12 → ∀ j, fldR (f9 b) j = fldR (f b) j) ∧ (∀ b, kd b = 12 → ∀ j, j ≠ 25 → j ≠ 27 → j ≠ 29 → j ≠ 32 → j ≠ 33 → fldI (f9 b) j = fldI (f b) j) ∧ (∀ (w29 z29 : Int32), fldI (f o0) 29 = some w29 → fldI (f9 o0) 29 = some z29 → z29.toInt = w29.toInt) ∧ (srel kd 592 f9 o0)) := by
  obtain ⟨dC, dI⟩ := D
  refine Met.ofW (cc := cX12_isParted) (maxL := 5) (ret := (some .boolean)) (by decide) rfl ?_
  intro p e s m args below meth c s₁ B hml hv
  obtain ⟨rfl, hP, hK, hD0, hN, hZ⟩ := hv
  have hx := B.exec
  have hb := B.bytes
  have hr := B.returns
  have hU : ∀ w ∈ wsU, w.before _ s = true := fun w h => atoms_spec (ws := wU yX12_isParted cX12_isParted 5 (some .boolean)) B.pre w (List.mem_cons_of_mem _ h)
  have hown : s.vm.findClass RX12 = some m.cls := findClass_of_methodNamed B.named
  have hlocks := B.notSynchronized
  have hD := pl_in hD0
  have hS : va_S (fun q => q ∈ L) s.heap s.heap [] := va_S.rf
  have hl := lv_entry ([.ref o0, .int p1, .int p2]) (n := 5) (Nat.le_of_ble_eq_true rfl)
  rw [lg_entry_eq]
  generalize (lg_sl ([.ref o0, .int p1, .int p2]) ++ List.replicate (5 - (lg_sl ([.ref o0, .int p1, .int p2])).length) Slot.unset).toArray = ls at hl ⊢
  have hl : lv_has ls 5 [(0, .ref o0), (1, .int p1), (2, .int p2)] := hl
  have bp1 : ((-2147483648) ≤ p1.toInt ∧ p1.toInt ≤ 2147483647) := ⟨i32_lo _, i32_hi _⟩
  have bp2 : ((-2147483648) ≤ p2.toInt ∧ p2.toInt ≤ 2147483647) := ⟨i32_lo _, i32_hi _⟩
  have hfr0 : ∀ b, kd b ≠ 12 → kd b ≠ 579 → kd b ≠ 581 → kd b ≠ 583 → kd b ≠ 585 → kd b ≠ 587 → kd b ≠ 588 → kd b ≠ 590 → kd b ≠ 591 → kd b ≠ 592 → kd b ≠ 593 → kd b ≠ 602 → kd b ≠ 603 → f b = f b := fun _ _ _ _ _ _ _ _ _ _ _ _ _ _ => rfl
  have hrA12 : ∀ b, kd b = 12 → ∀ j, fldR (f b) j = fldR (f b) j := fun _ _ _ => rfl
  have hfA12 : ∀ b, kd b = 12 → ∀ j, j ≠ 25 → j ≠ 27 → j ≠ 29 → j ≠ 32 → j ≠ 33 → fldI (f b) j = fldI (f b) j := fun _ _ _ _ _ _ _ _ => rfl
  obtain ⟨a_2, a_3, a_4, v_5, a_6, v_7, v_8, v_9, v_10, v_11, v_12, v_13, v_14, v_15, v_16, a_17, a_18, a_19, a_20, a_21, a_22, a_23, a_24, v_25, v_26, v_27, v_28, v_29, a_30, v_31, a_32, a_33, v_34, v_35, a_36, v_37, a_38, a_39, v_40, v_41, a_42, a_43, a_44, v_45, a_46, a_47, a_48, a_49, a_50, a_51, a_52, a_53, a_54, v_55, v_56, a_57, hfo_1, ⟨ma_2, ka_2⟩, ⟨ma_3, ka_3⟩, ⟨ma_4, ka_4⟩, bv_5, ⟨ma_6, ka_6⟩, bv_7, bv_8, bv_13, bv_14, bv_15, ⟨ma_17, ka_17⟩, ⟨ma_18, ka_18⟩, ⟨ma_19, ka_19⟩, ⟨ma_20, ka_20⟩, ⟨ma_21, ka_21⟩, ⟨ma_22, ka_22⟩, ⟨ma_23, ka_23⟩, ⟨ma_24, ka_24⟩, bv_25, bv_27, bv_29, ⟨ma_30, ka_30⟩, bv_31, ⟨ma_32, ka_32⟩, ⟨ma_33, ka_33⟩, bv_34, ⟨ma_36, ka_36⟩, bv_37, ⟨ma_38, ka_38⟩, ⟨ma_39, ka_39⟩, bv_40, ⟨ma_42, ka_42⟩, ⟨ma_43, ka_43⟩, ⟨ma_44, ka_44⟩, bv_45, ⟨ma_46, ka_46⟩, ⟨ma_47, ka_47⟩, ⟨ma_48, ka_48⟩, ⟨ma_49, ka_49⟩, ⟨ma_50, ka_50⟩, ⟨ma_51, ka_51⟩, ⟨ma_52, ka_52⟩, ⟨ma_53, ka_53⟩, ⟨ma_54, ka_54⟩, bv_55, ⟨ma_57, ka_57⟩⟩ := un_12 (hG _ mo0) ko0
  have bv_9 : ((-2147483648) ≤ v_9.toInt ∧ v_9.toInt ≤ 2147483647) := ⟨i32_lo _, i32_hi _⟩
  have bv_10 : ((-2147483648) ≤ v_10.toInt ∧ v_10.toInt ≤ 2147483647) := ⟨i32_lo _, i32_hi _⟩
  have bv_11 : ((-2147483648) ≤ v_11.toInt ∧ v_11.toInt ≤ 2147483647) := ⟨i32_lo _, i32_hi _⟩
  have bv_12 : ((-2147483648) ≤ v_12.toInt ∧ v_12.toInt ≤ 2147483647) := ⟨i32_lo _, i32_hi _⟩
  have bv_16 : ((-2147483648) ≤ v_16.toInt ∧ v_16.toInt ≤ 2147483647) := ⟨i32_lo _, i32_hi _⟩
  have bv_26 : ((-2147483648) ≤ v_26.toInt ∧ v_26.toInt ≤ 2147483647) := ⟨i32_lo _, i32_hi _⟩
  have bv_28 : ((-2147483648) ≤ v_28.toInt ∧ v_28.toInt ≤ 2147483647) := ⟨i32_lo _, i32_hi _⟩
  have bv_35 : ((-2147483648) ≤ v_35.toInt ∧ v_35.toInt ≤ 2147483647) := ⟨i32_lo _, i32_hi _⟩
  have bv_41 : ((-2147483648) ≤ v_41.toInt ∧ v_41.toInt ≤ 2147483647) := ⟨i32_lo _, i32_hi _⟩
  have bv_56 : ((-2147483648) ≤ v_56.toInt ∧ v_56.toInt ≤ 2147483647) := ⟨i32_lo _, i32_hi _⟩
  have hpo0 := hpreo0 v_25 v_31 (by rw [hfo_1]; rfl) (by rw [hfo_1]; rfl)
  have hT0 := hxtr0
  refine lv_aload_n hx hb dX12_isParted_0 rfl (lv_at hl 0 rfl) ?_
  refine lv_iload_n hx hb dX12_isParted_1 rfl (lv_at hl 1 rfl) ?_
  refine tk_VvP (As := [.int p1]) (rest := []) (n := 1) hx hb hml hown hU hN hZ (s_X12_marksAll_k12 l (dC, dI) cI cL cZ cR cG cH Z kd L f hG o0 mo0 ko0 p1 (by intro w23 w29 e23 e29; rw [hfo_1] at e23 e29; obtain rfl := Option.some.inj e23; obtain rfl := Option.some.inj e29; omega) hT0) wd_1243 wd_1244 wd_1245 wd_5 wd_1246 (by decide +kernel) ⟨Nat.le_of_ble_eq_true rfl, Nat.le_of_ble_eq_true rfl⟩ hK hP hD hS mo0 hfo_1 12 rfl rfl rfl hl.1 rfl (Nat.le_of_ble_eq_true rfl) dX12_isParted_2 ⟨Nat.le_of_ble_eq_true rfl, Nat.le_of_ble_eq_true rfl⟩ (fun f_59 H locs hw hP hD hS => ?_)
  obtain ⟨hG, hkc_60, hra_61, hfa_62, hpost_63, hTc_64⟩ := hw
  have hfr0 : ∀ b, kd b ≠ 12 → kd b ≠ 579 → kd b ≠ 581 → kd b ≠ 583 → kd b ≠ 585 → kd b ≠ 587 → kd b ≠ 588 → kd b ≠ 590 → kd b ≠ 591 → kd b ≠ 592 → kd b ≠ 593 → kd b ≠ 602 → kd b ≠ 603 → f_59 b = f b := fun b q12 q579 q581 q583 q585 q587 q588 q590 q591 q592 q593 q602 q603 => (hkc_60 b q12 q579 q581 q583 q585 q587 q588 q590 q591 q592 q593 q603).trans (hfr0 b q12 q579 q581 q583 q585 q587 q588 q590 q591 q592 q593 q602 q603)
  have hrA12 : ∀ b, kd b = 12 → ∀ j, fldR (f_59 b) j = fldR (f b) j := fun b kb j => (hra_61 b kb j).trans (hrA12 b kb j)
  have hfA12 : ∀ b, kd b = 12 → ∀ j, j ≠ 25 → j ≠ 27 → j ≠ 29 → j ≠ 32 → j ≠ 33 → fldI (f_59 b) j = fldI (f b) j := fun b kb j n25 n27 n29 n32 n33 => (hfa_62 b kb j n25 n27 n29 n32 n33).trans (hfA12 b kb j n25 n27 n29 n32 n33)
  obtain ⟨a_67, a_68, a_69, v_70, a_71, v_72, v_73, v_74, v_75, v_76, v_77, v_78, v_79, v_80, v_81, a_82, a_83, a_84, a_85, a_86, a_87, a_88, a_89, v_90, v_91, v_92, v_93, v_94, a_95, v_96, a_97, a_98, v_99, v_100, a_101, v_102, a_103, a_104, v_105, v_106, a_107, a_108, a_109, v_110, a_111, a_112, a_113, a_114, a_115, a_116, a_117, a_118, a_119, v_120, v_121, a_122, hfo_66, ⟨ma_67, ka_67⟩, ⟨ma_68, ka_68⟩, ⟨ma_69, ka_69⟩, bv_70, ⟨ma_71, ka_71⟩, bv_72, bv_73, bv_78, bv_79, bv_80, ⟨ma_82, ka_82⟩, ⟨ma_83, ka_83⟩, ⟨ma_84, ka_84⟩, ⟨ma_85, ka_85⟩, ⟨ma_86, ka_86⟩, ⟨ma_87, ka_87⟩, ⟨ma_88, ka_88⟩, ⟨ma_89, ka_89⟩, bv_90, bv_92, bv_94, ⟨ma_95, ka_95⟩, bv_96, ⟨ma_97, ka_97⟩, ⟨ma_98, ka_98⟩, bv_99, ⟨ma_101, ka_101⟩, bv_102, ⟨ma_103, ka_103⟩, ⟨ma_104, ka_104⟩, bv_105, ⟨ma_107, ka_107⟩, ⟨ma_108, ka_108⟩, ⟨ma_109, ka_109⟩, bv_110, ⟨ma_111, ka_111⟩, ⟨ma_112, ka_112⟩, ⟨ma_113, ka_113⟩, ⟨ma_114, ka_114⟩, ⟨ma_115, ka_115⟩, ⟨ma_116, ka_116⟩, ⟨ma_117, ka_117⟩, ⟨ma_118, ka_118⟩, ⟨ma_119, ka_119⟩, bv_120, ⟨ma_122, ka_122⟩⟩ := un_12 (hG _ mo0) ko0
  have bv_74 : ((-2147483648) ≤ v_74.toInt ∧ v_74.toInt ≤ 2147483647) := ⟨i32_lo _, i32_hi _⟩
  have bv_75 : ((-2147483648) ≤ v_75.toInt ∧ v_75.toInt ≤ 2147483647) := ⟨i32_lo _, i32_hi _⟩
  have bv_76 : ((-2147483648) ≤ v_76.toInt ∧ v_76.toInt ≤ 2147483647) := ⟨i32_lo _, i32_hi _⟩
  have bv_77 : ((-2147483648) ≤ v_77.toInt ∧ v_77.toInt ≤ 2147483647) := ⟨i32_lo _, i32_hi _⟩
  have bv_81 : ((-2147483648) ≤ v_81.toInt ∧ v_81.toInt ≤ 2147483647) := ⟨i32_lo _, i32_hi _⟩
  have bv_91 : ((-2147483648) ≤ v_91.toInt ∧ v_91.toInt ≤ 2147483647) := ⟨i32_lo _, i32_hi _⟩
  have bv_93 : ((-2147483648) ≤ v_93.toInt ∧ v_93.toInt ≤ 2147483647) := ⟨i32_lo _, i32_hi _⟩
  have bv_100 : ((-2147483648) ≤ v_100.toInt ∧ v_100.toInt ≤ 2147483647) := ⟨i32_lo _, i32_hi _⟩
  have bv_106 : ((-2147483648) ≤ v_106.toInt ∧ v_106.toInt ≤ 2147483647) := ⟨i32_lo _, i32_hi _⟩
  have bv_121 : ((-2147483648) ≤ v_121.toInt ∧ v_121.toInt ≤ 2147483647) := ⟨i32_lo _, i32_hi _⟩
  obtain ⟨rfl, rfl, rfl, rfl, rfl, rfl, rfl, rfl, rfl, rfl, rfl, rfl, rfl, rfl, rfl, rfl, rfl, rfl, rfl, rfl, rfl, rfl, rfl, rfl, rfl, rfl, rfl, rfl, rfl, rfl, rfl⟩ := re_12 hfo_1 hfo_66 (hrA12 o0 ko0)
  obtain rfl := ri_12_3 hfo_1 hfo_66 (hfA12 o0 ko0 3 (by decide) (by decide) (by decide) (by decide) (by decide))
  obtain rfl := ri_12_5 hfo_1 hfo_66 (hfA12 o0 ko0 5 (by decide) (by decide) (by decide) (by decide) (by decide))
  obtain rfl := ri_12_6 hfo_1 hfo_66 (hfA12 o0 ko0 6 (by decide) (by decide) (by decide) (by decide) (by decide))
  obtain rfl := ri_12_11 hfo_1 hfo_66 (hfA12 o0 ko0 11 (by decide) (by decide) (by decide) (by decide) (by decide))
  obtain rfl := ri_12_12 hfo_1 hfo_66 (hfA12 o0 ko0 12 (by decide) (by decide) (by decide) (by decide) (by decide))
  obtain rfl := ri_12_13 hfo_1 hfo_66 (hfA12 o0 ko0 13 (by decide) (by decide) (by decide) (by decide) (by decide))
  obtain rfl := ri_12_14 hfo_1 hfo_66 (hfA12 o0 ko0 14 (by decide) (by decide) (by decide) (by decide) (by decide))
  obtain rfl := ri_12_23 hfo_1 hfo_66 (hfA12 o0 ko0 23 (by decide) (by decide) (by decide) (by decide) (by decide))
  obtain rfl := ri_12_35 hfo_1 hfo_66 (hfA12 o0 ko0 35 (by decide) (by decide) (by decide) (by decide) (by decide))
  obtain rfl := ri_12_38 hfo_1 hfo_66 (hfA12 o0 ko0 38 (by decide) (by decide) (by decide) (by decide) (by decide))
  obtain rfl := ri_12_43 hfo_1 hfo_66 (hfA12 o0 ko0 43 (by decide) (by decide) (by decide) (by decide) (by decide))
  obtain rfl := ri_12_53 hfo_1 hfo_66 (hfA12 o0 ko0 53 (by decide) (by decide) (by decide) (by decide) (by decide))
  have hqhpost_63 := hpost_63 v_31 v_96 (by rw [hfo_1]; rfl) (by rw [hfo_66]; rfl)
  refine lv_aload_n hx hb dX12_isParted_5 rfl (lv_at hl 0 rfl) ?_
  refine tk_getP (D := (dC, dI)) (ci := 12) (v := .int v_99) (C := RX12) (T := TX12) (N := 56) hx hb hU inlX12 hown hK hP mo0 hfo_66 rfl 32 (by decide) (hU _ wd_921) (fun _ h9 => h9) rfl dX12_isParted_6 ?_
  refine lv_istore_n (lv' := [(3, .int v_99), (0, .ref o0), (1, .int p1), (2, .int p2)]) hx hb dX12_isParted_9 rfl hl (by decide) rfl (fun ls hl => ?_)
  refine lv_iconst (v := 0) hx hb dX12_isParted_10 (by decide) ?_
  refine lv_istore (lv' := [(4, .int 0), (3, .int v_99), (0, .ref o0), (1, .int p1), (2, .int p2)]) hx hb dX12_isParted_11 hl (by decide) rfl (fun ls hl => ?_)
  have hloop_138 : ∀ (n : Nat), ∀ (y_139 : Int32), (0 ≤ y_139.toInt ∧ y_139.toInt ≤ 6561) → ∀ (f_141 : Nat → va_E), GI (okc cI cL cZ cR cG cH L kd) kd L f_141 → ∀ (H : Heap) (locs : List Loc), va_P (dC, dI) vwCl (va_pl L f_141) H → va_S (fun q => q ∈ L) s.heap H locs → va_D (fun q => q ∈ L) (va_pl L f_141) → (∀ b, kd b ≠ 12 → kd b ≠ 579 → kd b ≠ 581 → kd b ≠ 583 → kd b ≠ 585 → kd b ≠ 587 → kd b ≠ 588 → kd b ≠ 590 → kd b ≠ 591 → kd b ≠ 592 → kd b ≠ 593 → kd b ≠ 602 → kd b ≠ 603 → f_141 b = f b) → (∀ b, kd b = 12 → ∀ j, fldR (f_141 b) j = fldR (f b) j) → (∀ b, kd b = 12 → ∀ j, j ≠ 25 → j ≠ 27 → j ≠ 29 → j ≠ 32 → j ≠ 33 → fldI (f_141 b) j = fldI (f b) j) → (f_141 o0 = .inr (12, [.ref a_2, .ref a_3, .ref a_4, .int v_5, .ref a_6, .int v_7, .int v_8, .int v_74, .int v_75, .int v_76, .int v_77, .int v_13, .int v_14, .int v_15, .int v_16, .ref a_17, .ref a_18, .ref a_19, .ref a_20, .ref a_21, .ref a_22, .ref a_23, .ref a_24, .int v_25, .int v_91, .int v_92, .int v_93, .int v_94, .ref a_30, .int v_96, .ref a_32, .ref a_33, .int v_99, .int v_100, .ref a_36, .int v_37, .ref a_38, .ref a_39, .int v_40, .int v_106, .ref a_42, .ref a_43, .ref a_44, .int v_45, .ref a_46, .ref a_47, .ref a_48, .ref a_49, .ref a_50, .ref a_51, .ref a_52, .ref a_53, .ref a_54, .int v_55, .int v_121, .ref a_57])) → srel kd 592 f_141 o0 → 6561 - y_139.toInt < (n : Int) → ∀ (ls : Array Slot), lv_has ls 5 [(4, .int y_139), (3, .int v_99), (0, .ref o0), (1, .int p1), (2, .int p2)] → W p l e (headSpec (wU yX12_isParted cX12_isParted 5 (some .boolean)) { frames := 24, cells := 0, slots := 0, locals := 676 }).room s m [.ref o0, .int p1, .int p2].toArray below meth c H locs 0 0 (MQ below (va_Qi (fun (r : Int32) (f9 : Nat → va_E) => GI (okc cI cL cZ cR cG cH L kd) kd L f9 ∧ (0 ≤ r.toInt ∧ r.toInt ≤ 1) ∧ (∀ b, kd b ≠ 12 → kd b ≠ 579 → kd b ≠ 581 → kd b ≠ 583 → kd b ≠ 585 → kd b ≠ 587 → kd b ≠ 588 → kd b ≠ 590 → kd b ≠ 591 → kd b ≠ 592 → kd b ≠ 593 → kd b ≠ 602 → kd b ≠ 603 → f9 b = f b) ∧ (∀ b, kd b = 12 → ∀ j, fldR (f9 b) j = fldR (f b) j) ∧ (∀ b, kd b = 12 → ∀ j, j ≠ 25 → j ≠ 27 → j ≠ 29 → j ≠ 32 → j ≠ 33 → fldI (f9 b) j = fldI (f b) j) ∧ (∀ (w29 z29 : Int32), fldI (f o0) 29 = some w29 → fldI (f9 o0) 29 = some z29 → z29.toInt = w29.toInt) ∧ (srel kd 592 f9 o0)) (qP (dC, dI) cI cL cZ cR cG cH L) (fun q => q ∈ L)) [.ref o0, .int p1, .int p2].toArray s 0 0 (fun q => q ∈ L)) (F0 m 13 ls []) := by
    intro n
    induction n with
    | zero => intro y_139 by_139 f_141 hG H locs hP hS hD hfr0 hrA12 hfA12 hfo_142 hTc_64 hmuhloop_138 ls hl; exfalso; omega
    | succ n ih_hloop_138 =>
      intro y_139 by_139 f_141 hG H locs hP hS hD hfr0 hrA12 hfA12 hfo_142 hTc_64 hmuhloop_138 ls hl
      refine lv_iload hx hb dX12_isParted_13 (lv_at hl 0 rfl) ?_
      refine lv_iload_n hx hb dX12_isParted_15 rfl (lv_at hl 1 rfl) ?_
      refine lv_icmp_ge (tgt := 39) hx hb dX12_isParted_16 (by decide) (fun c_143 => ?_) (fun c_143 => ?_)
      · skip
        rw [Int32.le_iff_toInt_le] at c_143
        refine lv_aload_n hx hb dX12_isParted_39 rfl (lv_at hl 2 rfl) ?_
        refine lv_iload_n hx hb dX12_isParted_40 rfl (lv_at hl 4 rfl) ?_
        refine tk_VvP (As := [.int p2]) (rest := []) (n := 1) hx hb hml hown hU hN hZ (s_X12_marksAll_k12 l (dC, dI) cI cL cZ cR cG cH Z kd L f_141 hG o0 mo0 ko0 p2 (by intro w23 w29 e23 e29; rw [hfo_142] at e23 e29; obtain rfl := Option.some.inj e23; obtain rfl := Option.some.inj e29; omega) hTc_64) wd_1243 wd_1244 wd_1245 wd_5 wd_1246 (by decide +kernel) ⟨Nat.le_of_ble_eq_true rfl, Nat.le_of_ble_eq_true rfl⟩ hK hP hD hS mo0 hfo_142 12 rfl rfl rfl hl.1 rfl (Nat.le_of_ble_eq_true rfl) dX12_isParted_41 ⟨Nat.le_of_ble_eq_true rfl, Nat.le_of_ble_eq_true rfl⟩ (fun f_145 H locs hw hP hD hS => ?_)
        obtain ⟨hG, hkc_146, hra_147, hfa_148, hpost_149, hTc_150⟩ := hw
        have hfr0 : ∀ b, kd b ≠ 12 → kd b ≠ 579 → kd b ≠ 581 → kd b ≠ 583 → kd b ≠ 585 → kd b ≠ 587 → kd b ≠ 588 → kd b ≠ 590 → kd b ≠ 591 → kd b ≠ 592 → kd b ≠ 593 → kd b ≠ 602 → kd b ≠ 603 → f_145 b = f b := fun b q12 q579 q581 q583 q585 q587 q588 q590 q591 q592 q593 q602 q603 => (hkc_146 b q12 q579 q581 q583 q585 q587 q588 q590 q591 q592 q593 q603).trans (hfr0 b q12 q579 q581 q583 q585 q587 q588 q590 q591 q592 q593 q602 q603)
        have hrA12 : ∀ b, kd b = 12 → ∀ j, fldR (f_145 b) j = fldR (f b) j := fun b kb j => (hra_147 b kb j).trans (hrA12 b kb j)
        have hfA12 : ∀ b, kd b = 12 → ∀ j, j ≠ 25 → j ≠ 27 → j ≠ 29 → j ≠ 32 → j ≠ 33 → fldI (f_145 b) j = fldI (f b) j := fun b kb j n25 n27 n29 n32 n33 => (hfa_148 b kb j n25 n27 n29 n32 n33).trans (hfA12 b kb j n25 n27 n29 n32 n33)
        obtain ⟨a_153, a_154, a_155, v_156, a_157, v_158, v_159, v_160, v_161, v_162, v_163, v_164, v_165, v_166, v_167, a_168, a_169, a_170, a_171, a_172, a_173, a_174, a_175, v_176, v_177, v_178, v_179, v_180, a_181, v_182, a_183, a_184, v_185, v_186, a_187, v_188, a_189, a_190, v_191, v_192, a_193, a_194, a_195, v_196, a_197, a_198, a_199, a_200, a_201, a_202, a_203, a_204, a_205, v_206, v_207, a_208, hfo_152, ⟨ma_153, ka_153⟩, ⟨ma_154, ka_154⟩, ⟨ma_155, ka_155⟩, bv_156, ⟨ma_157, ka_157⟩, bv_158, bv_159, bv_164, bv_165, bv_166, ⟨ma_168, ka_168⟩, ⟨ma_169, ka_169⟩, ⟨ma_170, ka_170⟩, ⟨ma_171, ka_171⟩, ⟨ma_172, ka_172⟩, ⟨ma_173, ka_173⟩, ⟨ma_174, ka_174⟩, ⟨ma_175, ka_175⟩, bv_176, bv_178, bv_180, ⟨ma_181, ka_181⟩, bv_182, ⟨ma_183, ka_183⟩, ⟨ma_184, ka_184⟩, bv_185, ⟨ma_187, ka_187⟩, bv_188, ⟨ma_189, ka_189⟩, ⟨ma_190, ka_190⟩, bv_191, ⟨ma_193, ka_193⟩, ⟨ma_194, ka_194⟩, ⟨ma_195, ka_195⟩, bv_196, ⟨ma_197, ka_197⟩, ⟨ma_198, ka_198⟩, ⟨ma_199, ka_199⟩, ⟨ma_200, ka_200⟩, ⟨ma_201, ka_201⟩, ⟨ma_202, ka_202⟩, ⟨ma_203, ka_203⟩, ⟨ma_204, ka_204⟩, ⟨ma_205, ka_205⟩, bv_206, ⟨ma_208, ka_208⟩⟩ := un_12 (hG _ mo0) ko0
        have bv_160 : ((-2147483648) ≤ v_160.toInt ∧ v_160.toInt ≤ 2147483647) := ⟨i32_lo _, i32_hi _⟩
        have bv_161 : ((-2147483648) ≤ v_161.toInt ∧ v_161.toInt ≤ 2147483647) := ⟨i32_lo _, i32_hi _⟩
        have bv_162 : ((-2147483648) ≤ v_162.toInt ∧ v_162.toInt ≤ 2147483647) := ⟨i32_lo _, i32_hi _⟩
        have bv_163 : ((-2147483648) ≤ v_163.toInt ∧ v_163.toInt ≤ 2147483647) := ⟨i32_lo _, i32_hi _⟩
        have bv_167 : ((-2147483648) ≤ v_167.toInt ∧ v_167.toInt ≤ 2147483647) := ⟨i32_lo _, i32_hi _⟩
        have bv_177 : ((-2147483648) ≤ v_177.toInt ∧ v_177.toInt ≤ 2147483647) := ⟨i32_lo _, i32_hi _⟩
        have bv_179 : ((-2147483648) ≤ v_179.toInt ∧ v_179.toInt ≤ 2147483647) := ⟨i32_lo _, i32_hi _⟩
        have bv_186 : ((-2147483648) ≤ v_186.toInt ∧ v_186.toInt ≤ 2147483647) := ⟨i32_lo _, i32_hi _⟩
        have bv_192 : ((-2147483648) ≤ v_192.toInt ∧ v_192.toInt ≤ 2147483647) := ⟨i32_lo _, i32_hi _⟩
        have bv_207 : ((-2147483648) ≤ v_207.toInt ∧ v_207.toInt ≤ 2147483647) := ⟨i32_lo _, i32_hi _⟩
        obtain ⟨rfl, rfl, rfl, rfl, rfl, rfl, rfl, rfl, rfl, rfl, rfl, rfl, rfl, rfl, rfl, rfl, rfl, rfl, rfl, rfl, rfl, rfl, rfl, rfl, rfl, rfl, rfl, rfl, rfl, rfl, rfl⟩ := re_12 hfo_1 hfo_152 (hrA12 o0 ko0)
        obtain rfl := ri_12_3 hfo_1 hfo_152 (hfA12 o0 ko0 3 (by decide) (by decide) (by decide) (by decide) (by decide))
        obtain rfl := ri_12_5 hfo_1 hfo_152 (hfA12 o0 ko0 5 (by decide) (by decide) (by decide) (by decide) (by decide))
        obtain rfl := ri_12_6 hfo_1 hfo_152 (hfA12 o0 ko0 6 (by decide) (by decide) (by decide) (by decide) (by decide))
        obtain rfl := ri_12_11 hfo_1 hfo_152 (hfA12 o0 ko0 11 (by decide) (by decide) (by decide) (by decide) (by decide))
        obtain rfl := ri_12_12 hfo_1 hfo_152 (hfA12 o0 ko0 12 (by decide) (by decide) (by decide) (by decide) (by decide))
        obtain rfl := ri_12_13 hfo_1 hfo_152 (hfA12 o0 ko0 13 (by decide) (by decide) (by decide) (by decide) (by decide))
        obtain rfl := ri_12_14 hfo_1 hfo_152 (hfA12 o0 ko0 14 (by decide) (by decide) (by decide) (by decide) (by decide))
        obtain rfl := ri_12_23 hfo_1 hfo_152 (hfA12 o0 ko0 23 (by decide) (by decide) (by decide) (by decide) (by decide))
        obtain rfl := ri_12_35 hfo_1 hfo_152 (hfA12 o0 ko0 35 (by decide) (by decide) (by decide) (by decide) (by decide))
        obtain rfl := ri_12_38 hfo_1 hfo_152 (hfA12 o0 ko0 38 (by decide) (by decide) (by decide) (by decide) (by decide))
        obtain rfl := ri_12_43 hfo_1 hfo_152 (hfA12 o0 ko0 43 (by decide) (by decide) (by decide) (by decide) (by decide))
        obtain rfl := ri_12_53 hfo_1 hfo_152 (hfA12 o0 ko0 53 (by decide) (by decide) (by decide) (by decide) (by decide))
        have hqhpost_149 := hpost_149 v_96 v_182 (by rw [hfo_142]; rfl) (by rw [hfo_152]; rfl)
        refine lv_aload_n hx hb dX12_isParted_44 rfl (lv_at hl 2 rfl) ?_
        refine tk_getP (D := (dC, dI)) (ci := 12) (v := .int v_185) (C := RX12) (T := TX12) (N := 56) hx hb hU inlX12 hown hK hP mo0 hfo_152 rfl 32 (by decide) (hU _ wd_921) (fun _ h9 => h9) rfl dX12_isParted_45 ?_
        refine lv_iload_n hx hb dX12_isParted_48 rfl (lv_at hl 1 rfl) ?_
        refine lv_icmp_eq (tgt := 54) hx hb dX12_isParted_49 (by decide) (fun c_209 => ?_) (fun c_209 => ?_)
        · skip
          rw [← Int32.toInt_inj] at c_209
          refine lv_iconst (v := 0) hx hb dX12_isParted_54 (by decide) ?_
          refine lv_istore (lv' := [(4, .int 0), (3, .int v_99), (0, .ref o0), (1, .int p1), (2, .int p2)]) hx hb dX12_isParted_55 hl (by decide) rfl (fun ls hl => ?_)
          have hloop_216 : ∀ (n : Nat), ∀ (y_217 : Int32), (0 ≤ y_217.toInt ∧ y_217.toInt ≤ 6561) → 6561 - y_217.toInt < (n : Int) → ∀ (ls : Array Slot), lv_has ls 5 [(4, .int y_217), (3, .int v_99), (0, .ref o0), (1, .int p1), (2, .int p2)] → W p l e (headSpec (wU yX12_isParted cX12_isParted 5 (some .boolean)) { frames := 24, cells := 0, slots := 0, locals := 676 }).room s m [.ref o0, .int p1, .int p2].toArray below meth c H locs 0 0 (MQ below (va_Qi (fun (r : Int32) (f9 : Nat → va_E) => GI (okc cI cL cZ cR cG cH L kd) kd L f9 ∧ (0 ≤ r.toInt ∧ r.toInt ≤ 1) ∧ (∀ b, kd b ≠ 12 → kd b ≠ 579 → kd b ≠ 581 → kd b ≠ 583 → kd b ≠ 585 → kd b ≠ 587 → kd b ≠ 588 → kd b ≠ 590 → kd b ≠ 591 → kd b ≠ 592 → kd b ≠ 593 → kd b ≠ 602 → kd b ≠ 603 → f9 b = f b) ∧ (∀ b, kd b = 12 → ∀ j, fldR (f9 b) j = fldR (f b) j) ∧ (∀ b, kd b = 12 → ∀ j, j ≠ 25 → j ≠ 27 → j ≠ 29 → j ≠ 32 → j ≠ 33 → fldI (f9 b) j = fldI (f b) j) ∧ (∀ (w29 z29 : Int32), fldI (f o0) 29 = some w29 → fldI (f9 o0) 29 = some z29 → z29.toInt = w29.toInt) ∧ (srel kd 592 f9 o0)) (qP (dC, dI) cI cL cZ cR cG cH L) (fun q => q ∈ L)) [.ref o0, .int p1, .int p2].toArray s 0 0 (fun q => q ∈ L)) (F0 m 57 ls []) := by
            intro n
            induction n with
            | zero => intro y_217 by_217 hmuhloop_216 ls hl; exfalso; omega
            | succ n ih_hloop_216 =>
              intro y_217 by_217 hmuhloop_216 ls hl
              refine lv_iload hx hb dX12_isParted_57 (lv_at hl 0 rfl) ?_
              refine lv_iload_n hx hb dX12_isParted_59 rfl (lv_at hl 1 rfl) ?_
              refine lv_icmp_ge (tgt := 90) hx hb dX12_isParted_60 (by decide) (fun c_218 => ?_) (fun c_218 => ?_)
              · skip
                rw [Int32.le_iff_toInt_le] at c_218
                refine lv_iconst (v := 0) hx hb dX12_isParted_90 (by decide) ?_
                exact W.zret (v := 0) (ty := .boolean) hx hb hr rfl (fun t ht hW => ⟨⟨0, f_145, rfl, ⟨hG, (by decide), hfr0, hrA12, hfA12, (by intro w29 z29 e29 d29; rw [hfo_1] at e29; rw [hfo_152] at d29; obtain rfl := Option.some.inj e29; obtain rfl := Option.some.inj d29; (try rw [ti_0]) <;> omega), hTc_150⟩, by rw [ht]; exact hP, va_K.moved hW.alike hK, pl_in hD⟩, hS.F ht⟩) hS.2.2 dX12_isParted_91
              · skip
                rw [Int32.le_iff_toInt_le] at c_218
                refine lv_aload_n hx hb dX12_isParted_63 rfl (lv_at hl 2 rfl) ?_
                refine tk_getP (D := (dC, dI)) (ci := 12) (v := .ref a_32) (C := RX12) (T := TX12) (N := 56) hx hb hU inlX12 hown hK hP mo0 hfo_152 rfl 30 (by decide) (hU _ wd_184) (fun _ h9 => h9) rfl dX12_isParted_64 ?_
                refine lv_aload_n hx hb dX12_isParted_67 rfl (lv_at hl 2 rfl) ?_
                refine tk_getP (D := (dC, dI)) (ci := 12) (v := .ref a_48) (C := RX12) (T := TX12) (N := 56) hx hb hU inlX12 hown hK hP mo0 hfo_152 rfl 46 (by decide) (hU _ wd_195) (fun _ h9 => h9) rfl dX12_isParted_68 ?_
                refine lv_iload hx hb dX12_isParted_71 (lv_at hl 0 rfl) ?_
                obtain ⟨g_220, hfo_219, hbg_220⟩ := un_602 (hG _ ma_48) ka_48
                refine tk_ildP hx hb hK hP 0 ma_48 hfo_219 rfl (vp_in_iff.mpr (by constructor <;> omega)) dX12_isParted_73 ?_
                refine lv_topi (fun x_221 ex_221 => ?_)
                have bx_221 : (0 ≤ x_221.toInt ∧ x_221.toInt ≤ 6560) := by rw [ex_221]; exact hbg_220 _
                obtain ⟨g_223, hfo_222, hbg_223⟩ := un_592 (hG _ ma_32) ka_32
                refine tk_ildP hx hb hK hP 0 ma_32 hfo_222 rfl (vp_in_iff.mpr (by constructor <;> omega)) dX12_isParted_74 ?_
                refine lv_topi (fun x_224 ex_224 => ?_)
                have bx_224 : ((-2147483648) ≤ x_224.toInt ∧ x_224.toInt ≤ 2147483647) := ⟨i32_lo _, i32_hi _⟩
                refine lv_aload_n hx hb dX12_isParted_75 rfl (lv_at hl 2 rfl) ?_
                refine tk_getP (D := (dC, dI)) (ci := 12) (v := .int v_186) (C := RX12) (T := TX12) (N := 56) hx hb hU inlX12 hown hK hP mo0 hfo_152 rfl 33 (by decide) (hU _ wd_920) (fun _ h9 => h9) rfl dX12_isParted_76 ?_
                refine lv_icmp_eq (tgt := 84) hx hb dX12_isParted_79 (by decide) (fun c_225 => ?_) (fun c_225 => ?_)
                · skip
                  rw [← Int32.toInt_inj] at c_225
                  obtain ⟨x_226, ex_226⟩ : ∃ y : Int32, y_217 + 1 = y := ⟨_, rfl⟩
                  have hx_226 : x_226.toInt = y_217.toInt + 1 := by rw [← ex_226, ad_I (by rw [ti_1]; omega) (by rw [ti_1]; omega), ti_1]
                  have bx_226 : (1 ≤ x_226.toInt ∧ x_226.toInt ≤ 6561) := by constructor <;> omega
                  refine lv_iinc (v := x_226) (lv' := [(4, .int x_226), (3, .int v_99), (0, .ref o0), (1, .int p1), (2, .int p2)]) hx hb dX12_isParted_84 hl (k := 0) rfl ex_226 (by decide) rfl (fun ls hl => ?_)
                  refine lv_goto (tgt := 57) hx hb dX12_isParted_87 (by decide) ?_
                  exact ih_hloop_216 x_226 (by constructor <;> omega) (by omega) ls (lv_sub hl [0, 1, 2, 3, 4] rfl)
                · skip
                  rw [← Int32.toInt_inj] at c_225
                  refine lv_iconst (v := 1) hx hb dX12_isParted_82 (by decide) ?_
                  exact W.zret (v := 1) (ty := .boolean) hx hb hr rfl (fun t ht hW => ⟨⟨1, f_145, rfl, ⟨hG, (by decide), hfr0, hrA12, hfA12, (by intro w29 z29 e29 d29; rw [hfo_1] at e29; rw [hfo_152] at d29; obtain rfl := Option.some.inj e29; obtain rfl := Option.some.inj d29; (try rw [ti_1]) <;> omega), hTc_150⟩, by rw [ht]; exact hP, va_K.moved hW.alike hK, pl_in hD⟩, hS.F ht⟩) hS.2.2 dX12_isParted_83
          exact hloop_216 6562 0 (by decide) (by (try rw [ti_0]) <;> omega) ls hl
        · skip
          rw [← Int32.toInt_inj] at c_209
          refine lv_iconst (v := 1) hx hb dX12_isParted_52 (by decide) ?_
          exact W.zret (v := 1) (ty := .boolean) hx hb hr rfl (fun t ht hW => ⟨⟨1, f_145, rfl, ⟨hG, (by decide), hfr0, hrA12, hfA12, (by intro w29 z29 e29 d29; rw [hfo_1] at e29; rw [hfo_152] at d29; obtain rfl := Option.some.inj e29; obtain rfl := Option.some.inj d29; (try rw [ti_1]) <;> omega), hTc_150⟩, by rw [ht]; exact hP, va_K.moved hW.alike hK, pl_in hD⟩, hS.F ht⟩) hS.2.2 dX12_isParted_53
      · skip
        rw [Int32.le_iff_toInt_le] at c_143
        refine lv_aload_n hx hb dX12_isParted_19 rfl (lv_at hl 2 rfl) ?_
        refine tk_getP (D := (dC, dI)) (ci := 12) (v := .ref a_48) (C := RX12) (T := TX12) (N := 56) hx hb hU inlX12 hown hK hP mo0 hfo_142 rfl 46 (by decide) (hU _ wd_195) (fun _ h9 => h9) rfl dX12_isParted_20 ?_
        refine lv_iload hx hb dX12_isParted_23 (lv_at hl 0 rfl) ?_
        refine lv_aload_n hx hb dX12_isParted_25 rfl (lv_at hl 2 rfl) ?_
        refine tk_getP (D := (dC, dI)) (ci := 12) (v := .ref a_33) (C := RX12) (T := TX12) (N := 56) hx hb hU inlX12 hown hK hP mo0 hfo_142 rfl 31 (by decide) (hU _ wd_185) (fun _ h9 => h9) rfl dX12_isParted_26 ?_
        refine lv_iload hx hb dX12_isParted_29 (lv_at hl 0 rfl) ?_
        obtain ⟨g_228, hfo_227, hbg_228⟩ := un_593 (hG _ ma_33) ka_33
        refine tk_ildP hx hb hK hP 0 ma_33 hfo_227 rfl (vp_in_iff.mpr (by constructor <;> omega)) dX12_isParted_31 ?_
        refine lv_topi (fun x_229 ex_229 => ?_)
        have bx_229 : (0 ≤ x_229.toInt ∧ x_229.toInt ≤ 6560) := by rw [ex_229]; exact hbg_228 _
        obtain ⟨g_231, hfo_230, hbg_231⟩ := un_602 (hG _ ma_48) ka_48
        refine tk_istP hx hb hK hP hD hS 0 ma_48 hfo_230 rfl (vp_in_iff.mpr (by constructor <;> omega)) dX12_isParted_32 (fun H locs hP hD hS => ?_)
        obtain ⟨f_233, ef_233⟩ : ∃ y : Nat → va_E, y = va_up f_141 a_48 (.inl (cI, 6561, .inl (upd g_231 (Int32.toNatClampNeg y_139) x_229))) := ⟨_, rfl⟩
        have hP : va_P (dC, dI) vwCl (va_pl L f_233) H := by rw [ef_233]; exact hP
        have hD : va_D (fun q => q ∈ L) (va_pl L f_233) := by rw [ef_233]; exact hD
        have hG : GI (okc cI cL cZ cR cG cH L kd) kd L f_233 := by rw [ef_233]; exact hG.set a_48 (mk_602 ka_48 ⟨_, rfl, okI_up hbg_231 (by constructor <;> omega) _⟩)
        have hfo_234 : f_233 o0 = .inr (12, [.ref a_2, .ref a_3, .ref a_4, .int v_5, .ref a_6, .int v_7, .int v_8, .int v_74, .int v_75, .int v_76, .int v_77, .int v_13, .int v_14, .int v_15, .int v_16, .ref a_17, .ref a_18, .ref a_19, .ref a_20, .ref a_21, .ref a_22, .ref a_23, .ref a_24, .int v_25, .int v_91, .int v_92, .int v_93, .int v_94, .ref a_30, .int v_96, .ref a_32, .ref a_33, .int v_99, .int v_100, .ref a_36, .int v_37, .ref a_38, .ref a_39, .int v_40, .int v_106, .ref a_42, .ref a_43, .ref a_44, .int v_45, .ref a_46, .ref a_47, .ref a_48, .ref a_49, .ref a_50, .ref a_51, .ref a_52, .ref a_53, .ref a_54, .int v_55, .int v_121, .ref a_57]) := by rw [ef_233, up_ne (kd_ne ka_48 ko0 (by decide))]; exact hfo_142
        have hfo_235 : f_233 a_33 = .inl (cI, 6561, .inl g_228) := by rw [ef_233, up_ne (kd_ne ka_48 ka_33 (by decide))]; exact hfo_227
        have hfr0 : ∀ b, kd b ≠ 12 → kd b ≠ 579 → kd b ≠ 581 → kd b ≠ 583 → kd b ≠ 585 → kd b ≠ 587 → kd b ≠ 588 → kd b ≠ 590 → kd b ≠ 591 → kd b ≠ 592 → kd b ≠ 593 → kd b ≠ 602 → kd b ≠ 603 → f_233 b = f b := fun b q12 q579 q581 q583 q585 q587 q588 q590 q591 q592 q593 q602 q603 => (congrFun ef_233 b).trans ((up_ne (fun e9 => q602 (by rw [e9]; exact ka_48))).trans (hfr0 b q12 q579 q581 q583 q585 q587 q588 q590 q591 q592 q593 q602 q603))
        have hrA12 : ∀ b, kd b = 12 → ∀ j, fldR (f_233 b) j = fldR (f b) j := fun b kb j => (congrArg (fun x => fldR x j) ((congrFun ef_233 b).trans (up_ne (kd_ne ka_48 kb (by decide))))).trans (hrA12 b kb j)
        have hfA12 : ∀ b, kd b = 12 → ∀ j, j ≠ 25 → j ≠ 27 → j ≠ 29 → j ≠ 32 → j ≠ 33 → fldI (f_233 b) j = fldI (f b) j := fun b kb j n25 n27 n29 n32 n33 => (congrArg (fun x => fldI x j) ((congrFun ef_233 b).trans (up_ne (kd_ne ka_48 kb (by decide))))).trans (hfA12 b kb j n25 n27 n29 n32 n33)
        have hTc_64 : srel kd 592 f_233 o0 := by rw [ef_233]; exact hTc_64.keep (fun b q => congrArg (fun x => fldR x 30) (up_ne (kd_ne ka_48 q (by decide)))) (fun b q => congrArg (fun x => fldI x 32) (up_ne (kd_ne ka_48 q (by decide)))) (fun b q => congrArg (fun x => fldI x 33) (up_ne (kd_ne ka_48 q (by decide)))) (fun b q => up_ne (kd_ne ka_48 q (by decide)))
        have hfo_236 : f_233 a_48 = .inl (cI, 6561, .inl (upd g_231 (Int32.toNatClampNeg y_139) x_229)) := by rw [ef_233]; exact up_self
        obtain ⟨x_237, ex_237⟩ : ∃ y : Int32, y_139 + 1 = y := ⟨_, rfl⟩
        have hx_237 : x_237.toInt = y_139.toInt + 1 := by rw [← ex_237, ad_I (by rw [ti_1]; omega) (by rw [ti_1]; omega), ti_1]
        have bx_237 : (1 ≤ x_237.toInt ∧ x_237.toInt ≤ 6561) := by constructor <;> omega
        refine lv_iinc (v := x_237) (lv' := [(4, .int x_237), (3, .int v_99), (0, .ref o0), (1, .int p1), (2, .int p2)]) hx hb dX12_isParted_33 hl (k := 0) rfl ex_237 (by decide) rfl (fun ls hl => ?_)
        refine lv_goto (tgt := 13) hx hb dX12_isParted_36 (by decide) ?_
        exact ih_hloop_138 x_237 (by constructor <;> omega) f_233 hG _ _ hP hS hD hfr0 hrA12 hfA12 hfo_234 hTc_64 (by omega) ls (lv_sub hl [0, 1, 2, 3, 4] rfl)
  exact hloop_138 6562 0 (by decide) f_59 hG _ _ hP hS hD hfr0 hrA12 hfA12 hfo_66 hTc_64 (by (try rw [ti_0]) <;> omega) ls hl
set_option maxHeartbeats 8000000 in
set_option maxRecDepth 100000 in
theorem s_X12_partsOf_k12 (l : Launch) (D : va_G) (cI cL cZ cR cG cH : ClassId) (Z : zT) (kd : Nat → Nat) (L : List Nat) (f : Nat → va_E) (hG : GI (okc cI cL cZ cR cG cH L kd) kd L f) (o0 : Nat) (mo0 : o0 ∈ L) (ko0 : kd o0 = 12) (p1 : Int32) (p2 : Int32) (p3 : Int32) (bp3 : (1 ≤ p3.toInt ∧ p3.toInt ≤ 3)) (hpreo0 : ∀ (w29 : Int32), fldI (f o0) 29 = some w29 → w29.toInt ≤ 200) (hxtr0 : srel kd 592 f o0) : mPI l D cI cL cZ cR cG cH Z yX12_partsOf cX12_partsOf 6 (some .int) 25 700 [.ref o0, .int p1, .int p2, .int p3] L f (fun (r : Int32) (f9 : Nat → va_E) => GI (okc cI cL cZ cR cG cH L kd) kd L f9 ∧ ((-2147483648) ≤ r.toInt ∧ r.toInt ≤ 2147483647) ∧ (∀ b, kd b ≠ 12 → kd b ≠ 579 → kd b ≠ 581 → kd b ≠ 583 → kd b ≠ 585 → kd b ≠ 587 → kd b ≠ 588 → kd b ≠ 589 → kd b ≠ 590 → kd b ≠ 591 → kd b ≠ 592 → kd b ≠ 593 → kd b ≠ 602 → kd b ≠ 603 → f9 b = f b) ∧ (∀ b, kd b = 12 → ∀ j, fldR (f9 b) j = fldR (f b) j) ∧ (∀ b, kd b = 12 → ∀ j, j ≠ 23 → j ≠ 25 → j ≠ 27 → j ≠ 29 → j ≠ 32 → j ≠ 33 → fldI (f9 b) j = fldI (f b) j) ∧ (∀ (w29 z29 : Int32), fldI (f o0) 29 = some w29 → fldI (f9 o0) 29 = some z29 → z29.toInt = w29.toInt) ∧ (srel kd 592 f9 o0)) := by
  obtain ⟨dC, dI⟩ := D
  refine Met.ofW (cc := cX12_partsOf) (maxL := 6) (ret := (some .int)) (by decide) rfl ?_
  intro p e s m args below meth c s₁ B hml hv
  obtain ⟨rfl, hP, hK, hD0, hN, hZ⟩ := hv
  have hx := B.exec
  have hb := B.bytes
  have hr := B.returns
  have hU : ∀ w ∈ wsU, w.before _ s = true := fun w h => atoms_spec (ws := wU yX12_partsOf cX12_partsOf 6 (some .int)) B.pre w (List.mem_cons_of_mem _ h)
  have hown : s.vm.findClass RX12 = some m.cls := findClass_of_methodNamed B.named
  have hlocks := B.notSynchronized
  have hD := pl_in hD0
  have hS : va_S (fun q => q ∈ L) s.heap s.heap [] := va_S.rf
  have hl := lv_entry ([.ref o0, .int p1, .int p2, .int p3]) (n := 6) (Nat.le_of_ble_eq_true rfl)
  rw [lg_entry_eq]
  generalize (lg_sl ([.ref o0, .int p1, .int p2, .int p3]) ++ List.replicate (6 - (lg_sl ([.ref o0, .int p1, .int p2, .int p3])).length) Slot.unset).toArray = ls at hl ⊢
  have hl : lv_has ls 6 [(0, .ref o0), (1, .int p1), (2, .int p2), (3, .int p3)] := hl
  have bp1 : ((-2147483648) ≤ p1.toInt ∧ p1.toInt ≤ 2147483647) := ⟨i32_lo _, i32_hi _⟩
  have bp2 : ((-2147483648) ≤ p2.toInt ∧ p2.toInt ≤ 2147483647) := ⟨i32_lo _, i32_hi _⟩
  have hfr0 : ∀ b, kd b ≠ 12 → kd b ≠ 579 → kd b ≠ 581 → kd b ≠ 583 → kd b ≠ 585 → kd b ≠ 587 → kd b ≠ 588 → kd b ≠ 589 → kd b ≠ 590 → kd b ≠ 591 → kd b ≠ 592 → kd b ≠ 593 → kd b ≠ 602 → kd b ≠ 603 → f b = f b := fun _ _ _ _ _ _ _ _ _ _ _ _ _ _ _ => rfl
  have hrA12 : ∀ b, kd b = 12 → ∀ j, fldR (f b) j = fldR (f b) j := fun _ _ _ => rfl
  have hfA12 : ∀ b, kd b = 12 → ∀ j, j ≠ 23 → j ≠ 25 → j ≠ 27 → j ≠ 29 → j ≠ 32 → j ≠ 33 → fldI (f b) j = fldI (f b) j := fun _ _ _ _ _ _ _ _ _ => rfl
  obtain ⟨a_2, a_3, a_4, v_5, a_6, v_7, v_8, v_9, v_10, v_11, v_12, v_13, v_14, v_15, v_16, a_17, a_18, a_19, a_20, a_21, a_22, a_23, a_24, v_25, v_26, v_27, v_28, v_29, a_30, v_31, a_32, a_33, v_34, v_35, a_36, v_37, a_38, a_39, v_40, v_41, a_42, a_43, a_44, v_45, a_46, a_47, a_48, a_49, a_50, a_51, a_52, a_53, a_54, v_55, v_56, a_57, hfo_1, ⟨ma_2, ka_2⟩, ⟨ma_3, ka_3⟩, ⟨ma_4, ka_4⟩, bv_5, ⟨ma_6, ka_6⟩, bv_7, bv_8, bv_13, bv_14, bv_15, ⟨ma_17, ka_17⟩, ⟨ma_18, ka_18⟩, ⟨ma_19, ka_19⟩, ⟨ma_20, ka_20⟩, ⟨ma_21, ka_21⟩, ⟨ma_22, ka_22⟩, ⟨ma_23, ka_23⟩, ⟨ma_24, ka_24⟩, bv_25, bv_27, bv_29, ⟨ma_30, ka_30⟩, bv_31, ⟨ma_32, ka_32⟩, ⟨ma_33, ka_33⟩, bv_34, ⟨ma_36, ka_36⟩, bv_37, ⟨ma_38, ka_38⟩, ⟨ma_39, ka_39⟩, bv_40, ⟨ma_42, ka_42⟩, ⟨ma_43, ka_43⟩, ⟨ma_44, ka_44⟩, bv_45, ⟨ma_46, ka_46⟩, ⟨ma_47, ka_47⟩, ⟨ma_48, ka_48⟩, ⟨ma_49, ka_49⟩, ⟨ma_50, ka_50⟩, ⟨ma_51, ka_51⟩, ⟨ma_52, ka_52⟩, ⟨ma_53, ka_53⟩, ⟨ma_54, ka_54⟩, bv_55, ⟨ma_57, ka_57⟩⟩ := un_12 (hG _ mo0) ko0
  have bv_9 : ((-2147483648) ≤ v_9.toInt ∧ v_9.toInt ≤ 2147483647) := ⟨i32_lo _, i32_hi _⟩
  have bv_10 : ((-2147483648) ≤ v_10.toInt ∧ v_10.toInt ≤ 2147483647) := ⟨i32_lo _, i32_hi _⟩
  have bv_11 : ((-2147483648) ≤ v_11.toInt ∧ v_11.toInt ≤ 2147483647) := ⟨i32_lo _, i32_hi _⟩
  have bv_12 : ((-2147483648) ≤ v_12.toInt ∧ v_12.toInt ≤ 2147483647) := ⟨i32_lo _, i32_hi _⟩
  have bv_16 : ((-2147483648) ≤ v_16.toInt ∧ v_16.toInt ≤ 2147483647) := ⟨i32_lo _, i32_hi _⟩
  have bv_26 : ((-2147483648) ≤ v_26.toInt ∧ v_26.toInt ≤ 2147483647) := ⟨i32_lo _, i32_hi _⟩
  have bv_28 : ((-2147483648) ≤ v_28.toInt ∧ v_28.toInt ≤ 2147483647) := ⟨i32_lo _, i32_hi _⟩
  have bv_35 : ((-2147483648) ≤ v_35.toInt ∧ v_35.toInt ≤ 2147483647) := ⟨i32_lo _, i32_hi _⟩
  have bv_41 : ((-2147483648) ≤ v_41.toInt ∧ v_41.toInt ≤ 2147483647) := ⟨i32_lo _, i32_hi _⟩
  have bv_56 : ((-2147483648) ≤ v_56.toInt ∧ v_56.toInt ≤ 2147483647) := ⟨i32_lo _, i32_hi _⟩
  have hpo0 := hpreo0 v_31 (by rw [hfo_1]; rfl)
  have hT0 := hxtr0
  refine lv_aload_n hx hb dX12_partsOf_0 rfl (lv_at hl 0 rfl) ?_
  refine lv_iload_n hx hb dX12_partsOf_1 rfl (lv_at hl 3 rfl) ?_
  refine tk_ViP (As := [.int p3]) (rest := []) (n := 1) hx hb hml hown hU hN hZ (s_X12_wordsUpTo_k12 l (dC, dI) cI cL cZ cR cG cH Z kd L f hG o0 mo0 ko0 p3 (by constructor <;> omega)) wd_1169 wd_1170 wd_1171 wd_5 wd_1172 (by decide +kernel) ⟨Nat.le_of_ble_eq_true rfl, Nat.le_of_ble_eq_true rfl⟩ hK hP hD hS mo0 hfo_1 12 rfl rfl rfl hl.1 rfl (Nat.le_of_ble_eq_true rfl) dX12_partsOf_2 ⟨Nat.le_of_ble_eq_true rfl, Nat.le_of_ble_eq_true rfl⟩ (fun x_58 f_59 H locs hw hP hD hS => ?_)
  obtain ⟨rfl, bx_58, hxp_60⟩ := hw
  obtain ⟨g_63, hfo_62, hbg_63⟩ := un_575 (hG _ ma_2) ka_2
  have hwu := hxp_60 a_2 g_63 (by rw [hfo_1]; rfl) hfo_62
  have hsq := lw_sq (L := (g_63 0).toInt) (hbg_63.1 0 (by decide) (by decide) (by decide))
  refine lv_istore (lv' := [(4, .int x_58), (0, .ref o0), (1, .int p1), (2, .int p2), (3, .int p3)]) hx hb dX12_partsOf_5 hl (by decide) rfl (fun ls hl => ?_)
  refine lv_iconst (v := 0) hx hb dX12_partsOf_7 (by decide) ?_
  refine lv_istore (lv' := [(5, .int 0), (4, .int x_58), (0, .ref o0), (1, .int p1), (2, .int p2), (3, .int p3)]) hx hb dX12_partsOf_8 hl (by decide) rfl (fun ls hl => ?_)
  have hloop_70 : ∀ (n : Nat), ∀ (y_71 : Int32), (0 ≤ y_71.toInt ∧ y_71.toInt ≤ 584) → ∀ (f_73 : Nat → va_E), GI (okc cI cL cZ cR cG cH L kd) kd L f_73 → ∀ (H : Heap) (locs : List Loc), va_P (dC, dI) vwCl (va_pl L f_73) H → va_S (fun q => q ∈ L) s.heap H locs → va_D (fun q => q ∈ L) (va_pl L f_73) → (∀ b, kd b ≠ 12 → kd b ≠ 579 → kd b ≠ 581 → kd b ≠ 583 → kd b ≠ 585 → kd b ≠ 587 → kd b ≠ 588 → kd b ≠ 589 → kd b ≠ 590 → kd b ≠ 591 → kd b ≠ 592 → kd b ≠ 593 → kd b ≠ 602 → kd b ≠ 603 → f_73 b = f b) → (∀ b, kd b = 12 → ∀ j, fldR (f_73 b) j = fldR (f b) j) → (∀ b, kd b = 12 → ∀ j, j ≠ 23 → j ≠ 25 → j ≠ 27 → j ≠ 29 → j ≠ 32 → j ≠ 33 → fldI (f_73 b) j = fldI (f b) j) → (f_73 a_2 = .inl (cI, 1560, .inl g_63)) → srel kd 592 f_73 o0 → ∀ (whloop_70_0_29 : Int32), fldI (f_73 o0) 29 = some whloop_70_0_29 → (whloop_70_0_29.toInt = v_31.toInt) → (0 ≤ whloop_70_0_29.toInt ∧ whloop_70_0_29.toInt ≤ 201) → 584 - y_71.toInt < (n : Int) → ∀ (ls : Array Slot), lv_has ls 6 [(5, .int y_71), (4, .int x_58), (0, .ref o0), (1, .int p1), (2, .int p2), (3, .int p3)] → W p l e (headSpec (wU yX12_partsOf cX12_partsOf 6 (some .int)) { frames := 25, cells := 0, slots := 0, locals := 700 }).room s m [.ref o0, .int p1, .int p2, .int p3].toArray below meth c H locs 0 0 (MQ below (va_Qi (fun (r : Int32) (f9 : Nat → va_E) => GI (okc cI cL cZ cR cG cH L kd) kd L f9 ∧ ((-2147483648) ≤ r.toInt ∧ r.toInt ≤ 2147483647) ∧ (∀ b, kd b ≠ 12 → kd b ≠ 579 → kd b ≠ 581 → kd b ≠ 583 → kd b ≠ 585 → kd b ≠ 587 → kd b ≠ 588 → kd b ≠ 589 → kd b ≠ 590 → kd b ≠ 591 → kd b ≠ 592 → kd b ≠ 593 → kd b ≠ 602 → kd b ≠ 603 → f9 b = f b) ∧ (∀ b, kd b = 12 → ∀ j, fldR (f9 b) j = fldR (f b) j) ∧ (∀ b, kd b = 12 → ∀ j, j ≠ 23 → j ≠ 25 → j ≠ 27 → j ≠ 29 → j ≠ 32 → j ≠ 33 → fldI (f9 b) j = fldI (f b) j) ∧ (∀ (w29 z29 : Int32), fldI (f o0) 29 = some w29 → fldI (f9 o0) 29 = some z29 → z29.toInt = w29.toInt) ∧ (srel kd 592 f9 o0)) (qP (dC, dI) cI cL cZ cR cG cH L) (fun q => q ∈ L)) [.ref o0, .int p1, .int p2, .int p3].toArray s 0 0 (fun q => q ∈ L)) (F0 m 10 ls []) := by
    intro n
    induction n with
    | zero => intro y_71 by_71 f_73 hG H locs hP hS hD hfr0 hrA12 hfA12 hfo_74 hT0 whloop_70_0_29 hghloop_70_0_29 hrelhloop_70_0 hrelhloop_70_1 hmuhloop_70 ls hl; exfalso; omega
    | succ n ih_hloop_70 =>
      intro y_71 by_71 f_73 hG H locs hP hS hD hfr0 hrA12 hfA12 hfo_74 hT0 whloop_70_0_29 hghloop_70_0_29 hrelhloop_70_0 hrelhloop_70_1 hmuhloop_70 ls hl
      obtain ⟨a_76, a_77, a_78, v_79, a_80, v_81, v_82, v_83, v_84, v_85, v_86, v_87, v_88, v_89, v_90, a_91, a_92, a_93, a_94, a_95, a_96, a_97, a_98, v_99, v_100, v_101, v_102, v_103, a_104, v_105, a_106, a_107, v_108, v_109, a_110, v_111, a_112, a_113, v_114, v_115, a_116, a_117, a_118, v_119, a_120, a_121, a_122, a_123, a_124, a_125, a_126, a_127, a_128, v_129, v_130, a_131, hfo_75, ⟨ma_76, ka_76⟩, ⟨ma_77, ka_77⟩, ⟨ma_78, ka_78⟩, bv_79, ⟨ma_80, ka_80⟩, bv_81, bv_82, bv_87, bv_88, bv_89, ⟨ma_91, ka_91⟩, ⟨ma_92, ka_92⟩, ⟨ma_93, ka_93⟩, ⟨ma_94, ka_94⟩, ⟨ma_95, ka_95⟩, ⟨ma_96, ka_96⟩, ⟨ma_97, ka_97⟩, ⟨ma_98, ka_98⟩, bv_99, bv_101, bv_103, ⟨ma_104, ka_104⟩, bv_105, ⟨ma_106, ka_106⟩, ⟨ma_107, ka_107⟩, bv_108, ⟨ma_110, ka_110⟩, bv_111, ⟨ma_112, ka_112⟩, ⟨ma_113, ka_113⟩, bv_114, ⟨ma_116, ka_116⟩, ⟨ma_117, ka_117⟩, ⟨ma_118, ka_118⟩, bv_119, ⟨ma_120, ka_120⟩, ⟨ma_121, ka_121⟩, ⟨ma_122, ka_122⟩, ⟨ma_123, ka_123⟩, ⟨ma_124, ka_124⟩, ⟨ma_125, ka_125⟩, ⟨ma_126, ka_126⟩, ⟨ma_127, ka_127⟩, ⟨ma_128, ka_128⟩, bv_129, ⟨ma_131, ka_131⟩⟩ := un_12 (hG _ mo0) ko0
      have bv_83 : ((-2147483648) ≤ v_83.toInt ∧ v_83.toInt ≤ 2147483647) := ⟨i32_lo _, i32_hi _⟩
      have bv_84 : ((-2147483648) ≤ v_84.toInt ∧ v_84.toInt ≤ 2147483647) := ⟨i32_lo _, i32_hi _⟩
      have bv_85 : ((-2147483648) ≤ v_85.toInt ∧ v_85.toInt ≤ 2147483647) := ⟨i32_lo _, i32_hi _⟩
      have bv_86 : ((-2147483648) ≤ v_86.toInt ∧ v_86.toInt ≤ 2147483647) := ⟨i32_lo _, i32_hi _⟩
      have bv_90 : ((-2147483648) ≤ v_90.toInt ∧ v_90.toInt ≤ 2147483647) := ⟨i32_lo _, i32_hi _⟩
      have bv_100 : ((-2147483648) ≤ v_100.toInt ∧ v_100.toInt ≤ 2147483647) := ⟨i32_lo _, i32_hi _⟩
      have bv_102 : ((-2147483648) ≤ v_102.toInt ∧ v_102.toInt ≤ 2147483647) := ⟨i32_lo _, i32_hi _⟩
      have bv_109 : ((-2147483648) ≤ v_109.toInt ∧ v_109.toInt ≤ 2147483647) := ⟨i32_lo _, i32_hi _⟩
      have bv_115 : ((-2147483648) ≤ v_115.toInt ∧ v_115.toInt ≤ 2147483647) := ⟨i32_lo _, i32_hi _⟩
      have bv_130 : ((-2147483648) ≤ v_130.toInt ∧ v_130.toInt ≤ 2147483647) := ⟨i32_lo _, i32_hi _⟩
      obtain ⟨rfl, rfl, rfl, rfl, rfl, rfl, rfl, rfl, rfl, rfl, rfl, rfl, rfl, rfl, rfl, rfl, rfl, rfl, rfl, rfl, rfl, rfl, rfl, rfl, rfl, rfl, rfl, rfl, rfl, rfl, rfl⟩ := re_12 hfo_1 hfo_75 (hrA12 o0 ko0)
      obtain rfl := ri_12_3 hfo_1 hfo_75 (hfA12 o0 ko0 3 (by decide) (by decide) (by decide) (by decide) (by decide) (by decide))
      obtain rfl := ri_12_5 hfo_1 hfo_75 (hfA12 o0 ko0 5 (by decide) (by decide) (by decide) (by decide) (by decide) (by decide))
      obtain rfl := ri_12_6 hfo_1 hfo_75 (hfA12 o0 ko0 6 (by decide) (by decide) (by decide) (by decide) (by decide) (by decide))
      obtain rfl := ri_12_11 hfo_1 hfo_75 (hfA12 o0 ko0 11 (by decide) (by decide) (by decide) (by decide) (by decide) (by decide))
      obtain rfl := ri_12_12 hfo_1 hfo_75 (hfA12 o0 ko0 12 (by decide) (by decide) (by decide) (by decide) (by decide) (by decide))
      obtain rfl := ri_12_13 hfo_1 hfo_75 (hfA12 o0 ko0 13 (by decide) (by decide) (by decide) (by decide) (by decide) (by decide))
      obtain rfl := ri_12_14 hfo_1 hfo_75 (hfA12 o0 ko0 14 (by decide) (by decide) (by decide) (by decide) (by decide) (by decide))
      obtain rfl := ri_12_35 hfo_1 hfo_75 (hfA12 o0 ko0 35 (by decide) (by decide) (by decide) (by decide) (by decide) (by decide))
      obtain rfl := ri_12_38 hfo_1 hfo_75 (hfA12 o0 ko0 38 (by decide) (by decide) (by decide) (by decide) (by decide) (by decide))
      obtain rfl := ri_12_43 hfo_1 hfo_75 (hfA12 o0 ko0 43 (by decide) (by decide) (by decide) (by decide) (by decide) (by decide))
      obtain rfl := ri_12_53 hfo_1 hfo_75 (hfA12 o0 ko0 53 (by decide) (by decide) (by decide) (by decide) (by decide) (by decide))
      obtain rfl : v_105 = whloop_70_0_29 := by rw [hfo_75] at hghloop_70_0_29; exact Option.some.inj hghloop_70_0_29
      refine lv_iload hx hb dX12_partsOf_10 (lv_at hl 0 rfl) ?_
      refine lv_iload hx hb dX12_partsOf_12 (lv_at hl 1 rfl) ?_
      refine lv_icmp_ge (tgt := 41) hx hb dX12_partsOf_14 (by decide) (fun c_132 => ?_) (fun c_132 => ?_)
      · skip
        rw [Int32.le_iff_toInt_le] at c_132
        refine lv_iconst (v := (-1)) hx hb dX12_partsOf_41 (by decide) ?_
        exact W.iret (v := (-1)) hx hb hr (fun t ht hW => ⟨⟨(-1), f_73, rfl, ⟨hG, (by decide), hfr0, hrA12, hfA12, (by intro w29 z29 e29 d29; rw [hfo_1] at e29; rw [hfo_75] at d29; obtain rfl := Option.some.inj e29; obtain rfl := Option.some.inj d29; (try rw [ti_m1]) <;> omega), hT0⟩, by rw [ht]; exact hP, va_K.moved hW.alike hK, pl_in hD⟩, hS.F ht⟩) hS.2.2 dX12_partsOf_42
      · skip
        rw [Int32.le_iff_toInt_le] at c_132
        refine lv_aload_n hx hb dX12_partsOf_17 rfl (lv_at hl 2 rfl) ?_
        refine lv_iload hx hb dX12_partsOf_18 (lv_at hl 0 rfl) ?_
        refine tk_VvP (As := [.int y_71]) (rest := []) (n := 1) hx hb hml hown hU hN hZ (s_X12_laysWord_k12 l (dC, dI) cI cL cZ cR cG cH Z kd L f_73 hG o0 mo0 ko0 y_71 (by constructor <;> omega) (fun b9 g9 h1 h2 => by rw [hfo_75] at h1; obtain rfl := Option.some.inj h1; rw [hfo_74] at h2; cases h2; omega)) wd_1173 wd_1174 wd_1175 wd_5 wd_1176 (by decide +kernel) ⟨Nat.le_of_ble_eq_true rfl, Nat.le_of_ble_eq_true rfl⟩ hK hP hD hS mo0 hfo_75 12 rfl rfl rfl hl.1 rfl (Nat.le_of_ble_eq_true rfl) dX12_partsOf_20 ⟨Nat.le_of_ble_eq_true rfl, Nat.le_of_ble_eq_true rfl⟩ (fun f_134 H locs hw hP hD hS => ?_)
        obtain ⟨hG, hkc_135, hra_136, hfa_137, hpost_138, hxp_139⟩ := hw
        have hfo_141 : f_134 a_2 = .inl (cI, 1560, .inl g_63) := by rw [hkc_135 a_2 (by rw [ka_2]; decide) (by rw [ka_2]; decide)]; exact hfo_74
        have hfr0 : ∀ b, kd b ≠ 12 → kd b ≠ 579 → kd b ≠ 581 → kd b ≠ 583 → kd b ≠ 585 → kd b ≠ 587 → kd b ≠ 588 → kd b ≠ 589 → kd b ≠ 590 → kd b ≠ 591 → kd b ≠ 592 → kd b ≠ 593 → kd b ≠ 602 → kd b ≠ 603 → f_134 b = f b := fun b q12 q579 q581 q583 q585 q587 q588 q589 q590 q591 q592 q593 q602 q603 => (hkc_135 b q12 q589).trans (hfr0 b q12 q579 q581 q583 q585 q587 q588 q589 q590 q591 q592 q593 q602 q603)
        have hrA12 : ∀ b, kd b = 12 → ∀ j, fldR (f_134 b) j = fldR (f b) j := fun b kb j => (hra_136 b kb j).trans (hrA12 b kb j)
        have hfA12 : ∀ b, kd b = 12 → ∀ j, j ≠ 23 → j ≠ 25 → j ≠ 27 → j ≠ 29 → j ≠ 32 → j ≠ 33 → fldI (f_134 b) j = fldI (f b) j := fun b kb j n23 n25 n27 n29 n32 n33 => (hfa_137 b kb j n23).trans (hfA12 b kb j n23 n25 n27 n29 n32 n33)
        have hT0 : srel kd 592 f_134 o0 := hT0.keep (fun b q => hra_136 b q 30) (fun b q => hfa_137 b q 32 (by decide)) (fun b q => hfa_137 b q 33 (by decide)) (fun b q => hkc_135 b (by rw [q]; decide) (by rw [q]; decide))
        obtain ⟨a_143, a_144, a_145, v_146, a_147, v_148, v_149, v_150, v_151, v_152, v_153, v_154, v_155, v_156, v_157, a_158, a_159, a_160, a_161, a_162, a_163, a_164, a_165, v_166, v_167, v_168, v_169, v_170, a_171, v_172, a_173, a_174, v_175, v_176, a_177, v_178, a_179, a_180, v_181, v_182, a_183, a_184, a_185, v_186, a_187, a_188, a_189, a_190, a_191, a_192, a_193, a_194, a_195, v_196, v_197, a_198, hfo_142, ⟨ma_143, ka_143⟩, ⟨ma_144, ka_144⟩, ⟨ma_145, ka_145⟩, bv_146, ⟨ma_147, ka_147⟩, bv_148, bv_149, bv_154, bv_155, bv_156, ⟨ma_158, ka_158⟩, ⟨ma_159, ka_159⟩, ⟨ma_160, ka_160⟩, ⟨ma_161, ka_161⟩, ⟨ma_162, ka_162⟩, ⟨ma_163, ka_163⟩, ⟨ma_164, ka_164⟩, ⟨ma_165, ka_165⟩, bv_166, bv_168, bv_170, ⟨ma_171, ka_171⟩, bv_172, ⟨ma_173, ka_173⟩, ⟨ma_174, ka_174⟩, bv_175, ⟨ma_177, ka_177⟩, bv_178, ⟨ma_179, ka_179⟩, ⟨ma_180, ka_180⟩, bv_181, ⟨ma_183, ka_183⟩, ⟨ma_184, ka_184⟩, ⟨ma_185, ka_185⟩, bv_186, ⟨ma_187, ka_187⟩, ⟨ma_188, ka_188⟩, ⟨ma_189, ka_189⟩, ⟨ma_190, ka_190⟩, ⟨ma_191, ka_191⟩, ⟨ma_192, ka_192⟩, ⟨ma_193, ka_193⟩, ⟨ma_194, ka_194⟩, ⟨ma_195, ka_195⟩, bv_196, ⟨ma_198, ka_198⟩⟩ := un_12 (hG _ mo0) ko0
        have bv_150 : ((-2147483648) ≤ v_150.toInt ∧ v_150.toInt ≤ 2147483647) := ⟨i32_lo _, i32_hi _⟩
        have bv_151 : ((-2147483648) ≤ v_151.toInt ∧ v_151.toInt ≤ 2147483647) := ⟨i32_lo _, i32_hi _⟩
        have bv_152 : ((-2147483648) ≤ v_152.toInt ∧ v_152.toInt ≤ 2147483647) := ⟨i32_lo _, i32_hi _⟩
        have bv_153 : ((-2147483648) ≤ v_153.toInt ∧ v_153.toInt ≤ 2147483647) := ⟨i32_lo _, i32_hi _⟩
        have bv_157 : ((-2147483648) ≤ v_157.toInt ∧ v_157.toInt ≤ 2147483647) := ⟨i32_lo _, i32_hi _⟩
        have bv_167 : ((-2147483648) ≤ v_167.toInt ∧ v_167.toInt ≤ 2147483647) := ⟨i32_lo _, i32_hi _⟩
        have bv_169 : ((-2147483648) ≤ v_169.toInt ∧ v_169.toInt ≤ 2147483647) := ⟨i32_lo _, i32_hi _⟩
        have bv_176 : ((-2147483648) ≤ v_176.toInt ∧ v_176.toInt ≤ 2147483647) := ⟨i32_lo _, i32_hi _⟩
        have bv_182 : ((-2147483648) ≤ v_182.toInt ∧ v_182.toInt ≤ 2147483647) := ⟨i32_lo _, i32_hi _⟩
        have bv_197 : ((-2147483648) ≤ v_197.toInt ∧ v_197.toInt ≤ 2147483647) := ⟨i32_lo _, i32_hi _⟩
        obtain ⟨rfl, rfl, rfl, rfl, rfl, rfl, rfl, rfl, rfl, rfl, rfl, rfl, rfl, rfl, rfl, rfl, rfl, rfl, rfl, rfl, rfl, rfl, rfl, rfl, rfl, rfl, rfl, rfl, rfl, rfl, rfl⟩ := re_12 hfo_1 hfo_142 (hrA12 o0 ko0)
        obtain rfl := ri_12_3 hfo_1 hfo_142 (hfA12 o0 ko0 3 (by decide) (by decide) (by decide) (by decide) (by decide) (by decide))
        obtain rfl := ri_12_5 hfo_1 hfo_142 (hfA12 o0 ko0 5 (by decide) (by decide) (by decide) (by decide) (by decide) (by decide))
        obtain rfl := ri_12_6 hfo_1 hfo_142 (hfA12 o0 ko0 6 (by decide) (by decide) (by decide) (by decide) (by decide) (by decide))
        obtain rfl := ri_12_11 hfo_1 hfo_142 (hfA12 o0 ko0 11 (by decide) (by decide) (by decide) (by decide) (by decide) (by decide))
        obtain rfl := ri_12_12 hfo_1 hfo_142 (hfA12 o0 ko0 12 (by decide) (by decide) (by decide) (by decide) (by decide) (by decide))
        obtain rfl := ri_12_13 hfo_1 hfo_142 (hfA12 o0 ko0 13 (by decide) (by decide) (by decide) (by decide) (by decide) (by decide))
        obtain rfl := ri_12_14 hfo_1 hfo_142 (hfA12 o0 ko0 14 (by decide) (by decide) (by decide) (by decide) (by decide) (by decide))
        obtain rfl := ri_12_35 hfo_1 hfo_142 (hfA12 o0 ko0 35 (by decide) (by decide) (by decide) (by decide) (by decide) (by decide))
        obtain rfl := ri_12_38 hfo_1 hfo_142 (hfA12 o0 ko0 38 (by decide) (by decide) (by decide) (by decide) (by decide) (by decide))
        obtain rfl := ri_12_43 hfo_1 hfo_142 (hfA12 o0 ko0 43 (by decide) (by decide) (by decide) (by decide) (by decide) (by decide))
        obtain rfl := ri_12_53 hfo_1 hfo_142 (hfA12 o0 ko0 53 (by decide) (by decide) (by decide) (by decide) (by decide) (by decide))
        obtain rfl := ri_12_25 hfo_75 hfo_142 (hfa_137 o0 ko0 25 (by decide))
        obtain rfl := ri_12_27 hfo_75 hfo_142 (hfa_137 o0 ko0 27 (by decide))
        obtain rfl := ri_12_29 hfo_75 hfo_142 (hfa_137 o0 ko0 29 (by decide))
        obtain rfl := ri_12_32 hfo_75 hfo_142 (hfa_137 o0 ko0 32 (by decide))
        obtain rfl := ri_12_33 hfo_75 hfo_142 (hfa_137 o0 ko0 33 (by decide))
        have hqhpost_138 := hpost_138 v_99 v_166 (by rw [hfo_75]; rfl) (by rw [hfo_142]; rfl)
        have hlw2 := hxp_139 a_2 g_63 v_166 (by rw [hfo_75]; rfl) hfo_74 (by rw [hfo_142]; rfl)
        refine lv_aload_n hx hb dX12_partsOf_23 rfl (lv_at hl 2 rfl) ?_
        refine lv_iload_n hx hb dX12_partsOf_24 rfl (lv_at hl 3 rfl) ?_
        refine lv_iload_n hx hb dX12_partsOf_25 rfl (lv_at hl 4 rfl) ?_
        refine tk_ViP (As := [.int p1, .int p2]) (rest := []) (n := 2) hx hb hml hown hU hN hZ (s_X12_isParted_k12 l (dC, dI) cI cL cZ cR cG cH Z kd L f_134 hG o0 mo0 ko0 p1 p2 (by intro w23 w29 e23 e29; rw [hfo_142] at e23 e29; obtain rfl := Option.some.inj e23; obtain rfl := Option.some.inj e29; omega) hT0) wd_1338 wd_1339 wd_1340 wd_5 wd_1341 (by decide +kernel) ⟨Nat.le_of_ble_eq_true rfl, Nat.le_of_ble_eq_true rfl⟩ hK hP hD hS mo0 hfo_142 12 rfl rfl rfl hl.1 rfl (Nat.le_of_ble_eq_true rfl) dX12_partsOf_26 ⟨Nat.le_of_ble_eq_true rfl, Nat.le_of_ble_eq_true rfl⟩ (fun x_199 f_200 H locs hw hP hD hS => ?_)
        obtain ⟨hG, bx_199, hkc_201, hra_202, hfa_203, hpost_204, hTc_205⟩ := hw
        have hfo_207 : f_200 a_2 = .inl (cI, 1560, .inl g_63) := by rw [hkc_201 a_2 (by rw [ka_2]; decide) (by rw [ka_2]; decide) (by rw [ka_2]; decide) (by rw [ka_2]; decide) (by rw [ka_2]; decide) (by rw [ka_2]; decide) (by rw [ka_2]; decide) (by rw [ka_2]; decide) (by rw [ka_2]; decide) (by rw [ka_2]; decide) (by rw [ka_2]; decide) (by rw [ka_2]; decide) (by rw [ka_2]; decide)]; exact hfo_141
        have hfr0 : ∀ b, kd b ≠ 12 → kd b ≠ 579 → kd b ≠ 581 → kd b ≠ 583 → kd b ≠ 585 → kd b ≠ 587 → kd b ≠ 588 → kd b ≠ 589 → kd b ≠ 590 → kd b ≠ 591 → kd b ≠ 592 → kd b ≠ 593 → kd b ≠ 602 → kd b ≠ 603 → f_200 b = f b := fun b q12 q579 q581 q583 q585 q587 q588 q589 q590 q591 q592 q593 q602 q603 => (hkc_201 b q12 q579 q581 q583 q585 q587 q588 q590 q591 q592 q593 q602 q603).trans (hfr0 b q12 q579 q581 q583 q585 q587 q588 q589 q590 q591 q592 q593 q602 q603)
        have hrA12 : ∀ b, kd b = 12 → ∀ j, fldR (f_200 b) j = fldR (f b) j := fun b kb j => (hra_202 b kb j).trans (hrA12 b kb j)
        have hfA12 : ∀ b, kd b = 12 → ∀ j, j ≠ 23 → j ≠ 25 → j ≠ 27 → j ≠ 29 → j ≠ 32 → j ≠ 33 → fldI (f_200 b) j = fldI (f b) j := fun b kb j n23 n25 n27 n29 n32 n33 => (hfa_203 b kb j n25 n27 n29 n32 n33).trans (hfA12 b kb j n23 n25 n27 n29 n32 n33)
        obtain ⟨a_209, a_210, a_211, v_212, a_213, v_214, v_215, v_216, v_217, v_218, v_219, v_220, v_221, v_222, v_223, a_224, a_225, a_226, a_227, a_228, a_229, a_230, a_231, v_232, v_233, v_234, v_235, v_236, a_237, v_238, a_239, a_240, v_241, v_242, a_243, v_244, a_245, a_246, v_247, v_248, a_249, a_250, a_251, v_252, a_253, a_254, a_255, a_256, a_257, a_258, a_259, a_260, a_261, v_262, v_263, a_264, hfo_208, ⟨ma_209, ka_209⟩, ⟨ma_210, ka_210⟩, ⟨ma_211, ka_211⟩, bv_212, ⟨ma_213, ka_213⟩, bv_214, bv_215, bv_220, bv_221, bv_222, ⟨ma_224, ka_224⟩, ⟨ma_225, ka_225⟩, ⟨ma_226, ka_226⟩, ⟨ma_227, ka_227⟩, ⟨ma_228, ka_228⟩, ⟨ma_229, ka_229⟩, ⟨ma_230, ka_230⟩, ⟨ma_231, ka_231⟩, bv_232, bv_234, bv_236, ⟨ma_237, ka_237⟩, bv_238, ⟨ma_239, ka_239⟩, ⟨ma_240, ka_240⟩, bv_241, ⟨ma_243, ka_243⟩, bv_244, ⟨ma_245, ka_245⟩, ⟨ma_246, ka_246⟩, bv_247, ⟨ma_249, ka_249⟩, ⟨ma_250, ka_250⟩, ⟨ma_251, ka_251⟩, bv_252, ⟨ma_253, ka_253⟩, ⟨ma_254, ka_254⟩, ⟨ma_255, ka_255⟩, ⟨ma_256, ka_256⟩, ⟨ma_257, ka_257⟩, ⟨ma_258, ka_258⟩, ⟨ma_259, ka_259⟩, ⟨ma_260, ka_260⟩, ⟨ma_261, ka_261⟩, bv_262, ⟨ma_264, ka_264⟩⟩ := un_12 (hG _ mo0) ko0
        have bv_216 : ((-2147483648) ≤ v_216.toInt ∧ v_216.toInt ≤ 2147483647) := ⟨i32_lo _, i32_hi _⟩
        have bv_217 : ((-2147483648) ≤ v_217.toInt ∧ v_217.toInt ≤ 2147483647) := ⟨i32_lo _, i32_hi _⟩
        have bv_218 : ((-2147483648) ≤ v_218.toInt ∧ v_218.toInt ≤ 2147483647) := ⟨i32_lo _, i32_hi _⟩
        have bv_219 : ((-2147483648) ≤ v_219.toInt ∧ v_219.toInt ≤ 2147483647) := ⟨i32_lo _, i32_hi _⟩
        have bv_223 : ((-2147483648) ≤ v_223.toInt ∧ v_223.toInt ≤ 2147483647) := ⟨i32_lo _, i32_hi _⟩
        have bv_233 : ((-2147483648) ≤ v_233.toInt ∧ v_233.toInt ≤ 2147483647) := ⟨i32_lo _, i32_hi _⟩
        have bv_235 : ((-2147483648) ≤ v_235.toInt ∧ v_235.toInt ≤ 2147483647) := ⟨i32_lo _, i32_hi _⟩
        have bv_242 : ((-2147483648) ≤ v_242.toInt ∧ v_242.toInt ≤ 2147483647) := ⟨i32_lo _, i32_hi _⟩
        have bv_248 : ((-2147483648) ≤ v_248.toInt ∧ v_248.toInt ≤ 2147483647) := ⟨i32_lo _, i32_hi _⟩
        have bv_263 : ((-2147483648) ≤ v_263.toInt ∧ v_263.toInt ≤ 2147483647) := ⟨i32_lo _, i32_hi _⟩
        obtain ⟨rfl, rfl, rfl, rfl, rfl, rfl, rfl, rfl, rfl, rfl, rfl, rfl, rfl, rfl, rfl, rfl, rfl, rfl, rfl, rfl, rfl, rfl, rfl, rfl, rfl, rfl, rfl, rfl, rfl, rfl, rfl⟩ := re_12 hfo_1 hfo_208 (hrA12 o0 ko0)
        obtain rfl := ri_12_3 hfo_1 hfo_208 (hfA12 o0 ko0 3 (by decide) (by decide) (by decide) (by decide) (by decide) (by decide))
        obtain rfl := ri_12_5 hfo_1 hfo_208 (hfA12 o0 ko0 5 (by decide) (by decide) (by decide) (by decide) (by decide) (by decide))
        obtain rfl := ri_12_6 hfo_1 hfo_208 (hfA12 o0 ko0 6 (by decide) (by decide) (by decide) (by decide) (by decide) (by decide))
        obtain rfl := ri_12_11 hfo_1 hfo_208 (hfA12 o0 ko0 11 (by decide) (by decide) (by decide) (by decide) (by decide) (by decide))
        obtain rfl := ri_12_12 hfo_1 hfo_208 (hfA12 o0 ko0 12 (by decide) (by decide) (by decide) (by decide) (by decide) (by decide))
        obtain rfl := ri_12_13 hfo_1 hfo_208 (hfA12 o0 ko0 13 (by decide) (by decide) (by decide) (by decide) (by decide) (by decide))
        obtain rfl := ri_12_14 hfo_1 hfo_208 (hfA12 o0 ko0 14 (by decide) (by decide) (by decide) (by decide) (by decide) (by decide))
        obtain rfl := ri_12_35 hfo_1 hfo_208 (hfA12 o0 ko0 35 (by decide) (by decide) (by decide) (by decide) (by decide) (by decide))
        obtain rfl := ri_12_38 hfo_1 hfo_208 (hfA12 o0 ko0 38 (by decide) (by decide) (by decide) (by decide) (by decide) (by decide))
        obtain rfl := ri_12_43 hfo_1 hfo_208 (hfA12 o0 ko0 43 (by decide) (by decide) (by decide) (by decide) (by decide) (by decide))
        obtain rfl := ri_12_53 hfo_1 hfo_208 (hfA12 o0 ko0 53 (by decide) (by decide) (by decide) (by decide) (by decide) (by decide))
        obtain rfl := ri_12_23 hfo_142 hfo_208 (hfa_203 o0 ko0 23 (by decide) (by decide) (by decide) (by decide) (by decide))
        have hqhpost_204 := hpost_204 v_105 v_238 (by rw [hfo_142]; rfl) (by rw [hfo_208]; rfl)
        refine lv_if_eq (tgt := 35) hx hb dX12_partsOf_29 (by decide) (fun c_265 => ?_) (fun c_265 => ?_)
        · skip
          rw [← Int32.toInt_inj, ti_0] at c_265
          obtain ⟨x_266, ex_266⟩ : ∃ y : Int32, y_71 + 1 = y := ⟨_, rfl⟩
          have hx_266 : x_266.toInt = y_71.toInt + 1 := by rw [← ex_266, ad_I (by rw [ti_1]; omega) (by rw [ti_1]; omega), ti_1]
          have bx_266 : (1 ≤ x_266.toInt ∧ x_266.toInt ≤ 584) := by constructor <;> omega
          refine lv_iinc (v := x_266) (lv' := [(5, .int x_266), (4, .int x_58), (0, .ref o0), (1, .int p1), (2, .int p2), (3, .int p3)]) hx hb dX12_partsOf_35 hl (k := 0) rfl ex_266 (by decide) rfl (fun ls hl => ?_)
          refine lv_goto (tgt := 10) hx hb dX12_partsOf_38 (by decide) ?_
          exact ih_hloop_70 x_266 (by constructor <;> omega) f_200 hG _ _ hP hS hD hfr0 hrA12 hfA12 hfo_207 hTc_205 v_238 (by rw [hfo_208]; rfl) (by omega) (by omega) (by omega) ls (lv_sub hl [0, 1, 2, 3, 4, 5] rfl)
        · skip
          rw [← Int32.toInt_inj, ti_0] at c_265
          refine lv_iload hx hb dX12_partsOf_32 (lv_at hl 0 rfl) ?_
          exact W.iret (v := y_71) hx hb hr (fun t ht hW => ⟨⟨y_71, f_200, rfl, ⟨hG, (by constructor <;> omega), hfr0, hrA12, hfA12, (by intro w29 z29 e29 d29; rw [hfo_1] at e29; rw [hfo_208] at d29; obtain rfl := Option.some.inj e29; obtain rfl := Option.some.inj d29; omega), hTc_205⟩, by rw [ht]; exact hP, va_K.moved hW.alike hK, pl_in hD⟩, hS.F ht⟩) hS.2.2 dX12_partsOf_34
  exact hloop_70 585 0 (by decide) f hG _ _ hP hS hD hfr0 hrA12 hfA12 hfo_62 hT0 v_31 (by rw [hfo_1]; rfl) (by (try rw [ti_0]) <;> omega) (by (try rw [ti_0]) <;> omega) (by (try rw [ti_0]) <;> omega) ls hl
