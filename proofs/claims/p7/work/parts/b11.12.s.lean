set_option maxHeartbeats 8000000 in
set_option maxRecDepth 100000 in
theorem s_X12_sets_k12 (l : Launch) (D : va_G) (cI cL cZ cR cG cH : ClassId) (Z : zT) (kd : Nat → Nat) (L : List Nat) (f : Nat → va_E) (hG : GI (okc cI cL cZ cR cG cH L kd) kd L f) (o0 : Nat) (mo0 : o0 ∈ L) (ko0 : kd o0 = 12) (p1 : Int32) (bp1 : (0 ≤ p1.toInt ∧ p1.toInt ≤ 4)) : mPV l D cI cL cZ cR cG cH Z yX12_sets cX12_sets 2 none 3 68 [.ref o0, .int p1] L f (fun (f9 : Nat → va_E) => GI (okc cI cL cZ cR cG cH L kd) kd L f9 ∧ (∀ b, kd b ≠ 12 → kd b ≠ 579 → kd b ≠ 581 → kd b ≠ 587 → f9 b = f b) ∧ (∀ b, kd b = 12 → ∀ j, fldR (f9 b) j = fldR (f b) j) ∧ (∀ b, kd b = 12 → ∀ j, j ≠ 25 → j ≠ 27 → fldI (f9 b) j = fldI (f b) j) ∧ (∀ (w25 z25 : Int32) (w27 z27 : Int32), fldI (f o0) 25 = some w25 → fldI (f o0) 27 = some w27 → fldI (f9 o0) 25 = some z25 → fldI (f9 o0) 27 = some z27 → z25.toInt = p1.toInt ∧ z27.toInt = 0)) := by
  obtain ⟨dC, dI⟩ := D
  refine Met.ofW (cc := cX12_sets) (maxL := 2) (ret := none) (by decide) rfl ?_
  intro p e s m args below meth c s₁ B hml hv
  obtain ⟨rfl, hP, hK, hD0, hN, hZ⟩ := hv
  have hx := B.exec
  have hb := B.bytes
  have hr := B.returns
  have hU : ∀ w ∈ wsU, w.before _ s = true := fun w h => atoms_spec (ws := wU yX12_sets cX12_sets 2 none) B.pre w (List.mem_cons_of_mem _ h)
  have hown : s.vm.findClass RX12 = some m.cls := findClass_of_methodNamed B.named
  have hlocks := B.notSynchronized
  have hD := pl_in hD0
  have hS : va_S (fun q => q ∈ L) s.heap s.heap [] := va_S.rf
  have hl := lv_entry ([.ref o0, .int p1]) (n := 2) (Nat.le_of_ble_eq_true rfl)
  rw [lg_entry_eq]
  generalize (lg_sl ([.ref o0, .int p1]) ++ List.replicate (2 - (lg_sl ([.ref o0, .int p1])).length) Slot.unset).toArray = ls at hl ⊢
  have hl : lv_has ls 2 [(0, .ref o0), (1, .int p1)] := hl
  have hfr0 : ∀ b, kd b ≠ 12 → kd b ≠ 579 → kd b ≠ 581 → kd b ≠ 587 → f b = f b := fun _ _ _ _ _ => rfl
  have hrA12 : ∀ b, kd b = 12 → ∀ j, fldR (f b) j = fldR (f b) j := fun _ _ _ => rfl
  have hfA12 : ∀ b, kd b = 12 → ∀ j, j ≠ 25 → j ≠ 27 → fldI (f b) j = fldI (f b) j := fun _ _ _ _ _ => rfl
  obtain ⟨a_2, a_3, a_4, v_5, a_6, v_7, v_8, v_9, v_10, v_11, v_12, v_13, v_14, v_15, v_16, a_17, a_18, a_19, a_20, a_21, a_22, a_23, a_24, v_25, v_26, v_27, v_28, v_29, a_30, v_31, a_32, a_33, v_34, v_35, a_36, v_37, a_38, a_39, v_40, v_41, a_42, a_43, a_44, v_45, a_46, a_47, a_48, a_49, a_50, a_51, a_52, a_53, a_54, v_55, v_56, a_57, hfo_1, ⟨ma_2, ka_2⟩, ⟨ma_3, ka_3⟩, ⟨ma_4, ka_4⟩, bv_5, ⟨ma_6, ka_6⟩, bv_7, bv_8, bv_13, bv_14, bv_15, ⟨ma_17, ka_17⟩, ⟨ma_18, ka_18⟩, ⟨ma_19, ka_19⟩, ⟨ma_20, ka_20⟩, ⟨ma_21, ka_21⟩, ⟨ma_22, ka_22⟩, ⟨ma_23, ka_23⟩, ⟨ma_24, ka_24⟩, bv_25, bv_27, bv_29, ⟨ma_30, ka_30⟩, bv_31, ⟨ma_32, ka_32⟩, ⟨ma_33, ka_33⟩, bv_34, ⟨ma_36, ka_36⟩, bv_37, ⟨ma_38, ka_38⟩, ⟨ma_39, ka_39⟩, bv_40, ⟨ma_42, ka_42⟩, ⟨ma_43, ka_43⟩, ⟨ma_44, ka_44⟩, bv_45, ⟨ma_46, ka_46⟩, ⟨ma_47, ka_47⟩, ⟨ma_48, ka_48⟩, ⟨ma_49, ka_49⟩, ⟨ma_50, ka_50⟩, ⟨ma_51, ka_51⟩, ⟨ma_52, ka_52⟩, ⟨ma_53, ka_53⟩, ⟨ma_54, ka_54⟩, bv_55, ⟨ma_57, ka_57⟩⟩ := un_12 (hG _ mo0) ko0
  have bv_9 : ((-2147483648) ≤ v_9.toInt ∧ v_9.toInt ≤ 2147483647) := ⟨i32_lo _, i32_hi _⟩
  have bv_10 : ((-2147483648) ≤ v_10.toInt ∧ v_10.toInt ≤ 2147483647) := ⟨i32_lo _, i32_hi _⟩
  have bv_11 : ((-2147483648) ≤ v_11.toInt ∧ v_11.toInt ≤ 2147483647) := ⟨i32_lo _, i32_hi _⟩
  have bv_12 : ((-2147483648) ≤ v_12.toInt ∧ v_12.toInt ≤ 2147483647) := ⟨i32_lo _, i32_hi _⟩
  have bv_16 : ((-2147483648) ≤ v_16.toInt ∧ v_16.toInt ≤ 2147483647) := ⟨i32_lo _, i32_hi _⟩
  have bv_26 : ((-2147483648) ≤ v_26.toInt ∧ v_26.toInt ≤ 2147483647) := ⟨i32_lo _, i32_hi _⟩
  have bv_28 : ((-2147483648) ≤ v_28.toInt ∧ v_28.toInt ≤ 2147483647) := ⟨i32_lo _, i32_hi _⟩
  have bv_35 : ((-2147483648) ≤ v_35.toInt ∧ v_35.toInt ≤ 2147483647) := ⟨i32_lo _, i32_hi _⟩
  have bv_41 : ((-2147483648) ≤ v_41.toInt ∧ v_41.toInt ≤ 2147483647) := ⟨i32_lo _, i32_hi _⟩
  have bv_56 : ((-2147483648) ≤ v_56.toInt ∧ v_56.toInt ≤ 2147483647) := ⟨i32_lo _, i32_hi _⟩
  refine lv_aload_n hx hb dX12_sets_0 rfl (lv_at hl 0 rfl) ?_
  refine lv_iload_n hx hb dX12_sets_1 rfl (lv_at hl 1 rfl) ?_
  refine tk_putP (D := (dC, dI)) (ci := 12) (v := .int p1) (ty := .int) (C := RX12) (T := TX12) (N := 56) hx hb hU inlX12 tyX12 tyX12_ok nmX12 hown hK hP hD hS mo0 hfo_1 rfl 25 (by decide) (hU _ wd_872) (fun _ h9 => h9) rfl (by decide +kernel) rfl rfl (Nat.le_of_ble_eq_true rfl) dX12_sets_2 (fun H locs hP hD hS => ?_)
  obtain ⟨f_59, ef_59⟩ : ∃ y : Nat → va_E, y = va_up f o0 (.inr (12, [.ref a_2, .ref a_3, .ref a_4, .int v_5, .ref a_6, .int v_7, .int v_8, .int v_9, .int v_10, .int v_11, .int v_12, .int v_13, .int v_14, .int v_15, .int v_16, .ref a_17, .ref a_18, .ref a_19, .ref a_20, .ref a_21, .ref a_22, .ref a_23, .ref a_24, .int v_25, .int v_26, .int p1, .int v_28, .int v_29, .ref a_30, .int v_31, .ref a_32, .ref a_33, .int v_34, .int v_35, .ref a_36, .int v_37, .ref a_38, .ref a_39, .int v_40, .int v_41, .ref a_42, .ref a_43, .ref a_44, .int v_45, .ref a_46, .ref a_47, .ref a_48, .ref a_49, .ref a_50, .ref a_51, .ref a_52, .ref a_53, .ref a_54, .int v_55, .int v_56, .ref a_57])) := ⟨_, rfl⟩
  have hP : va_P (dC, dI) vwCl (va_pl L f_59) H := by rw [ef_59]; exact hP
  have hD : va_D (fun q => q ∈ L) (va_pl L f_59) := by rw [ef_59]; exact hD
  have hG : GI (okc cI cL cZ cR cG cH L kd) kd L f_59 := by rw [ef_59]; exact hG.set o0 (mk_12 ko0 ⟨a_2, a_3, a_4, v_5, a_6, v_7, v_8, v_9, v_10, v_11, v_12, v_13, v_14, v_15, v_16, a_17, a_18, a_19, a_20, a_21, a_22, a_23, a_24, v_25, v_26, p1, v_28, v_29, a_30, v_31, a_32, a_33, v_34, v_35, a_36, v_37, a_38, a_39, v_40, v_41, a_42, a_43, a_44, v_45, a_46, a_47, a_48, a_49, a_50, a_51, a_52, a_53, a_54, v_55, v_56, a_57, rfl, ⟨ma_2, ka_2⟩, ⟨ma_3, ka_3⟩, ⟨ma_4, ka_4⟩, (by constructor <;> omega), ⟨ma_6, ka_6⟩, (by constructor <;> omega), (by constructor <;> omega), (by constructor <;> omega), (by constructor <;> omega), (by constructor <;> omega), ⟨ma_17, ka_17⟩, ⟨ma_18, ka_18⟩, ⟨ma_19, ka_19⟩, ⟨ma_20, ka_20⟩, ⟨ma_21, ka_21⟩, ⟨ma_22, ka_22⟩, ⟨ma_23, ka_23⟩, ⟨ma_24, ka_24⟩, (by constructor <;> omega), (by constructor <;> omega), (by constructor <;> omega), ⟨ma_30, ka_30⟩, (by constructor <;> omega), ⟨ma_32, ka_32⟩, ⟨ma_33, ka_33⟩, (by constructor <;> omega), ⟨ma_36, ka_36⟩, (by constructor <;> omega), ⟨ma_38, ka_38⟩, ⟨ma_39, ka_39⟩, (by constructor <;> omega), ⟨ma_42, ka_42⟩, ⟨ma_43, ka_43⟩, ⟨ma_44, ka_44⟩, (by constructor <;> omega), ⟨ma_46, ka_46⟩, ⟨ma_47, ka_47⟩, ⟨ma_48, ka_48⟩, ⟨ma_49, ka_49⟩, ⟨ma_50, ka_50⟩, ⟨ma_51, ka_51⟩, ⟨ma_52, ka_52⟩, ⟨ma_53, ka_53⟩, ⟨ma_54, ka_54⟩, (by constructor <;> omega), ⟨ma_57, ka_57⟩⟩)
  have hfr0 : ∀ b, kd b ≠ 12 → kd b ≠ 579 → kd b ≠ 581 → kd b ≠ 587 → f_59 b = f b := fun b q12 q579 q581 q587 => (congrFun ef_59 b).trans ((up_ne (fun e9 => q12 (by rw [e9]; exact ko0))).trans (hfr0 b q12 q579 q581 q587))
  have hrA12 : ∀ b, kd b = 12 → ∀ j, fldR (f_59 b) j = fldR (f b) j := fun b kb j => ((congrArg (fun x => fldR x j) (congrFun ef_59 b)).trans (fra_up (fun j => by rw [hfo_1]; exact fr_set (k := 25) rfl rfl j) j b)).trans (hrA12 b kb j)
  have hfA12 : ∀ b, kd b = 12 → ∀ j, j ≠ 25 → j ≠ 27 → fldI (f_59 b) j = fldI (f b) j := fun b kb j n25 n27 => ((congrArg (fun x => fldI x j) (congrFun ef_59 b)).trans (fia_up (fun h9 => by rw [hfo_1]; exact fi_set (k := 25) rfl h9) n25 b)).trans (hfA12 b kb j n25 n27)
  have hfo_60 : f_59 o0 = .inr (12, [.ref a_2, .ref a_3, .ref a_4, .int v_5, .ref a_6, .int v_7, .int v_8, .int v_9, .int v_10, .int v_11, .int v_12, .int v_13, .int v_14, .int v_15, .int v_16, .ref a_17, .ref a_18, .ref a_19, .ref a_20, .ref a_21, .ref a_22, .ref a_23, .ref a_24, .int v_25, .int v_26, .int p1, .int v_28, .int v_29, .ref a_30, .int v_31, .ref a_32, .ref a_33, .int v_34, .int v_35, .ref a_36, .int v_37, .ref a_38, .ref a_39, .int v_40, .int v_41, .ref a_42, .ref a_43, .ref a_44, .int v_45, .ref a_46, .ref a_47, .ref a_48, .ref a_49, .ref a_50, .ref a_51, .ref a_52, .ref a_53, .ref a_54, .int v_55, .int v_56, .ref a_57]) := by rw [ef_59]; exact up_self
  refine lv_aload_n hx hb dX12_sets_5 rfl (lv_at hl 0 rfl) ?_
  refine lv_iconst (v := 0) hx hb dX12_sets_6 (by decide) ?_
  refine tk_putP (D := (dC, dI)) (ci := 12) (v := .int 0) (ty := .boolean) (C := RX12) (T := TX12) (N := 56) hx hb hU inlX12 tyX12 tyX12_ok nmX12 hown hK hP hD hS mo0 hfo_60 rfl 27 (by decide) (hU _ wd_873) (fun _ h9 => h9) rfl (by decide +kernel) rfl rfl (Nat.le_of_ble_eq_true rfl) dX12_sets_7 (fun H locs hP hD hS => ?_)
  obtain ⟨f_62, ef_62⟩ : ∃ y : Nat → va_E, y = va_up f_59 o0 (.inr (12, [.ref a_2, .ref a_3, .ref a_4, .int v_5, .ref a_6, .int v_7, .int v_8, .int v_9, .int v_10, .int v_11, .int v_12, .int v_13, .int v_14, .int v_15, .int v_16, .ref a_17, .ref a_18, .ref a_19, .ref a_20, .ref a_21, .ref a_22, .ref a_23, .ref a_24, .int v_25, .int v_26, .int p1, .int v_28, .int 0, .ref a_30, .int v_31, .ref a_32, .ref a_33, .int v_34, .int v_35, .ref a_36, .int v_37, .ref a_38, .ref a_39, .int v_40, .int v_41, .ref a_42, .ref a_43, .ref a_44, .int v_45, .ref a_46, .ref a_47, .ref a_48, .ref a_49, .ref a_50, .ref a_51, .ref a_52, .ref a_53, .ref a_54, .int v_55, .int v_56, .ref a_57])) := ⟨_, rfl⟩
  have hP : va_P (dC, dI) vwCl (va_pl L f_62) H := by rw [ef_62]; exact hP
  have hD : va_D (fun q => q ∈ L) (va_pl L f_62) := by rw [ef_62]; exact hD
  have hG : GI (okc cI cL cZ cR cG cH L kd) kd L f_62 := by rw [ef_62]; exact hG.set o0 (mk_12 ko0 ⟨a_2, a_3, a_4, v_5, a_6, v_7, v_8, v_9, v_10, v_11, v_12, v_13, v_14, v_15, v_16, a_17, a_18, a_19, a_20, a_21, a_22, a_23, a_24, v_25, v_26, p1, v_28, 0, a_30, v_31, a_32, a_33, v_34, v_35, a_36, v_37, a_38, a_39, v_40, v_41, a_42, a_43, a_44, v_45, a_46, a_47, a_48, a_49, a_50, a_51, a_52, a_53, a_54, v_55, v_56, a_57, rfl, ⟨ma_2, ka_2⟩, ⟨ma_3, ka_3⟩, ⟨ma_4, ka_4⟩, (by constructor <;> omega), ⟨ma_6, ka_6⟩, (by constructor <;> omega), (by constructor <;> omega), (by constructor <;> omega), (by constructor <;> omega), (by constructor <;> omega), ⟨ma_17, ka_17⟩, ⟨ma_18, ka_18⟩, ⟨ma_19, ka_19⟩, ⟨ma_20, ka_20⟩, ⟨ma_21, ka_21⟩, ⟨ma_22, ka_22⟩, ⟨ma_23, ka_23⟩, ⟨ma_24, ka_24⟩, (by constructor <;> omega), (by constructor <;> omega), (by decide), ⟨ma_30, ka_30⟩, (by constructor <;> omega), ⟨ma_32, ka_32⟩, ⟨ma_33, ka_33⟩, (by constructor <;> omega), ⟨ma_36, ka_36⟩, (by constructor <;> omega), ⟨ma_38, ka_38⟩, ⟨ma_39, ka_39⟩, (by constructor <;> omega), ⟨ma_42, ka_42⟩, ⟨ma_43, ka_43⟩, ⟨ma_44, ka_44⟩, (by constructor <;> omega), ⟨ma_46, ka_46⟩, ⟨ma_47, ka_47⟩, ⟨ma_48, ka_48⟩, ⟨ma_49, ka_49⟩, ⟨ma_50, ka_50⟩, ⟨ma_51, ka_51⟩, ⟨ma_52, ka_52⟩, ⟨ma_53, ka_53⟩, ⟨ma_54, ka_54⟩, (by constructor <;> omega), ⟨ma_57, ka_57⟩⟩)
  have hfr0 : ∀ b, kd b ≠ 12 → kd b ≠ 579 → kd b ≠ 581 → kd b ≠ 587 → f_62 b = f b := fun b q12 q579 q581 q587 => (congrFun ef_62 b).trans ((up_ne (fun e9 => q12 (by rw [e9]; exact ko0))).trans (hfr0 b q12 q579 q581 q587))
  have hrA12 : ∀ b, kd b = 12 → ∀ j, fldR (f_62 b) j = fldR (f b) j := fun b kb j => ((congrArg (fun x => fldR x j) (congrFun ef_62 b)).trans (fra_up (fun j => by rw [hfo_60]; exact fr_set (k := 27) rfl rfl j) j b)).trans (hrA12 b kb j)
  have hfA12 : ∀ b, kd b = 12 → ∀ j, j ≠ 25 → j ≠ 27 → fldI (f_62 b) j = fldI (f b) j := fun b kb j n25 n27 => ((congrArg (fun x => fldI x j) (congrFun ef_62 b)).trans (fia_up (fun h9 => by rw [hfo_60]; exact fi_set (k := 27) rfl h9) n27 b)).trans (hfA12 b kb j n25 n27)
  have hfo_63 : f_62 o0 = .inr (12, [.ref a_2, .ref a_3, .ref a_4, .int v_5, .ref a_6, .int v_7, .int v_8, .int v_9, .int v_10, .int v_11, .int v_12, .int v_13, .int v_14, .int v_15, .int v_16, .ref a_17, .ref a_18, .ref a_19, .ref a_20, .ref a_21, .ref a_22, .ref a_23, .ref a_24, .int v_25, .int v_26, .int p1, .int v_28, .int 0, .ref a_30, .int v_31, .ref a_32, .ref a_33, .int v_34, .int v_35, .ref a_36, .int v_37, .ref a_38, .ref a_39, .int v_40, .int v_41, .ref a_42, .ref a_43, .ref a_44, .int v_45, .ref a_46, .ref a_47, .ref a_48, .ref a_49, .ref a_50, .ref a_51, .ref a_52, .ref a_53, .ref a_54, .int v_55, .int v_56, .ref a_57]) := by rw [ef_62]; exact up_self
  refine lv_aload_n hx hb dX12_sets_10 rfl (lv_at hl 0 rfl) ?_
  refine tk_VvP (As := []) (rest := []) (n := 0) hx hb hml hown hU hN hZ (s_X12_begins_k12 l (dC, dI) cI cL cZ cR cG cH Z kd L f_62 hG o0 mo0 ko0) wd_874 wd_875 wd_876 wd_5 wd_877 (by decide +kernel) ⟨Nat.le_of_ble_eq_true rfl, Nat.le_of_ble_eq_true rfl⟩ hK hP hD hS mo0 hfo_63 12 rfl rfl rfl hl.1 rfl (Nat.le_of_ble_eq_true rfl) dX12_sets_11 ⟨Nat.le_of_ble_eq_true rfl, Nat.le_of_ble_eq_true rfl⟩ (fun f_65 H locs hw hP hD hS => ?_)
  obtain ⟨hG, hkc_66⟩ := hw
  have hfo_68 : f_65 o0 = .inr (12, [.ref a_2, .ref a_3, .ref a_4, .int v_5, .ref a_6, .int v_7, .int v_8, .int v_9, .int v_10, .int v_11, .int v_12, .int v_13, .int v_14, .int v_15, .int v_16, .ref a_17, .ref a_18, .ref a_19, .ref a_20, .ref a_21, .ref a_22, .ref a_23, .ref a_24, .int v_25, .int v_26, .int p1, .int v_28, .int 0, .ref a_30, .int v_31, .ref a_32, .ref a_33, .int v_34, .int v_35, .ref a_36, .int v_37, .ref a_38, .ref a_39, .int v_40, .int v_41, .ref a_42, .ref a_43, .ref a_44, .int v_45, .ref a_46, .ref a_47, .ref a_48, .ref a_49, .ref a_50, .ref a_51, .ref a_52, .ref a_53, .ref a_54, .int v_55, .int v_56, .ref a_57]) := by rw [hkc_66 o0 (by rw [ko0]; decide) (by rw [ko0]; decide) (by rw [ko0]; decide)]; exact hfo_63
  have hfr0 : ∀ b, kd b ≠ 12 → kd b ≠ 579 → kd b ≠ 581 → kd b ≠ 587 → f_65 b = f b := fun b q12 q579 q581 q587 => (hkc_66 b q579 q581 q587).trans (hfr0 b q12 q579 q581 q587)
  have hrA12 : ∀ b, kd b = 12 → ∀ j, fldR (f_65 b) j = fldR (f b) j := fun b kb j => (congrArg (fun x => fldR x j) (hkc_66 b (by rw [kb]; decide) (by rw [kb]; decide) (by rw [kb]; decide))).trans (hrA12 b kb j)
  have hfA12 : ∀ b, kd b = 12 → ∀ j, j ≠ 25 → j ≠ 27 → fldI (f_65 b) j = fldI (f b) j := fun b kb j n25 n27 => (congrArg (fun x => fldI x j) (hkc_66 b (by rw [kb]; decide) (by rw [kb]; decide) (by rw [kb]; decide))).trans (hfA12 b kb j n25 n27)
  exact W.vret hx hb hr (fun t ht hW => ⟨⟨f_65, rfl, ⟨hG, hfr0, hrA12, hfA12, (by intro w25 z25 w27 z27 e25 e27 d25 d27; rw [hfo_1] at e25 e27; rw [hfo_68] at d25 d27; obtain rfl := Option.some.inj e25; obtain rfl := Option.some.inj d25; obtain rfl := Option.some.inj e27; obtain rfl := Option.some.inj d27; (try rw [ti_0]) <;> omega)⟩, by rw [ht]; exact hP, va_K.moved hW.alike hK, pl_in hD⟩, hS.F ht⟩) hS.2.2 dX12_sets_14
set_option maxHeartbeats 8000000 in
set_option maxRecDepth 100000 in
theorem s_X12_goes_k12 (l : Launch) (D : va_G) (cI cL cZ cR cG cH : ClassId) (Z : zT) (kd : Nat → Nat) (L : List Nat) (n_ : Nat) (f : Nat → va_E) (hG : GI (okc cI cL cZ cR cG cH L kd) kd L f) (o0 : Nat) (mo0 : o0 ∈ L) (ko0 : kd o0 = 12) (p1 : Int32) (bp1 : (0 ≤ p1.toInt ∧ p1.toInt ≤ 12)) (p2 : Int32) (bp2 : (0 ≤ p2.toInt ∧ p2.toInt ≤ 1)) (p3 : Int32) (bp3 : (0 ≤ p3.toInt ∧ p3.toInt ≤ 13)) (p4 : Int32) (bp4 : (0 ≤ p4.toInt ∧ p4.toInt ≤ 13)) (p5 : Int32) (hpreo0 : ∀ (w23 : Int32) (w25 : Int32) (w27 : Int32) (w29 : Int32), fldI (f o0) 23 = some w23 → fldI (f o0) 25 = some w25 → fldI (f o0) 27 = some w27 → fldI (f o0) 29 = some w29 → w27.toInt = 0 ∧ w29.toInt ≤ 200 ∧ p1.toInt ≤ w23.toInt ∧ (w25.toInt ≤ 1 ∨ w25.toInt = 3 ∨ w23.toInt ≤ 3)) (hxrel : p3.toInt ≤ p1.toInt + 1 - p2.toInt ∧ p4.toInt ≤ p3.toInt) (hxtr0 : srel kd 592 f o0) (hrk : 13 - p3.toInt < (n_ : Int)) : mPV l D cI cL cZ cR cG cH Z yX12_goes cX12_goes 11 none (8 + n_) (205 + n_ * 30) [.ref o0, .int p1, .int p2, .int p3, .int p4, .int p5] L f (fun (f9 : Nat → va_E) => GI (okc cI cL cZ cR cG cH L kd) kd L f9 ∧ (∀ b, kd b ≠ 12 → kd b ≠ 579 → kd b ≠ 581 → kd b ≠ 583 → kd b ≠ 585 → kd b ≠ 587 → kd b ≠ 588 → kd b ≠ 590 → kd b ≠ 591 → kd b ≠ 592 → kd b ≠ 593 → kd b ≠ 603 → f9 b = f b) ∧ (∀ b, kd b = 12 → ∀ j, fldR (f9 b) j = fldR (f b) j) ∧ (∀ b, kd b = 12 → ∀ j, j ≠ 27 → j ≠ 29 → j ≠ 32 → fldI (f9 b) j = fldI (f b) j) ∧ (∀ (w25 z25 : Int32) (w27 z27 : Int32) (w29 z29 : Int32), fldI (f o0) 25 = some w25 → fldI (f o0) 27 = some w27 → fldI (f o0) 29 = some w29 → fldI (f9 o0) 25 = some z25 → fldI (f9 o0) 27 = some z27 → fldI (f9 o0) 29 = some z29 → (z27.toInt = 1 ∨ z29.toInt ≤ 200) ∧ (w25.toInt ≤ 1 ∨ z29.toInt = w29.toInt)) ∧ (srel kd 592 f9 o0)) := by
  obtain ⟨dC, dI⟩ := D
  induction n_ generalizing f o0 mo0 ko0 p1 bp1 p2 bp2 p3 bp3 p4 bp4 p5 hpreo0 w23 w25 w27 w29 hxrel hxtr0 with
  | zero => exfalso; omega
  | succ n_ ih_ =>
    have ih_rec := ih_
    clear ih_
    refine Met.ofW (cc := cX12_goes) (maxL := 11) (ret := none) (by decide) rfl ?_
    intro p e s m args below meth c s₁ B hml hv
    obtain ⟨rfl, hP, hK, hD0, hN, hZ⟩ := hv
    have hx := B.exec
    have hb := B.bytes
    have hr := B.returns
    have hU : ∀ w ∈ wsU, w.before _ s = true := fun w h => atoms_spec (ws := wU yX12_goes cX12_goes 11 none) B.pre w (List.mem_cons_of_mem _ h)
    have hown : s.vm.findClass RX12 = some m.cls := findClass_of_methodNamed B.named
    have hlocks := B.notSynchronized
    have hD := pl_in hD0
    have hS : va_S (fun q => q ∈ L) s.heap s.heap [] := va_S.rf
    have hl := lv_entry ([.ref o0, .int p1, .int p2, .int p3, .int p4, .int p5]) (n := 11) (Nat.le_of_ble_eq_true rfl)
    rw [lg_entry_eq]
    generalize (lg_sl ([.ref o0, .int p1, .int p2, .int p3, .int p4, .int p5]) ++ List.replicate (11 - (lg_sl ([.ref o0, .int p1, .int p2, .int p3, .int p4, .int p5])).length) Slot.unset).toArray = ls at hl ⊢
    have hl : lv_has ls 11 [(0, .ref o0), (1, .int p1), (2, .int p2), (3, .int p3), (4, .int p4), (5, .int p5)] := hl
    have bp5 : ((-2147483648) ≤ p5.toInt ∧ p5.toInt ≤ 2147483647) := ⟨i32_lo _, i32_hi _⟩
    have hfr0 : ∀ b, kd b ≠ 12 → kd b ≠ 579 → kd b ≠ 581 → kd b ≠ 583 → kd b ≠ 585 → kd b ≠ 587 → kd b ≠ 588 → kd b ≠ 590 → kd b ≠ 591 → kd b ≠ 592 → kd b ≠ 593 → kd b ≠ 603 → f b = f b := fun _ _ _ _ _ _ _ _ _ _ _ _ _ => rfl
    have hrA12 : ∀ b, kd b = 12 → ∀ j, fldR (f b) j = fldR (f b) j := fun _ _ _ => rfl
    have hfA12 : ∀ b, kd b = 12 → ∀ j, j ≠ 27 → j ≠ 29 → j ≠ 32 → fldI (f b) j = fldI (f b) j := fun _ _ _ _ _ _ => rfl
    obtain ⟨a_2, a_3, a_4, v_5, a_6, v_7, v_8, v_9, v_10, v_11, v_12, v_13, v_14, v_15, v_16, a_17, a_18, a_19, a_20, a_21, a_22, a_23, a_24, v_25, v_26, v_27, v_28, v_29, a_30, v_31, a_32, a_33, v_34, v_35, a_36, v_37, a_38, a_39, v_40, v_41, a_42, a_43, a_44, v_45, a_46, a_47, a_48, a_49, a_50, a_51, a_52, a_53, a_54, v_55, v_56, a_57, hfo_1, ⟨ma_2, ka_2⟩, ⟨ma_3, ka_3⟩, ⟨ma_4, ka_4⟩, bv_5, ⟨ma_6, ka_6⟩, bv_7, bv_8, bv_13, bv_14, bv_15, ⟨ma_17, ka_17⟩, ⟨ma_18, ka_18⟩, ⟨ma_19, ka_19⟩, ⟨ma_20, ka_20⟩, ⟨ma_21, ka_21⟩, ⟨ma_22, ka_22⟩, ⟨ma_23, ka_23⟩, ⟨ma_24, ka_24⟩, bv_25, bv_27, bv_29, ⟨ma_30, ka_30⟩, bv_31, ⟨ma_32, ka_32⟩, ⟨ma_33, ka_33⟩, bv_34, ⟨ma_36, ka_36⟩, bv_37, ⟨ma_38, ka_38⟩, ⟨ma_39, ka_39⟩, bv_40, ⟨ma_42, ka_42⟩, ⟨ma_43, ka_43⟩, ⟨ma_44, ka_44⟩, bv_45, ⟨ma_46, ka_46⟩, ⟨ma_47, ka_47⟩, ⟨ma_48, ka_48⟩, ⟨ma_49, ka_49⟩, ⟨ma_50, ka_50⟩, ⟨ma_51, ka_51⟩, ⟨ma_52, ka_52⟩, ⟨ma_53, ka_53⟩, ⟨ma_54, ka_54⟩, bv_55, ⟨ma_57, ka_57⟩⟩ := un_12 (hG _ mo0) ko0
    have bv_9 : ((-2147483648) ≤ v_9.toInt ∧ v_9.toInt ≤ 2147483647) := ⟨i32_lo _, i32_hi _⟩
    have bv_10 : ((-2147483648) ≤ v_10.toInt ∧ v_10.toInt ≤ 2147483647) := ⟨i32_lo _, i32_hi _⟩
    have bv_11 : ((-2147483648) ≤ v_11.toInt ∧ v_11.toInt ≤ 2147483647) := ⟨i32_lo _, i32_hi _⟩
    have bv_12 : ((-2147483648) ≤ v_12.toInt ∧ v_12.toInt ≤ 2147483647) := ⟨i32_lo _, i32_hi _⟩
    have bv_16 : ((-2147483648) ≤ v_16.toInt ∧ v_16.toInt ≤ 2147483647) := ⟨i32_lo _, i32_hi _⟩
    have bv_26 : ((-2147483648) ≤ v_26.toInt ∧ v_26.toInt ≤ 2147483647) := ⟨i32_lo _, i32_hi _⟩
    have bv_28 : ((-2147483648) ≤ v_28.toInt ∧ v_28.toInt ≤ 2147483647) := ⟨i32_lo _, i32_hi _⟩
    have bv_35 : ((-2147483648) ≤ v_35.toInt ∧ v_35.toInt ≤ 2147483647) := ⟨i32_lo _, i32_hi _⟩
    have bv_41 : ((-2147483648) ≤ v_41.toInt ∧ v_41.toInt ≤ 2147483647) := ⟨i32_lo _, i32_hi _⟩
    have bv_56 : ((-2147483648) ≤ v_56.toInt ∧ v_56.toInt ≤ 2147483647) := ⟨i32_lo _, i32_hi _⟩
    have hpo0 := hpreo0 v_25 v_27 v_29 v_31 (by rw [hfo_1]; rfl) (by rw [hfo_1]; rfl) (by rw [hfo_1]; rfl) (by rw [hfo_1]; rfl)
    have hT0 := hxtr0
    refine lv_iload_n hx hb dX12_goes_0 rfl (lv_at hl 1 rfl) ?_
    refine lv_aload_n hx hb dX12_goes_1 rfl (lv_at hl 0 rfl) ?_
    refine tk_getP (D := (dC, dI)) (ci := 12) (v := .int v_25) (C := RX12) (T := TX12) (N := 56) hx hb hU inlX12 hown hK hP mo0 hfo_1 rfl 23 (by decide) (hU _ wd_867) (fun _ h9 => h9) rfl dX12_goes_2 ?_
    have hcut_60 : ∀ (f_59 : Nat → va_E), GI (okc cI cL cZ cR cG cH L kd) kd L f_59 → ∀ (H : Heap) (locs : List Loc), va_P (dC, dI) vwCl (va_pl L f_59) H → va_S (fun q => q ∈ L) s.heap H locs → va_D (fun q => q ∈ L) (va_pl L f_59) → (∀ b, kd b ≠ 12 → kd b ≠ 579 → kd b ≠ 581 → kd b ≠ 583 → kd b ≠ 585 → kd b ≠ 587 → kd b ≠ 588 → kd b ≠ 590 → kd b ≠ 591 → kd b ≠ 592 → kd b ≠ 593 → kd b ≠ 603 → f_59 b = f b) → (∀ b, kd b = 12 → ∀ j, fldR (f_59 b) j = fldR (f b) j) → (∀ b, kd b = 12 → ∀ j, j ≠ 27 → j ≠ 29 → j ≠ 32 → fldI (f_59 b) j = fldI (f b) j) → srel kd 592 f_59 o0 → ∀ (whcut_60_0_27 : Int32), fldI (f_59 o0) 27 = some whcut_60_0_27 → ∀ (whcut_60_0_29 : Int32), fldI (f_59 o0) 29 = some whcut_60_0_29 → ((whcut_60_0_27.toInt = 1 ∨ whcut_60_0_29.toInt ≤ 200) ∧ (v_27.toInt ≤ 1 ∨ whcut_60_0_29.toInt = v_31.toInt)) → ∀ (ls : Array Slot), lv_has ls 11 [(0, .ref o0), (1, .int p1), (2, .int p2), (3, .int p3), (4, .int p4), (5, .int p5)] → W p l e (headSpec (wU yX12_goes cX12_goes 11 none) { frames := 8 + (n_ + 1), cells := 0, slots := 0, locals := 205 + (n_ + 1) * 30 }).room s m [.ref o0, .int p1, .int p2, .int p3, .int p4, .int p5].toArray below meth c H locs 0 0 (MQ below (va_Qv (fun (f9 : Nat → va_E) => GI (okc cI cL cZ cR cG cH L kd) kd L f9 ∧ (∀ b, kd b ≠ 12 → kd b ≠ 579 → kd b ≠ 581 → kd b ≠ 583 → kd b ≠ 585 → kd b ≠ 587 → kd b ≠ 588 → kd b ≠ 590 → kd b ≠ 591 → kd b ≠ 592 → kd b ≠ 593 → kd b ≠ 603 → f9 b = f b) ∧ (∀ b, kd b = 12 → ∀ j, fldR (f9 b) j = fldR (f b) j) ∧ (∀ b, kd b = 12 → ∀ j, j ≠ 27 → j ≠ 29 → j ≠ 32 → fldI (f9 b) j = fldI (f b) j) ∧ (∀ (w25 z25 : Int32) (w27 z27 : Int32) (w29 z29 : Int32), fldI (f o0) 25 = some w25 → fldI (f o0) 27 = some w27 → fldI (f o0) 29 = some w29 → fldI (f9 o0) 25 = some z25 → fldI (f9 o0) 27 = some z27 → fldI (f9 o0) 29 = some z29 → (z27.toInt = 1 ∨ z29.toInt ≤ 200) ∧ (w25.toInt ≤ 1 ∨ z29.toInt = w29.toInt)) ∧ (srel kd 592 f9 o0)) (qP (dC, dI) cI cL cZ cR cG cH L) (fun q => q ∈ L)) [.ref o0, .int p1, .int p2, .int p3, .int p4, .int p5].toArray s 0 0 (fun q => q ∈ L)) (F0 m 25 ls []) := by
      intro f_59 hG H locs hP hS hD hfr0 hrA12 hfA12 hT0 whcut_60_0_27 hghcut_60_0_27 whcut_60_0_29 hghcut_60_0_29 hjhcut_60_0 ls hl
      obtain ⟨a_62, a_63, a_64, v_65, a_66, v_67, v_68, v_69, v_70, v_71, v_72, v_73, v_74, v_75, v_76, a_77, a_78, a_79, a_80, a_81, a_82, a_83, a_84, v_85, v_86, v_87, v_88, v_89, a_90, v_91, a_92, a_93, v_94, v_95, a_96, v_97, a_98, a_99, v_100, v_101, a_102, a_103, a_104, v_105, a_106, a_107, a_108, a_109, a_110, a_111, a_112, a_113, a_114, v_115, v_116, a_117, hfo_61, ⟨ma_62, ka_62⟩, ⟨ma_63, ka_63⟩, ⟨ma_64, ka_64⟩, bv_65, ⟨ma_66, ka_66⟩, bv_67, bv_68, bv_73, bv_74, bv_75, ⟨ma_77, ka_77⟩, ⟨ma_78, ka_78⟩, ⟨ma_79, ka_79⟩, ⟨ma_80, ka_80⟩, ⟨ma_81, ka_81⟩, ⟨ma_82, ka_82⟩, ⟨ma_83, ka_83⟩, ⟨ma_84, ka_84⟩, bv_85, bv_87, bv_89, ⟨ma_90, ka_90⟩, bv_91, ⟨ma_92, ka_92⟩, ⟨ma_93, ka_93⟩, bv_94, ⟨ma_96, ka_96⟩, bv_97, ⟨ma_98, ka_98⟩, ⟨ma_99, ka_99⟩, bv_100, ⟨ma_102, ka_102⟩, ⟨ma_103, ka_103⟩, ⟨ma_104, ka_104⟩, bv_105, ⟨ma_106, ka_106⟩, ⟨ma_107, ka_107⟩, ⟨ma_108, ka_108⟩, ⟨ma_109, ka_109⟩, ⟨ma_110, ka_110⟩, ⟨ma_111, ka_111⟩, ⟨ma_112, ka_112⟩, ⟨ma_113, ka_113⟩, ⟨ma_114, ka_114⟩, bv_115, ⟨ma_117, ka_117⟩⟩ := un_12 (hG _ mo0) ko0
      have bv_69 : ((-2147483648) ≤ v_69.toInt ∧ v_69.toInt ≤ 2147483647) := ⟨i32_lo _, i32_hi _⟩
      have bv_70 : ((-2147483648) ≤ v_70.toInt ∧ v_70.toInt ≤ 2147483647) := ⟨i32_lo _, i32_hi _⟩
      have bv_71 : ((-2147483648) ≤ v_71.toInt ∧ v_71.toInt ≤ 2147483647) := ⟨i32_lo _, i32_hi _⟩
      have bv_72 : ((-2147483648) ≤ v_72.toInt ∧ v_72.toInt ≤ 2147483647) := ⟨i32_lo _, i32_hi _⟩
      have bv_76 : ((-2147483648) ≤ v_76.toInt ∧ v_76.toInt ≤ 2147483647) := ⟨i32_lo _, i32_hi _⟩
      have bv_86 : ((-2147483648) ≤ v_86.toInt ∧ v_86.toInt ≤ 2147483647) := ⟨i32_lo _, i32_hi _⟩
      have bv_88 : ((-2147483648) ≤ v_88.toInt ∧ v_88.toInt ≤ 2147483647) := ⟨i32_lo _, i32_hi _⟩
      have bv_95 : ((-2147483648) ≤ v_95.toInt ∧ v_95.toInt ≤ 2147483647) := ⟨i32_lo _, i32_hi _⟩
      have bv_101 : ((-2147483648) ≤ v_101.toInt ∧ v_101.toInt ≤ 2147483647) := ⟨i32_lo _, i32_hi _⟩
      have bv_116 : ((-2147483648) ≤ v_116.toInt ∧ v_116.toInt ≤ 2147483647) := ⟨i32_lo _, i32_hi _⟩
      obtain ⟨rfl, rfl, rfl, rfl, rfl, rfl, rfl, rfl, rfl, rfl, rfl, rfl, rfl, rfl, rfl, rfl, rfl, rfl, rfl, rfl, rfl, rfl, rfl, rfl, rfl, rfl, rfl, rfl, rfl, rfl, rfl⟩ := re_12 hfo_1 hfo_61 (hrA12 o0 ko0)
      obtain rfl := ri_12_3 hfo_1 hfo_61 (hfA12 o0 ko0 3 (by decide) (by decide) (by decide))
      obtain rfl := ri_12_5 hfo_1 hfo_61 (hfA12 o0 ko0 5 (by decide) (by decide) (by decide))
      obtain rfl := ri_12_6 hfo_1 hfo_61 (hfA12 o0 ko0 6 (by decide) (by decide) (by decide))
      obtain rfl := ri_12_11 hfo_1 hfo_61 (hfA12 o0 ko0 11 (by decide) (by decide) (by decide))
      obtain rfl := ri_12_12 hfo_1 hfo_61 (hfA12 o0 ko0 12 (by decide) (by decide) (by decide))
      obtain rfl := ri_12_13 hfo_1 hfo_61 (hfA12 o0 ko0 13 (by decide) (by decide) (by decide))
      obtain rfl := ri_12_14 hfo_1 hfo_61 (hfA12 o0 ko0 14 (by decide) (by decide) (by decide))
      obtain rfl := ri_12_23 hfo_1 hfo_61 (hfA12 o0 ko0 23 (by decide) (by decide) (by decide))
      obtain rfl := ri_12_25 hfo_1 hfo_61 (hfA12 o0 ko0 25 (by decide) (by decide) (by decide))
      obtain rfl := ri_12_33 hfo_1 hfo_61 (hfA12 o0 ko0 33 (by decide) (by decide) (by decide))
      obtain rfl := ri_12_35 hfo_1 hfo_61 (hfA12 o0 ko0 35 (by decide) (by decide) (by decide))
      obtain rfl := ri_12_38 hfo_1 hfo_61 (hfA12 o0 ko0 38 (by decide) (by decide) (by decide))
      obtain rfl := ri_12_43 hfo_1 hfo_61 (hfA12 o0 ko0 43 (by decide) (by decide) (by decide))
      obtain rfl := ri_12_53 hfo_1 hfo_61 (hfA12 o0 ko0 53 (by decide) (by decide) (by decide))
      obtain rfl : v_89 = whcut_60_0_27 := by rw [hfo_61] at hghcut_60_0_27; exact Option.some.inj hghcut_60_0_27
      obtain rfl : v_91 = whcut_60_0_29 := by rw [hfo_61] at hghcut_60_0_29; exact Option.some.inj hghcut_60_0_29
      refine lv_iconst (v := 0) hx hb dX12_goes_25 (by decide) ?_
      refine lv_istore (lv' := [(6, .int 0), (0, .ref o0), (1, .int p1), (2, .int p2), (3, .int p3), (4, .int p4), (5, .int p5)]) hx hb dX12_goes_26 hl (by decide) rfl (fun ls hl => ?_)
      have hloop_123 : ∀ (n : Nat), ∀ (y_124 : Int32), (0 ≤ y_124.toInt ∧ y_124.toInt ≤ 20) → ∀ (f_126 : Nat → va_E), GI (okc cI cL cZ cR cG cH L kd) kd L f_126 → ∀ (H : Heap) (locs : List Loc), va_P (dC, dI) vwCl (va_pl L f_126) H → va_S (fun q => q ∈ L) s.heap H locs → va_D (fun q => q ∈ L) (va_pl L f_126) → (∀ b, kd b ≠ 12 → kd b ≠ 579 → kd b ≠ 581 → kd b ≠ 583 → kd b ≠ 585 → kd b ≠ 587 → kd b ≠ 588 → kd b ≠ 590 → kd b ≠ 591 → kd b ≠ 592 → kd b ≠ 593 → kd b ≠ 603 → f_126 b = f b) → (∀ b, kd b = 12 → ∀ j, fldR (f_126 b) j = fldR (f b) j) → (∀ b, kd b = 12 → ∀ j, j ≠ 27 → j ≠ 29 → j ≠ 32 → fldI (f_126 b) j = fldI (f b) j) → srel kd 592 f_126 o0 → ∀ (whloop_123_0_27 : Int32), fldI (f_126 o0) 27 = some whloop_123_0_27 → ∀ (whloop_123_0_29 : Int32), fldI (f_126 o0) 29 = some whloop_123_0_29 → ((whloop_123_0_27.toInt = 1 ∨ whloop_123_0_29.toInt ≤ 200) ∧ (v_27.toInt ≤ 1 ∨ whloop_123_0_29.toInt = v_31.toInt)) → (0 ≤ whloop_123_0_27.toInt ∧ whloop_123_0_27.toInt ≤ 1) → (0 ≤ whloop_123_0_29.toInt ∧ whloop_123_0_29.toInt ≤ 201) → 20 - y_124.toInt < (n : Int) → ∀ (ls : Array Slot), lv_has ls 11 [(6, .int y_124), (0, .ref o0), (1, .int p1), (2, .int p2), (3, .int p3), (4, .int p4), (5, .int p5)] → W p l e (headSpec (wU yX12_goes cX12_goes 11 none) { frames := 8 + (n_ + 1), cells := 0, slots := 0, locals := 205 + (n_ + 1) * 30 }).room s m [.ref o0, .int p1, .int p2, .int p3, .int p4, .int p5].toArray below meth c H locs 0 0 (MQ below (va_Qv (fun (f9 : Nat → va_E) => GI (okc cI cL cZ cR cG cH L kd) kd L f9 ∧ (∀ b, kd b ≠ 12 → kd b ≠ 579 → kd b ≠ 581 → kd b ≠ 583 → kd b ≠ 585 → kd b ≠ 587 → kd b ≠ 588 → kd b ≠ 590 → kd b ≠ 591 → kd b ≠ 592 → kd b ≠ 593 → kd b ≠ 603 → f9 b = f b) ∧ (∀ b, kd b = 12 → ∀ j, fldR (f9 b) j = fldR (f b) j) ∧ (∀ b, kd b = 12 → ∀ j, j ≠ 27 → j ≠ 29 → j ≠ 32 → fldI (f9 b) j = fldI (f b) j) ∧ (∀ (w25 z25 : Int32) (w27 z27 : Int32) (w29 z29 : Int32), fldI (f o0) 25 = some w25 → fldI (f o0) 27 = some w27 → fldI (f o0) 29 = some w29 → fldI (f9 o0) 25 = some z25 → fldI (f9 o0) 27 = some z27 → fldI (f9 o0) 29 = some z29 → (z27.toInt = 1 ∨ z29.toInt ≤ 200) ∧ (w25.toInt ≤ 1 ∨ z29.toInt = w29.toInt)) ∧ (srel kd 592 f9 o0)) (qP (dC, dI) cI cL cZ cR cG cH L) (fun q => q ∈ L)) [.ref o0, .int p1, .int p2, .int p3, .int p4, .int p5].toArray s 0 0 (fun q => q ∈ L)) (F0 m 28 ls []) := by
        intro n
        induction n with
        | zero => intro y_124 by_124 f_126 hG H locs hP hS hD hfr0 hrA12 hfA12 hT0 whloop_123_0_27 hghloop_123_0_27 whloop_123_0_29 hghloop_123_0_29 hrelhloop_123_0 hrelhloop_123_1 hrelhloop_123_2 hmuhloop_123 ls hl; exfalso; omega
        | succ n ih_hloop_123 =>
          intro y_124 by_124 f_126 hG H locs hP hS hD hfr0 hrA12 hfA12 hT0 whloop_123_0_27 hghloop_123_0_27 whloop_123_0_29 hghloop_123_0_29 hrelhloop_123_0 hrelhloop_123_1 hrelhloop_123_2 hmuhloop_123 ls hl
          obtain ⟨a_128, a_129, a_130, v_131, a_132, v_133, v_134, v_135, v_136, v_137, v_138, v_139, v_140, v_141, v_142, a_143, a_144, a_145, a_146, a_147, a_148, a_149, a_150, v_151, v_152, v_153, v_154, v_155, a_156, v_157, a_158, a_159, v_160, v_161, a_162, v_163, a_164, a_165, v_166, v_167, a_168, a_169, a_170, v_171, a_172, a_173, a_174, a_175, a_176, a_177, a_178, a_179, a_180, v_181, v_182, a_183, hfo_127, ⟨ma_128, ka_128⟩, ⟨ma_129, ka_129⟩, ⟨ma_130, ka_130⟩, bv_131, ⟨ma_132, ka_132⟩, bv_133, bv_134, bv_139, bv_140, bv_141, ⟨ma_143, ka_143⟩, ⟨ma_144, ka_144⟩, ⟨ma_145, ka_145⟩, ⟨ma_146, ka_146⟩, ⟨ma_147, ka_147⟩, ⟨ma_148, ka_148⟩, ⟨ma_149, ka_149⟩, ⟨ma_150, ka_150⟩, bv_151, bv_153, bv_155, ⟨ma_156, ka_156⟩, bv_157, ⟨ma_158, ka_158⟩, ⟨ma_159, ka_159⟩, bv_160, ⟨ma_162, ka_162⟩, bv_163, ⟨ma_164, ka_164⟩, ⟨ma_165, ka_165⟩, bv_166, ⟨ma_168, ka_168⟩, ⟨ma_169, ka_169⟩, ⟨ma_170, ka_170⟩, bv_171, ⟨ma_172, ka_172⟩, ⟨ma_173, ka_173⟩, ⟨ma_174, ka_174⟩, ⟨ma_175, ka_175⟩, ⟨ma_176, ka_176⟩, ⟨ma_177, ka_177⟩, ⟨ma_178, ka_178⟩, ⟨ma_179, ka_179⟩, ⟨ma_180, ka_180⟩, bv_181, ⟨ma_183, ka_183⟩⟩ := un_12 (hG _ mo0) ko0
          have bv_135 : ((-2147483648) ≤ v_135.toInt ∧ v_135.toInt ≤ 2147483647) := ⟨i32_lo _, i32_hi _⟩
          have bv_136 : ((-2147483648) ≤ v_136.toInt ∧ v_136.toInt ≤ 2147483647) := ⟨i32_lo _, i32_hi _⟩
          have bv_137 : ((-2147483648) ≤ v_137.toInt ∧ v_137.toInt ≤ 2147483647) := ⟨i32_lo _, i32_hi _⟩
          have bv_138 : ((-2147483648) ≤ v_138.toInt ∧ v_138.toInt ≤ 2147483647) := ⟨i32_lo _, i32_hi _⟩
          have bv_142 : ((-2147483648) ≤ v_142.toInt ∧ v_142.toInt ≤ 2147483647) := ⟨i32_lo _, i32_hi _⟩
          have bv_152 : ((-2147483648) ≤ v_152.toInt ∧ v_152.toInt ≤ 2147483647) := ⟨i32_lo _, i32_hi _⟩
          have bv_154 : ((-2147483648) ≤ v_154.toInt ∧ v_154.toInt ≤ 2147483647) := ⟨i32_lo _, i32_hi _⟩
          have bv_161 : ((-2147483648) ≤ v_161.toInt ∧ v_161.toInt ≤ 2147483647) := ⟨i32_lo _, i32_hi _⟩
          have bv_167 : ((-2147483648) ≤ v_167.toInt ∧ v_167.toInt ≤ 2147483647) := ⟨i32_lo _, i32_hi _⟩
          have bv_182 : ((-2147483648) ≤ v_182.toInt ∧ v_182.toInt ≤ 2147483647) := ⟨i32_lo _, i32_hi _⟩
          obtain ⟨rfl, rfl, rfl, rfl, rfl, rfl, rfl, rfl, rfl, rfl, rfl, rfl, rfl, rfl, rfl, rfl, rfl, rfl, rfl, rfl, rfl, rfl, rfl, rfl, rfl, rfl, rfl, rfl, rfl, rfl, rfl⟩ := re_12 hfo_1 hfo_127 (hrA12 o0 ko0)
          obtain rfl := ri_12_3 hfo_1 hfo_127 (hfA12 o0 ko0 3 (by decide) (by decide) (by decide))
          obtain rfl := ri_12_5 hfo_1 hfo_127 (hfA12 o0 ko0 5 (by decide) (by decide) (by decide))
          obtain rfl := ri_12_6 hfo_1 hfo_127 (hfA12 o0 ko0 6 (by decide) (by decide) (by decide))
          obtain rfl := ri_12_11 hfo_1 hfo_127 (hfA12 o0 ko0 11 (by decide) (by decide) (by decide))
          obtain rfl := ri_12_12 hfo_1 hfo_127 (hfA12 o0 ko0 12 (by decide) (by decide) (by decide))
          obtain rfl := ri_12_13 hfo_1 hfo_127 (hfA12 o0 ko0 13 (by decide) (by decide) (by decide))
          obtain rfl := ri_12_14 hfo_1 hfo_127 (hfA12 o0 ko0 14 (by decide) (by decide) (by decide))
          obtain rfl := ri_12_23 hfo_1 hfo_127 (hfA12 o0 ko0 23 (by decide) (by decide) (by decide))
          obtain rfl := ri_12_25 hfo_1 hfo_127 (hfA12 o0 ko0 25 (by decide) (by decide) (by decide))
          obtain rfl := ri_12_33 hfo_1 hfo_127 (hfA12 o0 ko0 33 (by decide) (by decide) (by decide))
          obtain rfl := ri_12_35 hfo_1 hfo_127 (hfA12 o0 ko0 35 (by decide) (by decide) (by decide))
          obtain rfl := ri_12_38 hfo_1 hfo_127 (hfA12 o0 ko0 38 (by decide) (by decide) (by decide))
          obtain rfl := ri_12_43 hfo_1 hfo_127 (hfA12 o0 ko0 43 (by decide) (by decide) (by decide))
          obtain rfl := ri_12_53 hfo_1 hfo_127 (hfA12 o0 ko0 53 (by decide) (by decide) (by decide))
          obtain rfl : v_155 = whloop_123_0_27 := by rw [hfo_127] at hghloop_123_0_27; exact Option.some.inj hghloop_123_0_27
          obtain rfl : v_157 = whloop_123_0_29 := by rw [hfo_127] at hghloop_123_0_29; exact Option.some.inj hghloop_123_0_29
          refine lv_iload hx hb dX12_goes_28 (lv_at hl 0 rfl) ?_
          refine lv_aload_n hx hb dX12_goes_30 rfl (lv_at hl 1 rfl) ?_
          refine tk_getP (D := (dC, dI)) (ci := 12) (v := .ref a_2) (C := RX12) (T := TX12) (N := 56) hx hb hU inlX12 hown hK hP mo0 hfo_127 rfl 0 (by decide) (hU _ wd_169) (fun _ h9 => h9) rfl dX12_goes_31 ?_
          refine lv_bipush (v := 16) hx hb dX12_goes_34 (by decide) ?_
          obtain ⟨g_185, hfo_184, hbg_185⟩ := un_575 (hG _ ma_2) ka_2
          refine tk_ildP hx hb hK hP 0 ma_2 hfo_184 rfl (vp_in_nI (n := 16) (by decide) (by decide)) dX12_goes_36 ?_
          refine lv_topi (fun x_186 ex_186 => ?_)
          have bx_186 : (0 ≤ x_186.toInt ∧ x_186.toInt ≤ 20) := by rw [ex_186]; exact hbg_185.2.1 _ (by decide) (by decide) (by decide)
          have hcut_187 : ∀ (ls : Array Slot), lv_has ls 11 [(6, .int y_124), (0, .ref o0), (1, .int p1), (2, .int p2), (3, .int p3), (4, .int p4), (5, .int p5)] → W p l e (headSpec (wU yX12_goes cX12_goes 11 none) { frames := 8 + (n_ + 1), cells := 0, slots := 0, locals := 205 + (n_ + 1) * 30 }).room s m [.ref o0, .int p1, .int p2, .int p3, .int p4, .int p5].toArray below meth c H locs 0 0 (MQ below (va_Qv (fun (f9 : Nat → va_E) => GI (okc cI cL cZ cR cG cH L kd) kd L f9 ∧ (∀ b, kd b ≠ 12 → kd b ≠ 579 → kd b ≠ 581 → kd b ≠ 583 → kd b ≠ 585 → kd b ≠ 587 → kd b ≠ 588 → kd b ≠ 590 → kd b ≠ 591 → kd b ≠ 592 → kd b ≠ 593 → kd b ≠ 603 → f9 b = f b) ∧ (∀ b, kd b = 12 → ∀ j, fldR (f9 b) j = fldR (f b) j) ∧ (∀ b, kd b = 12 → ∀ j, j ≠ 27 → j ≠ 29 → j ≠ 32 → fldI (f9 b) j = fldI (f b) j) ∧ (∀ (w25 z25 : Int32) (w27 z27 : Int32) (w29 z29 : Int32), fldI (f o0) 25 = some w25 → fldI (f o0) 27 = some w27 → fldI (f o0) 29 = some w29 → fldI (f9 o0) 25 = some z25 → fldI (f9 o0) 27 = some z27 → fldI (f9 o0) 29 = some z29 → (z27.toInt = 1 ∨ z29.toInt ≤ 200) ∧ (w25.toInt ≤ 1 ∨ z29.toInt = w29.toInt)) ∧ (srel kd 592 f9 o0)) (qP (dC, dI) cI cL cZ cR cG cH L) (fun q => q ∈ L)) [.ref o0, .int p1, .int p2, .int p3, .int p4, .int p5].toArray s 0 0 (fun q => q ∈ L)) (F0 m 246 ls []) := by
            intro ls hl
            exact W.vret hx hb hr (fun t ht hW => ⟨⟨f_126, rfl, ⟨hG, hfr0, hrA12, hfA12, (by intro w25 z25 w27 z27 w29 z29 e25 e27 e29 d25 d27 d29; rw [hfo_1] at e25 e27 e29; rw [hfo_127] at d25 d27 d29; obtain rfl := Option.some.inj e25; obtain rfl := Option.some.inj d25; obtain rfl := Option.some.inj e27; obtain rfl := Option.some.inj d27; obtain rfl := Option.some.inj e29; obtain rfl := Option.some.inj d29; omega), hT0⟩, by rw [ht]; exact hP, va_K.moved hW.alike hK, pl_in hD⟩, hS.F ht⟩) hS.2.2 dX12_goes_246
          refine lv_icmp_ge (tgt := 246) hx hb dX12_goes_37 (by decide) (fun c_188 => ?_) (fun c_188 => ?_)
          · skip
            rw [Int32.le_iff_toInt_le] at c_188
            exact hcut_187 ls (lv_sub hl [0, 1, 2, 3, 4, 5, 6] rfl)
          · skip
            rw [Int32.le_iff_toInt_le] at c_188
            refine lv_aload_n hx hb dX12_goes_40 rfl (lv_at hl 1 rfl) ?_
            refine tk_getP (D := (dC, dI)) (ci := 12) (v := .int v_155) (C := RX12) (T := TX12) (N := 56) hx hb hU inlX12 hown hK hP mo0 hfo_127 rfl 27 (by decide) (hU _ wd_873) (fun _ h9 => h9) rfl dX12_goes_41 ?_
            refine lv_if_ne (tgt := 246) hx hb dX12_goes_44 (by decide) (fun c_189 => ?_) (fun c_189 => ?_)
            · skip
              rw [← Int32.toInt_inj, ti_0] at c_189
              exact hcut_187 ls (lv_sub hl [0, 1, 2, 3, 4, 5, 6] rfl)
            · skip
              rw [← Int32.toInt_inj, ti_0] at c_189
              have hclc_190 : (0 ≤ v_157.toInt ∧ v_157.toInt ≤ 200) := by constructor <;> omega
              refine lv_aload_n hx hb dX12_goes_47 rfl (lv_at hl 1 rfl) ?_
              refine tk_getP (D := (dC, dI)) (ci := 12) (v := .ref a_2) (C := RX12) (T := TX12) (N := 56) hx hb hU inlX12 hown hK hP mo0 hfo_127 rfl 0 (by decide) (hU _ wd_169) (fun _ h9 => h9) rfl dX12_goes_48 ?_
              refine lv_bipush (v := 20) hx hb dX12_goes_51 (by decide) ?_
              refine lv_iload hx hb dX12_goes_53 (lv_at hl 0 rfl) ?_
              refine lv_iadd hx hb dX12_goes_55 ?_
              refine lv_topi (fun x_191 ex_191 => ?_)
              have hx_191 : x_191.toInt = 20 + y_124.toInt := by rw [ex_191, ad_I (by rw [ti_20]; omega) (by rw [ti_20]; omega), ti_20]
              have bx_191 : (20 ≤ x_191.toInt ∧ x_191.toInt ≤ 39) := by constructor <;> omega
              refine tk_ildP hx hb hK hP 0 ma_2 hfo_184 rfl (vp_in_iff.mpr (by constructor <;> omega)) dX12_goes_56 ?_
              refine lv_topi (fun x_192 ex_192 => ?_)
              have bx_192 : (0 ≤ x_192.toInt ∧ x_192.toInt ≤ 80) := by have hc9 := cl_I (i := x_191) (by omega); rw [ex_192]; exact hbg_185.2.2.2.2.2.1 _ (by omega) (by omega) (by omega)
              refine lv_istore (lv' := [(7, .int x_192), (6, .int y_124), (0, .ref o0), (1, .int p1), (2, .int p2), (3, .int p3), (4, .int p4), (5, .int p5)]) hx hb dX12_goes_57 hl (by decide) rfl (fun ls hl => ?_)
              refine lv_aload_n hx hb dX12_goes_59 rfl (lv_at hl 2 rfl) ?_
              refine tk_getP (D := (dC, dI)) (ci := 12) (v := .int v_27) (C := RX12) (T := TX12) (N := 56) hx hb hU inlX12 hown hK hP mo0 hfo_127 rfl 25 (by decide) (hU _ wd_872) (fun _ h9 => h9) rfl dX12_goes_60 ?_
              refine lv_iconst (v := 1) hx hb dX12_goes_63 (by decide) ?_
              have hcut_194 : ∀ (y_193 : Int32), (0 ≤ y_193.toInt ∧ y_193.toInt ≤ 8) → (y_193.toInt = x_192.toInt / 9 ∨ y_193.toInt = x_192.toInt % 9) → ∀ (ls : Array Slot), lv_has ls 11 [(7, .int x_192), (6, .int y_124), (0, .ref o0), (1, .int p1), (2, .int p2), (3, .int p3), (4, .int p4), (5, .int p5)] → W p l e (headSpec (wU yX12_goes cX12_goes 11 none) { frames := 8 + (n_ + 1), cells := 0, slots := 0, locals := 205 + (n_ + 1) * 30 }).room s m [.ref o0, .int p1, .int p2, .int p3, .int p4, .int p5].toArray below meth c H locs 0 0 (MQ below (va_Qv (fun (f9 : Nat → va_E) => GI (okc cI cL cZ cR cG cH L kd) kd L f9 ∧ (∀ b, kd b ≠ 12 → kd b ≠ 579 → kd b ≠ 581 → kd b ≠ 583 → kd b ≠ 585 → kd b ≠ 587 → kd b ≠ 588 → kd b ≠ 590 → kd b ≠ 591 → kd b ≠ 592 → kd b ≠ 593 → kd b ≠ 603 → f9 b = f b) ∧ (∀ b, kd b = 12 → ∀ j, fldR (f9 b) j = fldR (f b) j) ∧ (∀ b, kd b = 12 → ∀ j, j ≠ 27 → j ≠ 29 → j ≠ 32 → fldI (f9 b) j = fldI (f b) j) ∧ (∀ (w25 z25 : Int32) (w27 z27 : Int32) (w29 z29 : Int32), fldI (f o0) 25 = some w25 → fldI (f o0) 27 = some w27 → fldI (f o0) 29 = some w29 → fldI (f9 o0) 25 = some z25 → fldI (f9 o0) 27 = some z27 → fldI (f9 o0) 29 = some z29 → (z27.toInt = 1 ∨ z29.toInt ≤ 200) ∧ (w25.toInt ≤ 1 ∨ z29.toInt = w29.toInt)) ∧ (srel kd 592 f9 o0)) (qP (dC, dI) cI cL cZ cR cG cH L) (fun q => q ∈ L)) [.ref o0, .int p1, .int p2, .int p3, .int p4, .int p5].toArray s 0 0 (fun q => q ∈ L)) (F0 m 80 ls [.int y_193]) := by
                intro y_193 by_193 hjhcut_194_0 ls hl
                refine lv_istore (lv' := [(8, .int y_193), (7, .int x_192), (6, .int y_124), (0, .ref o0), (1, .int p1), (2, .int p2), (3, .int p3), (4, .int p4), (5, .int p5)]) hx hb dX12_goes_80 hl (by decide) rfl (fun ls hl => ?_)
                refine lv_aload_n hx hb dX12_goes_82 rfl (lv_at hl 3 rfl) ?_
                refine tk_getP (D := (dC, dI)) (ci := 12) (v := .int v_27) (C := RX12) (T := TX12) (N := 56) hx hb hU inlX12 hown hK hP mo0 hfo_127 rfl 25 (by decide) (hU _ wd_872) (fun _ h9 => h9) rfl dX12_goes_83 ?_
                refine lv_iconst (v := 1) hx hb dX12_goes_86 (by decide) ?_
                have hcut_196 : ∀ (y_195 : Int32), (0 ≤ y_195.toInt ∧ y_195.toInt ≤ 8) → ∀ (ls : Array Slot), lv_has ls 11 [(8, .int y_193), (7, .int x_192), (6, .int y_124), (0, .ref o0), (1, .int p1), (2, .int p2), (3, .int p3), (4, .int p4), (5, .int p5)] → W p l e (headSpec (wU yX12_goes cX12_goes 11 none) { frames := 8 + (n_ + 1), cells := 0, slots := 0, locals := 205 + (n_ + 1) * 30 }).room s m [.ref o0, .int p1, .int p2, .int p3, .int p4, .int p5].toArray below meth c H locs 0 0 (MQ below (va_Qv (fun (f9 : Nat → va_E) => GI (okc cI cL cZ cR cG cH L kd) kd L f9 ∧ (∀ b, kd b ≠ 12 → kd b ≠ 579 → kd b ≠ 581 → kd b ≠ 583 → kd b ≠ 585 → kd b ≠ 587 → kd b ≠ 588 → kd b ≠ 590 → kd b ≠ 591 → kd b ≠ 592 → kd b ≠ 593 → kd b ≠ 603 → f9 b = f b) ∧ (∀ b, kd b = 12 → ∀ j, fldR (f9 b) j = fldR (f b) j) ∧ (∀ b, kd b = 12 → ∀ j, j ≠ 27 → j ≠ 29 → j ≠ 32 → fldI (f9 b) j = fldI (f b) j) ∧ (∀ (w25 z25 : Int32) (w27 z27 : Int32) (w29 z29 : Int32), fldI (f o0) 25 = some w25 → fldI (f o0) 27 = some w27 → fldI (f o0) 29 = some w29 → fldI (f9 o0) 25 = some z25 → fldI (f9 o0) 27 = some z27 → fldI (f9 o0) 29 = some z29 → (z27.toInt = 1 ∨ z29.toInt ≤ 200) ∧ (w25.toInt ≤ 1 ∨ z29.toInt = w29.toInt)) ∧ (srel kd 592 f9 o0)) (qP (dC, dI) cI cL cZ cR cG cH L) (fun q => q ∈ L)) [.ref o0, .int p1, .int p2, .int p3, .int p4, .int p5].toArray s 0 0 (fun q => q ∈ L)) (F0 m 103 ls [.int y_195]) := by
                  intro y_195 by_195 ls hl
                  refine lv_istore (lv' := [(9, .int y_195), (8, .int y_193), (7, .int x_192), (6, .int y_124), (0, .ref o0), (1, .int p1), (2, .int p2), (3, .int p3), (4, .int p4), (5, .int p5)]) hx hb dX12_goes_103 hl (by decide) rfl (fun ls hl => ?_)
                  refine lv_iload hx hb dX12_goes_105 (lv_at hl 2 rfl) ?_
                  refine lv_bipush (v := 9) hx hb dX12_goes_107 (by decide) ?_
                  refine lv_idiv hx hb dX12_goes_109 (by decide) ?_
                  refine lv_topi (fun x_197 ex_197 => ?_)
                  have hx_197 : x_197.toInt = x_192.toInt / 9 := by rw [ex_197, dv_I (by omega) (by rw [ti_9]; omega), ti_9]
                  have bx_197 : (0 ≤ x_197.toInt ∧ x_197.toInt ≤ 8) := by constructor <;> omega
                  have hcut_199 : ∀ (y_198 : Int32), (0 ≤ y_198.toInt ∧ y_198.toInt ≤ 1) → (y_198.toInt = 1 ∨ (y_198.toInt = 0 ∧ x_192.toInt / 9 ≠ 0 ∧ x_192.toInt % 9 ≠ 0)) → ∀ (ls : Array Slot), lv_has ls 11 [(9, .int y_195), (8, .int y_193), (7, .int x_192), (6, .int y_124), (0, .ref o0), (1, .int p1), (2, .int p2), (3, .int p3), (4, .int p4), (5, .int p5)] → W p l e (headSpec (wU yX12_goes cX12_goes 11 none) { frames := 8 + (n_ + 1), cells := 0, slots := 0, locals := 205 + (n_ + 1) * 30 }).room s m [.ref o0, .int p1, .int p2, .int p3, .int p4, .int p5].toArray below meth c H locs 0 0 (MQ below (va_Qv (fun (f9 : Nat → va_E) => GI (okc cI cL cZ cR cG cH L kd) kd L f9 ∧ (∀ b, kd b ≠ 12 → kd b ≠ 579 → kd b ≠ 581 → kd b ≠ 583 → kd b ≠ 585 → kd b ≠ 587 → kd b ≠ 588 → kd b ≠ 590 → kd b ≠ 591 → kd b ≠ 592 → kd b ≠ 593 → kd b ≠ 603 → f9 b = f b) ∧ (∀ b, kd b = 12 → ∀ j, fldR (f9 b) j = fldR (f b) j) ∧ (∀ b, kd b = 12 → ∀ j, j ≠ 27 → j ≠ 29 → j ≠ 32 → fldI (f9 b) j = fldI (f b) j) ∧ (∀ (w25 z25 : Int32) (w27 z27 : Int32) (w29 z29 : Int32), fldI (f o0) 25 = some w25 → fldI (f o0) 27 = some w27 → fldI (f o0) 29 = some w29 → fldI (f9 o0) 25 = some z25 → fldI (f9 o0) 27 = some z27 → fldI (f9 o0) 29 = some z29 → (z27.toInt = 1 ∨ z29.toInt ≤ 200) ∧ (w25.toInt ≤ 1 ∨ z29.toInt = w29.toInt)) ∧ (srel kd 592 f9 o0)) (qP (dC, dI) cI cL cZ cR cG cH L) (fun q => q ∈ L)) [.ref o0, .int p1, .int p2, .int p3, .int p4, .int p5].toArray s 0 0 (fun q => q ∈ L)) (F0 m 126 ls [.int y_198]) := by
                    intro y_198 by_198 hjhcut_199_0 ls hl
                    refine lv_istore (lv' := [(10, .int y_198), (9, .int y_195), (8, .int y_193), (7, .int x_192), (6, .int y_124), (0, .ref o0), (1, .int p1), (2, .int p2), (3, .int p3), (4, .int p4), (5, .int p5)]) hx hb dX12_goes_126 hl (by decide) rfl (fun ls hl => ?_)
                    refine lv_iload hx hb dX12_goes_128 (lv_at hl 0 rfl) ?_
                    have hcut_203 : ∀ (f_201 : Nat → va_E), GI (okc cI cL cZ cR cG cH L kd) kd L f_201 → ∀ (H : Heap) (locs : List Loc), va_P (dC, dI) vwCl (va_pl L f_201) H → va_S (fun q => q ∈ L) s.heap H locs → va_D (fun q => q ∈ L) (va_pl L f_201) → (∀ b, kd b ≠ 12 → kd b ≠ 579 → kd b ≠ 581 → kd b ≠ 583 → kd b ≠ 585 → kd b ≠ 587 → kd b ≠ 588 → kd b ≠ 590 → kd b ≠ 591 → kd b ≠ 592 → kd b ≠ 593 → kd b ≠ 603 → f_201 b = f b) → (∀ b, kd b = 12 → ∀ j, fldR (f_201 b) j = fldR (f b) j) → (∀ b, kd b = 12 → ∀ j, j ≠ 27 → j ≠ 29 → j ≠ 32 → fldI (f_201 b) j = fldI (f b) j) → (f_201 a_2 = .inl (cI, 1560, .inl g_185)) → srel kd 592 f_201 o0 → ∀ (ls : Array Slot), lv_has ls 11 [(10, .int y_198), (9, .int y_195), (8, .int y_193), (7, .int x_192), (6, .int y_124), (0, .ref o0), (1, .int p1), (2, .int p2), (3, .int p3), (4, .int p4), (5, .int p5)] → W p l e (headSpec (wU yX12_goes cX12_goes 11 none) { frames := 8 + (n_ + 1), cells := 0, slots := 0, locals := 205 + (n_ + 1) * 30 }).room s m [.ref o0, .int p1, .int p2, .int p3, .int p4, .int p5].toArray below meth c H locs 0 0 (MQ below (va_Qv (fun (f9 : Nat → va_E) => GI (okc cI cL cZ cR cG cH L kd) kd L f9 ∧ (∀ b, kd b ≠ 12 → kd b ≠ 579 → kd b ≠ 581 → kd b ≠ 583 → kd b ≠ 585 → kd b ≠ 587 → kd b ≠ 588 → kd b ≠ 590 → kd b ≠ 591 → kd b ≠ 592 → kd b ≠ 593 → kd b ≠ 603 → f9 b = f b) ∧ (∀ b, kd b = 12 → ∀ j, fldR (f9 b) j = fldR (f b) j) ∧ (∀ b, kd b = 12 → ∀ j, j ≠ 27 → j ≠ 29 → j ≠ 32 → fldI (f9 b) j = fldI (f b) j) ∧ (∀ (w25 z25 : Int32) (w27 z27 : Int32) (w29 z29 : Int32), fldI (f o0) 25 = some w25 → fldI (f o0) 27 = some w27 → fldI (f o0) 29 = some w29 → fldI (f9 o0) 25 = some z25 → fldI (f9 o0) 27 = some z27 → fldI (f9 o0) 29 = some z29 → (z27.toInt = 1 ∨ z29.toInt ≤ 200) ∧ (w25.toInt ≤ 1 ∨ z29.toInt = w29.toInt)) ∧ (srel kd 592 f9 o0)) (qP (dC, dI) cI cL cZ cR cG cH L) (fun q => q ∈ L)) [.ref o0, .int p1, .int p2, .int p3, .int p4, .int p5].toArray s 0 0 (fun q => q ∈ L)) (F0 m 240 ls []) := by
                      intro f_201 hG H locs hP hS hD hfr0 hrA12 hfA12 hfo_202 hT0 ls hl
                      obtain ⟨x_204, ex_204⟩ : ∃ y : Int32, y_124 + 1 = y := ⟨_, rfl⟩
                      have hx_204 : x_204.toInt = y_124.toInt + 1 := by rw [← ex_204, ad_I (by rw [ti_1]; omega) (by rw [ti_1]; omega), ti_1]
                      have bx_204 : (1 ≤ x_204.toInt ∧ x_204.toInt ≤ 20) := by constructor <;> omega
                      refine lv_iinc (v := x_204) (lv' := [(6, .int x_204), (10, .int y_198), (9, .int y_195), (8, .int y_193), (7, .int x_192), (0, .ref o0), (1, .int p1), (2, .int p2), (3, .int p3), (4, .int p4), (5, .int p5)]) hx hb dX12_goes_240 hl (k := 4) rfl ex_204 (by decide) rfl (fun ls hl => ?_)
                      refine lv_goto (tgt := 28) hx hb dX12_goes_243 (by decide) ?_
                      obtain ⟨a_206, a_207, a_208, v_209, a_210, v_211, v_212, v_213, v_214, v_215, v_216, v_217, v_218, v_219, v_220, a_221, a_222, a_223, a_224, a_225, a_226, a_227, a_228, v_229, v_230, v_231, v_232, v_233, a_234, v_235, a_236, a_237, v_238, v_239, a_240, v_241, a_242, a_243, v_244, v_245, a_246, a_247, a_248, v_249, a_250, a_251, a_252, a_253, a_254, a_255, a_256, a_257, a_258, v_259, v_260, a_261, hfo_205, ⟨ma_206, ka_206⟩, ⟨ma_207, ka_207⟩, ⟨ma_208, ka_208⟩, bv_209, ⟨ma_210, ka_210⟩, bv_211, bv_212, bv_217, bv_218, bv_219, ⟨ma_221, ka_221⟩, ⟨ma_222, ka_222⟩, ⟨ma_223, ka_223⟩, ⟨ma_224, ka_224⟩, ⟨ma_225, ka_225⟩, ⟨ma_226, ka_226⟩, ⟨ma_227, ka_227⟩, ⟨ma_228, ka_228⟩, bv_229, bv_231, bv_233, ⟨ma_234, ka_234⟩, bv_235, ⟨ma_236, ka_236⟩, ⟨ma_237, ka_237⟩, bv_238, ⟨ma_240, ka_240⟩, bv_241, ⟨ma_242, ka_242⟩, ⟨ma_243, ka_243⟩, bv_244, ⟨ma_246, ka_246⟩, ⟨ma_247, ka_247⟩, ⟨ma_248, ka_248⟩, bv_249, ⟨ma_250, ka_250⟩, ⟨ma_251, ka_251⟩, ⟨ma_252, ka_252⟩, ⟨ma_253, ka_253⟩, ⟨ma_254, ka_254⟩, ⟨ma_255, ka_255⟩, ⟨ma_256, ka_256⟩, ⟨ma_257, ka_257⟩, ⟨ma_258, ka_258⟩, bv_259, ⟨ma_261, ka_261⟩⟩ := un_12 (hG _ mo0) ko0
                      have bv_213 : ((-2147483648) ≤ v_213.toInt ∧ v_213.toInt ≤ 2147483647) := ⟨i32_lo _, i32_hi _⟩
                      have bv_214 : ((-2147483648) ≤ v_214.toInt ∧ v_214.toInt ≤ 2147483647) := ⟨i32_lo _, i32_hi _⟩
                      have bv_215 : ((-2147483648) ≤ v_215.toInt ∧ v_215.toInt ≤ 2147483647) := ⟨i32_lo _, i32_hi _⟩
                      have bv_216 : ((-2147483648) ≤ v_216.toInt ∧ v_216.toInt ≤ 2147483647) := ⟨i32_lo _, i32_hi _⟩
                      have bv_220 : ((-2147483648) ≤ v_220.toInt ∧ v_220.toInt ≤ 2147483647) := ⟨i32_lo _, i32_hi _⟩
                      have bv_230 : ((-2147483648) ≤ v_230.toInt ∧ v_230.toInt ≤ 2147483647) := ⟨i32_lo _, i32_hi _⟩
                      have bv_232 : ((-2147483648) ≤ v_232.toInt ∧ v_232.toInt ≤ 2147483647) := ⟨i32_lo _, i32_hi _⟩
                      have bv_239 : ((-2147483648) ≤ v_239.toInt ∧ v_239.toInt ≤ 2147483647) := ⟨i32_lo _, i32_hi _⟩
                      have bv_245 : ((-2147483648) ≤ v_245.toInt ∧ v_245.toInt ≤ 2147483647) := ⟨i32_lo _, i32_hi _⟩
                      have bv_260 : ((-2147483648) ≤ v_260.toInt ∧ v_260.toInt ≤ 2147483647) := ⟨i32_lo _, i32_hi _⟩
                      obtain ⟨rfl, rfl, rfl, rfl, rfl, rfl, rfl, rfl, rfl, rfl, rfl, rfl, rfl, rfl, rfl, rfl, rfl, rfl, rfl, rfl, rfl, rfl, rfl, rfl, rfl, rfl, rfl, rfl, rfl, rfl, rfl⟩ := re_12 hfo_1 hfo_205 (hrA12 o0 ko0)
                      obtain rfl := ri_12_3 hfo_1 hfo_205 (hfA12 o0 ko0 3 (by decide) (by decide) (by decide))
                      obtain rfl := ri_12_5 hfo_1 hfo_205 (hfA12 o0 ko0 5 (by decide) (by decide) (by decide))
                      obtain rfl := ri_12_6 hfo_1 hfo_205 (hfA12 o0 ko0 6 (by decide) (by decide) (by decide))
                      obtain rfl := ri_12_11 hfo_1 hfo_205 (hfA12 o0 ko0 11 (by decide) (by decide) (by decide))
                      obtain rfl := ri_12_12 hfo_1 hfo_205 (hfA12 o0 ko0 12 (by decide) (by decide) (by decide))
                      obtain rfl := ri_12_13 hfo_1 hfo_205 (hfA12 o0 ko0 13 (by decide) (by decide) (by decide))
                      obtain rfl := ri_12_14 hfo_1 hfo_205 (hfA12 o0 ko0 14 (by decide) (by decide) (by decide))
                      obtain rfl := ri_12_23 hfo_1 hfo_205 (hfA12 o0 ko0 23 (by decide) (by decide) (by decide))
                      obtain rfl := ri_12_25 hfo_1 hfo_205 (hfA12 o0 ko0 25 (by decide) (by decide) (by decide))
                      obtain rfl := ri_12_33 hfo_1 hfo_205 (hfA12 o0 ko0 33 (by decide) (by decide) (by decide))
                      obtain rfl := ri_12_35 hfo_1 hfo_205 (hfA12 o0 ko0 35 (by decide) (by decide) (by decide))
                      obtain rfl := ri_12_38 hfo_1 hfo_205 (hfA12 o0 ko0 38 (by decide) (by decide) (by decide))
                      obtain rfl := ri_12_43 hfo_1 hfo_205 (hfA12 o0 ko0 43 (by decide) (by decide) (by decide))
                      obtain rfl := ri_12_53 hfo_1 hfo_205 (hfA12 o0 ko0 53 (by decide) (by decide) (by decide))
                      exact ih_hloop_123 x_204 (by constructor <;> omega) f_201 hG _ _ hP hS hD hfr0 hrA12 hfA12 hT0 v_233 (by rw [hfo_205]; rfl) v_235 (by rw [hfo_205]; rfl) (by omega) (by omega) (by omega) (by omega) ls (lv_sub hl [0, 5, 6, 7, 8, 9, 10] rfl)
                    refine lv_if_eq (tgt := 137) hx hb dX12_goes_130 (by decide) (fun c_262 => ?_) (fun c_262 => ?_)
                    · skip
                      rw [← Int32.toInt_inj, ti_0] at c_262
                      refine lv_iload hx hb dX12_goes_137 (lv_at hl 2 rfl) ?_
                      refine lv_if_eq (tgt := 164) hx hb dX12_goes_139 (by decide) (fun c_263 => ?_) (fun c_263 => ?_)
                      · skip
                        rw [← Int32.toInt_inj, ti_0] at c_263
                        refine lv_aload_n hx hb dX12_goes_164 rfl (lv_at hl 5 rfl) ?_
                        refine lv_iload_n hx hb dX12_goes_165 rfl (lv_at hl 8 rfl) ?_
                        refine lv_iload hx hb dX12_goes_166 (lv_at hl 3 rfl) ?_
                        refine lv_iload hx hb dX12_goes_168 (lv_at hl 10 rfl) ?_
                        refine tk_ViP (As := [.int p3, .int x_192, .int p5]) (rest := []) (n := 3) hx hb hml hown hU hN hZ (s_X12_reads_k12 l (dC, dI) cI cL cZ cR cG cH Z kd L f_126 hG o0 mo0 ko0 p3 (by constructor <;> omega) x_192 p5) wd_950 wd_951 wd_952 wd_5 wd_953 (by decide +kernel) ⟨(show 4 + 1 ≤ 8 + (n_ + 1) by omega), (show 8 + (5 + 11) + 105 ≤ 205 + (n_ + 1) * 30 by omega)⟩ hK hP hD hS mo0 hfo_127 12 rfl rfl rfl hl.1 rfl (Nat.le_of_ble_eq_true rfl) dX12_goes_170 ⟨Nat.le_of_ble_eq_true rfl, Nat.le_of_ble_eq_true rfl⟩ (fun x_264 f_265 H locs hw hP hD hS => ?_)
                        obtain ⟨hG, bx_264, hkc_266⟩ := hw
                        have hfo_268 : f_265 o0 = .inr (12, [.ref a_2, .ref a_3, .ref a_4, .int v_5, .ref a_6, .int v_7, .int v_8, .int v_135, .int v_136, .int v_137, .int v_138, .int v_13, .int v_14, .int v_15, .int v_16, .ref a_17, .ref a_18, .ref a_19, .ref a_20, .ref a_21, .ref a_22, .ref a_23, .ref a_24, .int v_25, .int v_152, .int v_27, .int v_154, .int v_155, .ref a_30, .int v_157, .ref a_32, .ref a_33, .int v_160, .int v_35, .ref a_36, .int v_37, .ref a_38, .ref a_39, .int v_40, .int v_167, .ref a_42, .ref a_43, .ref a_44, .int v_45, .ref a_46, .ref a_47, .ref a_48, .ref a_49, .ref a_50, .ref a_51, .ref a_52, .ref a_53, .ref a_54, .int v_55, .int v_182, .ref a_57]) := by rw [hkc_266 o0 (by rw [ko0]; decide) (by rw [ko0]; decide) (by rw [ko0]; decide) (by rw [ko0]; decide) (by rw [ko0]; decide) (by rw [ko0]; decide)]; exact hfo_127
                        have hfo_269 : f_265 a_2 = .inl (cI, 1560, .inl g_185) := by rw [hkc_266 a_2 (by rw [ka_2]; decide) (by rw [ka_2]; decide) (by rw [ka_2]; decide) (by rw [ka_2]; decide) (by rw [ka_2]; decide) (by rw [ka_2]; decide)]; exact hfo_184
                        have hfr0 : ∀ b, kd b ≠ 12 → kd b ≠ 579 → kd b ≠ 581 → kd b ≠ 583 → kd b ≠ 585 → kd b ≠ 587 → kd b ≠ 588 → kd b ≠ 590 → kd b ≠ 591 → kd b ≠ 592 → kd b ≠ 593 → kd b ≠ 603 → f_265 b = f b := fun b q12 q579 q581 q583 q585 q587 q588 q590 q591 q592 q593 q603 => (hkc_266 b q579 q581 q583 q585 q587 q588).trans (hfr0 b q12 q579 q581 q583 q585 q587 q588 q590 q591 q592 q593 q603)
                        have hrA12 : ∀ b, kd b = 12 → ∀ j, fldR (f_265 b) j = fldR (f b) j := fun b kb j => (congrArg (fun x => fldR x j) (hkc_266 b (by rw [kb]; decide) (by rw [kb]; decide) (by rw [kb]; decide) (by rw [kb]; decide) (by rw [kb]; decide) (by rw [kb]; decide))).trans (hrA12 b kb j)
                        have hfA12 : ∀ b, kd b = 12 → ∀ j, j ≠ 27 → j ≠ 29 → j ≠ 32 → fldI (f_265 b) j = fldI (f b) j := fun b kb j n27 n29 n32 => (congrArg (fun x => fldI x j) (hkc_266 b (by rw [kb]; decide) (by rw [kb]; decide) (by rw [kb]; decide) (by rw [kb]; decide) (by rw [kb]; decide) (by rw [kb]; decide))).trans (hfA12 b kb j n27 n29 n32)
                        have hT0 : srel kd 592 f_265 o0 := hT0.keep (fun b q => congrArg (fun x => fldR x 30) (hkc_266 b (by rw [q]; decide) (by rw [q]; decide) (by rw [q]; decide) (by rw [q]; decide) (by rw [q]; decide) (by rw [q]; decide))) (fun b q => congrArg (fun x => fldI x 32) (hkc_266 b (by rw [q]; decide) (by rw [q]; decide) (by rw [q]; decide) (by rw [q]; decide) (by rw [q]; decide) (by rw [q]; decide))) (fun b q => congrArg (fun x => fldI x 33) (hkc_266 b (by rw [q]; decide) (by rw [q]; decide) (by rw [q]; decide) (by rw [q]; decide) (by rw [q]; decide) (by rw [q]; decide))) (fun b q => hkc_266 b (by rw [q]; decide) (by rw [q]; decide) (by rw [q]; decide) (by rw [q]; decide) (by rw [q]; decide) (by rw [q]; decide))
                        refine lv_if_ne (tgt := 179) hx hb dX12_goes_173 (by decide) (fun c_270 => ?_) (fun c_270 => ?_)
                        · skip
                          rw [← Int32.toInt_inj, ti_0] at c_270
                          refine lv_iload hx hb dX12_goes_179 (lv_at hl 1 rfl) ?_
                          have hcut_275 : ∀ (f_272 : Nat → va_E), GI (okc cI cL cZ cR cG cH L kd) kd L f_272 → ∀ (H : Heap) (locs : List Loc), va_P (dC, dI) vwCl (va_pl L f_272) H → va_S (fun q => q ∈ L) s.heap H locs → va_D (fun q => q ∈ L) (va_pl L f_272) → (∀ b, kd b ≠ 12 → kd b ≠ 579 → kd b ≠ 581 → kd b ≠ 583 → kd b ≠ 585 → kd b ≠ 587 → kd b ≠ 588 → kd b ≠ 590 → kd b ≠ 591 → kd b ≠ 592 → kd b ≠ 593 → kd b ≠ 603 → f_272 b = f b) → (∀ b, kd b = 12 → ∀ j, fldR (f_272 b) j = fldR (f b) j) → (∀ b, kd b = 12 → ∀ j, j ≠ 27 → j ≠ 29 → j ≠ 32 → fldI (f_272 b) j = fldI (f b) j) → (f_272 o0 = .inr (12, [.ref a_2, .ref a_3, .ref a_4, .int v_5, .ref a_6, .int v_7, .int v_8, .int v_135, .int v_136, .int v_137, .int v_138, .int v_13, .int v_14, .int v_15, .int v_16, .ref a_17, .ref a_18, .ref a_19, .ref a_20, .ref a_21, .ref a_22, .ref a_23, .ref a_24, .int v_25, .int v_152, .int v_27, .int v_154, .int v_155, .ref a_30, .int v_157, .ref a_32, .ref a_33, .int v_160, .int v_35, .ref a_36, .int v_37, .ref a_38, .ref a_39, .int v_40, .int v_167, .ref a_42, .ref a_43, .ref a_44, .int v_45, .ref a_46, .ref a_47, .ref a_48, .ref a_49, .ref a_50, .ref a_51, .ref a_52, .ref a_53, .ref a_54, .int v_55, .int v_182, .ref a_57])) → (f_272 a_2 = .inl (cI, 1560, .inl g_185)) → srel kd 592 f_272 o0 → ∀ (ls : Array Slot), lv_has ls 11 [(10, .int y_198), (9, .int y_195), (8, .int y_193), (7, .int x_192), (6, .int y_124), (0, .ref o0), (1, .int p1), (2, .int p2), (3, .int p3), (4, .int p4), (5, .int p5)] → W p l e (headSpec (wU yX12_goes cX12_goes 11 none) { frames := 8 + (n_ + 1), cells := 0, slots := 0, locals := 205 + (n_ + 1) * 30 }).room s m [.ref o0, .int p1, .int p2, .int p3, .int p4, .int p5].toArray below meth c H locs 0 0 (MQ below (va_Qv (fun (f9 : Nat → va_E) => GI (okc cI cL cZ cR cG cH L kd) kd L f9 ∧ (∀ b, kd b ≠ 12 → kd b ≠ 579 → kd b ≠ 581 → kd b ≠ 583 → kd b ≠ 585 → kd b ≠ 587 → kd b ≠ 588 → kd b ≠ 590 → kd b ≠ 591 → kd b ≠ 592 → kd b ≠ 593 → kd b ≠ 603 → f9 b = f b) ∧ (∀ b, kd b = 12 → ∀ j, fldR (f9 b) j = fldR (f b) j) ∧ (∀ b, kd b = 12 → ∀ j, j ≠ 27 → j ≠ 29 → j ≠ 32 → fldI (f9 b) j = fldI (f b) j) ∧ (∀ (w25 z25 : Int32) (w27 z27 : Int32) (w29 z29 : Int32), fldI (f o0) 25 = some w25 → fldI (f o0) 27 = some w27 → fldI (f o0) 29 = some w29 → fldI (f9 o0) 25 = some z25 → fldI (f9 o0) 27 = some z27 → fldI (f9 o0) 29 = some z29 → (z27.toInt = 1 ∨ z29.toInt ≤ 200) ∧ (w25.toInt ≤ 1 ∨ z29.toInt = w29.toInt)) ∧ (srel kd 592 f9 o0)) (qP (dC, dI) cI cL cZ cR cG cH L) (fun q => q ∈ L)) [.ref o0, .int p1, .int p2, .int p3, .int p4, .int p5].toArray s 0 0 (fun q => q ∈ L)) (F0 m 193 ls []) := by
                            intro f_272 hG H locs hP hS hD hfr0 hrA12 hfA12 hfo_273 hfo_274 hT0 ls hl
                            refine lv_aload_n hx hb dX12_goes_193 rfl (lv_at hl 5 rfl) ?_
                            refine lv_iload hx hb dX12_goes_194 (lv_at hl 2 rfl) ?_
                            refine lv_if_ne (tgt := 203) hx hb dX12_goes_196 (by decide) (fun c_276 => ?_) (fun c_276 => ?_)
                            · skip
                              rw [← Int32.toInt_inj, ti_0] at c_276
                              exfalso
                              omega
                            · skip
                              rw [← Int32.toInt_inj, ti_0] at c_276
                              refine lv_iload_n hx hb dX12_goes_199 rfl (lv_at hl 6 rfl) ?_
                              refine lv_goto (tgt := 206) hx hb dX12_goes_200 (by decide) ?_
                              refine lv_iload hx hb dX12_goes_206 (lv_at hl 0 rfl) ?_
                              refine lv_if_eq (tgt := 217) hx hb dX12_goes_208 (by decide) (fun c_277 => ?_) (fun c_277 => ?_)
                              · skip
                                rw [← Int32.toInt_inj, ti_0] at c_277
                                refine lv_iload_n hx hb dX12_goes_217 rfl (lv_at hl 7 rfl) ?_
                                refine lv_iload_n hx hb dX12_goes_218 rfl (lv_at hl 8 rfl) ?_
                                refine lv_iconst (v := 1) hx hb dX12_goes_219 (by decide) ?_
                                refine lv_iadd hx hb dX12_goes_220 ?_
                                refine lv_topi (fun x_278 ex_278 => ?_)
                                have hx_278 : x_278.toInt = p3.toInt + 1 := by rw [ex_278, ad_I (by rw [ti_1]; omega) (by rw [ti_1]; omega), ti_1]
                                have bx_278 : (1 ≤ x_278.toInt ∧ x_278.toInt ≤ 14) := by constructor <;> omega
                                have hclc_279 : (1 ≤ x_278.toInt ∧ x_278.toInt ≤ 13) := by constructor <;> omega
                                refine lv_iload hx hb dX12_goes_221 (lv_at hl 1 rfl) ?_
                                have hcut_281 : ∀ (y_280 : Int32), (0 ≤ y_280.toInt ∧ y_280.toInt ≤ 13) → ((y_195.toInt = 0 ∧ y_280.toInt = p4.toInt) ∨ (y_195.toInt ≠ 0 ∧ y_280.toInt = p4.toInt + 1)) → ∀ (ls : Array Slot), lv_has ls 11 [(10, .int y_198), (9, .int y_195), (8, .int y_193), (7, .int x_192), (6, .int y_124), (0, .ref o0), (1, .int p1), (2, .int p2), (3, .int p3), (4, .int p4), (5, .int p5)] → W p l e (headSpec (wU yX12_goes cX12_goes 11 none) { frames := 8 + (n_ + 1), cells := 0, slots := 0, locals := 205 + (n_ + 1) * 30 }).room s m [.ref o0, .int p1, .int p2, .int p3, .int p4, .int p5].toArray below meth c H locs 0 0 (MQ below (va_Qv (fun (f9 : Nat → va_E) => GI (okc cI cL cZ cR cG cH L kd) kd L f9 ∧ (∀ b, kd b ≠ 12 → kd b ≠ 579 → kd b ≠ 581 → kd b ≠ 583 → kd b ≠ 585 → kd b ≠ 587 → kd b ≠ 588 → kd b ≠ 590 → kd b ≠ 591 → kd b ≠ 592 → kd b ≠ 593 → kd b ≠ 603 → f9 b = f b) ∧ (∀ b, kd b = 12 → ∀ j, fldR (f9 b) j = fldR (f b) j) ∧ (∀ b, kd b = 12 → ∀ j, j ≠ 27 → j ≠ 29 → j ≠ 32 → fldI (f9 b) j = fldI (f b) j) ∧ (∀ (w25 z25 : Int32) (w27 z27 : Int32) (w29 z29 : Int32), fldI (f o0) 25 = some w25 → fldI (f o0) 27 = some w27 → fldI (f o0) 29 = some w29 → fldI (f9 o0) 25 = some z25 → fldI (f9 o0) 27 = some z27 → fldI (f9 o0) 29 = some z29 → (z27.toInt = 1 ∨ z29.toInt ≤ 200) ∧ (w25.toInt ≤ 1 ∨ z29.toInt = w29.toInt)) ∧ (srel kd 592 f9 o0)) (qP (dC, dI) cI cL cZ cR cG cH L) (fun q => q ∈ L)) [.ref o0, .int p1, .int p2, .int p3, .int p4, .int p5].toArray s 0 0 (fun q => q ∈ L)) (F0 m 235 ls [.int y_280, .int x_278, .int p2, .int p1, .ref o0]) := by
                                  intro y_280 by_280 hjhcut_281_0 ls hl
                                  refine lv_iload hx hb dX12_goes_235 (lv_at hl 10 rfl) ?_
                                  refine tk_VvP (As := [.int p1, .int p2, .int x_278, .int y_280, .int p5]) (rest := []) (n := 5) hx hb hml hown hU hN hZ (ih_rec f_272 hG o0 mo0 ko0 p1 (by constructor <;> omega) p2 (by constructor <;> omega) x_278 (by constructor <;> omega) y_280 (by constructor <;> omega) p5 (by intro w23 w25 w27 w29 e23 e25 e27 e29; rw [hfo_273] at e23 e25 e27 e29; obtain rfl := Option.some.inj e23; obtain rfl := Option.some.inj e25; obtain rfl := Option.some.inj e27; obtain rfl := Option.some.inj e29; omega) (by omega) hT0 (by omega)) wd_886 wd_887 wd_888 wd_5 wd_889 (by decide +kernel) ⟨(show (8 + n_) + 1 ≤ 8 + (n_ + 1) by omega), (show 8 + (11 + 11) + (205 + n_ * 30) ≤ 205 + (n_ + 1) * 30 by omega)⟩ hK hP hD hS mo0 hfo_273 12 rfl rfl rfl hl.1 rfl (Nat.le_of_ble_eq_true rfl) dX12_goes_237 ⟨Nat.le_of_ble_eq_true rfl, Nat.le_of_ble_eq_true rfl⟩ (fun f_283 H locs hw hP hD hS => ?_)
                                  obtain ⟨hG, hkc_284, hra_285, hfa_286, hpost_287, hTc_288⟩ := hw
                                  have hfo_290 : f_283 a_2 = .inl (cI, 1560, .inl g_185) := by rw [hkc_284 a_2 (by rw [ka_2]; decide) (by rw [ka_2]; decide) (by rw [ka_2]; decide) (by rw [ka_2]; decide) (by rw [ka_2]; decide) (by rw [ka_2]; decide) (by rw [ka_2]; decide) (by rw [ka_2]; decide) (by rw [ka_2]; decide) (by rw [ka_2]; decide) (by rw [ka_2]; decide) (by rw [ka_2]; decide)]; exact hfo_274
                                  have hfr0 : ∀ b, kd b ≠ 12 → kd b ≠ 579 → kd b ≠ 581 → kd b ≠ 583 → kd b ≠ 585 → kd b ≠ 587 → kd b ≠ 588 → kd b ≠ 590 → kd b ≠ 591 → kd b ≠ 592 → kd b ≠ 593 → kd b ≠ 603 → f_283 b = f b := fun b q12 q579 q581 q583 q585 q587 q588 q590 q591 q592 q593 q603 => (hkc_284 b q12 q579 q581 q583 q585 q587 q588 q590 q591 q592 q593 q603).trans (hfr0 b q12 q579 q581 q583 q585 q587 q588 q590 q591 q592 q593 q603)
                                  have hrA12 : ∀ b, kd b = 12 → ∀ j, fldR (f_283 b) j = fldR (f b) j := fun b kb j => (hra_285 b kb j).trans (hrA12 b kb j)
                                  have hfA12 : ∀ b, kd b = 12 → ∀ j, j ≠ 27 → j ≠ 29 → j ≠ 32 → fldI (f_283 b) j = fldI (f b) j := fun b kb j n27 n29 n32 => (hfa_286 b kb j n27 n29 n32).trans (hfA12 b kb j n27 n29 n32)
                                  obtain ⟨a_292, a_293, a_294, v_295, a_296, v_297, v_298, v_299, v_300, v_301, v_302, v_303, v_304, v_305, v_306, a_307, a_308, a_309, a_310, a_311, a_312, a_313, a_314, v_315, v_316, v_317, v_318, v_319, a_320, v_321, a_322, a_323, v_324, v_325, a_326, v_327, a_328, a_329, v_330, v_331, a_332, a_333, a_334, v_335, a_336, a_337, a_338, a_339, a_340, a_341, a_342, a_343, a_344, v_345, v_346, a_347, hfo_291, ⟨ma_292, ka_292⟩, ⟨ma_293, ka_293⟩, ⟨ma_294, ka_294⟩, bv_295, ⟨ma_296, ka_296⟩, bv_297, bv_298, bv_303, bv_304, bv_305, ⟨ma_307, ka_307⟩, ⟨ma_308, ka_308⟩, ⟨ma_309, ka_309⟩, ⟨ma_310, ka_310⟩, ⟨ma_311, ka_311⟩, ⟨ma_312, ka_312⟩, ⟨ma_313, ka_313⟩, ⟨ma_314, ka_314⟩, bv_315, bv_317, bv_319, ⟨ma_320, ka_320⟩, bv_321, ⟨ma_322, ka_322⟩, ⟨ma_323, ka_323⟩, bv_324, ⟨ma_326, ka_326⟩, bv_327, ⟨ma_328, ka_328⟩, ⟨ma_329, ka_329⟩, bv_330, ⟨ma_332, ka_332⟩, ⟨ma_333, ka_333⟩, ⟨ma_334, ka_334⟩, bv_335, ⟨ma_336, ka_336⟩, ⟨ma_337, ka_337⟩, ⟨ma_338, ka_338⟩, ⟨ma_339, ka_339⟩, ⟨ma_340, ka_340⟩, ⟨ma_341, ka_341⟩, ⟨ma_342, ka_342⟩, ⟨ma_343, ka_343⟩, ⟨ma_344, ka_344⟩, bv_345, ⟨ma_347, ka_347⟩⟩ := un_12 (hG _ mo0) ko0
                                  have bv_299 : ((-2147483648) ≤ v_299.toInt ∧ v_299.toInt ≤ 2147483647) := ⟨i32_lo _, i32_hi _⟩
                                  have bv_300 : ((-2147483648) ≤ v_300.toInt ∧ v_300.toInt ≤ 2147483647) := ⟨i32_lo _, i32_hi _⟩
                                  have bv_301 : ((-2147483648) ≤ v_301.toInt ∧ v_301.toInt ≤ 2147483647) := ⟨i32_lo _, i32_hi _⟩
                                  have bv_302 : ((-2147483648) ≤ v_302.toInt ∧ v_302.toInt ≤ 2147483647) := ⟨i32_lo _, i32_hi _⟩
                                  have bv_306 : ((-2147483648) ≤ v_306.toInt ∧ v_306.toInt ≤ 2147483647) := ⟨i32_lo _, i32_hi _⟩
                                  have bv_316 : ((-2147483648) ≤ v_316.toInt ∧ v_316.toInt ≤ 2147483647) := ⟨i32_lo _, i32_hi _⟩
                                  have bv_318 : ((-2147483648) ≤ v_318.toInt ∧ v_318.toInt ≤ 2147483647) := ⟨i32_lo _, i32_hi _⟩
                                  have bv_325 : ((-2147483648) ≤ v_325.toInt ∧ v_325.toInt ≤ 2147483647) := ⟨i32_lo _, i32_hi _⟩
                                  have bv_331 : ((-2147483648) ≤ v_331.toInt ∧ v_331.toInt ≤ 2147483647) := ⟨i32_lo _, i32_hi _⟩
                                  have bv_346 : ((-2147483648) ≤ v_346.toInt ∧ v_346.toInt ≤ 2147483647) := ⟨i32_lo _, i32_hi _⟩
                                  obtain ⟨rfl, rfl, rfl, rfl, rfl, rfl, rfl, rfl, rfl, rfl, rfl, rfl, rfl, rfl, rfl, rfl, rfl, rfl, rfl, rfl, rfl, rfl, rfl, rfl, rfl, rfl, rfl, rfl, rfl, rfl, rfl⟩ := re_12 hfo_1 hfo_291 (hrA12 o0 ko0)
                                  obtain rfl := ri_12_3 hfo_1 hfo_291 (hfA12 o0 ko0 3 (by decide) (by decide) (by decide))
                                  obtain rfl := ri_12_5 hfo_1 hfo_291 (hfA12 o0 ko0 5 (by decide) (by decide) (by decide))
                                  obtain rfl := ri_12_6 hfo_1 hfo_291 (hfA12 o0 ko0 6 (by decide) (by decide) (by decide))
                                  obtain rfl := ri_12_11 hfo_1 hfo_291 (hfA12 o0 ko0 11 (by decide) (by decide) (by decide))
                                  obtain rfl := ri_12_12 hfo_1 hfo_291 (hfA12 o0 ko0 12 (by decide) (by decide) (by decide))
                                  obtain rfl := ri_12_13 hfo_1 hfo_291 (hfA12 o0 ko0 13 (by decide) (by decide) (by decide))
                                  obtain rfl := ri_12_14 hfo_1 hfo_291 (hfA12 o0 ko0 14 (by decide) (by decide) (by decide))
                                  obtain rfl := ri_12_23 hfo_1 hfo_291 (hfA12 o0 ko0 23 (by decide) (by decide) (by decide))
                                  obtain rfl := ri_12_25 hfo_1 hfo_291 (hfA12 o0 ko0 25 (by decide) (by decide) (by decide))
                                  obtain rfl := ri_12_33 hfo_1 hfo_291 (hfA12 o0 ko0 33 (by decide) (by decide) (by decide))
                                  obtain rfl := ri_12_35 hfo_1 hfo_291 (hfA12 o0 ko0 35 (by decide) (by decide) (by decide))
                                  obtain rfl := ri_12_38 hfo_1 hfo_291 (hfA12 o0 ko0 38 (by decide) (by decide) (by decide))
                                  obtain rfl := ri_12_43 hfo_1 hfo_291 (hfA12 o0 ko0 43 (by decide) (by decide) (by decide))
                                  obtain rfl := ri_12_53 hfo_1 hfo_291 (hfA12 o0 ko0 53 (by decide) (by decide) (by decide))
                                  have hqhpost_287 := hpost_287 v_27 v_27 v_155 v_319 v_157 v_321 (by rw [hfo_273]; rfl) (by rw [hfo_273]; rfl) (by rw [hfo_273]; rfl) (by rw [hfo_291]; rfl) (by rw [hfo_291]; rfl) (by rw [hfo_291]; rfl)
                                  exact hcut_203 f_283 hG _ _ hP hS hD hfr0 hrA12 hfA12 hfo_290 hTc_288 ls (lv_sub hl [0, 1, 2, 3, 4, 5, 6, 7, 8, 9, 10] rfl)
                                refine lv_if_ne (tgt := 231) hx hb dX12_goes_223 (by decide) (fun c_348 => ?_) (fun c_348 => ?_)
                                · skip
                                  rw [← Int32.toInt_inj, ti_0] at c_348
                                  refine lv_iload hx hb dX12_goes_231 (lv_at hl 9 rfl) ?_
                                  refine lv_iconst (v := 1) hx hb dX12_goes_233 (by decide) ?_
                                  refine lv_iadd hx hb dX12_goes_234 ?_
                                  refine lv_topi (fun x_349 ex_349 => ?_)
                                  have hx_349 : x_349.toInt = p4.toInt + 1 := by rw [ex_349, ad_I (by rw [ti_1]; omega) (by rw [ti_1]; omega), ti_1]
                                  have bx_349 : (1 ≤ x_349.toInt ∧ x_349.toInt ≤ 14) := by constructor <;> omega
                                  exact hcut_281 x_349 (by constructor <;> omega) (by omega) ls (lv_sub hl [0, 1, 2, 3, 4, 5, 6, 7, 8, 9, 10] rfl)
                                · skip
                                  rw [← Int32.toInt_inj, ti_0] at c_348
                                  refine lv_iload hx hb dX12_goes_226 (lv_at hl 9 rfl) ?_
                                  refine lv_goto (tgt := 235) hx hb dX12_goes_228 (by decide) ?_
                                  exact hcut_281 p4 (by constructor <;> omega) (by omega) ls (lv_sub hl [0, 1, 2, 3, 4, 5, 6, 7, 8, 9, 10] rfl)
                              · skip
                                rw [← Int32.toInt_inj, ti_0] at c_277
                                exfalso
                                omega
                          refine lv_if_eq (tgt := 193) hx hb dX12_goes_181 (by decide) (fun c_350 => ?_) (fun c_350 => ?_)
                          · skip
                            rw [← Int32.toInt_inj, ti_0] at c_350
                            exact hcut_275 f_265 hG _ _ hP hS hD hfr0 hrA12 hfA12 hfo_268 hfo_269 hT0 ls (lv_sub hl [0, 1, 2, 3, 4, 5, 6, 7, 8, 9, 10] rfl)
                          · skip
                            rw [← Int32.toInt_inj, ti_0] at c_350
                            refine lv_aload_n hx hb dX12_goes_184 rfl (lv_at hl 5 rfl) ?_
                            refine tk_getP (D := (dC, dI)) (ci := 12) (v := .ref a_24) (C := RX12) (T := TX12) (N := 56) hx hb hU inlX12 hown hK hP mo0 hfo_268 rfl 22 (by decide) (hU _ wd_182) (fun _ h9 => h9) rfl dX12_goes_185 ?_
                            refine lv_iload hx hb dX12_goes_188 (lv_at hl 9 rfl) ?_
                            refine lv_iload hx hb dX12_goes_190 (lv_at hl 1 rfl) ?_
                            obtain ⟨g_352, hfo_351, hbg_352⟩ := un_590 (hG _ ma_24) ka_24
                            refine tk_istP hx hb hK hP hD hS 0 ma_24 hfo_351 rfl (vp_in_iff.mpr (by constructor <;> omega)) dX12_goes_192 (fun H locs hP hD hS => ?_)
                            obtain ⟨f_354, ef_354⟩ : ∃ y : Nat → va_E, y = va_up f_265 a_24 (.inl (cI, 16, .inl (upd g_352 (Int32.toNatClampNeg p4) y_195))) := ⟨_, rfl⟩
                            have hP : va_P (dC, dI) vwCl (va_pl L f_354) H := by rw [ef_354]; exact hP
                            have hD : va_D (fun q => q ∈ L) (va_pl L f_354) := by rw [ef_354]; exact hD
                            have hG : GI (okc cI cL cZ cR cG cH L kd) kd L f_354 := by rw [ef_354]; exact hG.set a_24 (mk_590 ka_24 ⟨_, rfl, okI_up hbg_352 (by constructor <;> omega) _⟩)
                            have hfo_355 : f_354 o0 = .inr (12, [.ref a_2, .ref a_3, .ref a_4, .int v_5, .ref a_6, .int v_7, .int v_8, .int v_135, .int v_136, .int v_137, .int v_138, .int v_13, .int v_14, .int v_15, .int v_16, .ref a_17, .ref a_18, .ref a_19, .ref a_20, .ref a_21, .ref a_22, .ref a_23, .ref a_24, .int v_25, .int v_152, .int v_27, .int v_154, .int v_155, .ref a_30, .int v_157, .ref a_32, .ref a_33, .int v_160, .int v_35, .ref a_36, .int v_37, .ref a_38, .ref a_39, .int v_40, .int v_167, .ref a_42, .ref a_43, .ref a_44, .int v_45, .ref a_46, .ref a_47, .ref a_48, .ref a_49, .ref a_50, .ref a_51, .ref a_52, .ref a_53, .ref a_54, .int v_55, .int v_182, .ref a_57]) := by rw [ef_354, up_ne (kd_ne ka_24 ko0 (by decide))]; exact hfo_268
                            have hfo_356 : f_354 a_2 = .inl (cI, 1560, .inl g_185) := by rw [ef_354, up_ne (kd_ne ka_24 ka_2 (by decide))]; exact hfo_269
                            have hfr0 : ∀ b, kd b ≠ 12 → kd b ≠ 579 → kd b ≠ 581 → kd b ≠ 583 → kd b ≠ 585 → kd b ≠ 587 → kd b ≠ 588 → kd b ≠ 590 → kd b ≠ 591 → kd b ≠ 592 → kd b ≠ 593 → kd b ≠ 603 → f_354 b = f b := fun b q12 q579 q581 q583 q585 q587 q588 q590 q591 q592 q593 q603 => (congrFun ef_354 b).trans ((up_ne (fun e9 => q590 (by rw [e9]; exact ka_24))).trans (hfr0 b q12 q579 q581 q583 q585 q587 q588 q590 q591 q592 q593 q603))
                            have hrA12 : ∀ b, kd b = 12 → ∀ j, fldR (f_354 b) j = fldR (f b) j := fun b kb j => (congrArg (fun x => fldR x j) ((congrFun ef_354 b).trans (up_ne (kd_ne ka_24 kb (by decide))))).trans (hrA12 b kb j)
                            have hfA12 : ∀ b, kd b = 12 → ∀ j, j ≠ 27 → j ≠ 29 → j ≠ 32 → fldI (f_354 b) j = fldI (f b) j := fun b kb j n27 n29 n32 => (congrArg (fun x => fldI x j) ((congrFun ef_354 b).trans (up_ne (kd_ne ka_24 kb (by decide))))).trans (hfA12 b kb j n27 n29 n32)
                            have hT0 : srel kd 592 f_354 o0 := by rw [ef_354]; exact hT0.keep (fun b q => congrArg (fun x => fldR x 30) (up_ne (kd_ne ka_24 q (by decide)))) (fun b q => congrArg (fun x => fldI x 32) (up_ne (kd_ne ka_24 q (by decide)))) (fun b q => congrArg (fun x => fldI x 33) (up_ne (kd_ne ka_24 q (by decide)))) (fun b q => up_ne (kd_ne ka_24 q (by decide)))
                            have hfo_357 : f_354 a_24 = .inl (cI, 16, .inl (upd g_352 (Int32.toNatClampNeg p4) y_195)) := by rw [ef_354]; exact up_self
                            exact hcut_275 f_354 hG _ _ hP hS hD hfr0 hrA12 hfA12 hfo_355 hfo_356 hT0 ls (lv_sub hl [0, 1, 2, 3, 4, 5, 6, 7, 8, 9, 10] rfl)
                        · skip
                          rw [← Int32.toInt_inj, ti_0] at c_270
                          refine lv_goto (tgt := 240) hx hb dX12_goes_176 (by decide) ?_
                          exact hcut_203 f_265 hG _ _ hP hS hD hfr0 hrA12 hfA12 hfo_269 hT0 ls (lv_sub hl [0, 1, 2, 3, 4, 5, 6, 7, 8, 9, 10] rfl)
                      · skip
                        rw [← Int32.toInt_inj, ti_0] at c_263
                        refine lv_iload_n hx hb dX12_goes_142 rfl (lv_at hl 6 rfl) ?_
                        refine lv_aload_n hx hb dX12_goes_143 rfl (lv_at hl 5 rfl) ?_
                        refine tk_getP (D := (dC, dI)) (ci := 12) (v := .int v_25) (C := RX12) (T := TX12) (N := 56) hx hb hU inlX12 hown hK hP mo0 hfo_127 rfl 23 (by decide) (hU _ wd_867) (fun _ h9 => h9) rfl dX12_goes_144 ?_
                        refine lv_icmp_eq (tgt := 240) hx hb dX12_goes_147 (by decide) (fun c_358 => ?_) (fun c_358 => ?_)
                        · skip
                          rw [← Int32.toInt_inj] at c_358
                          exact hcut_203 f_126 hG _ _ hP hS hD hfr0 hrA12 hfA12 hfo_184 hT0 ls (lv_sub hl [0, 1, 2, 3, 4, 5, 6, 7, 8, 9, 10] rfl)
                        · skip
                          rw [← Int32.toInt_inj] at c_358
                          have hclc_359 : (0 ≤ p1.toInt ∧ p1.toInt ≤ 11) := by constructor <;> omega
                          refine lv_aload_n hx hb dX12_goes_150 rfl (lv_at hl 5 rfl) ?_
                          refine tk_getP (D := (dC, dI)) (ci := 12) (v := .ref a_23) (C := RX12) (T := TX12) (N := 56) hx hb hU inlX12 hown hK hP mo0 hfo_127 rfl 21 (by decide) (hU _ wd_181) (fun _ h9 => h9) rfl dX12_goes_151 ?_
                          refine lv_iload_n hx hb dX12_goes_154 rfl (lv_at hl 6 rfl) ?_
                          obtain ⟨g_361, hfo_360, hbg_361⟩ := un_589 (hG _ ma_23) ka_23
                          refine tk_ildP hx hb hK hP 0 ma_23 hfo_360 rfl (vp_in_iff.mpr (by constructor <;> omega)) dX12_goes_155 ?_
                          refine lv_topi (fun x_362 ex_362 => ?_)
                          have bx_362 : (0 ≤ x_362.toInt ∧ x_362.toInt ≤ 8) := by rw [ex_362]; exact hbg_361 _
                          refine lv_iload hx hb dX12_goes_156 (lv_at hl 2 rfl) ?_
                          refine lv_icmp_eq (tgt := 164) hx hb dX12_goes_158 (by decide) (fun c_363 => ?_) (fun c_363 => ?_)
                          · skip
                            rw [← Int32.toInt_inj] at c_363
                            refine lv_aload_n hx hb dX12_goes_164 rfl (lv_at hl 5 rfl) ?_
                            refine lv_iload_n hx hb dX12_goes_165 rfl (lv_at hl 8 rfl) ?_
                            refine lv_iload hx hb dX12_goes_166 (lv_at hl 3 rfl) ?_
                            refine lv_iload hx hb dX12_goes_168 (lv_at hl 10 rfl) ?_
                            refine tk_ViP (As := [.int p3, .int x_192, .int p5]) (rest := []) (n := 3) hx hb hml hown hU hN hZ (s_X12_reads_k12 l (dC, dI) cI cL cZ cR cG cH Z kd L f_126 hG o0 mo0 ko0 p3 (by constructor <;> omega) x_192 p5) wd_950 wd_951 wd_952 wd_5 wd_953 (by decide +kernel) ⟨(show 4 + 1 ≤ 8 + (n_ + 1) by omega), (show 8 + (5 + 11) + 105 ≤ 205 + (n_ + 1) * 30 by omega)⟩ hK hP hD hS mo0 hfo_127 12 rfl rfl rfl hl.1 rfl (Nat.le_of_ble_eq_true rfl) dX12_goes_170 ⟨Nat.le_of_ble_eq_true rfl, Nat.le_of_ble_eq_true rfl⟩ (fun x_364 f_365 H locs hw hP hD hS => ?_)
                            obtain ⟨hG, bx_364, hkc_366⟩ := hw
                            have hfo_368 : f_365 o0 = .inr (12, [.ref a_2, .ref a_3, .ref a_4, .int v_5, .ref a_6, .int v_7, .int v_8, .int v_135, .int v_136, .int v_137, .int v_138, .int v_13, .int v_14, .int v_15, .int v_16, .ref a_17, .ref a_18, .ref a_19, .ref a_20, .ref a_21, .ref a_22, .ref a_23, .ref a_24, .int v_25, .int v_152, .int v_27, .int v_154, .int v_155, .ref a_30, .int v_157, .ref a_32, .ref a_33, .int v_160, .int v_35, .ref a_36, .int v_37, .ref a_38, .ref a_39, .int v_40, .int v_167, .ref a_42, .ref a_43, .ref a_44, .int v_45, .ref a_46, .ref a_47, .ref a_48, .ref a_49, .ref a_50, .ref a_51, .ref a_52, .ref a_53, .ref a_54, .int v_55, .int v_182, .ref a_57]) := by rw [hkc_366 o0 (by rw [ko0]; decide) (by rw [ko0]; decide) (by rw [ko0]; decide) (by rw [ko0]; decide) (by rw [ko0]; decide) (by rw [ko0]; decide)]; exact hfo_127
                            have hfo_369 : f_365 a_2 = .inl (cI, 1560, .inl g_185) := by rw [hkc_366 a_2 (by rw [ka_2]; decide) (by rw [ka_2]; decide) (by rw [ka_2]; decide) (by rw [ka_2]; decide) (by rw [ka_2]; decide) (by rw [ka_2]; decide)]; exact hfo_184
                            have hfo_370 : f_365 a_23 = .inl (cI, 16, .inl g_361) := by rw [hkc_366 a_23 (by rw [ka_23]; decide) (by rw [ka_23]; decide) (by rw [ka_23]; decide) (by rw [ka_23]; decide) (by rw [ka_23]; decide) (by rw [ka_23]; decide)]; exact hfo_360
                            have hfr0 : ∀ b, kd b ≠ 12 → kd b ≠ 579 → kd b ≠ 581 → kd b ≠ 583 → kd b ≠ 585 → kd b ≠ 587 → kd b ≠ 588 → kd b ≠ 590 → kd b ≠ 591 → kd b ≠ 592 → kd b ≠ 593 → kd b ≠ 603 → f_365 b = f b := fun b q12 q579 q581 q583 q585 q587 q588 q590 q591 q592 q593 q603 => (hkc_366 b q579 q581 q583 q585 q587 q588).trans (hfr0 b q12 q579 q581 q583 q585 q587 q588 q590 q591 q592 q593 q603)
                            have hrA12 : ∀ b, kd b = 12 → ∀ j, fldR (f_365 b) j = fldR (f b) j := fun b kb j => (congrArg (fun x => fldR x j) (hkc_366 b (by rw [kb]; decide) (by rw [kb]; decide) (by rw [kb]; decide) (by rw [kb]; decide) (by rw [kb]; decide) (by rw [kb]; decide))).trans (hrA12 b kb j)
                            have hfA12 : ∀ b, kd b = 12 → ∀ j, j ≠ 27 → j ≠ 29 → j ≠ 32 → fldI (f_365 b) j = fldI (f b) j := fun b kb j n27 n29 n32 => (congrArg (fun x => fldI x j) (hkc_366 b (by rw [kb]; decide) (by rw [kb]; decide) (by rw [kb]; decide) (by rw [kb]; decide) (by rw [kb]; decide) (by rw [kb]; decide))).trans (hfA12 b kb j n27 n29 n32)
                            have hT0 : srel kd 592 f_365 o0 := hT0.keep (fun b q => congrArg (fun x => fldR x 30) (hkc_366 b (by rw [q]; decide) (by rw [q]; decide) (by rw [q]; decide) (by rw [q]; decide) (by rw [q]; decide) (by rw [q]; decide))) (fun b q => congrArg (fun x => fldI x 32) (hkc_366 b (by rw [q]; decide) (by rw [q]; decide) (by rw [q]; decide) (by rw [q]; decide) (by rw [q]; decide) (by rw [q]; decide))) (fun b q => congrArg (fun x => fldI x 33) (hkc_366 b (by rw [q]; decide) (by rw [q]; decide) (by rw [q]; decide) (by rw [q]; decide) (by rw [q]; decide) (by rw [q]; decide))) (fun b q => hkc_366 b (by rw [q]; decide) (by rw [q]; decide) (by rw [q]; decide) (by rw [q]; decide) (by rw [q]; decide) (by rw [q]; decide))
                            refine lv_if_ne (tgt := 179) hx hb dX12_goes_173 (by decide) (fun c_371 => ?_) (fun c_371 => ?_)
                            · skip
                              rw [← Int32.toInt_inj, ti_0] at c_371
                              refine lv_iload hx hb dX12_goes_179 (lv_at hl 1 rfl) ?_
                              have hcut_377 : ∀ (f_373 : Nat → va_E), GI (okc cI cL cZ cR cG cH L kd) kd L f_373 → ∀ (H : Heap) (locs : List Loc), va_P (dC, dI) vwCl (va_pl L f_373) H → va_S (fun q => q ∈ L) s.heap H locs → va_D (fun q => q ∈ L) (va_pl L f_373) → (∀ b, kd b ≠ 12 → kd b ≠ 579 → kd b ≠ 581 → kd b ≠ 583 → kd b ≠ 585 → kd b ≠ 587 → kd b ≠ 588 → kd b ≠ 590 → kd b ≠ 591 → kd b ≠ 592 → kd b ≠ 593 → kd b ≠ 603 → f_373 b = f b) → (∀ b, kd b = 12 → ∀ j, fldR (f_373 b) j = fldR (f b) j) → (∀ b, kd b = 12 → ∀ j, j ≠ 27 → j ≠ 29 → j ≠ 32 → fldI (f_373 b) j = fldI (f b) j) → (f_373 o0 = .inr (12, [.ref a_2, .ref a_3, .ref a_4, .int v_5, .ref a_6, .int v_7, .int v_8, .int v_135, .int v_136, .int v_137, .int v_138, .int v_13, .int v_14, .int v_15, .int v_16, .ref a_17, .ref a_18, .ref a_19, .ref a_20, .ref a_21, .ref a_22, .ref a_23, .ref a_24, .int v_25, .int v_152, .int v_27, .int v_154, .int v_155, .ref a_30, .int v_157, .ref a_32, .ref a_33, .int v_160, .int v_35, .ref a_36, .int v_37, .ref a_38, .ref a_39, .int v_40, .int v_167, .ref a_42, .ref a_43, .ref a_44, .int v_45, .ref a_46, .ref a_47, .ref a_48, .ref a_49, .ref a_50, .ref a_51, .ref a_52, .ref a_53, .ref a_54, .int v_55, .int v_182, .ref a_57])) → (f_373 a_2 = .inl (cI, 1560, .inl g_185)) → (f_373 a_23 = .inl (cI, 16, .inl g_361)) → srel kd 592 f_373 o0 → ∀ (ls : Array Slot), lv_has ls 11 [(10, .int y_198), (9, .int y_195), (8, .int y_193), (7, .int x_192), (6, .int y_124), (0, .ref o0), (1, .int p1), (2, .int p2), (3, .int p3), (4, .int p4), (5, .int p5)] → W p l e (headSpec (wU yX12_goes cX12_goes 11 none) { frames := 8 + (n_ + 1), cells := 0, slots := 0, locals := 205 + (n_ + 1) * 30 }).room s m [.ref o0, .int p1, .int p2, .int p3, .int p4, .int p5].toArray below meth c H locs 0 0 (MQ below (va_Qv (fun (f9 : Nat → va_E) => GI (okc cI cL cZ cR cG cH L kd) kd L f9 ∧ (∀ b, kd b ≠ 12 → kd b ≠ 579 → kd b ≠ 581 → kd b ≠ 583 → kd b ≠ 585 → kd b ≠ 587 → kd b ≠ 588 → kd b ≠ 590 → kd b ≠ 591 → kd b ≠ 592 → kd b ≠ 593 → kd b ≠ 603 → f9 b = f b) ∧ (∀ b, kd b = 12 → ∀ j, fldR (f9 b) j = fldR (f b) j) ∧ (∀ b, kd b = 12 → ∀ j, j ≠ 27 → j ≠ 29 → j ≠ 32 → fldI (f9 b) j = fldI (f b) j) ∧ (∀ (w25 z25 : Int32) (w27 z27 : Int32) (w29 z29 : Int32), fldI (f o0) 25 = some w25 → fldI (f o0) 27 = some w27 → fldI (f o0) 29 = some w29 → fldI (f9 o0) 25 = some z25 → fldI (f9 o0) 27 = some z27 → fldI (f9 o0) 29 = some z29 → (z27.toInt = 1 ∨ z29.toInt ≤ 200) ∧ (w25.toInt ≤ 1 ∨ z29.toInt = w29.toInt)) ∧ (srel kd 592 f9 o0)) (qP (dC, dI) cI cL cZ cR cG cH L) (fun q => q ∈ L)) [.ref o0, .int p1, .int p2, .int p3, .int p4, .int p5].toArray s 0 0 (fun q => q ∈ L)) (F0 m 193 ls []) := by
                                intro f_373 hG H locs hP hS hD hfr0 hrA12 hfA12 hfo_374 hfo_375 hfo_376 hT0 ls hl
                                refine lv_aload_n hx hb dX12_goes_193 rfl (lv_at hl 5 rfl) ?_
                                refine lv_iload hx hb dX12_goes_194 (lv_at hl 2 rfl) ?_
                                refine lv_if_ne (tgt := 203) hx hb dX12_goes_196 (by decide) (fun c_378 => ?_) (fun c_378 => ?_)
                                · skip
                                  rw [← Int32.toInt_inj, ti_0] at c_378
                                  refine lv_iload_n hx hb dX12_goes_203 rfl (lv_at hl 6 rfl) ?_
                                  refine lv_iconst (v := 1) hx hb dX12_goes_204 (by decide) ?_
                                  refine lv_iadd hx hb dX12_goes_205 ?_
                                  refine lv_topi (fun x_379 ex_379 => ?_)
                                  have hx_379 : x_379.toInt = p1.toInt + 1 := by rw [ex_379, ad_I (by rw [ti_1]; omega) (by rw [ti_1]; omega), ti_1]
                                  have bx_379 : (1 ≤ x_379.toInt ∧ x_379.toInt ≤ 12) := by constructor <;> omega
                                  refine lv_iload hx hb dX12_goes_206 (lv_at hl 0 rfl) ?_
                                  refine lv_if_eq (tgt := 217) hx hb dX12_goes_208 (by decide) (fun c_380 => ?_) (fun c_380 => ?_)
                                  · skip
                                    rw [← Int32.toInt_inj, ti_0] at c_380
                                    refine lv_iload_n hx hb dX12_goes_217 rfl (lv_at hl 7 rfl) ?_
                                    refine lv_iload_n hx hb dX12_goes_218 rfl (lv_at hl 8 rfl) ?_
                                    refine lv_iconst (v := 1) hx hb dX12_goes_219 (by decide) ?_
                                    refine lv_iadd hx hb dX12_goes_220 ?_
                                    refine lv_topi (fun x_381 ex_381 => ?_)
                                    have hx_381 : x_381.toInt = p3.toInt + 1 := by rw [ex_381, ad_I (by rw [ti_1]; omega) (by rw [ti_1]; omega), ti_1]
                                    have bx_381 : (1 ≤ x_381.toInt ∧ x_381.toInt ≤ 14) := by constructor <;> omega
                                    have hclc_382 : (1 ≤ x_381.toInt ∧ x_381.toInt ≤ 13) := by constructor <;> omega
                                    refine lv_iload hx hb dX12_goes_221 (lv_at hl 1 rfl) ?_
                                    have hcut_384 : ∀ (y_383 : Int32), (0 ≤ y_383.toInt ∧ y_383.toInt ≤ 13) → ((y_195.toInt = 0 ∧ y_383.toInt = p4.toInt) ∨ (y_195.toInt ≠ 0 ∧ y_383.toInt = p4.toInt + 1)) → ∀ (ls : Array Slot), lv_has ls 11 [(10, .int y_198), (9, .int y_195), (8, .int y_193), (7, .int x_192), (6, .int y_124), (0, .ref o0), (1, .int p1), (2, .int p2), (3, .int p3), (4, .int p4), (5, .int p5)] → W p l e (headSpec (wU yX12_goes cX12_goes 11 none) { frames := 8 + (n_ + 1), cells := 0, slots := 0, locals := 205 + (n_ + 1) * 30 }).room s m [.ref o0, .int p1, .int p2, .int p3, .int p4, .int p5].toArray below meth c H locs 0 0 (MQ below (va_Qv (fun (f9 : Nat → va_E) => GI (okc cI cL cZ cR cG cH L kd) kd L f9 ∧ (∀ b, kd b ≠ 12 → kd b ≠ 579 → kd b ≠ 581 → kd b ≠ 583 → kd b ≠ 585 → kd b ≠ 587 → kd b ≠ 588 → kd b ≠ 590 → kd b ≠ 591 → kd b ≠ 592 → kd b ≠ 593 → kd b ≠ 603 → f9 b = f b) ∧ (∀ b, kd b = 12 → ∀ j, fldR (f9 b) j = fldR (f b) j) ∧ (∀ b, kd b = 12 → ∀ j, j ≠ 27 → j ≠ 29 → j ≠ 32 → fldI (f9 b) j = fldI (f b) j) ∧ (∀ (w25 z25 : Int32) (w27 z27 : Int32) (w29 z29 : Int32), fldI (f o0) 25 = some w25 → fldI (f o0) 27 = some w27 → fldI (f o0) 29 = some w29 → fldI (f9 o0) 25 = some z25 → fldI (f9 o0) 27 = some z27 → fldI (f9 o0) 29 = some z29 → (z27.toInt = 1 ∨ z29.toInt ≤ 200) ∧ (w25.toInt ≤ 1 ∨ z29.toInt = w29.toInt)) ∧ (srel kd 592 f9 o0)) (qP (dC, dI) cI cL cZ cR cG cH L) (fun q => q ∈ L)) [.ref o0, .int p1, .int p2, .int p3, .int p4, .int p5].toArray s 0 0 (fun q => q ∈ L)) (F0 m 235 ls [.int y_383, .int x_381, .int p2, .int x_379, .ref o0]) := by
                                      intro y_383 by_383 hjhcut_384_0 ls hl
                                      refine lv_iload hx hb dX12_goes_235 (lv_at hl 10 rfl) ?_
                                      refine tk_VvP (As := [.int x_379, .int p2, .int x_381, .int y_383, .int p5]) (rest := []) (n := 5) hx hb hml hown hU hN hZ (ih_rec f_373 hG o0 mo0 ko0 x_379 (by constructor <;> omega) p2 (by constructor <;> omega) x_381 (by constructor <;> omega) y_383 (by constructor <;> omega) p5 (by intro w23 w25 w27 w29 e23 e25 e27 e29; rw [hfo_374] at e23 e25 e27 e29; obtain rfl := Option.some.inj e23; obtain rfl := Option.some.inj e25; obtain rfl := Option.some.inj e27; obtain rfl := Option.some.inj e29; omega) (by omega) hT0 (by omega)) wd_886 wd_887 wd_888 wd_5 wd_889 (by decide +kernel) ⟨(show (8 + n_) + 1 ≤ 8 + (n_ + 1) by omega), (show 8 + (11 + 11) + (205 + n_ * 30) ≤ 205 + (n_ + 1) * 30 by omega)⟩ hK hP hD hS mo0 hfo_374 12 rfl rfl rfl hl.1 rfl (Nat.le_of_ble_eq_true rfl) dX12_goes_237 ⟨Nat.le_of_ble_eq_true rfl, Nat.le_of_ble_eq_true rfl⟩ (fun f_386 H locs hw hP hD hS => ?_)
                                      obtain ⟨hG, hkc_387, hra_388, hfa_389, hpost_390, hTc_391⟩ := hw
                                      have hfo_393 : f_386 a_2 = .inl (cI, 1560, .inl g_185) := by rw [hkc_387 a_2 (by rw [ka_2]; decide) (by rw [ka_2]; decide) (by rw [ka_2]; decide) (by rw [ka_2]; decide) (by rw [ka_2]; decide) (by rw [ka_2]; decide) (by rw [ka_2]; decide) (by rw [ka_2]; decide) (by rw [ka_2]; decide) (by rw [ka_2]; decide) (by rw [ka_2]; decide) (by rw [ka_2]; decide)]; exact hfo_375
                                      have hfo_394 : f_386 a_23 = .inl (cI, 16, .inl g_361) := by rw [hkc_387 a_23 (by rw [ka_23]; decide) (by rw [ka_23]; decide) (by rw [ka_23]; decide) (by rw [ka_23]; decide) (by rw [ka_23]; decide) (by rw [ka_23]; decide) (by rw [ka_23]; decide) (by rw [ka_23]; decide) (by rw [ka_23]; decide) (by rw [ka_23]; decide) (by rw [ka_23]; decide) (by rw [ka_23]; decide)]; exact hfo_376
                                      have hfr0 : ∀ b, kd b ≠ 12 → kd b ≠ 579 → kd b ≠ 581 → kd b ≠ 583 → kd b ≠ 585 → kd b ≠ 587 → kd b ≠ 588 → kd b ≠ 590 → kd b ≠ 591 → kd b ≠ 592 → kd b ≠ 593 → kd b ≠ 603 → f_386 b = f b := fun b q12 q579 q581 q583 q585 q587 q588 q590 q591 q592 q593 q603 => (hkc_387 b q12 q579 q581 q583 q585 q587 q588 q590 q591 q592 q593 q603).trans (hfr0 b q12 q579 q581 q583 q585 q587 q588 q590 q591 q592 q593 q603)
                                      have hrA12 : ∀ b, kd b = 12 → ∀ j, fldR (f_386 b) j = fldR (f b) j := fun b kb j => (hra_388 b kb j).trans (hrA12 b kb j)
                                      have hfA12 : ∀ b, kd b = 12 → ∀ j, j ≠ 27 → j ≠ 29 → j ≠ 32 → fldI (f_386 b) j = fldI (f b) j := fun b kb j n27 n29 n32 => (hfa_389 b kb j n27 n29 n32).trans (hfA12 b kb j n27 n29 n32)
                                      obtain ⟨a_396, a_397, a_398, v_399, a_400, v_401, v_402, v_403, v_404, v_405, v_406, v_407, v_408, v_409, v_410, a_411, a_412, a_413, a_414, a_415, a_416, a_417, a_418, v_419, v_420, v_421, v_422, v_423, a_424, v_425, a_426, a_427, v_428, v_429, a_430, v_431, a_432, a_433, v_434, v_435, a_436, a_437, a_438, v_439, a_440, a_441, a_442, a_443, a_444, a_445, a_446, a_447, a_448, v_449, v_450, a_451, hfo_395, ⟨ma_396, ka_396⟩, ⟨ma_397, ka_397⟩, ⟨ma_398, ka_398⟩, bv_399, ⟨ma_400, ka_400⟩, bv_401, bv_402, bv_407, bv_408, bv_409, ⟨ma_411, ka_411⟩, ⟨ma_412, ka_412⟩, ⟨ma_413, ka_413⟩, ⟨ma_414, ka_414⟩, ⟨ma_415, ka_415⟩, ⟨ma_416, ka_416⟩, ⟨ma_417, ka_417⟩, ⟨ma_418, ka_418⟩, bv_419, bv_421, bv_423, ⟨ma_424, ka_424⟩, bv_425, ⟨ma_426, ka_426⟩, ⟨ma_427, ka_427⟩, bv_428, ⟨ma_430, ka_430⟩, bv_431, ⟨ma_432, ka_432⟩, ⟨ma_433, ka_433⟩, bv_434, ⟨ma_436, ka_436⟩, ⟨ma_437, ka_437⟩, ⟨ma_438, ka_438⟩, bv_439, ⟨ma_440, ka_440⟩, ⟨ma_441, ka_441⟩, ⟨ma_442, ka_442⟩, ⟨ma_443, ka_443⟩, ⟨ma_444, ka_444⟩, ⟨ma_445, ka_445⟩, ⟨ma_446, ka_446⟩, ⟨ma_447, ka_447⟩, ⟨ma_448, ka_448⟩, bv_449, ⟨ma_451, ka_451⟩⟩ := un_12 (hG _ mo0) ko0
                                      have bv_403 : ((-2147483648) ≤ v_403.toInt ∧ v_403.toInt ≤ 2147483647) := ⟨i32_lo _, i32_hi _⟩
                                      have bv_404 : ((-2147483648) ≤ v_404.toInt ∧ v_404.toInt ≤ 2147483647) := ⟨i32_lo _, i32_hi _⟩
                                      have bv_405 : ((-2147483648) ≤ v_405.toInt ∧ v_405.toInt ≤ 2147483647) := ⟨i32_lo _, i32_hi _⟩
                                      have bv_406 : ((-2147483648) ≤ v_406.toInt ∧ v_406.toInt ≤ 2147483647) := ⟨i32_lo _, i32_hi _⟩
                                      have bv_410 : ((-2147483648) ≤ v_410.toInt ∧ v_410.toInt ≤ 2147483647) := ⟨i32_lo _, i32_hi _⟩
                                      have bv_420 : ((-2147483648) ≤ v_420.toInt ∧ v_420.toInt ≤ 2147483647) := ⟨i32_lo _, i32_hi _⟩
                                      have bv_422 : ((-2147483648) ≤ v_422.toInt ∧ v_422.toInt ≤ 2147483647) := ⟨i32_lo _, i32_hi _⟩
                                      have bv_429 : ((-2147483648) ≤ v_429.toInt ∧ v_429.toInt ≤ 2147483647) := ⟨i32_lo _, i32_hi _⟩
                                      have bv_435 : ((-2147483648) ≤ v_435.toInt ∧ v_435.toInt ≤ 2147483647) := ⟨i32_lo _, i32_hi _⟩
                                      have bv_450 : ((-2147483648) ≤ v_450.toInt ∧ v_450.toInt ≤ 2147483647) := ⟨i32_lo _, i32_hi _⟩
                                      obtain ⟨rfl, rfl, rfl, rfl, rfl, rfl, rfl, rfl, rfl, rfl, rfl, rfl, rfl, rfl, rfl, rfl, rfl, rfl, rfl, rfl, rfl, rfl, rfl, rfl, rfl, rfl, rfl, rfl, rfl, rfl, rfl⟩ := re_12 hfo_1 hfo_395 (hrA12 o0 ko0)
                                      obtain rfl := ri_12_3 hfo_1 hfo_395 (hfA12 o0 ko0 3 (by decide) (by decide) (by decide))
                                      obtain rfl := ri_12_5 hfo_1 hfo_395 (hfA12 o0 ko0 5 (by decide) (by decide) (by decide))
                                      obtain rfl := ri_12_6 hfo_1 hfo_395 (hfA12 o0 ko0 6 (by decide) (by decide) (by decide))
                                      obtain rfl := ri_12_11 hfo_1 hfo_395 (hfA12 o0 ko0 11 (by decide) (by decide) (by decide))
                                      obtain rfl := ri_12_12 hfo_1 hfo_395 (hfA12 o0 ko0 12 (by decide) (by decide) (by decide))
                                      obtain rfl := ri_12_13 hfo_1 hfo_395 (hfA12 o0 ko0 13 (by decide) (by decide) (by decide))
                                      obtain rfl := ri_12_14 hfo_1 hfo_395 (hfA12 o0 ko0 14 (by decide) (by decide) (by decide))
                                      obtain rfl := ri_12_23 hfo_1 hfo_395 (hfA12 o0 ko0 23 (by decide) (by decide) (by decide))
                                      obtain rfl := ri_12_25 hfo_1 hfo_395 (hfA12 o0 ko0 25 (by decide) (by decide) (by decide))
                                      obtain rfl := ri_12_33 hfo_1 hfo_395 (hfA12 o0 ko0 33 (by decide) (by decide) (by decide))
                                      obtain rfl := ri_12_35 hfo_1 hfo_395 (hfA12 o0 ko0 35 (by decide) (by decide) (by decide))
                                      obtain rfl := ri_12_38 hfo_1 hfo_395 (hfA12 o0 ko0 38 (by decide) (by decide) (by decide))
                                      obtain rfl := ri_12_43 hfo_1 hfo_395 (hfA12 o0 ko0 43 (by decide) (by decide) (by decide))
                                      obtain rfl := ri_12_53 hfo_1 hfo_395 (hfA12 o0 ko0 53 (by decide) (by decide) (by decide))
                                      have hqhpost_390 := hpost_390 v_27 v_27 v_155 v_423 v_157 v_425 (by rw [hfo_374]; rfl) (by rw [hfo_374]; rfl) (by rw [hfo_374]; rfl) (by rw [hfo_395]; rfl) (by rw [hfo_395]; rfl) (by rw [hfo_395]; rfl)
                                      exact hcut_203 f_386 hG _ _ hP hS hD hfr0 hrA12 hfA12 hfo_393 hTc_391 ls (lv_sub hl [0, 1, 2, 3, 4, 5, 6, 7, 8, 9, 10] rfl)
                                    refine lv_if_ne (tgt := 231) hx hb dX12_goes_223 (by decide) (fun c_452 => ?_) (fun c_452 => ?_)
                                    · skip
                                      rw [← Int32.toInt_inj, ti_0] at c_452
                                      refine lv_iload hx hb dX12_goes_231 (lv_at hl 9 rfl) ?_
                                      refine lv_iconst (v := 1) hx hb dX12_goes_233 (by decide) ?_
                                      refine lv_iadd hx hb dX12_goes_234 ?_
                                      refine lv_topi (fun x_453 ex_453 => ?_)
                                      have hx_453 : x_453.toInt = p4.toInt + 1 := by rw [ex_453, ad_I (by rw [ti_1]; omega) (by rw [ti_1]; omega), ti_1]
                                      have bx_453 : (1 ≤ x_453.toInt ∧ x_453.toInt ≤ 14) := by constructor <;> omega
                                      exact hcut_384 x_453 (by constructor <;> omega) (by omega) ls (lv_sub hl [0, 1, 2, 3, 4, 5, 6, 7, 8, 9, 10] rfl)
                                    · skip
                                      rw [← Int32.toInt_inj, ti_0] at c_452
                                      refine lv_iload hx hb dX12_goes_226 (lv_at hl 9 rfl) ?_
                                      refine lv_goto (tgt := 235) hx hb dX12_goes_228 (by decide) ?_
                                      exact hcut_384 p4 (by constructor <;> omega) (by omega) ls (lv_sub hl [0, 1, 2, 3, 4, 5, 6, 7, 8, 9, 10] rfl)
                                  · skip
                                    rw [← Int32.toInt_inj, ti_0] at c_380
                                    exfalso
                                    omega
                                · skip
                                  rw [← Int32.toInt_inj, ti_0] at c_378
                                  exfalso
                                  omega
                              refine lv_if_eq (tgt := 193) hx hb dX12_goes_181 (by decide) (fun c_454 => ?_) (fun c_454 => ?_)
                              · skip
                                rw [← Int32.toInt_inj, ti_0] at c_454
                                exact hcut_377 f_365 hG _ _ hP hS hD hfr0 hrA12 hfA12 hfo_368 hfo_369 hfo_370 hT0 ls (lv_sub hl [0, 1, 2, 3, 4, 5, 6, 7, 8, 9, 10] rfl)
                              · skip
                                rw [← Int32.toInt_inj, ti_0] at c_454
                                refine lv_aload_n hx hb dX12_goes_184 rfl (lv_at hl 5 rfl) ?_
                                refine tk_getP (D := (dC, dI)) (ci := 12) (v := .ref a_24) (C := RX12) (T := TX12) (N := 56) hx hb hU inlX12 hown hK hP mo0 hfo_368 rfl 22 (by decide) (hU _ wd_182) (fun _ h9 => h9) rfl dX12_goes_185 ?_
                                refine lv_iload hx hb dX12_goes_188 (lv_at hl 9 rfl) ?_
                                refine lv_iload hx hb dX12_goes_190 (lv_at hl 1 rfl) ?_
                                obtain ⟨g_456, hfo_455, hbg_456⟩ := un_590 (hG _ ma_24) ka_24
                                refine tk_istP hx hb hK hP hD hS 0 ma_24 hfo_455 rfl (vp_in_iff.mpr (by constructor <;> omega)) dX12_goes_192 (fun H locs hP hD hS => ?_)
                                obtain ⟨f_458, ef_458⟩ : ∃ y : Nat → va_E, y = va_up f_365 a_24 (.inl (cI, 16, .inl (upd g_456 (Int32.toNatClampNeg p4) y_195))) := ⟨_, rfl⟩
                                have hP : va_P (dC, dI) vwCl (va_pl L f_458) H := by rw [ef_458]; exact hP
                                have hD : va_D (fun q => q ∈ L) (va_pl L f_458) := by rw [ef_458]; exact hD
                                have hG : GI (okc cI cL cZ cR cG cH L kd) kd L f_458 := by rw [ef_458]; exact hG.set a_24 (mk_590 ka_24 ⟨_, rfl, okI_up hbg_456 (by constructor <;> omega) _⟩)
                                have hfo_459 : f_458 o0 = .inr (12, [.ref a_2, .ref a_3, .ref a_4, .int v_5, .ref a_6, .int v_7, .int v_8, .int v_135, .int v_136, .int v_137, .int v_138, .int v_13, .int v_14, .int v_15, .int v_16, .ref a_17, .ref a_18, .ref a_19, .ref a_20, .ref a_21, .ref a_22, .ref a_23, .ref a_24, .int v_25, .int v_152, .int v_27, .int v_154, .int v_155, .ref a_30, .int v_157, .ref a_32, .ref a_33, .int v_160, .int v_35, .ref a_36, .int v_37, .ref a_38, .ref a_39, .int v_40, .int v_167, .ref a_42, .ref a_43, .ref a_44, .int v_45, .ref a_46, .ref a_47, .ref a_48, .ref a_49, .ref a_50, .ref a_51, .ref a_52, .ref a_53, .ref a_54, .int v_55, .int v_182, .ref a_57]) := by rw [ef_458, up_ne (kd_ne ka_24 ko0 (by decide))]; exact hfo_368
                                have hfo_460 : f_458 a_2 = .inl (cI, 1560, .inl g_185) := by rw [ef_458, up_ne (kd_ne ka_24 ka_2 (by decide))]; exact hfo_369
                                have hfo_461 : f_458 a_23 = .inl (cI, 16, .inl g_361) := by rw [ef_458, up_ne (kd_ne ka_24 ka_23 (by decide))]; exact hfo_370
                                have hfr0 : ∀ b, kd b ≠ 12 → kd b ≠ 579 → kd b ≠ 581 → kd b ≠ 583 → kd b ≠ 585 → kd b ≠ 587 → kd b ≠ 588 → kd b ≠ 590 → kd b ≠ 591 → kd b ≠ 592 → kd b ≠ 593 → kd b ≠ 603 → f_458 b = f b := fun b q12 q579 q581 q583 q585 q587 q588 q590 q591 q592 q593 q603 => (congrFun ef_458 b).trans ((up_ne (fun e9 => q590 (by rw [e9]; exact ka_24))).trans (hfr0 b q12 q579 q581 q583 q585 q587 q588 q590 q591 q592 q593 q603))
                                have hrA12 : ∀ b, kd b = 12 → ∀ j, fldR (f_458 b) j = fldR (f b) j := fun b kb j => (congrArg (fun x => fldR x j) ((congrFun ef_458 b).trans (up_ne (kd_ne ka_24 kb (by decide))))).trans (hrA12 b kb j)
                                have hfA12 : ∀ b, kd b = 12 → ∀ j, j ≠ 27 → j ≠ 29 → j ≠ 32 → fldI (f_458 b) j = fldI (f b) j := fun b kb j n27 n29 n32 => (congrArg (fun x => fldI x j) ((congrFun ef_458 b).trans (up_ne (kd_ne ka_24 kb (by decide))))).trans (hfA12 b kb j n27 n29 n32)
                                have hT0 : srel kd 592 f_458 o0 := by rw [ef_458]; exact hT0.keep (fun b q => congrArg (fun x => fldR x 30) (up_ne (kd_ne ka_24 q (by decide)))) (fun b q => congrArg (fun x => fldI x 32) (up_ne (kd_ne ka_24 q (by decide)))) (fun b q => congrArg (fun x => fldI x 33) (up_ne (kd_ne ka_24 q (by decide)))) (fun b q => up_ne (kd_ne ka_24 q (by decide)))
                                have hfo_462 : f_458 a_24 = .inl (cI, 16, .inl (upd g_456 (Int32.toNatClampNeg p4) y_195)) := by rw [ef_458]; exact up_self
                                exact hcut_377 f_458 hG _ _ hP hS hD hfr0 hrA12 hfA12 hfo_459 hfo_460 hfo_461 hT0 ls (lv_sub hl [0, 1, 2, 3, 4, 5, 6, 7, 8, 9, 10] rfl)
                            · skip
                              rw [← Int32.toInt_inj, ti_0] at c_371
                              refine lv_goto (tgt := 240) hx hb dX12_goes_176 (by decide) ?_
                              exact hcut_203 f_365 hG _ _ hP hS hD hfr0 hrA12 hfA12 hfo_369 hT0 ls (lv_sub hl [0, 1, 2, 3, 4, 5, 6, 7, 8, 9, 10] rfl)
                          · skip
                            rw [← Int32.toInt_inj] at c_363
                            refine lv_goto (tgt := 240) hx hb dX12_goes_161 (by decide) ?_
                            exact hcut_203 f_126 hG _ _ hP hS hD hfr0 hrA12 hfA12 hfo_184 hT0 ls (lv_sub hl [0, 1, 2, 3, 4, 5, 6, 7, 8, 9, 10] rfl)
                    · skip
                      rw [← Int32.toInt_inj, ti_0] at c_262
                      refine lv_iload_n hx hb dX12_goes_133 rfl (lv_at hl 7 rfl) ?_
                      refine lv_if_eq (tgt := 240) hx hb dX12_goes_134 (by decide) (fun c_463 => ?_) (fun c_463 => ?_)
                      · skip
                        rw [← Int32.toInt_inj, ti_0] at c_463
                        exact hcut_203 f_126 hG _ _ hP hS hD hfr0 hrA12 hfA12 hfo_184 hT0 ls (lv_sub hl [0, 1, 2, 3, 4, 5, 6, 7, 8, 9, 10] rfl)
                      · skip
                        rw [← Int32.toInt_inj, ti_0] at c_463
                        refine lv_iload hx hb dX12_goes_137 (lv_at hl 2 rfl) ?_
                        refine lv_if_eq (tgt := 164) hx hb dX12_goes_139 (by decide) (fun c_464 => ?_) (fun c_464 => ?_)
                        · skip
                          rw [← Int32.toInt_inj, ti_0] at c_464
                          refine lv_aload_n hx hb dX12_goes_164 rfl (lv_at hl 5 rfl) ?_
                          refine lv_iload_n hx hb dX12_goes_165 rfl (lv_at hl 8 rfl) ?_
                          refine lv_iload hx hb dX12_goes_166 (lv_at hl 3 rfl) ?_
                          refine lv_iload hx hb dX12_goes_168 (lv_at hl 10 rfl) ?_
                          refine tk_ViP (As := [.int p3, .int x_192, .int p5]) (rest := []) (n := 3) hx hb hml hown hU hN hZ (s_X12_reads_k12 l (dC, dI) cI cL cZ cR cG cH Z kd L f_126 hG o0 mo0 ko0 p3 (by constructor <;> omega) x_192 p5) wd_950 wd_951 wd_952 wd_5 wd_953 (by decide +kernel) ⟨(show 4 + 1 ≤ 8 + (n_ + 1) by omega), (show 8 + (5 + 11) + 105 ≤ 205 + (n_ + 1) * 30 by omega)⟩ hK hP hD hS mo0 hfo_127 12 rfl rfl rfl hl.1 rfl (Nat.le_of_ble_eq_true rfl) dX12_goes_170 ⟨Nat.le_of_ble_eq_true rfl, Nat.le_of_ble_eq_true rfl⟩ (fun x_465 f_466 H locs hw hP hD hS => ?_)
                          obtain ⟨hG, bx_465, hkc_467⟩ := hw
                          have hfo_469 : f_466 o0 = .inr (12, [.ref a_2, .ref a_3, .ref a_4, .int v_5, .ref a_6, .int v_7, .int v_8, .int v_135, .int v_136, .int v_137, .int v_138, .int v_13, .int v_14, .int v_15, .int v_16, .ref a_17, .ref a_18, .ref a_19, .ref a_20, .ref a_21, .ref a_22, .ref a_23, .ref a_24, .int v_25, .int v_152, .int v_27, .int v_154, .int v_155, .ref a_30, .int v_157, .ref a_32, .ref a_33, .int v_160, .int v_35, .ref a_36, .int v_37, .ref a_38, .ref a_39, .int v_40, .int v_167, .ref a_42, .ref a_43, .ref a_44, .int v_45, .ref a_46, .ref a_47, .ref a_48, .ref a_49, .ref a_50, .ref a_51, .ref a_52, .ref a_53, .ref a_54, .int v_55, .int v_182, .ref a_57]) := by rw [hkc_467 o0 (by rw [ko0]; decide) (by rw [ko0]; decide) (by rw [ko0]; decide) (by rw [ko0]; decide) (by rw [ko0]; decide) (by rw [ko0]; decide)]; exact hfo_127
                          have hfo_470 : f_466 a_2 = .inl (cI, 1560, .inl g_185) := by rw [hkc_467 a_2 (by rw [ka_2]; decide) (by rw [ka_2]; decide) (by rw [ka_2]; decide) (by rw [ka_2]; decide) (by rw [ka_2]; decide) (by rw [ka_2]; decide)]; exact hfo_184
                          have hfr0 : ∀ b, kd b ≠ 12 → kd b ≠ 579 → kd b ≠ 581 → kd b ≠ 583 → kd b ≠ 585 → kd b ≠ 587 → kd b ≠ 588 → kd b ≠ 590 → kd b ≠ 591 → kd b ≠ 592 → kd b ≠ 593 → kd b ≠ 603 → f_466 b = f b := fun b q12 q579 q581 q583 q585 q587 q588 q590 q591 q592 q593 q603 => (hkc_467 b q579 q581 q583 q585 q587 q588).trans (hfr0 b q12 q579 q581 q583 q585 q587 q588 q590 q591 q592 q593 q603)
                          have hrA12 : ∀ b, kd b = 12 → ∀ j, fldR (f_466 b) j = fldR (f b) j := fun b kb j => (congrArg (fun x => fldR x j) (hkc_467 b (by rw [kb]; decide) (by rw [kb]; decide) (by rw [kb]; decide) (by rw [kb]; decide) (by rw [kb]; decide) (by rw [kb]; decide))).trans (hrA12 b kb j)
                          have hfA12 : ∀ b, kd b = 12 → ∀ j, j ≠ 27 → j ≠ 29 → j ≠ 32 → fldI (f_466 b) j = fldI (f b) j := fun b kb j n27 n29 n32 => (congrArg (fun x => fldI x j) (hkc_467 b (by rw [kb]; decide) (by rw [kb]; decide) (by rw [kb]; decide) (by rw [kb]; decide) (by rw [kb]; decide) (by rw [kb]; decide))).trans (hfA12 b kb j n27 n29 n32)
                          have hT0 : srel kd 592 f_466 o0 := hT0.keep (fun b q => congrArg (fun x => fldR x 30) (hkc_467 b (by rw [q]; decide) (by rw [q]; decide) (by rw [q]; decide) (by rw [q]; decide) (by rw [q]; decide) (by rw [q]; decide))) (fun b q => congrArg (fun x => fldI x 32) (hkc_467 b (by rw [q]; decide) (by rw [q]; decide) (by rw [q]; decide) (by rw [q]; decide) (by rw [q]; decide) (by rw [q]; decide))) (fun b q => congrArg (fun x => fldI x 33) (hkc_467 b (by rw [q]; decide) (by rw [q]; decide) (by rw [q]; decide) (by rw [q]; decide) (by rw [q]; decide) (by rw [q]; decide))) (fun b q => hkc_467 b (by rw [q]; decide) (by rw [q]; decide) (by rw [q]; decide) (by rw [q]; decide) (by rw [q]; decide) (by rw [q]; decide))
                          refine lv_if_ne (tgt := 179) hx hb dX12_goes_173 (by decide) (fun c_471 => ?_) (fun c_471 => ?_)
                          · skip
                            rw [← Int32.toInt_inj, ti_0] at c_471
                            refine lv_iload hx hb dX12_goes_179 (lv_at hl 1 rfl) ?_
                            have hcut_476 : ∀ (f_473 : Nat → va_E), GI (okc cI cL cZ cR cG cH L kd) kd L f_473 → ∀ (H : Heap) (locs : List Loc), va_P (dC, dI) vwCl (va_pl L f_473) H → va_S (fun q => q ∈ L) s.heap H locs → va_D (fun q => q ∈ L) (va_pl L f_473) → (∀ b, kd b ≠ 12 → kd b ≠ 579 → kd b ≠ 581 → kd b ≠ 583 → kd b ≠ 585 → kd b ≠ 587 → kd b ≠ 588 → kd b ≠ 590 → kd b ≠ 591 → kd b ≠ 592 → kd b ≠ 593 → kd b ≠ 603 → f_473 b = f b) → (∀ b, kd b = 12 → ∀ j, fldR (f_473 b) j = fldR (f b) j) → (∀ b, kd b = 12 → ∀ j, j ≠ 27 → j ≠ 29 → j ≠ 32 → fldI (f_473 b) j = fldI (f b) j) → (f_473 o0 = .inr (12, [.ref a_2, .ref a_3, .ref a_4, .int v_5, .ref a_6, .int v_7, .int v_8, .int v_135, .int v_136, .int v_137, .int v_138, .int v_13, .int v_14, .int v_15, .int v_16, .ref a_17, .ref a_18, .ref a_19, .ref a_20, .ref a_21, .ref a_22, .ref a_23, .ref a_24, .int v_25, .int v_152, .int v_27, .int v_154, .int v_155, .ref a_30, .int v_157, .ref a_32, .ref a_33, .int v_160, .int v_35, .ref a_36, .int v_37, .ref a_38, .ref a_39, .int v_40, .int v_167, .ref a_42, .ref a_43, .ref a_44, .int v_45, .ref a_46, .ref a_47, .ref a_48, .ref a_49, .ref a_50, .ref a_51, .ref a_52, .ref a_53, .ref a_54, .int v_55, .int v_182, .ref a_57])) → (f_473 a_2 = .inl (cI, 1560, .inl g_185)) → srel kd 592 f_473 o0 → ∀ (ls : Array Slot), lv_has ls 11 [(10, .int y_198), (9, .int y_195), (8, .int y_193), (7, .int x_192), (6, .int y_124), (0, .ref o0), (1, .int p1), (2, .int p2), (3, .int p3), (4, .int p4), (5, .int p5)] → W p l e (headSpec (wU yX12_goes cX12_goes 11 none) { frames := 8 + (n_ + 1), cells := 0, slots := 0, locals := 205 + (n_ + 1) * 30 }).room s m [.ref o0, .int p1, .int p2, .int p3, .int p4, .int p5].toArray below meth c H locs 0 0 (MQ below (va_Qv (fun (f9 : Nat → va_E) => GI (okc cI cL cZ cR cG cH L kd) kd L f9 ∧ (∀ b, kd b ≠ 12 → kd b ≠ 579 → kd b ≠ 581 → kd b ≠ 583 → kd b ≠ 585 → kd b ≠ 587 → kd b ≠ 588 → kd b ≠ 590 → kd b ≠ 591 → kd b ≠ 592 → kd b ≠ 593 → kd b ≠ 603 → f9 b = f b) ∧ (∀ b, kd b = 12 → ∀ j, fldR (f9 b) j = fldR (f b) j) ∧ (∀ b, kd b = 12 → ∀ j, j ≠ 27 → j ≠ 29 → j ≠ 32 → fldI (f9 b) j = fldI (f b) j) ∧ (∀ (w25 z25 : Int32) (w27 z27 : Int32) (w29 z29 : Int32), fldI (f o0) 25 = some w25 → fldI (f o0) 27 = some w27 → fldI (f o0) 29 = some w29 → fldI (f9 o0) 25 = some z25 → fldI (f9 o0) 27 = some z27 → fldI (f9 o0) 29 = some z29 → (z27.toInt = 1 ∨ z29.toInt ≤ 200) ∧ (w25.toInt ≤ 1 ∨ z29.toInt = w29.toInt)) ∧ (srel kd 592 f9 o0)) (qP (dC, dI) cI cL cZ cR cG cH L) (fun q => q ∈ L)) [.ref o0, .int p1, .int p2, .int p3, .int p4, .int p5].toArray s 0 0 (fun q => q ∈ L)) (F0 m 193 ls []) := by
                              intro f_473 hG H locs hP hS hD hfr0 hrA12 hfA12 hfo_474 hfo_475 hT0 ls hl
                              refine lv_aload_n hx hb dX12_goes_193 rfl (lv_at hl 5 rfl) ?_
                              refine lv_iload hx hb dX12_goes_194 (lv_at hl 2 rfl) ?_
                              refine lv_if_ne (tgt := 203) hx hb dX12_goes_196 (by decide) (fun c_477 => ?_) (fun c_477 => ?_)
                              · skip
                                rw [← Int32.toInt_inj, ti_0] at c_477
                                exfalso
                                omega
                              · skip
                                rw [← Int32.toInt_inj, ti_0] at c_477
                                refine lv_iload_n hx hb dX12_goes_199 rfl (lv_at hl 6 rfl) ?_
                                refine lv_goto (tgt := 206) hx hb dX12_goes_200 (by decide) ?_
                                refine lv_iload hx hb dX12_goes_206 (lv_at hl 0 rfl) ?_
                                refine lv_if_eq (tgt := 217) hx hb dX12_goes_208 (by decide) (fun c_478 => ?_) (fun c_478 => ?_)
                                · skip
                                  rw [← Int32.toInt_inj, ti_0] at c_478
                                  exfalso
                                  omega
                                · skip
                                  rw [← Int32.toInt_inj, ti_0] at c_478
                                  refine lv_iload_n hx hb dX12_goes_211 rfl (lv_at hl 7 rfl) ?_
                                  refine lv_iconst (v := 1) hx hb dX12_goes_212 (by decide) ?_
                                  refine lv_isub hx hb dX12_goes_213 ?_
                                  refine lv_topi (fun x_479 ex_479 => ?_)
                                  have hx_479 : x_479.toInt = p2.toInt - 1 := by rw [ex_479, sb_I (by rw [ti_1]; omega) (by rw [ti_1]; omega), ti_1]
                                  have bx_479 : (0 ≤ x_479.toInt ∧ x_479.toInt ≤ 0) := by constructor <;> omega
                                  refine lv_goto (tgt := 218) hx hb dX12_goes_214 (by decide) ?_
                                  refine lv_iload_n hx hb dX12_goes_218 rfl (lv_at hl 8 rfl) ?_
                                  refine lv_iconst (v := 1) hx hb dX12_goes_219 (by decide) ?_
                                  refine lv_iadd hx hb dX12_goes_220 ?_
                                  refine lv_topi (fun x_480 ex_480 => ?_)
                                  have hx_480 : x_480.toInt = p3.toInt + 1 := by rw [ex_480, ad_I (by rw [ti_1]; omega) (by rw [ti_1]; omega), ti_1]
                                  have bx_480 : (1 ≤ x_480.toInt ∧ x_480.toInt ≤ 14) := by constructor <;> omega
                                  have hclc_481 : (1 ≤ x_480.toInt ∧ x_480.toInt ≤ 13) := by constructor <;> omega
                                  refine lv_iload hx hb dX12_goes_221 (lv_at hl 1 rfl) ?_
                                  have hcut_483 : ∀ (y_482 : Int32), (0 ≤ y_482.toInt ∧ y_482.toInt ≤ 13) → ((y_195.toInt = 0 ∧ y_482.toInt = p4.toInt) ∨ (y_195.toInt ≠ 0 ∧ y_482.toInt = p4.toInt + 1)) → ∀ (ls : Array Slot), lv_has ls 11 [(10, .int y_198), (9, .int y_195), (8, .int y_193), (7, .int x_192), (6, .int y_124), (0, .ref o0), (1, .int p1), (2, .int p2), (3, .int p3), (4, .int p4), (5, .int p5)] → W p l e (headSpec (wU yX12_goes cX12_goes 11 none) { frames := 8 + (n_ + 1), cells := 0, slots := 0, locals := 205 + (n_ + 1) * 30 }).room s m [.ref o0, .int p1, .int p2, .int p3, .int p4, .int p5].toArray below meth c H locs 0 0 (MQ below (va_Qv (fun (f9 : Nat → va_E) => GI (okc cI cL cZ cR cG cH L kd) kd L f9 ∧ (∀ b, kd b ≠ 12 → kd b ≠ 579 → kd b ≠ 581 → kd b ≠ 583 → kd b ≠ 585 → kd b ≠ 587 → kd b ≠ 588 → kd b ≠ 590 → kd b ≠ 591 → kd b ≠ 592 → kd b ≠ 593 → kd b ≠ 603 → f9 b = f b) ∧ (∀ b, kd b = 12 → ∀ j, fldR (f9 b) j = fldR (f b) j) ∧ (∀ b, kd b = 12 → ∀ j, j ≠ 27 → j ≠ 29 → j ≠ 32 → fldI (f9 b) j = fldI (f b) j) ∧ (∀ (w25 z25 : Int32) (w27 z27 : Int32) (w29 z29 : Int32), fldI (f o0) 25 = some w25 → fldI (f o0) 27 = some w27 → fldI (f o0) 29 = some w29 → fldI (f9 o0) 25 = some z25 → fldI (f9 o0) 27 = some z27 → fldI (f9 o0) 29 = some z29 → (z27.toInt = 1 ∨ z29.toInt ≤ 200) ∧ (w25.toInt ≤ 1 ∨ z29.toInt = w29.toInt)) ∧ (srel kd 592 f9 o0)) (qP (dC, dI) cI cL cZ cR cG cH L) (fun q => q ∈ L)) [.ref o0, .int p1, .int p2, .int p3, .int p4, .int p5].toArray s 0 0 (fun q => q ∈ L)) (F0 m 235 ls [.int y_482, .int x_480, .int x_479, .int p1, .ref o0]) := by
                                    intro y_482 by_482 hjhcut_483_0 ls hl
                                    refine lv_iload hx hb dX12_goes_235 (lv_at hl 10 rfl) ?_
                                    refine tk_VvP (As := [.int p1, .int x_479, .int x_480, .int y_482, .int p5]) (rest := []) (n := 5) hx hb hml hown hU hN hZ (ih_rec f_473 hG o0 mo0 ko0 p1 (by constructor <;> omega) x_479 (by constructor <;> omega) x_480 (by constructor <;> omega) y_482 (by constructor <;> omega) p5 (by intro w23 w25 w27 w29 e23 e25 e27 e29; rw [hfo_474] at e23 e25 e27 e29; obtain rfl := Option.some.inj e23; obtain rfl := Option.some.inj e25; obtain rfl := Option.some.inj e27; obtain rfl := Option.some.inj e29; omega) (by omega) hT0 (by omega)) wd_886 wd_887 wd_888 wd_5 wd_889 (by decide +kernel) ⟨(show (8 + n_) + 1 ≤ 8 + (n_ + 1) by omega), (show 8 + (11 + 11) + (205 + n_ * 30) ≤ 205 + (n_ + 1) * 30 by omega)⟩ hK hP hD hS mo0 hfo_474 12 rfl rfl rfl hl.1 rfl (Nat.le_of_ble_eq_true rfl) dX12_goes_237 ⟨Nat.le_of_ble_eq_true rfl, Nat.le_of_ble_eq_true rfl⟩ (fun f_485 H locs hw hP hD hS => ?_)
                                    obtain ⟨hG, hkc_486, hra_487, hfa_488, hpost_489, hTc_490⟩ := hw
                                    have hfo_492 : f_485 a_2 = .inl (cI, 1560, .inl g_185) := by rw [hkc_486 a_2 (by rw [ka_2]; decide) (by rw [ka_2]; decide) (by rw [ka_2]; decide) (by rw [ka_2]; decide) (by rw [ka_2]; decide) (by rw [ka_2]; decide) (by rw [ka_2]; decide) (by rw [ka_2]; decide) (by rw [ka_2]; decide) (by rw [ka_2]; decide) (by rw [ka_2]; decide) (by rw [ka_2]; decide)]; exact hfo_475
                                    have hfr0 : ∀ b, kd b ≠ 12 → kd b ≠ 579 → kd b ≠ 581 → kd b ≠ 583 → kd b ≠ 585 → kd b ≠ 587 → kd b ≠ 588 → kd b ≠ 590 → kd b ≠ 591 → kd b ≠ 592 → kd b ≠ 593 → kd b ≠ 603 → f_485 b = f b := fun b q12 q579 q581 q583 q585 q587 q588 q590 q591 q592 q593 q603 => (hkc_486 b q12 q579 q581 q583 q585 q587 q588 q590 q591 q592 q593 q603).trans (hfr0 b q12 q579 q581 q583 q585 q587 q588 q590 q591 q592 q593 q603)
                                    have hrA12 : ∀ b, kd b = 12 → ∀ j, fldR (f_485 b) j = fldR (f b) j := fun b kb j => (hra_487 b kb j).trans (hrA12 b kb j)
                                    have hfA12 : ∀ b, kd b = 12 → ∀ j, j ≠ 27 → j ≠ 29 → j ≠ 32 → fldI (f_485 b) j = fldI (f b) j := fun b kb j n27 n29 n32 => (hfa_488 b kb j n27 n29 n32).trans (hfA12 b kb j n27 n29 n32)
                                    obtain ⟨a_494, a_495, a_496, v_497, a_498, v_499, v_500, v_501, v_502, v_503, v_504, v_505, v_506, v_507, v_508, a_509, a_510, a_511, a_512, a_513, a_514, a_515, a_516, v_517, v_518, v_519, v_520, v_521, a_522, v_523, a_524, a_525, v_526, v_527, a_528, v_529, a_530, a_531, v_532, v_533, a_534, a_535, a_536, v_537, a_538, a_539, a_540, a_541, a_542, a_543, a_544, a_545, a_546, v_547, v_548, a_549, hfo_493, ⟨ma_494, ka_494⟩, ⟨ma_495, ka_495⟩, ⟨ma_496, ka_496⟩, bv_497, ⟨ma_498, ka_498⟩, bv_499, bv_500, bv_505, bv_506, bv_507, ⟨ma_509, ka_509⟩, ⟨ma_510, ka_510⟩, ⟨ma_511, ka_511⟩, ⟨ma_512, ka_512⟩, ⟨ma_513, ka_513⟩, ⟨ma_514, ka_514⟩, ⟨ma_515, ka_515⟩, ⟨ma_516, ka_516⟩, bv_517, bv_519, bv_521, ⟨ma_522, ka_522⟩, bv_523, ⟨ma_524, ka_524⟩, ⟨ma_525, ka_525⟩, bv_526, ⟨ma_528, ka_528⟩, bv_529, ⟨ma_530, ka_530⟩, ⟨ma_531, ka_531⟩, bv_532, ⟨ma_534, ka_534⟩, ⟨ma_535, ka_535⟩, ⟨ma_536, ka_536⟩, bv_537, ⟨ma_538, ka_538⟩, ⟨ma_539, ka_539⟩, ⟨ma_540, ka_540⟩, ⟨ma_541, ka_541⟩, ⟨ma_542, ka_542⟩, ⟨ma_543, ka_543⟩, ⟨ma_544, ka_544⟩, ⟨ma_545, ka_545⟩, ⟨ma_546, ka_546⟩, bv_547, ⟨ma_549, ka_549⟩⟩ := un_12 (hG _ mo0) ko0
                                    have bv_501 : ((-2147483648) ≤ v_501.toInt ∧ v_501.toInt ≤ 2147483647) := ⟨i32_lo _, i32_hi _⟩
                                    have bv_502 : ((-2147483648) ≤ v_502.toInt ∧ v_502.toInt ≤ 2147483647) := ⟨i32_lo _, i32_hi _⟩
                                    have bv_503 : ((-2147483648) ≤ v_503.toInt ∧ v_503.toInt ≤ 2147483647) := ⟨i32_lo _, i32_hi _⟩
                                    have bv_504 : ((-2147483648) ≤ v_504.toInt ∧ v_504.toInt ≤ 2147483647) := ⟨i32_lo _, i32_hi _⟩
                                    have bv_508 : ((-2147483648) ≤ v_508.toInt ∧ v_508.toInt ≤ 2147483647) := ⟨i32_lo _, i32_hi _⟩
                                    have bv_518 : ((-2147483648) ≤ v_518.toInt ∧ v_518.toInt ≤ 2147483647) := ⟨i32_lo _, i32_hi _⟩
                                    have bv_520 : ((-2147483648) ≤ v_520.toInt ∧ v_520.toInt ≤ 2147483647) := ⟨i32_lo _, i32_hi _⟩
                                    have bv_527 : ((-2147483648) ≤ v_527.toInt ∧ v_527.toInt ≤ 2147483647) := ⟨i32_lo _, i32_hi _⟩
                                    have bv_533 : ((-2147483648) ≤ v_533.toInt ∧ v_533.toInt ≤ 2147483647) := ⟨i32_lo _, i32_hi _⟩
                                    have bv_548 : ((-2147483648) ≤ v_548.toInt ∧ v_548.toInt ≤ 2147483647) := ⟨i32_lo _, i32_hi _⟩
                                    obtain ⟨rfl, rfl, rfl, rfl, rfl, rfl, rfl, rfl, rfl, rfl, rfl, rfl, rfl, rfl, rfl, rfl, rfl, rfl, rfl, rfl, rfl, rfl, rfl, rfl, rfl, rfl, rfl, rfl, rfl, rfl, rfl⟩ := re_12 hfo_1 hfo_493 (hrA12 o0 ko0)
                                    obtain rfl := ri_12_3 hfo_1 hfo_493 (hfA12 o0 ko0 3 (by decide) (by decide) (by decide))
                                    obtain rfl := ri_12_5 hfo_1 hfo_493 (hfA12 o0 ko0 5 (by decide) (by decide) (by decide))
                                    obtain rfl := ri_12_6 hfo_1 hfo_493 (hfA12 o0 ko0 6 (by decide) (by decide) (by decide))
                                    obtain rfl := ri_12_11 hfo_1 hfo_493 (hfA12 o0 ko0 11 (by decide) (by decide) (by decide))
                                    obtain rfl := ri_12_12 hfo_1 hfo_493 (hfA12 o0 ko0 12 (by decide) (by decide) (by decide))
                                    obtain rfl := ri_12_13 hfo_1 hfo_493 (hfA12 o0 ko0 13 (by decide) (by decide) (by decide))
                                    obtain rfl := ri_12_14 hfo_1 hfo_493 (hfA12 o0 ko0 14 (by decide) (by decide) (by decide))
                                    obtain rfl := ri_12_23 hfo_1 hfo_493 (hfA12 o0 ko0 23 (by decide) (by decide) (by decide))
                                    obtain rfl := ri_12_25 hfo_1 hfo_493 (hfA12 o0 ko0 25 (by decide) (by decide) (by decide))
                                    obtain rfl := ri_12_33 hfo_1 hfo_493 (hfA12 o0 ko0 33 (by decide) (by decide) (by decide))
                                    obtain rfl := ri_12_35 hfo_1 hfo_493 (hfA12 o0 ko0 35 (by decide) (by decide) (by decide))
                                    obtain rfl := ri_12_38 hfo_1 hfo_493 (hfA12 o0 ko0 38 (by decide) (by decide) (by decide))
                                    obtain rfl := ri_12_43 hfo_1 hfo_493 (hfA12 o0 ko0 43 (by decide) (by decide) (by decide))
                                    obtain rfl := ri_12_53 hfo_1 hfo_493 (hfA12 o0 ko0 53 (by decide) (by decide) (by decide))
                                    have hqhpost_489 := hpost_489 v_27 v_27 v_155 v_521 v_157 v_523 (by rw [hfo_474]; rfl) (by rw [hfo_474]; rfl) (by rw [hfo_474]; rfl) (by rw [hfo_493]; rfl) (by rw [hfo_493]; rfl) (by rw [hfo_493]; rfl)
                                    exact hcut_203 f_485 hG _ _ hP hS hD hfr0 hrA12 hfA12 hfo_492 hTc_490 ls (lv_sub hl [0, 1, 2, 3, 4, 5, 6, 7, 8, 9, 10] rfl)
                                  refine lv_if_ne (tgt := 231) hx hb dX12_goes_223 (by decide) (fun c_550 => ?_) (fun c_550 => ?_)
                                  · skip
                                    rw [← Int32.toInt_inj, ti_0] at c_550
                                    refine lv_iload hx hb dX12_goes_231 (lv_at hl 9 rfl) ?_
                                    refine lv_iconst (v := 1) hx hb dX12_goes_233 (by decide) ?_
                                    refine lv_iadd hx hb dX12_goes_234 ?_
                                    refine lv_topi (fun x_551 ex_551 => ?_)
                                    have hx_551 : x_551.toInt = p4.toInt + 1 := by rw [ex_551, ad_I (by rw [ti_1]; omega) (by rw [ti_1]; omega), ti_1]
                                    have bx_551 : (1 ≤ x_551.toInt ∧ x_551.toInt ≤ 14) := by constructor <;> omega
                                    exact hcut_483 x_551 (by constructor <;> omega) (by omega) ls (lv_sub hl [0, 1, 2, 3, 4, 5, 6, 7, 8, 9, 10] rfl)
                                  · skip
                                    rw [← Int32.toInt_inj, ti_0] at c_550
                                    refine lv_iload hx hb dX12_goes_226 (lv_at hl 9 rfl) ?_
                                    refine lv_goto (tgt := 235) hx hb dX12_goes_228 (by decide) ?_
                                    exact hcut_483 p4 (by constructor <;> omega) (by omega) ls (lv_sub hl [0, 1, 2, 3, 4, 5, 6, 7, 8, 9, 10] rfl)
                            refine lv_if_eq (tgt := 193) hx hb dX12_goes_181 (by decide) (fun c_552 => ?_) (fun c_552 => ?_)
                            · skip
                              rw [← Int32.toInt_inj, ti_0] at c_552
                              exact hcut_476 f_466 hG _ _ hP hS hD hfr0 hrA12 hfA12 hfo_469 hfo_470 hT0 ls (lv_sub hl [0, 1, 2, 3, 4, 5, 6, 7, 8, 9, 10] rfl)
                            · skip
                              rw [← Int32.toInt_inj, ti_0] at c_552
                              refine lv_aload_n hx hb dX12_goes_184 rfl (lv_at hl 5 rfl) ?_
                              refine tk_getP (D := (dC, dI)) (ci := 12) (v := .ref a_24) (C := RX12) (T := TX12) (N := 56) hx hb hU inlX12 hown hK hP mo0 hfo_469 rfl 22 (by decide) (hU _ wd_182) (fun _ h9 => h9) rfl dX12_goes_185 ?_
                              refine lv_iload hx hb dX12_goes_188 (lv_at hl 9 rfl) ?_
                              refine lv_iload hx hb dX12_goes_190 (lv_at hl 1 rfl) ?_
                              obtain ⟨g_554, hfo_553, hbg_554⟩ := un_590 (hG _ ma_24) ka_24
                              refine tk_istP hx hb hK hP hD hS 0 ma_24 hfo_553 rfl (vp_in_iff.mpr (by constructor <;> omega)) dX12_goes_192 (fun H locs hP hD hS => ?_)
                              obtain ⟨f_556, ef_556⟩ : ∃ y : Nat → va_E, y = va_up f_466 a_24 (.inl (cI, 16, .inl (upd g_554 (Int32.toNatClampNeg p4) y_195))) := ⟨_, rfl⟩
                              have hP : va_P (dC, dI) vwCl (va_pl L f_556) H := by rw [ef_556]; exact hP
                              have hD : va_D (fun q => q ∈ L) (va_pl L f_556) := by rw [ef_556]; exact hD
                              have hG : GI (okc cI cL cZ cR cG cH L kd) kd L f_556 := by rw [ef_556]; exact hG.set a_24 (mk_590 ka_24 ⟨_, rfl, okI_up hbg_554 (by constructor <;> omega) _⟩)
                              have hfo_557 : f_556 o0 = .inr (12, [.ref a_2, .ref a_3, .ref a_4, .int v_5, .ref a_6, .int v_7, .int v_8, .int v_135, .int v_136, .int v_137, .int v_138, .int v_13, .int v_14, .int v_15, .int v_16, .ref a_17, .ref a_18, .ref a_19, .ref a_20, .ref a_21, .ref a_22, .ref a_23, .ref a_24, .int v_25, .int v_152, .int v_27, .int v_154, .int v_155, .ref a_30, .int v_157, .ref a_32, .ref a_33, .int v_160, .int v_35, .ref a_36, .int v_37, .ref a_38, .ref a_39, .int v_40, .int v_167, .ref a_42, .ref a_43, .ref a_44, .int v_45, .ref a_46, .ref a_47, .ref a_48, .ref a_49, .ref a_50, .ref a_51, .ref a_52, .ref a_53, .ref a_54, .int v_55, .int v_182, .ref a_57]) := by rw [ef_556, up_ne (kd_ne ka_24 ko0 (by decide))]; exact hfo_469
                              have hfo_558 : f_556 a_2 = .inl (cI, 1560, .inl g_185) := by rw [ef_556, up_ne (kd_ne ka_24 ka_2 (by decide))]; exact hfo_470
                              have hfr0 : ∀ b, kd b ≠ 12 → kd b ≠ 579 → kd b ≠ 581 → kd b ≠ 583 → kd b ≠ 585 → kd b ≠ 587 → kd b ≠ 588 → kd b ≠ 590 → kd b ≠ 591 → kd b ≠ 592 → kd b ≠ 593 → kd b ≠ 603 → f_556 b = f b := fun b q12 q579 q581 q583 q585 q587 q588 q590 q591 q592 q593 q603 => (congrFun ef_556 b).trans ((up_ne (fun e9 => q590 (by rw [e9]; exact ka_24))).trans (hfr0 b q12 q579 q581 q583 q585 q587 q588 q590 q591 q592 q593 q603))
                              have hrA12 : ∀ b, kd b = 12 → ∀ j, fldR (f_556 b) j = fldR (f b) j := fun b kb j => (congrArg (fun x => fldR x j) ((congrFun ef_556 b).trans (up_ne (kd_ne ka_24 kb (by decide))))).trans (hrA12 b kb j)
                              have hfA12 : ∀ b, kd b = 12 → ∀ j, j ≠ 27 → j ≠ 29 → j ≠ 32 → fldI (f_556 b) j = fldI (f b) j := fun b kb j n27 n29 n32 => (congrArg (fun x => fldI x j) ((congrFun ef_556 b).trans (up_ne (kd_ne ka_24 kb (by decide))))).trans (hfA12 b kb j n27 n29 n32)
                              have hT0 : srel kd 592 f_556 o0 := by rw [ef_556]; exact hT0.keep (fun b q => congrArg (fun x => fldR x 30) (up_ne (kd_ne ka_24 q (by decide)))) (fun b q => congrArg (fun x => fldI x 32) (up_ne (kd_ne ka_24 q (by decide)))) (fun b q => congrArg (fun x => fldI x 33) (up_ne (kd_ne ka_24 q (by decide)))) (fun b q => up_ne (kd_ne ka_24 q (by decide)))
                              have hfo_559 : f_556 a_24 = .inl (cI, 16, .inl (upd g_554 (Int32.toNatClampNeg p4) y_195)) := by rw [ef_556]; exact up_self
                              exact hcut_476 f_556 hG _ _ hP hS hD hfr0 hrA12 hfA12 hfo_557 hfo_558 hT0 ls (lv_sub hl [0, 1, 2, 3, 4, 5, 6, 7, 8, 9, 10] rfl)
                          · skip
                            rw [← Int32.toInt_inj, ti_0] at c_471
                            refine lv_goto (tgt := 240) hx hb dX12_goes_176 (by decide) ?_
                            exact hcut_203 f_466 hG _ _ hP hS hD hfr0 hrA12 hfA12 hfo_470 hT0 ls (lv_sub hl [0, 1, 2, 3, 4, 5, 6, 7, 8, 9, 10] rfl)
                        · skip
                          rw [← Int32.toInt_inj, ti_0] at c_464
                          refine lv_iload_n hx hb dX12_goes_142 rfl (lv_at hl 6 rfl) ?_
                          refine lv_aload_n hx hb dX12_goes_143 rfl (lv_at hl 5 rfl) ?_
                          refine tk_getP (D := (dC, dI)) (ci := 12) (v := .int v_25) (C := RX12) (T := TX12) (N := 56) hx hb hU inlX12 hown hK hP mo0 hfo_127 rfl 23 (by decide) (hU _ wd_867) (fun _ h9 => h9) rfl dX12_goes_144 ?_
                          refine lv_icmp_eq (tgt := 240) hx hb dX12_goes_147 (by decide) (fun c_560 => ?_) (fun c_560 => ?_)
                          · skip
                            rw [← Int32.toInt_inj] at c_560
                            exact hcut_203 f_126 hG _ _ hP hS hD hfr0 hrA12 hfA12 hfo_184 hT0 ls (lv_sub hl [0, 1, 2, 3, 4, 5, 6, 7, 8, 9, 10] rfl)
                          · skip
                            rw [← Int32.toInt_inj] at c_560
                            have hclc_561 : (0 ≤ p1.toInt ∧ p1.toInt ≤ 11) := by constructor <;> omega
                            refine lv_aload_n hx hb dX12_goes_150 rfl (lv_at hl 5 rfl) ?_
                            refine tk_getP (D := (dC, dI)) (ci := 12) (v := .ref a_23) (C := RX12) (T := TX12) (N := 56) hx hb hU inlX12 hown hK hP mo0 hfo_127 rfl 21 (by decide) (hU _ wd_181) (fun _ h9 => h9) rfl dX12_goes_151 ?_
                            refine lv_iload_n hx hb dX12_goes_154 rfl (lv_at hl 6 rfl) ?_
                            obtain ⟨g_563, hfo_562, hbg_563⟩ := un_589 (hG _ ma_23) ka_23
                            refine tk_ildP hx hb hK hP 0 ma_23 hfo_562 rfl (vp_in_iff.mpr (by constructor <;> omega)) dX12_goes_155 ?_
                            refine lv_topi (fun x_564 ex_564 => ?_)
                            have bx_564 : (0 ≤ x_564.toInt ∧ x_564.toInt ≤ 8) := by rw [ex_564]; exact hbg_563 _
                            refine lv_iload hx hb dX12_goes_156 (lv_at hl 2 rfl) ?_
                            refine lv_icmp_eq (tgt := 164) hx hb dX12_goes_158 (by decide) (fun c_565 => ?_) (fun c_565 => ?_)
                            · skip
                              rw [← Int32.toInt_inj] at c_565
                              refine lv_aload_n hx hb dX12_goes_164 rfl (lv_at hl 5 rfl) ?_
                              refine lv_iload_n hx hb dX12_goes_165 rfl (lv_at hl 8 rfl) ?_
                              refine lv_iload hx hb dX12_goes_166 (lv_at hl 3 rfl) ?_
                              refine lv_iload hx hb dX12_goes_168 (lv_at hl 10 rfl) ?_
                              refine tk_ViP (As := [.int p3, .int x_192, .int p5]) (rest := []) (n := 3) hx hb hml hown hU hN hZ (s_X12_reads_k12 l (dC, dI) cI cL cZ cR cG cH Z kd L f_126 hG o0 mo0 ko0 p3 (by constructor <;> omega) x_192 p5) wd_950 wd_951 wd_952 wd_5 wd_953 (by decide +kernel) ⟨(show 4 + 1 ≤ 8 + (n_ + 1) by omega), (show 8 + (5 + 11) + 105 ≤ 205 + (n_ + 1) * 30 by omega)⟩ hK hP hD hS mo0 hfo_127 12 rfl rfl rfl hl.1 rfl (Nat.le_of_ble_eq_true rfl) dX12_goes_170 ⟨Nat.le_of_ble_eq_true rfl, Nat.le_of_ble_eq_true rfl⟩ (fun x_566 f_567 H locs hw hP hD hS => ?_)
                              obtain ⟨hG, bx_566, hkc_568⟩ := hw
                              have hfo_570 : f_567 o0 = .inr (12, [.ref a_2, .ref a_3, .ref a_4, .int v_5, .ref a_6, .int v_7, .int v_8, .int v_135, .int v_136, .int v_137, .int v_138, .int v_13, .int v_14, .int v_15, .int v_16, .ref a_17, .ref a_18, .ref a_19, .ref a_20, .ref a_21, .ref a_22, .ref a_23, .ref a_24, .int v_25, .int v_152, .int v_27, .int v_154, .int v_155, .ref a_30, .int v_157, .ref a_32, .ref a_33, .int v_160, .int v_35, .ref a_36, .int v_37, .ref a_38, .ref a_39, .int v_40, .int v_167, .ref a_42, .ref a_43, .ref a_44, .int v_45, .ref a_46, .ref a_47, .ref a_48, .ref a_49, .ref a_50, .ref a_51, .ref a_52, .ref a_53, .ref a_54, .int v_55, .int v_182, .ref a_57]) := by rw [hkc_568 o0 (by rw [ko0]; decide) (by rw [ko0]; decide) (by rw [ko0]; decide) (by rw [ko0]; decide) (by rw [ko0]; decide) (by rw [ko0]; decide)]; exact hfo_127
                              have hfo_571 : f_567 a_2 = .inl (cI, 1560, .inl g_185) := by rw [hkc_568 a_2 (by rw [ka_2]; decide) (by rw [ka_2]; decide) (by rw [ka_2]; decide) (by rw [ka_2]; decide) (by rw [ka_2]; decide) (by rw [ka_2]; decide)]; exact hfo_184
                              have hfo_572 : f_567 a_23 = .inl (cI, 16, .inl g_563) := by rw [hkc_568 a_23 (by rw [ka_23]; decide) (by rw [ka_23]; decide) (by rw [ka_23]; decide) (by rw [ka_23]; decide) (by rw [ka_23]; decide) (by rw [ka_23]; decide)]; exact hfo_562
                              have hfr0 : ∀ b, kd b ≠ 12 → kd b ≠ 579 → kd b ≠ 581 → kd b ≠ 583 → kd b ≠ 585 → kd b ≠ 587 → kd b ≠ 588 → kd b ≠ 590 → kd b ≠ 591 → kd b ≠ 592 → kd b ≠ 593 → kd b ≠ 603 → f_567 b = f b := fun b q12 q579 q581 q583 q585 q587 q588 q590 q591 q592 q593 q603 => (hkc_568 b q579 q581 q583 q585 q587 q588).trans (hfr0 b q12 q579 q581 q583 q585 q587 q588 q590 q591 q592 q593 q603)
                              have hrA12 : ∀ b, kd b = 12 → ∀ j, fldR (f_567 b) j = fldR (f b) j := fun b kb j => (congrArg (fun x => fldR x j) (hkc_568 b (by rw [kb]; decide) (by rw [kb]; decide) (by rw [kb]; decide) (by rw [kb]; decide) (by rw [kb]; decide) (by rw [kb]; decide))).trans (hrA12 b kb j)
                              have hfA12 : ∀ b, kd b = 12 → ∀ j, j ≠ 27 → j ≠ 29 → j ≠ 32 → fldI (f_567 b) j = fldI (f b) j := fun b kb j n27 n29 n32 => (congrArg (fun x => fldI x j) (hkc_568 b (by rw [kb]; decide) (by rw [kb]; decide) (by rw [kb]; decide) (by rw [kb]; decide) (by rw [kb]; decide) (by rw [kb]; decide))).trans (hfA12 b kb j n27 n29 n32)
                              have hT0 : srel kd 592 f_567 o0 := hT0.keep (fun b q => congrArg (fun x => fldR x 30) (hkc_568 b (by rw [q]; decide) (by rw [q]; decide) (by rw [q]; decide) (by rw [q]; decide) (by rw [q]; decide) (by rw [q]; decide))) (fun b q => congrArg (fun x => fldI x 32) (hkc_568 b (by rw [q]; decide) (by rw [q]; decide) (by rw [q]; decide) (by rw [q]; decide) (by rw [q]; decide) (by rw [q]; decide))) (fun b q => congrArg (fun x => fldI x 33) (hkc_568 b (by rw [q]; decide) (by rw [q]; decide) (by rw [q]; decide) (by rw [q]; decide) (by rw [q]; decide) (by rw [q]; decide))) (fun b q => hkc_568 b (by rw [q]; decide) (by rw [q]; decide) (by rw [q]; decide) (by rw [q]; decide) (by rw [q]; decide) (by rw [q]; decide))
                              refine lv_if_ne (tgt := 179) hx hb dX12_goes_173 (by decide) (fun c_573 => ?_) (fun c_573 => ?_)
                              · skip
                                rw [← Int32.toInt_inj, ti_0] at c_573
                                refine lv_iload hx hb dX12_goes_179 (lv_at hl 1 rfl) ?_
                                have hcut_579 : ∀ (f_575 : Nat → va_E), GI (okc cI cL cZ cR cG cH L kd) kd L f_575 → ∀ (H : Heap) (locs : List Loc), va_P (dC, dI) vwCl (va_pl L f_575) H → va_S (fun q => q ∈ L) s.heap H locs → va_D (fun q => q ∈ L) (va_pl L f_575) → (∀ b, kd b ≠ 12 → kd b ≠ 579 → kd b ≠ 581 → kd b ≠ 583 → kd b ≠ 585 → kd b ≠ 587 → kd b ≠ 588 → kd b ≠ 590 → kd b ≠ 591 → kd b ≠ 592 → kd b ≠ 593 → kd b ≠ 603 → f_575 b = f b) → (∀ b, kd b = 12 → ∀ j, fldR (f_575 b) j = fldR (f b) j) → (∀ b, kd b = 12 → ∀ j, j ≠ 27 → j ≠ 29 → j ≠ 32 → fldI (f_575 b) j = fldI (f b) j) → (f_575 o0 = .inr (12, [.ref a_2, .ref a_3, .ref a_4, .int v_5, .ref a_6, .int v_7, .int v_8, .int v_135, .int v_136, .int v_137, .int v_138, .int v_13, .int v_14, .int v_15, .int v_16, .ref a_17, .ref a_18, .ref a_19, .ref a_20, .ref a_21, .ref a_22, .ref a_23, .ref a_24, .int v_25, .int v_152, .int v_27, .int v_154, .int v_155, .ref a_30, .int v_157, .ref a_32, .ref a_33, .int v_160, .int v_35, .ref a_36, .int v_37, .ref a_38, .ref a_39, .int v_40, .int v_167, .ref a_42, .ref a_43, .ref a_44, .int v_45, .ref a_46, .ref a_47, .ref a_48, .ref a_49, .ref a_50, .ref a_51, .ref a_52, .ref a_53, .ref a_54, .int v_55, .int v_182, .ref a_57])) → (f_575 a_2 = .inl (cI, 1560, .inl g_185)) → (f_575 a_23 = .inl (cI, 16, .inl g_563)) → srel kd 592 f_575 o0 → ∀ (ls : Array Slot), lv_has ls 11 [(10, .int y_198), (9, .int y_195), (8, .int y_193), (7, .int x_192), (6, .int y_124), (0, .ref o0), (1, .int p1), (2, .int p2), (3, .int p3), (4, .int p4), (5, .int p5)] → W p l e (headSpec (wU yX12_goes cX12_goes 11 none) { frames := 8 + (n_ + 1), cells := 0, slots := 0, locals := 205 + (n_ + 1) * 30 }).room s m [.ref o0, .int p1, .int p2, .int p3, .int p4, .int p5].toArray below meth c H locs 0 0 (MQ below (va_Qv (fun (f9 : Nat → va_E) => GI (okc cI cL cZ cR cG cH L kd) kd L f9 ∧ (∀ b, kd b ≠ 12 → kd b ≠ 579 → kd b ≠ 581 → kd b ≠ 583 → kd b ≠ 585 → kd b ≠ 587 → kd b ≠ 588 → kd b ≠ 590 → kd b ≠ 591 → kd b ≠ 592 → kd b ≠ 593 → kd b ≠ 603 → f9 b = f b) ∧ (∀ b, kd b = 12 → ∀ j, fldR (f9 b) j = fldR (f b) j) ∧ (∀ b, kd b = 12 → ∀ j, j ≠ 27 → j ≠ 29 → j ≠ 32 → fldI (f9 b) j = fldI (f b) j) ∧ (∀ (w25 z25 : Int32) (w27 z27 : Int32) (w29 z29 : Int32), fldI (f o0) 25 = some w25 → fldI (f o0) 27 = some w27 → fldI (f o0) 29 = some w29 → fldI (f9 o0) 25 = some z25 → fldI (f9 o0) 27 = some z27 → fldI (f9 o0) 29 = some z29 → (z27.toInt = 1 ∨ z29.toInt ≤ 200) ∧ (w25.toInt ≤ 1 ∨ z29.toInt = w29.toInt)) ∧ (srel kd 592 f9 o0)) (qP (dC, dI) cI cL cZ cR cG cH L) (fun q => q ∈ L)) [.ref o0, .int p1, .int p2, .int p3, .int p4, .int p5].toArray s 0 0 (fun q => q ∈ L)) (F0 m 193 ls []) := by
                                  intro f_575 hG H locs hP hS hD hfr0 hrA12 hfA12 hfo_576 hfo_577 hfo_578 hT0 ls hl
                                  refine lv_aload_n hx hb dX12_goes_193 rfl (lv_at hl 5 rfl) ?_
                                  refine lv_iload hx hb dX12_goes_194 (lv_at hl 2 rfl) ?_
                                  refine lv_if_ne (tgt := 203) hx hb dX12_goes_196 (by decide) (fun c_580 => ?_) (fun c_580 => ?_)
                                  · skip
                                    rw [← Int32.toInt_inj, ti_0] at c_580
                                    refine lv_iload_n hx hb dX12_goes_203 rfl (lv_at hl 6 rfl) ?_
                                    refine lv_iconst (v := 1) hx hb dX12_goes_204 (by decide) ?_
                                    refine lv_iadd hx hb dX12_goes_205 ?_
                                    refine lv_topi (fun x_581 ex_581 => ?_)
                                    have hx_581 : x_581.toInt = p1.toInt + 1 := by rw [ex_581, ad_I (by rw [ti_1]; omega) (by rw [ti_1]; omega), ti_1]
                                    have bx_581 : (1 ≤ x_581.toInt ∧ x_581.toInt ≤ 12) := by constructor <;> omega
                                    refine lv_iload hx hb dX12_goes_206 (lv_at hl 0 rfl) ?_
                                    refine lv_if_eq (tgt := 217) hx hb dX12_goes_208 (by decide) (fun c_582 => ?_) (fun c_582 => ?_)
                                    · skip
                                      rw [← Int32.toInt_inj, ti_0] at c_582
                                      exfalso
                                      omega
                                    · skip
                                      rw [← Int32.toInt_inj, ti_0] at c_582
                                      refine lv_iload_n hx hb dX12_goes_211 rfl (lv_at hl 7 rfl) ?_
                                      refine lv_iconst (v := 1) hx hb dX12_goes_212 (by decide) ?_
                                      refine lv_isub hx hb dX12_goes_213 ?_
                                      refine lv_topi (fun x_583 ex_583 => ?_)
                                      have hx_583 : x_583.toInt = p2.toInt - 1 := by rw [ex_583, sb_I (by rw [ti_1]; omega) (by rw [ti_1]; omega), ti_1]
                                      have bx_583 : (0 ≤ x_583.toInt ∧ x_583.toInt ≤ 0) := by constructor <;> omega
                                      refine lv_goto (tgt := 218) hx hb dX12_goes_214 (by decide) ?_
                                      refine lv_iload_n hx hb dX12_goes_218 rfl (lv_at hl 8 rfl) ?_
                                      refine lv_iconst (v := 1) hx hb dX12_goes_219 (by decide) ?_
                                      refine lv_iadd hx hb dX12_goes_220 ?_
                                      refine lv_topi (fun x_584 ex_584 => ?_)
                                      have hx_584 : x_584.toInt = p3.toInt + 1 := by rw [ex_584, ad_I (by rw [ti_1]; omega) (by rw [ti_1]; omega), ti_1]
                                      have bx_584 : (1 ≤ x_584.toInt ∧ x_584.toInt ≤ 14) := by constructor <;> omega
                                      have hclc_585 : (1 ≤ x_584.toInt ∧ x_584.toInt ≤ 13) := by constructor <;> omega
                                      refine lv_iload hx hb dX12_goes_221 (lv_at hl 1 rfl) ?_
                                      have hcut_587 : ∀ (y_586 : Int32), (0 ≤ y_586.toInt ∧ y_586.toInt ≤ 13) → ((y_195.toInt = 0 ∧ y_586.toInt = p4.toInt) ∨ (y_195.toInt ≠ 0 ∧ y_586.toInt = p4.toInt + 1)) → ∀ (ls : Array Slot), lv_has ls 11 [(10, .int y_198), (9, .int y_195), (8, .int y_193), (7, .int x_192), (6, .int y_124), (0, .ref o0), (1, .int p1), (2, .int p2), (3, .int p3), (4, .int p4), (5, .int p5)] → W p l e (headSpec (wU yX12_goes cX12_goes 11 none) { frames := 8 + (n_ + 1), cells := 0, slots := 0, locals := 205 + (n_ + 1) * 30 }).room s m [.ref o0, .int p1, .int p2, .int p3, .int p4, .int p5].toArray below meth c H locs 0 0 (MQ below (va_Qv (fun (f9 : Nat → va_E) => GI (okc cI cL cZ cR cG cH L kd) kd L f9 ∧ (∀ b, kd b ≠ 12 → kd b ≠ 579 → kd b ≠ 581 → kd b ≠ 583 → kd b ≠ 585 → kd b ≠ 587 → kd b ≠ 588 → kd b ≠ 590 → kd b ≠ 591 → kd b ≠ 592 → kd b ≠ 593 → kd b ≠ 603 → f9 b = f b) ∧ (∀ b, kd b = 12 → ∀ j, fldR (f9 b) j = fldR (f b) j) ∧ (∀ b, kd b = 12 → ∀ j, j ≠ 27 → j ≠ 29 → j ≠ 32 → fldI (f9 b) j = fldI (f b) j) ∧ (∀ (w25 z25 : Int32) (w27 z27 : Int32) (w29 z29 : Int32), fldI (f o0) 25 = some w25 → fldI (f o0) 27 = some w27 → fldI (f o0) 29 = some w29 → fldI (f9 o0) 25 = some z25 → fldI (f9 o0) 27 = some z27 → fldI (f9 o0) 29 = some z29 → (z27.toInt = 1 ∨ z29.toInt ≤ 200) ∧ (w25.toInt ≤ 1 ∨ z29.toInt = w29.toInt)) ∧ (srel kd 592 f9 o0)) (qP (dC, dI) cI cL cZ cR cG cH L) (fun q => q ∈ L)) [.ref o0, .int p1, .int p2, .int p3, .int p4, .int p5].toArray s 0 0 (fun q => q ∈ L)) (F0 m 235 ls [.int y_586, .int x_584, .int x_583, .int x_581, .ref o0]) := by
                                        intro y_586 by_586 hjhcut_587_0 ls hl
                                        refine lv_iload hx hb dX12_goes_235 (lv_at hl 10 rfl) ?_
                                        refine tk_VvP (As := [.int x_581, .int x_583, .int x_584, .int y_586, .int p5]) (rest := []) (n := 5) hx hb hml hown hU hN hZ (ih_rec f_575 hG o0 mo0 ko0 x_581 (by constructor <;> omega) x_583 (by constructor <;> omega) x_584 (by constructor <;> omega) y_586 (by constructor <;> omega) p5 (by intro w23 w25 w27 w29 e23 e25 e27 e29; rw [hfo_576] at e23 e25 e27 e29; obtain rfl := Option.some.inj e23; obtain rfl := Option.some.inj e25; obtain rfl := Option.some.inj e27; obtain rfl := Option.some.inj e29; omega) (by omega) hT0 (by omega)) wd_886 wd_887 wd_888 wd_5 wd_889 (by decide +kernel) ⟨(show (8 + n_) + 1 ≤ 8 + (n_ + 1) by omega), (show 8 + (11 + 11) + (205 + n_ * 30) ≤ 205 + (n_ + 1) * 30 by omega)⟩ hK hP hD hS mo0 hfo_576 12 rfl rfl rfl hl.1 rfl (Nat.le_of_ble_eq_true rfl) dX12_goes_237 ⟨Nat.le_of_ble_eq_true rfl, Nat.le_of_ble_eq_true rfl⟩ (fun f_589 H locs hw hP hD hS => ?_)
                                        obtain ⟨hG, hkc_590, hra_591, hfa_592, hpost_593, hTc_594⟩ := hw
                                        have hfo_596 : f_589 a_2 = .inl (cI, 1560, .inl g_185) := by rw [hkc_590 a_2 (by rw [ka_2]; decide) (by rw [ka_2]; decide) (by rw [ka_2]; decide) (by rw [ka_2]; decide) (by rw [ka_2]; decide) (by rw [ka_2]; decide) (by rw [ka_2]; decide) (by rw [ka_2]; decide) (by rw [ka_2]; decide) (by rw [ka_2]; decide) (by rw [ka_2]; decide) (by rw [ka_2]; decide)]; exact hfo_577
                                        have hfo_597 : f_589 a_23 = .inl (cI, 16, .inl g_563) := by rw [hkc_590 a_23 (by rw [ka_23]; decide) (by rw [ka_23]; decide) (by rw [ka_23]; decide) (by rw [ka_23]; decide) (by rw [ka_23]; decide) (by rw [ka_23]; decide) (by rw [ka_23]; decide) (by rw [ka_23]; decide) (by rw [ka_23]; decide) (by rw [ka_23]; decide) (by rw [ka_23]; decide) (by rw [ka_23]; decide)]; exact hfo_578
                                        have hfr0 : ∀ b, kd b ≠ 12 → kd b ≠ 579 → kd b ≠ 581 → kd b ≠ 583 → kd b ≠ 585 → kd b ≠ 587 → kd b ≠ 588 → kd b ≠ 590 → kd b ≠ 591 → kd b ≠ 592 → kd b ≠ 593 → kd b ≠ 603 → f_589 b = f b := fun b q12 q579 q581 q583 q585 q587 q588 q590 q591 q592 q593 q603 => (hkc_590 b q12 q579 q581 q583 q585 q587 q588 q590 q591 q592 q593 q603).trans (hfr0 b q12 q579 q581 q583 q585 q587 q588 q590 q591 q592 q593 q603)
                                        have hrA12 : ∀ b, kd b = 12 → ∀ j, fldR (f_589 b) j = fldR (f b) j := fun b kb j => (hra_591 b kb j).trans (hrA12 b kb j)
                                        have hfA12 : ∀ b, kd b = 12 → ∀ j, j ≠ 27 → j ≠ 29 → j ≠ 32 → fldI (f_589 b) j = fldI (f b) j := fun b kb j n27 n29 n32 => (hfa_592 b kb j n27 n29 n32).trans (hfA12 b kb j n27 n29 n32)
                                        obtain ⟨a_599, a_600, a_601, v_602, a_603, v_604, v_605, v_606, v_607, v_608, v_609, v_610, v_611, v_612, v_613, a_614, a_615, a_616, a_617, a_618, a_619, a_620, a_621, v_622, v_623, v_624, v_625, v_626, a_627, v_628, a_629, a_630, v_631, v_632, a_633, v_634, a_635, a_636, v_637, v_638, a_639, a_640, a_641, v_642, a_643, a_644, a_645, a_646, a_647, a_648, a_649, a_650, a_651, v_652, v_653, a_654, hfo_598, ⟨ma_599, ka_599⟩, ⟨ma_600, ka_600⟩, ⟨ma_601, ka_601⟩, bv_602, ⟨ma_603, ka_603⟩, bv_604, bv_605, bv_610, bv_611, bv_612, ⟨ma_614, ka_614⟩, ⟨ma_615, ka_615⟩, ⟨ma_616, ka_616⟩, ⟨ma_617, ka_617⟩, ⟨ma_618, ka_618⟩, ⟨ma_619, ka_619⟩, ⟨ma_620, ka_620⟩, ⟨ma_621, ka_621⟩, bv_622, bv_624, bv_626, ⟨ma_627, ka_627⟩, bv_628, ⟨ma_629, ka_629⟩, ⟨ma_630, ka_630⟩, bv_631, ⟨ma_633, ka_633⟩, bv_634, ⟨ma_635, ka_635⟩, ⟨ma_636, ka_636⟩, bv_637, ⟨ma_639, ka_639⟩, ⟨ma_640, ka_640⟩, ⟨ma_641, ka_641⟩, bv_642, ⟨ma_643, ka_643⟩, ⟨ma_644, ka_644⟩, ⟨ma_645, ka_645⟩, ⟨ma_646, ka_646⟩, ⟨ma_647, ka_647⟩, ⟨ma_648, ka_648⟩, ⟨ma_649, ka_649⟩, ⟨ma_650, ka_650⟩, ⟨ma_651, ka_651⟩, bv_652, ⟨ma_654, ka_654⟩⟩ := un_12 (hG _ mo0) ko0
                                        have bv_606 : ((-2147483648) ≤ v_606.toInt ∧ v_606.toInt ≤ 2147483647) := ⟨i32_lo _, i32_hi _⟩
                                        have bv_607 : ((-2147483648) ≤ v_607.toInt ∧ v_607.toInt ≤ 2147483647) := ⟨i32_lo _, i32_hi _⟩
                                        have bv_608 : ((-2147483648) ≤ v_608.toInt ∧ v_608.toInt ≤ 2147483647) := ⟨i32_lo _, i32_hi _⟩
                                        have bv_609 : ((-2147483648) ≤ v_609.toInt ∧ v_609.toInt ≤ 2147483647) := ⟨i32_lo _, i32_hi _⟩
                                        have bv_613 : ((-2147483648) ≤ v_613.toInt ∧ v_613.toInt ≤ 2147483647) := ⟨i32_lo _, i32_hi _⟩
                                        have bv_623 : ((-2147483648) ≤ v_623.toInt ∧ v_623.toInt ≤ 2147483647) := ⟨i32_lo _, i32_hi _⟩
                                        have bv_625 : ((-2147483648) ≤ v_625.toInt ∧ v_625.toInt ≤ 2147483647) := ⟨i32_lo _, i32_hi _⟩
                                        have bv_632 : ((-2147483648) ≤ v_632.toInt ∧ v_632.toInt ≤ 2147483647) := ⟨i32_lo _, i32_hi _⟩
                                        have bv_638 : ((-2147483648) ≤ v_638.toInt ∧ v_638.toInt ≤ 2147483647) := ⟨i32_lo _, i32_hi _⟩
                                        have bv_653 : ((-2147483648) ≤ v_653.toInt ∧ v_653.toInt ≤ 2147483647) := ⟨i32_lo _, i32_hi _⟩
                                        obtain ⟨rfl, rfl, rfl, rfl, rfl, rfl, rfl, rfl, rfl, rfl, rfl, rfl, rfl, rfl, rfl, rfl, rfl, rfl, rfl, rfl, rfl, rfl, rfl, rfl, rfl, rfl, rfl, rfl, rfl, rfl, rfl⟩ := re_12 hfo_1 hfo_598 (hrA12 o0 ko0)
                                        obtain rfl := ri_12_3 hfo_1 hfo_598 (hfA12 o0 ko0 3 (by decide) (by decide) (by decide))
                                        obtain rfl := ri_12_5 hfo_1 hfo_598 (hfA12 o0 ko0 5 (by decide) (by decide) (by decide))
                                        obtain rfl := ri_12_6 hfo_1 hfo_598 (hfA12 o0 ko0 6 (by decide) (by decide) (by decide))
                                        obtain rfl := ri_12_11 hfo_1 hfo_598 (hfA12 o0 ko0 11 (by decide) (by decide) (by decide))
                                        obtain rfl := ri_12_12 hfo_1 hfo_598 (hfA12 o0 ko0 12 (by decide) (by decide) (by decide))
                                        obtain rfl := ri_12_13 hfo_1 hfo_598 (hfA12 o0 ko0 13 (by decide) (by decide) (by decide))
                                        obtain rfl := ri_12_14 hfo_1 hfo_598 (hfA12 o0 ko0 14 (by decide) (by decide) (by decide))
                                        obtain rfl := ri_12_23 hfo_1 hfo_598 (hfA12 o0 ko0 23 (by decide) (by decide) (by decide))
                                        obtain rfl := ri_12_25 hfo_1 hfo_598 (hfA12 o0 ko0 25 (by decide) (by decide) (by decide))
                                        obtain rfl := ri_12_33 hfo_1 hfo_598 (hfA12 o0 ko0 33 (by decide) (by decide) (by decide))
                                        obtain rfl := ri_12_35 hfo_1 hfo_598 (hfA12 o0 ko0 35 (by decide) (by decide) (by decide))
                                        obtain rfl := ri_12_38 hfo_1 hfo_598 (hfA12 o0 ko0 38 (by decide) (by decide) (by decide))
                                        obtain rfl := ri_12_43 hfo_1 hfo_598 (hfA12 o0 ko0 43 (by decide) (by decide) (by decide))
                                        obtain rfl := ri_12_53 hfo_1 hfo_598 (hfA12 o0 ko0 53 (by decide) (by decide) (by decide))
                                        have hqhpost_593 := hpost_593 v_27 v_27 v_155 v_626 v_157 v_628 (by rw [hfo_576]; rfl) (by rw [hfo_576]; rfl) (by rw [hfo_576]; rfl) (by rw [hfo_598]; rfl) (by rw [hfo_598]; rfl) (by rw [hfo_598]; rfl)
                                        exact hcut_203 f_589 hG _ _ hP hS hD hfr0 hrA12 hfA12 hfo_596 hTc_594 ls (lv_sub hl [0, 1, 2, 3, 4, 5, 6, 7, 8, 9, 10] rfl)
                                      refine lv_if_ne (tgt := 231) hx hb dX12_goes_223 (by decide) (fun c_655 => ?_) (fun c_655 => ?_)
                                      · skip
                                        rw [← Int32.toInt_inj, ti_0] at c_655
                                        refine lv_iload hx hb dX12_goes_231 (lv_at hl 9 rfl) ?_
                                        refine lv_iconst (v := 1) hx hb dX12_goes_233 (by decide) ?_
                                        refine lv_iadd hx hb dX12_goes_234 ?_
                                        refine lv_topi (fun x_656 ex_656 => ?_)
                                        have hx_656 : x_656.toInt = p4.toInt + 1 := by rw [ex_656, ad_I (by rw [ti_1]; omega) (by rw [ti_1]; omega), ti_1]
                                        have bx_656 : (1 ≤ x_656.toInt ∧ x_656.toInt ≤ 14) := by constructor <;> omega
                                        exact hcut_587 x_656 (by constructor <;> omega) (by omega) ls (lv_sub hl [0, 1, 2, 3, 4, 5, 6, 7, 8, 9, 10] rfl)
                                      · skip
                                        rw [← Int32.toInt_inj, ti_0] at c_655
                                        refine lv_iload hx hb dX12_goes_226 (lv_at hl 9 rfl) ?_
                                        refine lv_goto (tgt := 235) hx hb dX12_goes_228 (by decide) ?_
                                        exact hcut_587 p4 (by constructor <;> omega) (by omega) ls (lv_sub hl [0, 1, 2, 3, 4, 5, 6, 7, 8, 9, 10] rfl)
                                  · skip
                                    rw [← Int32.toInt_inj, ti_0] at c_580
                                    exfalso
                                    omega
                                refine lv_if_eq (tgt := 193) hx hb dX12_goes_181 (by decide) (fun c_657 => ?_) (fun c_657 => ?_)
                                · skip
                                  rw [← Int32.toInt_inj, ti_0] at c_657
                                  exact hcut_579 f_567 hG _ _ hP hS hD hfr0 hrA12 hfA12 hfo_570 hfo_571 hfo_572 hT0 ls (lv_sub hl [0, 1, 2, 3, 4, 5, 6, 7, 8, 9, 10] rfl)
                                · skip
                                  rw [← Int32.toInt_inj, ti_0] at c_657
                                  refine lv_aload_n hx hb dX12_goes_184 rfl (lv_at hl 5 rfl) ?_
                                  refine tk_getP (D := (dC, dI)) (ci := 12) (v := .ref a_24) (C := RX12) (T := TX12) (N := 56) hx hb hU inlX12 hown hK hP mo0 hfo_570 rfl 22 (by decide) (hU _ wd_182) (fun _ h9 => h9) rfl dX12_goes_185 ?_
                                  refine lv_iload hx hb dX12_goes_188 (lv_at hl 9 rfl) ?_
                                  refine lv_iload hx hb dX12_goes_190 (lv_at hl 1 rfl) ?_
                                  obtain ⟨g_659, hfo_658, hbg_659⟩ := un_590 (hG _ ma_24) ka_24
                                  refine tk_istP hx hb hK hP hD hS 0 ma_24 hfo_658 rfl (vp_in_iff.mpr (by constructor <;> omega)) dX12_goes_192 (fun H locs hP hD hS => ?_)
                                  obtain ⟨f_661, ef_661⟩ : ∃ y : Nat → va_E, y = va_up f_567 a_24 (.inl (cI, 16, .inl (upd g_659 (Int32.toNatClampNeg p4) y_195))) := ⟨_, rfl⟩
                                  have hP : va_P (dC, dI) vwCl (va_pl L f_661) H := by rw [ef_661]; exact hP
                                  have hD : va_D (fun q => q ∈ L) (va_pl L f_661) := by rw [ef_661]; exact hD
                                  have hG : GI (okc cI cL cZ cR cG cH L kd) kd L f_661 := by rw [ef_661]; exact hG.set a_24 (mk_590 ka_24 ⟨_, rfl, okI_up hbg_659 (by constructor <;> omega) _⟩)
                                  have hfo_662 : f_661 o0 = .inr (12, [.ref a_2, .ref a_3, .ref a_4, .int v_5, .ref a_6, .int v_7, .int v_8, .int v_135, .int v_136, .int v_137, .int v_138, .int v_13, .int v_14, .int v_15, .int v_16, .ref a_17, .ref a_18, .ref a_19, .ref a_20, .ref a_21, .ref a_22, .ref a_23, .ref a_24, .int v_25, .int v_152, .int v_27, .int v_154, .int v_155, .ref a_30, .int v_157, .ref a_32, .ref a_33, .int v_160, .int v_35, .ref a_36, .int v_37, .ref a_38, .ref a_39, .int v_40, .int v_167, .ref a_42, .ref a_43, .ref a_44, .int v_45, .ref a_46, .ref a_47, .ref a_48, .ref a_49, .ref a_50, .ref a_51, .ref a_52, .ref a_53, .ref a_54, .int v_55, .int v_182, .ref a_57]) := by rw [ef_661, up_ne (kd_ne ka_24 ko0 (by decide))]; exact hfo_570
                                  have hfo_663 : f_661 a_2 = .inl (cI, 1560, .inl g_185) := by rw [ef_661, up_ne (kd_ne ka_24 ka_2 (by decide))]; exact hfo_571
                                  have hfo_664 : f_661 a_23 = .inl (cI, 16, .inl g_563) := by rw [ef_661, up_ne (kd_ne ka_24 ka_23 (by decide))]; exact hfo_572
                                  have hfr0 : ∀ b, kd b ≠ 12 → kd b ≠ 579 → kd b ≠ 581 → kd b ≠ 583 → kd b ≠ 585 → kd b ≠ 587 → kd b ≠ 588 → kd b ≠ 590 → kd b ≠ 591 → kd b ≠ 592 → kd b ≠ 593 → kd b ≠ 603 → f_661 b = f b := fun b q12 q579 q581 q583 q585 q587 q588 q590 q591 q592 q593 q603 => (congrFun ef_661 b).trans ((up_ne (fun e9 => q590 (by rw [e9]; exact ka_24))).trans (hfr0 b q12 q579 q581 q583 q585 q587 q588 q590 q591 q592 q593 q603))
                                  have hrA12 : ∀ b, kd b = 12 → ∀ j, fldR (f_661 b) j = fldR (f b) j := fun b kb j => (congrArg (fun x => fldR x j) ((congrFun ef_661 b).trans (up_ne (kd_ne ka_24 kb (by decide))))).trans (hrA12 b kb j)
                                  have hfA12 : ∀ b, kd b = 12 → ∀ j, j ≠ 27 → j ≠ 29 → j ≠ 32 → fldI (f_661 b) j = fldI (f b) j := fun b kb j n27 n29 n32 => (congrArg (fun x => fldI x j) ((congrFun ef_661 b).trans (up_ne (kd_ne ka_24 kb (by decide))))).trans (hfA12 b kb j n27 n29 n32)
                                  have hT0 : srel kd 592 f_661 o0 := by rw [ef_661]; exact hT0.keep (fun b q => congrArg (fun x => fldR x 30) (up_ne (kd_ne ka_24 q (by decide)))) (fun b q => congrArg (fun x => fldI x 32) (up_ne (kd_ne ka_24 q (by decide)))) (fun b q => congrArg (fun x => fldI x 33) (up_ne (kd_ne ka_24 q (by decide)))) (fun b q => up_ne (kd_ne ka_24 q (by decide)))
                                  have hfo_665 : f_661 a_24 = .inl (cI, 16, .inl (upd g_659 (Int32.toNatClampNeg p4) y_195)) := by rw [ef_661]; exact up_self
                                  exact hcut_579 f_661 hG _ _ hP hS hD hfr0 hrA12 hfA12 hfo_662 hfo_663 hfo_664 hT0 ls (lv_sub hl [0, 1, 2, 3, 4, 5, 6, 7, 8, 9, 10] rfl)
                              · skip
                                rw [← Int32.toInt_inj, ti_0] at c_573
                                refine lv_goto (tgt := 240) hx hb dX12_goes_176 (by decide) ?_
                                exact hcut_203 f_567 hG _ _ hP hS hD hfr0 hrA12 hfA12 hfo_571 hT0 ls (lv_sub hl [0, 1, 2, 3, 4, 5, 6, 7, 8, 9, 10] rfl)
                            · skip
                              rw [← Int32.toInt_inj] at c_565
                              refine lv_goto (tgt := 240) hx hb dX12_goes_161 (by decide) ?_
                              exact hcut_203 f_126 hG _ _ hP hS hD hfr0 hrA12 hfA12 hfo_184 hT0 ls (lv_sub hl [0, 1, 2, 3, 4, 5, 6, 7, 8, 9, 10] rfl)
                  refine lv_if_eq (tgt := 121) hx hb dX12_goes_110 (by decide) (fun c_666 => ?_) (fun c_666 => ?_)
                  · skip
                    rw [← Int32.toInt_inj, ti_0] at c_666
                    refine lv_iconst (v := 1) hx hb dX12_goes_121 (by decide) ?_
                    refine lv_goto (tgt := 126) hx hb dX12_goes_122 (by decide) ?_
                    exact hcut_199 1 (by decide) (by (try rw [ti_1]) <;> omega) ls (lv_sub hl [0, 1, 2, 3, 4, 5, 6, 7, 8, 9] rfl)
                  · skip
                    rw [← Int32.toInt_inj, ti_0] at c_666
                    refine lv_iload hx hb dX12_goes_113 (lv_at hl 2 rfl) ?_
                    refine lv_bipush (v := 9) hx hb dX12_goes_115 (by decide) ?_
                    refine lv_irem hx hb dX12_goes_117 (by decide) ?_
                    refine lv_topi (fun x_667 ex_667 => ?_)
                    have hx_667 : x_667.toInt = x_192.toInt % 9 := by rw [ex_667, rm_I (by omega) (by rw [ti_9]; omega), ti_9]
                    have bx_667 : (0 ≤ x_667.toInt ∧ x_667.toInt ≤ 8) := by constructor <;> omega
                    refine lv_if_ne (tgt := 125) hx hb dX12_goes_118 (by decide) (fun c_668 => ?_) (fun c_668 => ?_)
                    · skip
                      rw [← Int32.toInt_inj, ti_0] at c_668
                      refine lv_iconst (v := 0) hx hb dX12_goes_125 (by decide) ?_
                      exact hcut_199 0 (by decide) (by (try rw [ti_0]) <;> omega) ls (lv_sub hl [0, 1, 2, 3, 4, 5, 6, 7, 8, 9] rfl)
                    · skip
                      rw [← Int32.toInt_inj, ti_0] at c_668
                      refine lv_iconst (v := 1) hx hb dX12_goes_121 (by decide) ?_
                      refine lv_goto (tgt := 126) hx hb dX12_goes_122 (by decide) ?_
                      exact hcut_199 1 (by decide) (by (try rw [ti_1]) <;> omega) ls (lv_sub hl [0, 1, 2, 3, 4, 5, 6, 7, 8, 9] rfl)
                refine lv_icmp_ne (tgt := 98) hx hb dX12_goes_87 (by decide) (fun c_669 => ?_) (fun c_669 => ?_)
                · skip
                  rw [← Int32.toInt_inj, ti_1] at c_669
                  refine lv_iload hx hb dX12_goes_98 (lv_at hl 1 rfl) ?_
                  refine lv_bipush (v := 9) hx hb dX12_goes_100 (by decide) ?_
                  refine lv_irem hx hb dX12_goes_102 (by decide) ?_
                  refine lv_topi (fun x_670 ex_670 => ?_)
                  have hx_670 : x_670.toInt = x_192.toInt % 9 := by rw [ex_670, rm_I (by omega) (by rw [ti_9]; omega), ti_9]
                  have bx_670 : (0 ≤ x_670.toInt ∧ x_670.toInt ≤ 8) := by constructor <;> omega
                  exact hcut_196 x_670 (by constructor <;> omega) ls (lv_sub hl [0, 1, 2, 3, 4, 5, 6, 7, 8] rfl)
                · skip
                  rw [← Int32.toInt_inj, ti_1] at c_669
                  refine lv_iload hx hb dX12_goes_90 (lv_at hl 1 rfl) ?_
                  refine lv_bipush (v := 9) hx hb dX12_goes_92 (by decide) ?_
                  refine lv_idiv hx hb dX12_goes_94 (by decide) ?_
                  refine lv_topi (fun x_671 ex_671 => ?_)
                  have hx_671 : x_671.toInt = x_192.toInt / 9 := by rw [ex_671, dv_I (by omega) (by rw [ti_9]; omega), ti_9]
                  have bx_671 : (0 ≤ x_671.toInt ∧ x_671.toInt ≤ 8) := by constructor <;> omega
                  refine lv_goto (tgt := 103) hx hb dX12_goes_95 (by decide) ?_
                  exact hcut_196 x_671 (by constructor <;> omega) ls (lv_sub hl [0, 1, 2, 3, 4, 5, 6, 7, 8] rfl)
              refine lv_icmp_ne (tgt := 75) hx hb dX12_goes_64 (by decide) (fun c_672 => ?_) (fun c_672 => ?_)
              · skip
                rw [← Int32.toInt_inj, ti_1] at c_672
                refine lv_iload hx hb dX12_goes_75 (lv_at hl 0 rfl) ?_
                refine lv_bipush (v := 9) hx hb dX12_goes_77 (by decide) ?_
                refine lv_idiv hx hb dX12_goes_79 (by decide) ?_
                refine lv_topi (fun x_673 ex_673 => ?_)
                have hx_673 : x_673.toInt = x_192.toInt / 9 := by rw [ex_673, dv_I (by omega) (by rw [ti_9]; omega), ti_9]
                have bx_673 : (0 ≤ x_673.toInt ∧ x_673.toInt ≤ 8) := by constructor <;> omega
                exact hcut_194 x_673 (by constructor <;> omega) (by omega) ls (lv_sub hl [0, 1, 2, 3, 4, 5, 6, 7] rfl)
              · skip
                rw [← Int32.toInt_inj, ti_1] at c_672
                refine lv_iload hx hb dX12_goes_67 (lv_at hl 0 rfl) ?_
                refine lv_bipush (v := 9) hx hb dX12_goes_69 (by decide) ?_
                refine lv_irem hx hb dX12_goes_71 (by decide) ?_
                refine lv_topi (fun x_674 ex_674 => ?_)
                have hx_674 : x_674.toInt = x_192.toInt % 9 := by rw [ex_674, rm_I (by omega) (by rw [ti_9]; omega), ti_9]
                have bx_674 : (0 ≤ x_674.toInt ∧ x_674.toInt ≤ 8) := by constructor <;> omega
                refine lv_goto (tgt := 80) hx hb dX12_goes_72 (by decide) ?_
                exact hcut_194 x_674 (by constructor <;> omega) (by omega) ls (lv_sub hl [0, 1, 2, 3, 4, 5, 6, 7] rfl)
      exact hloop_123 21 0 (by decide) f_59 hG _ _ hP hS hD hfr0 hrA12 hfA12 hT0 v_89 (by rw [hfo_61]; rfl) v_91 (by rw [hfo_61]; rfl) (by (try rw [ti_0]) <;> omega) (by (try rw [ti_0]) <;> omega) (by (try rw [ti_0]) <;> omega) (by (try rw [ti_0]) <;> omega) ls hl
    refine lv_icmp_ne (tgt := 25) hx hb dX12_goes_5 (by decide) (fun c_675 => ?_) (fun c_675 => ?_)
    · skip
      rw [← Int32.toInt_inj] at c_675
      exact hcut_60 f hG _ _ hP hS hD hfr0 hrA12 hfA12 hT0 v_29 (by rw [hfo_1]; rfl) v_31 (by rw [hfo_1]; rfl) (by omega) ls (lv_sub hl [0, 1, 2, 3, 4, 5] rfl)
    · skip
      rw [← Int32.toInt_inj] at c_675
      refine lv_aload_n hx hb dX12_goes_8 rfl (lv_at hl 0 rfl) ?_
      refine lv_iload_n hx hb dX12_goes_9 rfl (lv_at hl 3 rfl) ?_
      refine lv_iload hx hb dX12_goes_10 (lv_at hl 5 rfl) ?_
      refine tk_ViP (As := [.int p3, .int p5]) (rest := []) (n := 2) hx hb hml hown hU hN hZ (s_X12_closes_k12 l (dC, dI) cI cL cZ cR cG cH Z kd L f hG o0 mo0 ko0 p3 (by constructor <;> omega) p5) wd_890 wd_891 wd_892 wd_5 wd_893 (by decide +kernel) ⟨(show 2 + 1 ≤ 8 + (n_ + 1) by omega), (show 8 + (6 + 11) + 45 ≤ 205 + (n_ + 1) * 30 by omega)⟩ hK hP hD hS mo0 hfo_1 12 rfl rfl rfl hl.1 rfl (Nat.le_of_ble_eq_true rfl) dX12_goes_12 ⟨Nat.le_of_ble_eq_true rfl, Nat.le_of_ble_eq_true rfl⟩ (fun x_676 f_677 H locs hw hP hD hS => ?_)
      obtain ⟨rfl, bx_676⟩ := hw
      refine lv_if_eq (tgt := 25) hx hb dX12_goes_15 (by decide) (fun c_679 => ?_) (fun c_679 => ?_)
      · skip
        rw [← Int32.toInt_inj, ti_0] at c_679
        exact hcut_60 f hG _ _ hP hS hD hfr0 hrA12 hfA12 hT0 v_29 (by rw [hfo_1]; rfl) v_31 (by rw [hfo_1]; rfl) (by omega) ls (lv_sub hl [0, 1, 2, 3, 4, 5] rfl)
      · skip
        rw [← Int32.toInt_inj, ti_0] at c_679
        refine lv_aload_n hx hb dX12_goes_18 rfl (lv_at hl 0 rfl) ?_
        refine lv_iload_n hx hb dX12_goes_19 rfl (lv_at hl 3 rfl) ?_
        refine lv_iload hx hb dX12_goes_20 (lv_at hl 4 rfl) ?_
        refine tk_VvP (As := [.int p3, .int p4]) (rest := []) (n := 2) hx hb hml hown hU hN hZ (s_X12_completes_k12 l (dC, dI) cI cL cZ cR cG cH Z kd L f hG o0 mo0 ko0 p3 (by constructor <;> omega) p4 (by constructor <;> omega) (by intro w23 w25 w27 w29 e23 e25 e27 e29; rw [hfo_1] at e23 e25 e27 e29; obtain rfl := Option.some.inj e23; obtain rfl := Option.some.inj e25; obtain rfl := Option.some.inj e27; obtain rfl := Option.some.inj e29; omega) hT0) wd_902 wd_903 wd_904 wd_5 wd_905 (by decide +kernel) ⟨(show 7 + 1 ≤ 8 + (n_ + 1) by omega), (show 8 + (4 + 11) + 182 ≤ 205 + (n_ + 1) * 30 by omega)⟩ hK hP hD hS mo0 hfo_1 12 rfl rfl rfl hl.1 rfl (Nat.le_of_ble_eq_true rfl) dX12_goes_22 ⟨Nat.le_of_ble_eq_true rfl, Nat.le_of_ble_eq_true rfl⟩ (fun f_681 H locs hw hP hD hS => ?_)
        obtain ⟨hG, hkc_682, hra_683, hfa_684, hpost_685, hTc_686⟩ := hw
        have hfr0 : ∀ b, kd b ≠ 12 → kd b ≠ 579 → kd b ≠ 581 → kd b ≠ 583 → kd b ≠ 585 → kd b ≠ 587 → kd b ≠ 588 → kd b ≠ 590 → kd b ≠ 591 → kd b ≠ 592 → kd b ≠ 593 → kd b ≠ 603 → f_681 b = f b := fun b q12 q579 q581 q583 q585 q587 q588 q590 q591 q592 q593 q603 => (hkc_682 b q12 q591 q592 q593 q603).trans (hfr0 b q12 q579 q581 q583 q585 q587 q588 q590 q591 q592 q593 q603)
        have hrA12 : ∀ b, kd b = 12 → ∀ j, fldR (f_681 b) j = fldR (f b) j := fun b kb j => (hra_683 b kb j).trans (hrA12 b kb j)
        have hfA12 : ∀ b, kd b = 12 → ∀ j, j ≠ 27 → j ≠ 29 → j ≠ 32 → fldI (f_681 b) j = fldI (f b) j := fun b kb j n27 n29 n32 => (hfa_684 b kb j n27 n29 n32).trans (hfA12 b kb j n27 n29 n32)
        obtain ⟨a_689, a_690, a_691, v_692, a_693, v_694, v_695, v_696, v_697, v_698, v_699, v_700, v_701, v_702, v_703, a_704, a_705, a_706, a_707, a_708, a_709, a_710, a_711, v_712, v_713, v_714, v_715, v_716, a_717, v_718, a_719, a_720, v_721, v_722, a_723, v_724, a_725, a_726, v_727, v_728, a_729, a_730, a_731, v_732, a_733, a_734, a_735, a_736, a_737, a_738, a_739, a_740, a_741, v_742, v_743, a_744, hfo_688, ⟨ma_689, ka_689⟩, ⟨ma_690, ka_690⟩, ⟨ma_691, ka_691⟩, bv_692, ⟨ma_693, ka_693⟩, bv_694, bv_695, bv_700, bv_701, bv_702, ⟨ma_704, ka_704⟩, ⟨ma_705, ka_705⟩, ⟨ma_706, ka_706⟩, ⟨ma_707, ka_707⟩, ⟨ma_708, ka_708⟩, ⟨ma_709, ka_709⟩, ⟨ma_710, ka_710⟩, ⟨ma_711, ka_711⟩, bv_712, bv_714, bv_716, ⟨ma_717, ka_717⟩, bv_718, ⟨ma_719, ka_719⟩, ⟨ma_720, ka_720⟩, bv_721, ⟨ma_723, ka_723⟩, bv_724, ⟨ma_725, ka_725⟩, ⟨ma_726, ka_726⟩, bv_727, ⟨ma_729, ka_729⟩, ⟨ma_730, ka_730⟩, ⟨ma_731, ka_731⟩, bv_732, ⟨ma_733, ka_733⟩, ⟨ma_734, ka_734⟩, ⟨ma_735, ka_735⟩, ⟨ma_736, ka_736⟩, ⟨ma_737, ka_737⟩, ⟨ma_738, ka_738⟩, ⟨ma_739, ka_739⟩, ⟨ma_740, ka_740⟩, ⟨ma_741, ka_741⟩, bv_742, ⟨ma_744, ka_744⟩⟩ := un_12 (hG _ mo0) ko0
        have bv_696 : ((-2147483648) ≤ v_696.toInt ∧ v_696.toInt ≤ 2147483647) := ⟨i32_lo _, i32_hi _⟩
        have bv_697 : ((-2147483648) ≤ v_697.toInt ∧ v_697.toInt ≤ 2147483647) := ⟨i32_lo _, i32_hi _⟩
        have bv_698 : ((-2147483648) ≤ v_698.toInt ∧ v_698.toInt ≤ 2147483647) := ⟨i32_lo _, i32_hi _⟩
        have bv_699 : ((-2147483648) ≤ v_699.toInt ∧ v_699.toInt ≤ 2147483647) := ⟨i32_lo _, i32_hi _⟩
        have bv_703 : ((-2147483648) ≤ v_703.toInt ∧ v_703.toInt ≤ 2147483647) := ⟨i32_lo _, i32_hi _⟩
        have bv_713 : ((-2147483648) ≤ v_713.toInt ∧ v_713.toInt ≤ 2147483647) := ⟨i32_lo _, i32_hi _⟩
        have bv_715 : ((-2147483648) ≤ v_715.toInt ∧ v_715.toInt ≤ 2147483647) := ⟨i32_lo _, i32_hi _⟩
        have bv_722 : ((-2147483648) ≤ v_722.toInt ∧ v_722.toInt ≤ 2147483647) := ⟨i32_lo _, i32_hi _⟩
        have bv_728 : ((-2147483648) ≤ v_728.toInt ∧ v_728.toInt ≤ 2147483647) := ⟨i32_lo _, i32_hi _⟩
        have bv_743 : ((-2147483648) ≤ v_743.toInt ∧ v_743.toInt ≤ 2147483647) := ⟨i32_lo _, i32_hi _⟩
        obtain ⟨rfl, rfl, rfl, rfl, rfl, rfl, rfl, rfl, rfl, rfl, rfl, rfl, rfl, rfl, rfl, rfl, rfl, rfl, rfl, rfl, rfl, rfl, rfl, rfl, rfl, rfl, rfl, rfl, rfl, rfl, rfl⟩ := re_12 hfo_1 hfo_688 (hrA12 o0 ko0)
        obtain rfl := ri_12_3 hfo_1 hfo_688 (hfA12 o0 ko0 3 (by decide) (by decide) (by decide))
        obtain rfl := ri_12_5 hfo_1 hfo_688 (hfA12 o0 ko0 5 (by decide) (by decide) (by decide))
        obtain rfl := ri_12_6 hfo_1 hfo_688 (hfA12 o0 ko0 6 (by decide) (by decide) (by decide))
        obtain rfl := ri_12_11 hfo_1 hfo_688 (hfA12 o0 ko0 11 (by decide) (by decide) (by decide))
        obtain rfl := ri_12_12 hfo_1 hfo_688 (hfA12 o0 ko0 12 (by decide) (by decide) (by decide))
        obtain rfl := ri_12_13 hfo_1 hfo_688 (hfA12 o0 ko0 13 (by decide) (by decide) (by decide))
        obtain rfl := ri_12_14 hfo_1 hfo_688 (hfA12 o0 ko0 14 (by decide) (by decide) (by decide))
        obtain rfl := ri_12_23 hfo_1 hfo_688 (hfA12 o0 ko0 23 (by decide) (by decide) (by decide))
        obtain rfl := ri_12_25 hfo_1 hfo_688 (hfA12 o0 ko0 25 (by decide) (by decide) (by decide))
        obtain rfl := ri_12_33 hfo_1 hfo_688 (hfA12 o0 ko0 33 (by decide) (by decide) (by decide))
        obtain rfl := ri_12_35 hfo_1 hfo_688 (hfA12 o0 ko0 35 (by decide) (by decide) (by decide))
        obtain rfl := ri_12_38 hfo_1 hfo_688 (hfA12 o0 ko0 38 (by decide) (by decide) (by decide))
        obtain rfl := ri_12_43 hfo_1 hfo_688 (hfA12 o0 ko0 43 (by decide) (by decide) (by decide))
        obtain rfl := ri_12_53 hfo_1 hfo_688 (hfA12 o0 ko0 53 (by decide) (by decide) (by decide))
        have hqhpost_685 := hpost_685 v_27 v_27 v_29 v_716 v_31 v_718 (by rw [hfo_1]; rfl) (by rw [hfo_1]; rfl) (by rw [hfo_1]; rfl) (by rw [hfo_688]; rfl) (by rw [hfo_688]; rfl) (by rw [hfo_688]; rfl)
        exact hcut_60 f_681 hG _ _ hP hS hD hfr0 hrA12 hfA12 hTc_686 v_716 (by rw [hfo_688]; rfl) v_718 (by rw [hfo_688]; rfl) (by omega) ls (lv_sub hl [0, 1, 2, 3, 4, 5] rfl)
