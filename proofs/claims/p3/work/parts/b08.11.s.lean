set_option maxHeartbeats 8000000 in
set_option maxRecDepth 100000 in
theorem s_X12_bad_k12 (l : Launch) (D : va_G) (cI cL cZ cR cG cH : ClassId) (Z : zT) (kd : Nat → Nat) (L : List Nat) (f : Nat → va_E) (hG : GI (okc cI cL cZ cR cG cH L kd) kd L f) (o0 : Nat) (mo0 : o0 ∈ L) (ko0 : kd o0 = 12) (p1 : Int32) (p2 : Int32) : mPI l D cI cL cZ cR cG cH Z yX12_bad cX12_bad 3 (some .boolean) 0 0 [.ref o0, .int p1, .int p2] L f (fun (r : Int32) (f9 : Nat → va_E) => GI (okc cI cL cZ cR cG cH L kd) kd L f9 ∧ (0 ≤ r.toInt ∧ r.toInt ≤ 0) ∧ (∀ b, kd b ≠ 12 → f9 b = f b) ∧ (∀ b, kd b = 12 → ∀ j, fldR (f9 b) j = fldR (f b) j) ∧ (∀ b, kd b = 12 → ∀ j, j ≠ 7 → j ≠ 8 → fldI (f9 b) j = fldI (f b) j)) := by
  obtain ⟨dC, dI⟩ := D
  refine Met.ofW (cc := cX12_bad) (maxL := 3) (ret := (some .boolean)) (by decide) rfl ?_
  intro p e s m args below meth c s₁ B hml hv
  obtain ⟨rfl, hP, hK, hD0, hN, hZ⟩ := hv
  have hx := B.exec
  have hb := B.bytes
  have hr := B.returns
  have hU : ∀ w ∈ wsU, w.before _ s = true := fun w h => atoms_spec (ws := wU yX12_bad cX12_bad 3 (some .boolean)) B.pre w (List.mem_cons_of_mem _ h)
  have hown : s.vm.findClass RX12 = some m.cls := findClass_of_methodNamed B.named
  have hlocks := B.notSynchronized
  have hD := pl_in hD0
  have hS : va_S (fun q => q ∈ L) s.heap s.heap [] := va_S.rf
  have hl := lv_entry ([.ref o0, .int p1, .int p2]) (n := 3) (Nat.le_of_ble_eq_true rfl)
  rw [lg_entry_eq]
  generalize (lg_sl ([.ref o0, .int p1, .int p2]) ++ List.replicate (3 - (lg_sl ([.ref o0, .int p1, .int p2])).length) Slot.unset).toArray = ls at hl ⊢
  have hl : lv_has ls 3 [(0, .ref o0), (1, .int p1), (2, .int p2)] := hl
  have bp1 : ((-2147483648) ≤ p1.toInt ∧ p1.toInt ≤ 2147483647) := ⟨i32_lo _, i32_hi _⟩
  have bp2 : ((-2147483648) ≤ p2.toInt ∧ p2.toInt ≤ 2147483647) := ⟨i32_lo _, i32_hi _⟩
  have hfr0 : ∀ b, kd b ≠ 12 → f b = f b := fun _ _ => rfl
  have hrA12 : ∀ b, kd b = 12 → ∀ j, fldR (f b) j = fldR (f b) j := fun _ _ _ => rfl
  have hfA12 : ∀ b, kd b = 12 → ∀ j, j ≠ 7 → j ≠ 8 → fldI (f b) j = fldI (f b) j := fun _ _ _ _ _ => rfl
  refine lv_aload_n hx hb dX12_bad_0 rfl (lv_at hl 0 rfl) ?_
  refine lv_iload_n hx hb dX12_bad_1 rfl (lv_at hl 1 rfl) ?_
  obtain ⟨a_1, a_2, a_3, v_4, a_5, v_6, v_7, v_8, v_9, v_10, v_11, v_12, v_13, v_14, v_15, a_16, a_17, a_18, a_19, a_20, a_21, a_22, a_23, v_24, v_25, v_26, v_27, v_28, a_29, v_30, a_31, a_32, v_33, v_34, a_35, v_36, a_37, a_38, v_39, v_40, a_41, a_42, a_43, v_44, a_45, a_46, a_47, a_48, a_49, a_50, a_51, a_52, a_53, v_54, v_55, a_56, hfo_57, fa_58⟩ := un12 (hG _ mo0) ko0
  refine tk_putP (D := (dC, dI)) (ci := 12) (v := .int p1) (ty := .int) (C := RX12) (T := TX12) (N := 56) hx hb hU inlX12 tyX12 tyX12_ok nmX12 hown hK hP hD hS mo0 hfo_57 rfl 7 (by decide) (hU _ wd_567) (fun _ h9 => h9) rfl (by decide +kernel) rfl rfl (Nat.le_of_ble_eq_true rfl) dX12_bad_2 (fun H locs hP hD hS => ?_)
  have fa_59 := fu12_7 (y := p1) fa_58
  obtain ⟨f_61, ef_61⟩ : ∃ y : Nat → va_E, y = va_up f o0 (.inr (12, [.ref a_1, .ref a_2, .ref a_3, .int v_4, .ref a_5, .int v_6, .int v_7, .int p1, .int v_9, .int v_10, .int v_11, .int v_12, .int v_13, .int v_14, .int v_15, .ref a_16, .ref a_17, .ref a_18, .ref a_19, .ref a_20, .ref a_21, .ref a_22, .ref a_23, .int v_24, .int v_25, .int v_26, .int v_27, .int v_28, .ref a_29, .int v_30, .ref a_31, .ref a_32, .int v_33, .int v_34, .ref a_35, .int v_36, .ref a_37, .ref a_38, .int v_39, .int v_40, .ref a_41, .ref a_42, .ref a_43, .int v_44, .ref a_45, .ref a_46, .ref a_47, .ref a_48, .ref a_49, .ref a_50, .ref a_51, .ref a_52, .ref a_53, .int v_54, .int v_55, .ref a_56])) := ⟨_, rfl⟩
  have hP : va_P (dC, dI) vwCl (va_pl L f_61) H := by rw [ef_61]; exact hP
  have hD : va_D (fun q => q ∈ L) (va_pl L f_61) := by rw [ef_61]; exact hD
  have hG : GI (okc cI cL cZ cR cG cH L kd) kd L f_61 := by rw [ef_61]; exact hG.set o0 (mk_12 ko0 (fo12 fa_59))
  have hfr0 : ∀ b, kd b ≠ 12 → f_61 b = f b := fun b q12 => (congrFun ef_61 b).trans ((up_ne (fun e9 => q12 (by rw [e9]; exact ko0))).trans (hfr0 b q12))
  have hrA12 : ∀ b, kd b = 12 → ∀ j, fldR (f_61 b) j = fldR (f b) j := fun b kb j => ((congrArg (fun x => fldR x j) (congrFun ef_61 b)).trans (fra_up (fun j => by rw [hfo_57]; exact fr_set (k := 7) rfl rfl) j b)).trans (hrA12 b kb j)
  have hfA12 : ∀ b, kd b = 12 → ∀ j, j ≠ 7 → j ≠ 8 → fldI (f_61 b) j = fldI (f b) j := fun b kb j n7 n8 => ((congrArg (fun x => fldI x j) (congrFun ef_61 b)).trans (fia_up (fun h9 => by rw [hfo_57]; exact fi_set (k := 7) rfl h9) n7 b)).trans (hfA12 b kb j n7 n8)
  have hfo_62 : f_61 o0 = .inr (12, [.ref a_1, .ref a_2, .ref a_3, .int v_4, .ref a_5, .int v_6, .int v_7, .int p1, .int v_9, .int v_10, .int v_11, .int v_12, .int v_13, .int v_14, .int v_15, .ref a_16, .ref a_17, .ref a_18, .ref a_19, .ref a_20, .ref a_21, .ref a_22, .ref a_23, .int v_24, .int v_25, .int v_26, .int v_27, .int v_28, .ref a_29, .int v_30, .ref a_31, .ref a_32, .int v_33, .int v_34, .ref a_35, .int v_36, .ref a_37, .ref a_38, .int v_39, .int v_40, .ref a_41, .ref a_42, .ref a_43, .int v_44, .ref a_45, .ref a_46, .ref a_47, .ref a_48, .ref a_49, .ref a_50, .ref a_51, .ref a_52, .ref a_53, .int v_54, .int v_55, .ref a_56]) := by rw [ef_61]; exact up_self
  refine lv_aload_n hx hb dX12_bad_5 rfl (lv_at hl 0 rfl) ?_
  refine lv_iload_n hx hb dX12_bad_6 rfl (lv_at hl 2 rfl) ?_
  refine tk_putP (D := (dC, dI)) (ci := 12) (v := .int p2) (ty := .int) (C := RX12) (T := TX12) (N := 56) hx hb hU inlX12 tyX12 tyX12_ok nmX12 hown hK hP hD hS mo0 hfo_62 rfl 8 (by decide) (hU _ wd_569) (fun _ h9 => h9) rfl (by decide +kernel) rfl rfl (Nat.le_of_ble_eq_true rfl) dX12_bad_7 (fun H locs hP hD hS => ?_)
  have fa_63 := fu12_8 (y := p2) fa_59
  obtain ⟨f_65, ef_65⟩ : ∃ y : Nat → va_E, y = va_up f_61 o0 (.inr (12, [.ref a_1, .ref a_2, .ref a_3, .int v_4, .ref a_5, .int v_6, .int v_7, .int p1, .int p2, .int v_10, .int v_11, .int v_12, .int v_13, .int v_14, .int v_15, .ref a_16, .ref a_17, .ref a_18, .ref a_19, .ref a_20, .ref a_21, .ref a_22, .ref a_23, .int v_24, .int v_25, .int v_26, .int v_27, .int v_28, .ref a_29, .int v_30, .ref a_31, .ref a_32, .int v_33, .int v_34, .ref a_35, .int v_36, .ref a_37, .ref a_38, .int v_39, .int v_40, .ref a_41, .ref a_42, .ref a_43, .int v_44, .ref a_45, .ref a_46, .ref a_47, .ref a_48, .ref a_49, .ref a_50, .ref a_51, .ref a_52, .ref a_53, .int v_54, .int v_55, .ref a_56])) := ⟨_, rfl⟩
  have hP : va_P (dC, dI) vwCl (va_pl L f_65) H := by rw [ef_65]; exact hP
  have hD : va_D (fun q => q ∈ L) (va_pl L f_65) := by rw [ef_65]; exact hD
  have hG : GI (okc cI cL cZ cR cG cH L kd) kd L f_65 := by rw [ef_65]; exact hG.set o0 (mk_12 ko0 (fo12 fa_63))
  have hfr0 : ∀ b, kd b ≠ 12 → f_65 b = f b := fun b q12 => (congrFun ef_65 b).trans ((up_ne (fun e9 => q12 (by rw [e9]; exact ko0))).trans (hfr0 b q12))
  have hrA12 : ∀ b, kd b = 12 → ∀ j, fldR (f_65 b) j = fldR (f b) j := fun b kb j => ((congrArg (fun x => fldR x j) (congrFun ef_65 b)).trans (fra_up (fun j => by rw [hfo_62]; exact fr_set (k := 8) rfl rfl) j b)).trans (hrA12 b kb j)
  have hfA12 : ∀ b, kd b = 12 → ∀ j, j ≠ 7 → j ≠ 8 → fldI (f_65 b) j = fldI (f b) j := fun b kb j n7 n8 => ((congrArg (fun x => fldI x j) (congrFun ef_65 b)).trans (fia_up (fun h9 => by rw [hfo_62]; exact fi_set (k := 8) rfl h9) n8 b)).trans (hfA12 b kb j n7 n8)
  have hfo_66 : f_65 o0 = .inr (12, [.ref a_1, .ref a_2, .ref a_3, .int v_4, .ref a_5, .int v_6, .int v_7, .int p1, .int p2, .int v_10, .int v_11, .int v_12, .int v_13, .int v_14, .int v_15, .ref a_16, .ref a_17, .ref a_18, .ref a_19, .ref a_20, .ref a_21, .ref a_22, .ref a_23, .int v_24, .int v_25, .int v_26, .int v_27, .int v_28, .ref a_29, .int v_30, .ref a_31, .ref a_32, .int v_33, .int v_34, .ref a_35, .int v_36, .ref a_37, .ref a_38, .int v_39, .int v_40, .ref a_41, .ref a_42, .ref a_43, .int v_44, .ref a_45, .ref a_46, .ref a_47, .ref a_48, .ref a_49, .ref a_50, .ref a_51, .ref a_52, .ref a_53, .int v_54, .int v_55, .ref a_56]) := by rw [ef_65]; exact up_self
  refine lv_iconst (v := 0) hx hb dX12_bad_10 (by decide) ?_
  exact W.zret (v := 0) (ty := .boolean) hx hb hr rfl (fun t ht hW => ⟨⟨0, f_65, rfl, ⟨hG, (by decide), hfr0, hrA12, hfA12⟩, by rw [ht]; exact hP, va_K.moved hW.alike hK, pl_in hD⟩, hS.F ht⟩) hS.2.2 dX12_bad_11
set_option maxHeartbeats 8000000 in
set_option maxRecDepth 100000 in
theorem s_X12_takes_k12 (l : Launch) (D : va_G) (cI cL cZ cR cG cH : ClassId) (Z : zT) (kd : Nat → Nat) (L : List Nat) (f : Nat → va_E) (hG : GI (okc cI cL cZ cR cG cH L kd) kd L f) (o0 : Nat) (mo0 : o0 ∈ L) (ko0 : kd o0 = 12) (p1 : Int32) (bp1 : (0 ≤ p1.toInt ∧ p1.toInt ≤ 255)) : mPI l D cI cL cZ cR cG cH Z yX12_takes cX12_takes 2 (some .boolean) 3 61 [.ref o0, .int p1] L f (fun (r : Int32) (f9 : Nat → va_E) => GI (okc cI cL cZ cR cG cH L kd) kd L f9 ∧ (0 ≤ r.toInt ∧ r.toInt ≤ 1) ∧ (∀ b, kd b ≠ 12 → f9 b = f b) ∧ (∀ b, kd b = 12 → ∀ j, fldR (f9 b) j = fldR (f b) j) ∧ (∀ b, kd b = 12 → ∀ j, j ≠ 6 → j ≠ 7 → j ≠ 8 → fldI (f9 b) j = fldI (f b) j) ∧ (∀ (w6 z6 : Int32), fldI (f o0) 6 = some w6 → fldI (f9 o0) 6 = some z6 → w6.toInt + r.toInt ≤ z6.toInt)) := by
  obtain ⟨dC, dI⟩ := D
  refine Met.ofW (cc := cX12_takes) (maxL := 2) (ret := (some .boolean)) (by decide) rfl ?_
  intro p e s m args below meth c s₁ B hml hv
  obtain ⟨rfl, hP, hK, hD0, hN, hZ⟩ := hv
  have hx := B.exec
  have hb := B.bytes
  have hr := B.returns
  have hU : ∀ w ∈ wsU, w.before _ s = true := fun w h => atoms_spec (ws := wU yX12_takes cX12_takes 2 (some .boolean)) B.pre w (List.mem_cons_of_mem _ h)
  have hown : s.vm.findClass RX12 = some m.cls := findClass_of_methodNamed B.named
  have hlocks := B.notSynchronized
  have hD := pl_in hD0
  have hS : va_S (fun q => q ∈ L) s.heap s.heap [] := va_S.rf
  have hl := lv_entry ([.ref o0, .int p1]) (n := 2) (Nat.le_of_ble_eq_true rfl)
  rw [lg_entry_eq]
  generalize (lg_sl ([.ref o0, .int p1]) ++ List.replicate (2 - (lg_sl ([.ref o0, .int p1])).length) Slot.unset).toArray = ls at hl ⊢
  have hl : lv_has ls 2 [(0, .ref o0), (1, .int p1)] := hl
  have hfr0 : ∀ b, kd b ≠ 12 → f b = f b := fun _ _ => rfl
  have hrA12 : ∀ b, kd b = 12 → ∀ j, fldR (f b) j = fldR (f b) j := fun _ _ _ => rfl
  have hfA12 : ∀ b, kd b = 12 → ∀ j, j ≠ 6 → j ≠ 7 → j ≠ 8 → fldI (f b) j = fldI (f b) j := fun _ _ _ _ _ _ => rfl
  obtain ⟨a_1, a_2, a_3, v_4, a_5, v_6, v_7, v_8, v_9, v_10, v_11, v_12, v_13, v_14, v_15, a_16, a_17, a_18, a_19, a_20, a_21, a_22, a_23, v_24, v_25, v_26, v_27, v_28, a_29, v_30, a_31, a_32, v_33, v_34, a_35, v_36, a_37, a_38, v_39, v_40, a_41, a_42, a_43, v_44, a_45, a_46, a_47, a_48, a_49, a_50, a_51, a_52, a_53, v_54, v_55, a_56, hfo_57, fa_58⟩ := un12 (hG _ mo0) ko0
  have bv_7 : (0 ≤ v_7.toInt ∧ v_7.toInt ≤ 600) := fa12_6 fa_58
  refine lv_aload_n hx hb dX12_takes_0 rfl (lv_at hl 0 rfl) ?_
  refine tk_ViP (As := []) (rest := []) (n := 0) hx hb hml hown hU hN hZ (s_X12_sign_k12 l (dC, dI) cI cL cZ cR cG cH Z kd L f hG o0 mo0 ko0) wd_573 wd_574 wd_575 wd_5 wd_576 (by decide +kernel) ⟨Nat.le_of_ble_eq_true rfl, Nat.le_of_ble_eq_true rfl⟩ hK hP hD hS mo0 hfo_57 12 rfl rfl rfl hl.1 rfl (Nat.le_of_ble_eq_true rfl) dX12_takes_1 ⟨Nat.le_of_ble_eq_true rfl, Nat.le_of_ble_eq_true rfl⟩ (fun x_59 f_60 H locs hw hP hD hS => ?_)
  obtain ⟨hG, bx_59, hkc_61, hra_62, hfa_63, hpost_64⟩ := hw
  have hfr0 : ∀ b, kd b ≠ 12 → f_60 b = f b := fun b q12 => (hkc_61 b q12).trans (hfr0 b q12)
  have hrA12 : ∀ b, kd b = 12 → ∀ j, fldR (f_60 b) j = fldR (f b) j := fun b kb j => (hra_62 b kb j).trans (hrA12 b kb j)
  have hfA12 : ∀ b, kd b = 12 → ∀ j, j ≠ 6 → j ≠ 7 → j ≠ 8 → fldI (f_60 b) j = fldI (f b) j := fun b kb j n6 n7 n8 => (hfa_63 b kb j n6).trans (hfA12 b kb j n6 n7 n8)
  obtain ⟨v_66, hfo_67, fa_68⟩ := op12_6 hfo_57 (hG _ mo0) ko0 (hra_62 o0 ko0) (hfa_63 o0 ko0)
  have bv_66 : (0 ≤ v_66.toInt ∧ v_66.toInt ≤ 600) := fa12_6 fa_68
  have hqhpost_64 := hpost_64 v_7 v_66 (by rw [hfo_57]; rfl) (by rw [hfo_67]; rfl)
  refine lv_iload_n hx hb dX12_takes_4 rfl (lv_at hl 1 rfl) ?_
  refine lv_icmp_eq (tgt := 18) hx hb dX12_takes_5 (by decide) (fun c_69 => ?_) (fun c_69 => ?_)
  · skip
    rw [← Int32.toInt_inj] at c_69
    have hclc_70 : (0 ≤ v_66.toInt ∧ v_66.toInt ≤ 599) := by constructor <;> omega
    refine lv_aload_n hx hb dX12_takes_18 rfl (lv_at hl 0 rfl) ?_
    refine lv_dup hx hb dX12_takes_19 rfl ?_
    refine tk_getP (D := (dC, dI)) (ci := 12) (v := .int v_66) (C := RX12) (T := TX12) (N := 56) hx hb hU inlX12 hown hK hP mo0 hfo_67 rfl 6 (by decide) (hU _ wd_566) (fun _ h9 => h9) rfl dX12_takes_20 ?_
    refine lv_iconst (v := 1) hx hb dX12_takes_23 (by decide) ?_
    refine lv_iadd hx hb dX12_takes_24 ?_
    refine lv_topi (fun x_71 ex_71 => ?_)
    have hx_71 : x_71.toInt = v_66.toInt + 1 := by rw [ex_71, ad_I (by rw [ti_1]; omega) (by rw [ti_1]; omega), ti_1]
    have bx_71 : (1 ≤ x_71.toInt ∧ x_71.toInt ≤ 600) := by constructor <;> omega
    refine tk_putP (D := (dC, dI)) (ci := 12) (v := .int x_71) (ty := .int) (C := RX12) (T := TX12) (N := 56) hx hb hU inlX12 tyX12 tyX12_ok nmX12 hown hK hP hD hS mo0 hfo_67 rfl 6 (by decide) (hU _ wd_566) (fun _ h9 => h9) rfl (by decide +kernel) rfl rfl (Nat.le_of_ble_eq_true rfl) dX12_takes_25 (fun H locs hP hD hS => ?_)
    have fa_72 := fu12_6 (y := x_71) fa_68 (by constructor <;> omega)
    obtain ⟨f_74, ef_74⟩ : ∃ y : Nat → va_E, y = va_up f_60 o0 (.inr (12, [.ref a_1, .ref a_2, .ref a_3, .int v_4, .ref a_5, .int v_6, .int x_71, .int v_8, .int v_9, .int v_10, .int v_11, .int v_12, .int v_13, .int v_14, .int v_15, .ref a_16, .ref a_17, .ref a_18, .ref a_19, .ref a_20, .ref a_21, .ref a_22, .ref a_23, .int v_24, .int v_25, .int v_26, .int v_27, .int v_28, .ref a_29, .int v_30, .ref a_31, .ref a_32, .int v_33, .int v_34, .ref a_35, .int v_36, .ref a_37, .ref a_38, .int v_39, .int v_40, .ref a_41, .ref a_42, .ref a_43, .int v_44, .ref a_45, .ref a_46, .ref a_47, .ref a_48, .ref a_49, .ref a_50, .ref a_51, .ref a_52, .ref a_53, .int v_54, .int v_55, .ref a_56])) := ⟨_, rfl⟩
    have hP : va_P (dC, dI) vwCl (va_pl L f_74) H := by rw [ef_74]; exact hP
    have hD : va_D (fun q => q ∈ L) (va_pl L f_74) := by rw [ef_74]; exact hD
    have hG : GI (okc cI cL cZ cR cG cH L kd) kd L f_74 := by rw [ef_74]; exact hG.set o0 (mk_12 ko0 (fo12 fa_72))
    have hfr0 : ∀ b, kd b ≠ 12 → f_74 b = f b := fun b q12 => (congrFun ef_74 b).trans ((up_ne (fun e9 => q12 (by rw [e9]; exact ko0))).trans (hfr0 b q12))
    have hrA12 : ∀ b, kd b = 12 → ∀ j, fldR (f_74 b) j = fldR (f b) j := fun b kb j => ((congrArg (fun x => fldR x j) (congrFun ef_74 b)).trans (fra_up (fun j => by rw [hfo_67]; exact fr_set (k := 6) rfl rfl) j b)).trans (hrA12 b kb j)
    have hfA12 : ∀ b, kd b = 12 → ∀ j, j ≠ 6 → j ≠ 7 → j ≠ 8 → fldI (f_74 b) j = fldI (f b) j := fun b kb j n6 n7 n8 => ((congrArg (fun x => fldI x j) (congrFun ef_74 b)).trans (fia_up (fun h9 => by rw [hfo_67]; exact fi_set (k := 6) rfl h9) n6 b)).trans (hfA12 b kb j n6 n7 n8)
    have hfo_75 : f_74 o0 = .inr (12, [.ref a_1, .ref a_2, .ref a_3, .int v_4, .ref a_5, .int v_6, .int x_71, .int v_8, .int v_9, .int v_10, .int v_11, .int v_12, .int v_13, .int v_14, .int v_15, .ref a_16, .ref a_17, .ref a_18, .ref a_19, .ref a_20, .ref a_21, .ref a_22, .ref a_23, .int v_24, .int v_25, .int v_26, .int v_27, .int v_28, .ref a_29, .int v_30, .ref a_31, .ref a_32, .int v_33, .int v_34, .ref a_35, .int v_36, .ref a_37, .ref a_38, .int v_39, .int v_40, .ref a_41, .ref a_42, .ref a_43, .int v_44, .ref a_45, .ref a_46, .ref a_47, .ref a_48, .ref a_49, .ref a_50, .ref a_51, .ref a_52, .ref a_53, .int v_54, .int v_55, .ref a_56]) := by rw [ef_74]; exact up_self
    refine lv_iconst (v := 1) hx hb dX12_takes_28 (by decide) ?_
    exact W.zret (v := 1) (ty := .boolean) hx hb hr rfl (fun t ht hW => ⟨⟨1, f_74, rfl, ⟨hG, (by decide), hfr0, hrA12, hfA12, (by intro w6 z6 e6 d6; rw [hfo_57] at e6; rw [hfo_75] at d6; obtain rfl := Option.some.inj e6; obtain rfl := Option.some.inj d6; (try rw [ti_1]) <;> omega)⟩, by rw [ht]; exact hP, va_K.moved hW.alike hK, pl_in hD⟩, hS.F ht⟩) hS.2.2 dX12_takes_29
  · skip
    rw [← Int32.toInt_inj] at c_69
    refine lv_aload_n hx hb dX12_takes_8 rfl (lv_at hl 0 rfl) ?_
    refine lv_iconst (v := 1) hx hb dX12_takes_9 (by decide) ?_
    refine lv_aload_n hx hb dX12_takes_10 rfl (lv_at hl 0 rfl) ?_
    refine tk_getP (D := (dC, dI)) (ci := 12) (v := .int v_66) (C := RX12) (T := TX12) (N := 56) hx hb hU inlX12 hown hK hP mo0 hfo_67 rfl 6 (by decide) (hU _ wd_566) (fun _ h9 => h9) rfl dX12_takes_11 ?_
    refine tk_ViP (As := [.int 1, .int v_66]) (rest := []) (n := 2) hx hb hml hown hU hN hZ (s_X12_bad_k12 l (dC, dI) cI cL cZ cR cG cH Z kd L f_60 hG o0 mo0 ko0 1 v_66) wd_602 wd_603 wd_604 wd_5 wd_605 (by decide +kernel) ⟨Nat.le_of_ble_eq_true rfl, Nat.le_of_ble_eq_true rfl⟩ hK hP hD hS mo0 hfo_67 12 rfl rfl rfl hl.1 rfl (Nat.le_of_ble_eq_true rfl) dX12_takes_14 ⟨Nat.le_of_ble_eq_true rfl, Nat.le_of_ble_eq_true rfl⟩ (fun x_76 f_77 H locs hw hP hD hS => ?_)
    obtain ⟨hG, bx_76, hkc_78, hra_79, hfa_80⟩ := hw
    have hfr0 : ∀ b, kd b ≠ 12 → f_77 b = f b := fun b q12 => (hkc_78 b q12).trans (hfr0 b q12)
    have hrA12 : ∀ b, kd b = 12 → ∀ j, fldR (f_77 b) j = fldR (f b) j := fun b kb j => (hra_79 b kb j).trans (hrA12 b kb j)
    have hfA12 : ∀ b, kd b = 12 → ∀ j, j ≠ 6 → j ≠ 7 → j ≠ 8 → fldI (f_77 b) j = fldI (f b) j := fun b kb j n6 n7 n8 => (hfa_80 b kb j n7 n8).trans (hfA12 b kb j n6 n7 n8)
    obtain ⟨v_82, v_83, hfo_84, fa_85⟩ := op12_7_8 hfo_67 (hG _ mo0) ko0 (hra_79 o0 ko0) (hfa_80 o0 ko0)
    have bv_82 : ((-2147483648) ≤ v_82.toInt ∧ v_82.toInt ≤ 2147483647) := ⟨i32_lo _, i32_hi _⟩
    have bv_83 : ((-2147483648) ≤ v_83.toInt ∧ v_83.toInt ≤ 2147483647) := ⟨i32_lo _, i32_hi _⟩
    exact W.zret (v := x_76) (ty := .boolean) hx hb hr (zb_n (by constructor <;> omega)) (fun t ht hW => ⟨⟨x_76, f_77, rfl, ⟨hG, (by constructor <;> omega), hfr0, hrA12, hfA12, (by intro w6 z6 e6 d6; rw [hfo_57] at e6; rw [hfo_84] at d6; obtain rfl := Option.some.inj e6; obtain rfl := Option.some.inj d6; omega)⟩, by rw [ht]; exact hP, va_K.moved hW.alike hK, pl_in hD⟩, hS.F ht⟩) hS.2.2 dX12_takes_17
set_option maxHeartbeats 8000000 in
set_option maxRecDepth 100000 in
theorem s_X12_is_k12 (l : Launch) (D : va_G) (cI cL cZ cR cG cH : ClassId) (Z : zT) (kd : Nat → Nat) (L : List Nat) (f : Nat → va_E) (hG : GI (okc cI cL cZ cR cG cH L kd) kd L f) (o0 : Nat) (mo0 : o0 ∈ L) (ko0 : kd o0 = 12) (p1 : Int32) (bp1 : (0 ≤ p1.toInt ∧ p1.toInt ≤ 600)) (p2 : Int32) (bp2 : (0 ≤ p2.toInt ∧ p2.toInt ≤ 600)) (i3 : Nat) (hi3 : i3 < 10) : mPI l D cI cL cZ cR cG cH Z yX12_is cX12_is 6 (some .boolean) 4 85 [.ref o0, .int p1, .int p2, .ref (Z.1 i3)] L f (fun (r : Int32) (f9 : Nat → va_E) => f = f9 ∧ (0 ≤ r.toInt ∧ r.toInt ≤ 1)) := by
  obtain ⟨dC, dI⟩ := D
  refine Met.ofW (cc := cX12_is) (maxL := 6) (ret := (some .boolean)) (by decide) rfl ?_
  intro p e s m args below meth c s₁ B hml hv
  obtain ⟨rfl, hP, hK, hD0, hN, hZ⟩ := hv
  have hx := B.exec
  have hb := B.bytes
  have hr := B.returns
  have hU : ∀ w ∈ wsU, w.before _ s = true := fun w h => atoms_spec (ws := wU yX12_is cX12_is 6 (some .boolean)) B.pre w (List.mem_cons_of_mem _ h)
  have hown : s.vm.findClass RX12 = some m.cls := findClass_of_methodNamed B.named
  have hlocks := B.notSynchronized
  have hD := pl_in hD0
  have hS : va_S (fun q => q ∈ L) s.heap s.heap [] := va_S.rf
  have hl := lv_entry ([.ref o0, .int p1, .int p2, .ref (Z.1 i3)]) (n := 6) (Nat.le_of_ble_eq_true rfl)
  rw [lg_entry_eq]
  generalize (lg_sl ([.ref o0, .int p1, .int p2, .ref (Z.1 i3)]) ++ List.replicate (6 - (lg_sl ([.ref o0, .int p1, .int p2, .ref (Z.1 i3)])).length) Slot.unset).toArray = ls at hl ⊢
  have hl : lv_has ls 6 [(0, .ref o0), (1, .int p1), (2, .int p2), (3, .ref (Z.1 i3))] := hl
  refine lv_iload_n hx hb dX12_is_0 rfl (lv_at hl 2 rfl) ?_
  refine lv_iload_n hx hb dX12_is_1 rfl (lv_at hl 1 rfl) ?_
  refine lv_isub hx hb dX12_is_2 ?_
  refine lv_topi (fun x_1 ex_1 => ?_)
  have hx_1 : x_1.toInt = p2.toInt - p1.toInt := by rw [ex_1, sb_I (by omega) (by omega)]
  have bx_1 : ((-600) ≤ x_1.toInt ∧ x_1.toInt ≤ 600) := by constructor <;> omega
  refine lv_aload_n hx hb dX12_is_3 rfl (lv_at hl 3 rfl) ?_
  refine tk_TiP (As := []) (rest := [.int x_1]) (n := 0) hx hb hml hown hU hN hZ (s_J0_length_8abf5 l (dC, dI) cI cL cZ cR cG cH Z kd L f hG i3 hi3) wd_596 wd_292 wd_293 wd_294 wd_295 (by decide +kernel) ⟨Nat.le_of_ble_eq_true rfl, Nat.le_of_ble_eq_true rfl⟩ hK hP hD hS hi3 rfl rfl hl.1 rfl (Nat.le_of_ble_eq_true rfl) dX12_is_4 ⟨Nat.le_of_ble_eq_true rfl, Nat.le_of_ble_eq_true rfl⟩ (fun x_2 f_3 H locs hw hP hD hS => ?_)
  obtain ⟨rfl, bx_2, relx_2⟩ := hw
  have hcut_6 : ∀ (y_5 : Int32), (0 ≤ y_5.toInt ∧ y_5.toInt ≤ 1) → (y_5.toInt = 0 ∨ p2.toInt - p1.toInt = ((zL.getD i3 0 : Nat) : Int)) → ∀ (ls : Array Slot), lv_has ls 6 [(0, .ref o0), (1, .int p1), (2, .int p2), (3, .ref (Z.1 i3))] → W p l e (headSpec (wU yX12_is cX12_is 6 (some .boolean)) { frames := 4, cells := 0, slots := 0, locals := 85 }).room s m [.ref o0, .int p1, .int p2, .ref (Z.1 i3)].toArray below meth c H locs 0 0 (MQ below (va_Qi (fun (r : Int32) (f9 : Nat → va_E) => f = f9 ∧ (0 ≤ r.toInt ∧ r.toInt ≤ 1)) (qP (dC, dI) cI cL cZ cR cG cH L) (fun q => q ∈ L)) [.ref o0, .int p1, .int p2, .ref (Z.1 i3)].toArray s 0 0 (fun q => q ∈ L)) (F0 m 15 ls [.int y_5]) := by
    intro y_5 by_5 hjhcut_6_0 ls hl
    refine lv_istore (lv' := [(4, .int y_5), (0, .ref o0), (1, .int p1), (2, .int p2), (3, .ref (Z.1 i3))]) hx hb dX12_is_15 hl (by decide) rfl (fun ls hl => ?_)
    refine lv_iconst (v := 0) hx hb dX12_is_17 (by decide) ?_
    refine lv_istore (lv' := [(5, .int 0), (4, .int y_5), (0, .ref o0), (1, .int p1), (2, .int p2), (3, .ref (Z.1 i3))]) hx hb dX12_is_18 hl (by decide) rfl (fun ls hl => ?_)
    have hloop_12 : ∀ (n : Nat), ∀ (y_13 : Int32), (0 ≤ y_13.toInt ∧ y_13.toInt ≤ 7) → ∀ (y_14 : Int32), (0 ≤ y_14.toInt ∧ y_14.toInt ≤ 1) → ∀ (H : Heap) (locs : List Loc), va_P (dC, dI) vwCl (va_pl L f) H → va_S (fun q => q ∈ L) s.heap H locs → (y_14.toInt = 0 ∨ p2.toInt - p1.toInt = ((zL.getD i3 0 : Nat) : Int)) → 7 - y_13.toInt < (n : Int) → ∀ (ls : Array Slot), lv_has ls 6 [(5, .int y_13), (4, .int y_14), (0, .ref o0), (1, .int p1), (2, .int p2), (3, .ref (Z.1 i3))] → W p l e (headSpec (wU yX12_is cX12_is 6 (some .boolean)) { frames := 4, cells := 0, slots := 0, locals := 85 }).room s m [.ref o0, .int p1, .int p2, .ref (Z.1 i3)].toArray below meth c H locs 0 0 (MQ below (va_Qi (fun (r : Int32) (f9 : Nat → va_E) => f = f9 ∧ (0 ≤ r.toInt ∧ r.toInt ≤ 1)) (qP (dC, dI) cI cL cZ cR cG cH L) (fun q => q ∈ L)) [.ref o0, .int p1, .int p2, .ref (Z.1 i3)].toArray s 0 0 (fun q => q ∈ L)) (F0 m 20 ls []) := by
      intro n
      induction n with
      | zero => intro y_13 by_13 y_14 by_14 H locs hP hS hrelhloop_12_0 hmuhloop_12 ls hl; exfalso; omega
      | succ n ih_hloop_12 =>
        intro y_13 by_13 y_14 by_14 H locs hP hS hrelhloop_12_0 hmuhloop_12 ls hl
        refine lv_iload hx hb dX12_is_20 (lv_at hl 0 rfl) ?_
        refine lv_aload_n hx hb dX12_is_22 rfl (lv_at hl 5 rfl) ?_
        refine tk_TiP (As := []) (rest := [.int y_13]) (n := 0) hx hb hml hown hU hN hZ (s_J0_length_8abf5 l (dC, dI) cI cL cZ cR cG cH Z kd L f hG i3 hi3) wd_596 wd_292 wd_293 wd_294 wd_295 (by decide +kernel) ⟨Nat.le_of_ble_eq_true rfl, Nat.le_of_ble_eq_true rfl⟩ hK hP hD hS hi3 rfl rfl hl.1 rfl (Nat.le_of_ble_eq_true rfl) dX12_is_23 ⟨Nat.le_of_ble_eq_true rfl, Nat.le_of_ble_eq_true rfl⟩ (fun x_16 f_17 H locs hw hP hD hS => ?_)
        obtain ⟨rfl, bx_16, relx_16⟩ := hw
        have hcut_19 : ∀ (ls : Array Slot), lv_has ls 6 [(5, .int y_13), (4, .int y_14), (0, .ref o0), (1, .int p1), (2, .int p2), (3, .ref (Z.1 i3))] → W p l e (headSpec (wU yX12_is cX12_is 6 (some .boolean)) { frames := 4, cells := 0, slots := 0, locals := 85 }).room s m [.ref o0, .int p1, .int p2, .ref (Z.1 i3)].toArray below meth c H locs 0 0 (MQ below (va_Qi (fun (r : Int32) (f9 : Nat → va_E) => f = f9 ∧ (0 ≤ r.toInt ∧ r.toInt ≤ 1)) (qP (dC, dI) cI cL cZ cR cG cH L) (fun q => q ∈ L)) [.ref o0, .int p1, .int p2, .ref (Z.1 i3)].toArray s 0 0 (fun q => q ∈ L)) (F0 m 65 ls []) := by
          intro ls hl
          refine lv_iload hx hb dX12_is_65 (lv_at hl 1 rfl) ?_
          exact W.zret (v := y_14) (ty := .boolean) hx hb hr (zb_n (by constructor <;> omega)) (fun t ht hW => ⟨⟨y_14, f, rfl, ⟨rfl, (by constructor <;> omega)⟩, by rw [ht]; exact hP, va_K.moved hW.alike hK, pl_in hD⟩, hS.F ht⟩) hS.2.2 dX12_is_67
        refine lv_icmp_ge (tgt := 65) hx hb dX12_is_26 (by decide) (fun c_20 => ?_) (fun c_20 => ?_)
        · skip
          rw [Int32.le_iff_toInt_le] at c_20
          exact hcut_19 ls (lv_sub hl [0, 1, 2, 3, 4, 5] rfl)
        · skip
          rw [Int32.le_iff_toInt_le] at c_20
          refine lv_iload hx hb dX12_is_29 (lv_at hl 1 rfl) ?_
          refine lv_if_eq (tgt := 65) hx hb dX12_is_31 (by decide) (fun c_21 => ?_) (fun c_21 => ?_)
          · skip
            rw [← Int32.toInt_inj, ti_0] at c_21
            exact hcut_19 ls (lv_sub hl [0, 1, 2, 3, 4, 5] rfl)
          · skip
            rw [← Int32.toInt_inj, ti_0] at c_21
            refine lv_aload_n hx hb dX12_is_34 rfl (lv_at hl 2 rfl) ?_
            obtain ⟨a_22, a_23, a_24, v_25, a_26, v_27, v_28, v_29, v_30, v_31, v_32, v_33, v_34, v_35, v_36, a_37, a_38, a_39, a_40, a_41, a_42, a_43, a_44, v_45, v_46, v_47, v_48, v_49, a_50, v_51, a_52, a_53, v_54, v_55, a_56, v_57, a_58, a_59, v_60, v_61, a_62, a_63, a_64, v_65, a_66, a_67, a_68, a_69, a_70, a_71, a_72, a_73, a_74, v_75, v_76, a_77, hfo_78, fa_79⟩ := un12 (hG _ mo0) ko0
            obtain ⟨ma_26, ka_26⟩ := fa12_4 fa_79
            refine tk_getP (D := (dC, dI)) (ci := 12) (v := .ref a_26) (C := RX12) (T := TX12) (N := 56) hx hb hU inlX12 hown hK hP mo0 hfo_78 rfl 4 (by decide) (hU _ wd_172) (fun _ h9 => h9) rfl dX12_is_35 ?_
            refine lv_iload_n hx hb dX12_is_38 rfl (lv_at hl 3 rfl) ?_
            refine lv_iload hx hb dX12_is_39 (lv_at hl 0 rfl) ?_
            refine lv_iadd hx hb dX12_is_41 ?_
            refine lv_topi (fun x_80 ex_80 => ?_)
            have hx_80 : x_80.toInt = p1.toInt + y_13.toInt := by rw [ex_80, ad_I (by omega) (by omega)]
            have bx_80 : (0 ≤ x_80.toInt ∧ x_80.toInt ≤ 606) := by constructor <;> omega
            obtain ⟨g_82, hfo_81, hbg_82⟩ := un_578 (hG _ ma_26) ka_26
            refine tk_ildP hx hb hK hP 0 ma_26 hfo_81 rfl (vp_in_iff.mpr (by constructor <;> omega)) dX12_is_42 ?_
            refine lv_topi (fun x_83 ex_83 => ?_)
            have bx_83 : (0 ≤ x_83.toInt ∧ x_83.toInt ≤ 255) := by rw [ex_83]; exact hbg_82 _
            refine lv_aload_n hx hb dX12_is_43 rfl (lv_at hl 5 rfl) ?_
            refine lv_iload hx hb dX12_is_44 (lv_at hl 0 rfl) ?_
            refine tk_TiP (As := [.int y_13]) (rest := [.int x_83]) (n := 1) hx hb hml hown hU hN hZ (s_J0_charAt_5068e l (dC, dI) cI cL cZ cR cG cH Z kd L f hG i3 hi3 y_13 (by constructor <;> omega) (by omega)) wd_597 wd_304 wd_305 wd_294 wd_306 (by decide +kernel) ⟨Nat.le_of_ble_eq_true rfl, Nat.le_of_ble_eq_true rfl⟩ hK hP hD hS hi3 rfl rfl hl.1 rfl (Nat.le_of_ble_eq_true rfl) dX12_is_46 ⟨Nat.le_of_ble_eq_true rfl, Nat.le_of_ble_eq_true rfl⟩ (fun x_84 f_85 H locs hw hP hD hS => ?_)
            obtain ⟨rfl, bx_84⟩ := hw
            have hcut_88 : ∀ (y_87 : Int32), (0 ≤ y_87.toInt ∧ y_87.toInt ≤ 1) → ∀ (ls : Array Slot), lv_has ls 6 [(5, .int y_13), (4, .int y_14), (0, .ref o0), (1, .int p1), (2, .int p2), (3, .ref (Z.1 i3))] → W p l e (headSpec (wU yX12_is cX12_is 6 (some .boolean)) { frames := 4, cells := 0, slots := 0, locals := 85 }).room s m [.ref o0, .int p1, .int p2, .ref (Z.1 i3)].toArray below meth c H locs 0 0 (MQ below (va_Qi (fun (r : Int32) (f9 : Nat → va_E) => f = f9 ∧ (0 ≤ r.toInt ∧ r.toInt ≤ 1)) (qP (dC, dI) cI cL cZ cR cG cH L) (fun q => q ∈ L)) [.ref o0, .int p1, .int p2, .ref (Z.1 i3)].toArray s 0 0 (fun q => q ∈ L)) (F0 m 57 ls [.int y_87]) := by
              intro y_87 by_87 ls hl
              refine lv_istore (lv' := [(4, .int y_87), (5, .int y_13), (0, .ref o0), (1, .int p1), (2, .int p2), (3, .ref (Z.1 i3))]) hx hb dX12_is_57 hl (by decide) rfl (fun ls hl => ?_)
              obtain ⟨x_89, ex_89⟩ : ∃ y : Int32, y_13 + 1 = y := ⟨_, rfl⟩
              have hx_89 : x_89.toInt = y_13.toInt + 1 := by rw [← ex_89, ad_I (by rw [ti_1]; omega) (by rw [ti_1]; omega), ti_1]
              have bx_89 : (1 ≤ x_89.toInt ∧ x_89.toInt ≤ 7) := by constructor <;> omega
              refine lv_iinc (v := x_89) (lv' := [(5, .int x_89), (4, .int y_87), (0, .ref o0), (1, .int p1), (2, .int p2), (3, .ref (Z.1 i3))]) hx hb dX12_is_59 hl (k := 1) rfl ex_89 (by decide) rfl (fun ls hl => ?_)
              refine lv_goto (tgt := 20) hx hb dX12_is_62 (by decide) ?_
              exact ih_hloop_12 x_89 (by constructor <;> omega) y_87 (by constructor <;> omega) _ _ hP hS (by omega) (by omega) ls (lv_sub hl [0, 1, 2, 3, 4, 5] rfl)
            refine lv_icmp_ne (tgt := 56) hx hb dX12_is_49 (by decide) (fun c_90 => ?_) (fun c_90 => ?_)
            · skip
              rw [← Int32.toInt_inj] at c_90
              refine lv_iconst (v := 0) hx hb dX12_is_56 (by decide) ?_
              exact hcut_88 0 (by decide) ls (lv_sub hl [0, 1, 2, 3, 4, 5] rfl)
            · skip
              rw [← Int32.toInt_inj] at c_90
              refine lv_iconst (v := 1) hx hb dX12_is_52 (by decide) ?_
              refine lv_goto (tgt := 57) hx hb dX12_is_53 (by decide) ?_
              exact hcut_88 1 (by decide) ls (lv_sub hl [0, 1, 2, 3, 4, 5] rfl)
    exact hloop_12 8 0 (by decide) y_5 (by constructor <;> omega) _ _ hP hS (by (try rw [ti_0]) <;> omega) (by (try rw [ti_0]) <;> omega) ls hl
  refine lv_icmp_ne (tgt := 14) hx hb dX12_is_7 (by decide) (fun c_91 => ?_) (fun c_91 => ?_)
  · skip
    rw [← Int32.toInt_inj] at c_91
    refine lv_iconst (v := 0) hx hb dX12_is_14 (by decide) ?_
    exact hcut_6 0 (by decide) (by (try rw [ti_0]) <;> omega) ls (lv_sub hl [0, 1, 2, 3] rfl)
  · skip
    rw [← Int32.toInt_inj] at c_91
    refine lv_iconst (v := 1) hx hb dX12_is_10 (by decide) ?_
    refine lv_goto (tgt := 15) hx hb dX12_is_11 (by decide) ?_
    exact hcut_6 1 (by decide) (by (try rw [ti_1]) <;> omega) ls (lv_sub hl [0, 1, 2, 3] rfl)
set_option maxHeartbeats 8000000 in
set_option maxRecDepth 100000 in
theorem s_X12_letterIn_a575 (l : Launch) (D : va_G) (cI cL cZ cR cG cH : ClassId) (Z : zT) (kd : Nat → Nat) (L : List Nat) (f : Nat → va_E) (hG : GI (okc cI cL cZ cR cG cH L kd) kd L f) (o0 : Nat) (mo0 : o0 ∈ L) (ko0 : kd o0 = 575) (p1 : Int32) : mPI l D cI cL cZ cR cG cH Z yX12_letterIn cX12_letterIn 3 (some .int) 0 0 [.ref o0, .int p1] L f (fun (r : Int32) (f9 : Nat → va_E) => f = f9 ∧ (0 ≤ r.toInt ∧ r.toInt ≤ 8) ∧ (∀ g9, f o0 = .inl (cI, 1560, .inl g9) → r.toInt ≤ (g9 0).toInt)) := by
  obtain ⟨dC, dI⟩ := D
  refine Met.ofW (cc := cX12_letterIn) (maxL := 3) (ret := (some .int)) (by decide) rfl ?_
  intro p e s m args below meth c s₁ B hml hv
  obtain ⟨rfl, hP, hK, hD0, hN, hZ⟩ := hv
  have hx := B.exec
  have hb := B.bytes
  have hr := B.returns
  have hU : ∀ w ∈ wsU, w.before _ s = true := fun w h => atoms_spec (ws := wU yX12_letterIn cX12_letterIn 3 (some .int)) B.pre w (List.mem_cons_of_mem _ h)
  have hown : s.vm.findClass RX12 = some m.cls := findClass_of_methodNamed B.named
  have hlocks := B.notSynchronized
  have hD := pl_in hD0
  have hS : va_S (fun q => q ∈ L) s.heap s.heap [] := va_S.rf
  have hl := lv_entry ([.ref o0, .int p1]) (n := 3) (Nat.le_of_ble_eq_true rfl)
  rw [lg_entry_eq]
  generalize (lg_sl ([.ref o0, .int p1]) ++ List.replicate (3 - (lg_sl ([.ref o0, .int p1])).length) Slot.unset).toArray = ls at hl ⊢
  have hl : lv_has ls 3 [(0, .ref o0), (1, .int p1)] := hl
  have bp1 : ((-2147483648) ≤ p1.toInt ∧ p1.toInt ≤ 2147483647) := ⟨i32_lo _, i32_hi _⟩
  refine lv_iconst (v := 0) hx hb dX12_letterIn_0 (by decide) ?_
  refine lv_istore_n (lv' := [(2, .int 0), (0, .ref o0), (1, .int p1)]) hx hb dX12_letterIn_1 rfl hl (by decide) rfl (fun ls hl => ?_)
  have hloop_7 : ∀ (n : Nat), ∀ (y_8 : Int32), (0 ≤ y_8.toInt ∧ y_8.toInt ≤ 8) → 8 - y_8.toInt < (n : Int) → ∀ (ls : Array Slot), lv_has ls 3 [(2, .int y_8), (0, .ref o0), (1, .int p1)] → W p l e (headSpec (wU yX12_letterIn cX12_letterIn 3 (some .int)) { frames := 0, cells := 0, slots := 0, locals := 0 }).room s m [.ref o0, .int p1].toArray below meth c s.heap [] 0 0 (MQ below (va_Qi (fun (r : Int32) (f9 : Nat → va_E) => f = f9 ∧ (0 ≤ r.toInt ∧ r.toInt ≤ 8) ∧ (∀ g9, f o0 = .inl (cI, 1560, .inl g9) → r.toInt ≤ (g9 0).toInt)) (qP (dC, dI) cI cL cZ cR cG cH L) (fun q => q ∈ L)) [.ref o0, .int p1].toArray s 0 0 (fun q => q ∈ L)) (F0 m 2 ls []) := by
    intro n
    induction n with
    | zero => intro y_8 by_8 hmuhloop_7 ls hl; exfalso; omega
    | succ n ih_hloop_7 =>
      intro y_8 by_8 hmuhloop_7 ls hl
      refine lv_iload_n hx hb dX12_letterIn_2 rfl (lv_at hl 0 rfl) ?_
      refine lv_aload_n hx hb dX12_letterIn_3 rfl (lv_at hl 1 rfl) ?_
      refine lv_iconst (v := 0) hx hb dX12_letterIn_4 (by decide) ?_
      obtain ⟨g_10, hfo_9, hbg_10⟩ := un_575 (hG _ mo0) ko0
      refine tk_ildP hx hb hK hP 0 mo0 hfo_9 rfl (vp_in_nI (n := 0) (by decide) (by decide)) dX12_letterIn_5 ?_
      refine lv_topi (fun x_11 ex_11 => ?_)
      have bx_11 : (0 ≤ x_11.toInt ∧ x_11.toInt ≤ 8) := by rw [ex_11]; exact hbg_10.1 _ (by decide) (by decide) (by decide)
      refine lv_icmp_ge (tgt := 28) hx hb dX12_letterIn_6 (by decide) (fun c_12 => ?_) (fun c_12 => ?_)
      · skip
        rw [Int32.le_iff_toInt_le] at c_12
        refine lv_iconst (v := 0) hx hb dX12_letterIn_28 (by decide) ?_
        exact W.iret (v := 0) hx hb hr (fun t ht hW => ⟨⟨0, f, rfl, ⟨rfl, (by decide), (fun g9 h9 => by rw [hfo_9] at h9; cases h9; exact (by rw [show ((0 : Int32)).toInt = 0 from rfl]; exact (hbg_10.1 0 (by decide) (by decide) (by decide)).1))⟩, by rw [ht]; exact hP, va_K.moved hW.alike hK, pl_in hD⟩, hS.F ht⟩) hS.2.2 dX12_letterIn_29
      · skip
        rw [Int32.le_iff_toInt_le] at c_12
        refine lv_aload_n hx hb dX12_letterIn_9 rfl (lv_at hl 1 rfl) ?_
        refine lv_iconst (v := 1) hx hb dX12_letterIn_10 (by decide) ?_
        refine lv_iload_n hx hb dX12_letterIn_11 rfl (lv_at hl 0 rfl) ?_
        refine lv_iadd hx hb dX12_letterIn_12 ?_
        refine lv_topi (fun x_13 ex_13 => ?_)
        have hx_13 : x_13.toInt = 1 + y_8.toInt := by rw [ex_13, ad_I (by rw [ti_1]; omega) (by rw [ti_1]; omega), ti_1]
        have bx_13 : (1 ≤ x_13.toInt ∧ x_13.toInt ≤ 8) := by constructor <;> omega
        refine tk_ildP hx hb hK hP 0 mo0 hfo_9 rfl (vp_in_iff.mpr (by constructor <;> omega)) dX12_letterIn_13 ?_
        refine lv_topi (fun x_14 ex_14 => ?_)
        have bx_14 : ((-2147483648) ≤ x_14.toInt ∧ x_14.toInt ≤ 2147483647) := ⟨i32_lo _, i32_hi _⟩
        refine lv_iload_n hx hb dX12_letterIn_14 rfl (lv_at hl 2 rfl) ?_
        refine lv_icmp_ne (tgt := 22) hx hb dX12_letterIn_15 (by decide) (fun c_15 => ?_) (fun c_15 => ?_)
        · skip
          rw [← Int32.toInt_inj] at c_15
          obtain ⟨x_16, ex_16⟩ : ∃ y : Int32, y_8 + 1 = y := ⟨_, rfl⟩
          have hx_16 : x_16.toInt = y_8.toInt + 1 := by rw [← ex_16, ad_I (by rw [ti_1]; omega) (by rw [ti_1]; omega), ti_1]
          have bx_16 : (1 ≤ x_16.toInt ∧ x_16.toInt ≤ 8) := by constructor <;> omega
          refine lv_iinc (v := x_16) (lv' := [(2, .int x_16), (0, .ref o0), (1, .int p1)]) hx hb dX12_letterIn_22 hl (k := 0) rfl ex_16 (by decide) rfl (fun ls hl => ?_)
          refine lv_goto (tgt := 2) hx hb dX12_letterIn_25 (by decide) ?_
          exact ih_hloop_7 x_16 (by constructor <;> omega) (by omega) ls (lv_sub hl [0, 1, 2] rfl)
        · skip
          rw [← Int32.toInt_inj] at c_15
          refine lv_iload_n hx hb dX12_letterIn_18 rfl (lv_at hl 0 rfl) ?_
          refine lv_iconst (v := 1) hx hb dX12_letterIn_19 (by decide) ?_
          refine lv_iadd hx hb dX12_letterIn_20 ?_
          refine lv_topi (fun x_17 ex_17 => ?_)
          have hx_17 : x_17.toInt = y_8.toInt + 1 := by rw [ex_17, ad_I (by rw [ti_1]; omega) (by rw [ti_1]; omega), ti_1]
          have bx_17 : (1 ≤ x_17.toInt ∧ x_17.toInt ≤ 8) := by constructor <;> omega
          exact W.iret (v := x_17) hx hb hr (fun t ht hW => ⟨⟨x_17, f, rfl, ⟨rfl, (by constructor <;> omega), (fun g9 h9 => by rw [hfo_9] at h9; cases h9; exact (by have h7 : x_11.toInt = (g_10 0).toInt := (by rw [ex_11]; rfl); omega))⟩, by rw [ht]; exact hP, va_K.moved hW.alike hK, pl_in hD⟩, hS.F ht⟩) hS.2.2 dX12_letterIn_21
  exact hloop_7 9 0 (by decide) (by (try rw [ti_0]) <;> omega) ls hl
set_option maxHeartbeats 8000000 in
set_option maxRecDepth 100000 in
theorem s_X12_letterIn_a576 (l : Launch) (D : va_G) (cI cL cZ cR cG cH : ClassId) (Z : zT) (kd : Nat → Nat) (L : List Nat) (f : Nat → va_E) (hG : GI (okc cI cL cZ cR cG cH L kd) kd L f) (o0 : Nat) (mo0 : o0 ∈ L) (ko0 : kd o0 = 576) (p1 : Int32) : mPI l D cI cL cZ cR cG cH Z yX12_letterIn cX12_letterIn 3 (some .int) 0 0 [.ref o0, .int p1] L f (fun (r : Int32) (f9 : Nat → va_E) => f = f9 ∧ (0 ≤ r.toInt ∧ r.toInt ≤ 8) ∧ (∀ g9, f o0 = .inl (cI, 1560, .inl g9) → r.toInt ≤ (g9 0).toInt)) := by
  obtain ⟨dC, dI⟩ := D
  refine Met.ofW (cc := cX12_letterIn) (maxL := 3) (ret := (some .int)) (by decide) rfl ?_
  intro p e s m args below meth c s₁ B hml hv
  obtain ⟨rfl, hP, hK, hD0, hN, hZ⟩ := hv
  have hx := B.exec
  have hb := B.bytes
  have hr := B.returns
  have hU : ∀ w ∈ wsU, w.before _ s = true := fun w h => atoms_spec (ws := wU yX12_letterIn cX12_letterIn 3 (some .int)) B.pre w (List.mem_cons_of_mem _ h)
  have hown : s.vm.findClass RX12 = some m.cls := findClass_of_methodNamed B.named
  have hlocks := B.notSynchronized
  have hD := pl_in hD0
  have hS : va_S (fun q => q ∈ L) s.heap s.heap [] := va_S.rf
  have hl := lv_entry ([.ref o0, .int p1]) (n := 3) (Nat.le_of_ble_eq_true rfl)
  rw [lg_entry_eq]
  generalize (lg_sl ([.ref o0, .int p1]) ++ List.replicate (3 - (lg_sl ([.ref o0, .int p1])).length) Slot.unset).toArray = ls at hl ⊢
  have hl : lv_has ls 3 [(0, .ref o0), (1, .int p1)] := hl
  have bp1 : ((-2147483648) ≤ p1.toInt ∧ p1.toInt ≤ 2147483647) := ⟨i32_lo _, i32_hi _⟩
  refine lv_iconst (v := 0) hx hb dX12_letterIn_0 (by decide) ?_
  refine lv_istore_n (lv' := [(2, .int 0), (0, .ref o0), (1, .int p1)]) hx hb dX12_letterIn_1 rfl hl (by decide) rfl (fun ls hl => ?_)
  have hloop_7 : ∀ (n : Nat), ∀ (y_8 : Int32), (0 ≤ y_8.toInt ∧ y_8.toInt ≤ 8) → 8 - y_8.toInt < (n : Int) → ∀ (ls : Array Slot), lv_has ls 3 [(2, .int y_8), (0, .ref o0), (1, .int p1)] → W p l e (headSpec (wU yX12_letterIn cX12_letterIn 3 (some .int)) { frames := 0, cells := 0, slots := 0, locals := 0 }).room s m [.ref o0, .int p1].toArray below meth c s.heap [] 0 0 (MQ below (va_Qi (fun (r : Int32) (f9 : Nat → va_E) => f = f9 ∧ (0 ≤ r.toInt ∧ r.toInt ≤ 8) ∧ (∀ g9, f o0 = .inl (cI, 1560, .inl g9) → r.toInt ≤ (g9 0).toInt)) (qP (dC, dI) cI cL cZ cR cG cH L) (fun q => q ∈ L)) [.ref o0, .int p1].toArray s 0 0 (fun q => q ∈ L)) (F0 m 2 ls []) := by
    intro n
    induction n with
    | zero => intro y_8 by_8 hmuhloop_7 ls hl; exfalso; omega
    | succ n ih_hloop_7 =>
      intro y_8 by_8 hmuhloop_7 ls hl
      refine lv_iload_n hx hb dX12_letterIn_2 rfl (lv_at hl 0 rfl) ?_
      refine lv_aload_n hx hb dX12_letterIn_3 rfl (lv_at hl 1 rfl) ?_
      refine lv_iconst (v := 0) hx hb dX12_letterIn_4 (by decide) ?_
      obtain ⟨g_10, hfo_9, hbg_10⟩ := un_576 (hG _ mo0) ko0
      refine tk_ildP hx hb hK hP 0 mo0 hfo_9 rfl (vp_in_nI (n := 0) (by decide) (by decide)) dX12_letterIn_5 ?_
      refine lv_topi (fun x_11 ex_11 => ?_)
      have bx_11 : (0 ≤ x_11.toInt ∧ x_11.toInt ≤ 8) := by rw [ex_11]; exact hbg_10.1 _ (by decide) (by decide) (by decide)
      refine lv_icmp_ge (tgt := 28) hx hb dX12_letterIn_6 (by decide) (fun c_12 => ?_) (fun c_12 => ?_)
      · skip
        rw [Int32.le_iff_toInt_le] at c_12
        refine lv_iconst (v := 0) hx hb dX12_letterIn_28 (by decide) ?_
        exact W.iret (v := 0) hx hb hr (fun t ht hW => ⟨⟨0, f, rfl, ⟨rfl, (by decide), (fun g9 h9 => by rw [hfo_9] at h9; cases h9; exact (by rw [show ((0 : Int32)).toInt = 0 from rfl]; exact (hbg_10.1 0 (by decide) (by decide) (by decide)).1))⟩, by rw [ht]; exact hP, va_K.moved hW.alike hK, pl_in hD⟩, hS.F ht⟩) hS.2.2 dX12_letterIn_29
      · skip
        rw [Int32.le_iff_toInt_le] at c_12
        refine lv_aload_n hx hb dX12_letterIn_9 rfl (lv_at hl 1 rfl) ?_
        refine lv_iconst (v := 1) hx hb dX12_letterIn_10 (by decide) ?_
        refine lv_iload_n hx hb dX12_letterIn_11 rfl (lv_at hl 0 rfl) ?_
        refine lv_iadd hx hb dX12_letterIn_12 ?_
        refine lv_topi (fun x_13 ex_13 => ?_)
        have hx_13 : x_13.toInt = 1 + y_8.toInt := by rw [ex_13, ad_I (by rw [ti_1]; omega) (by rw [ti_1]; omega), ti_1]
        have bx_13 : (1 ≤ x_13.toInt ∧ x_13.toInt ≤ 8) := by constructor <;> omega
        refine tk_ildP hx hb hK hP 0 mo0 hfo_9 rfl (vp_in_iff.mpr (by constructor <;> omega)) dX12_letterIn_13 ?_
        refine lv_topi (fun x_14 ex_14 => ?_)
        have bx_14 : ((-2147483648) ≤ x_14.toInt ∧ x_14.toInt ≤ 2147483647) := ⟨i32_lo _, i32_hi _⟩
        refine lv_iload_n hx hb dX12_letterIn_14 rfl (lv_at hl 2 rfl) ?_
        refine lv_icmp_ne (tgt := 22) hx hb dX12_letterIn_15 (by decide) (fun c_15 => ?_) (fun c_15 => ?_)
        · skip
          rw [← Int32.toInt_inj] at c_15
          obtain ⟨x_16, ex_16⟩ : ∃ y : Int32, y_8 + 1 = y := ⟨_, rfl⟩
          have hx_16 : x_16.toInt = y_8.toInt + 1 := by rw [← ex_16, ad_I (by rw [ti_1]; omega) (by rw [ti_1]; omega), ti_1]
          have bx_16 : (1 ≤ x_16.toInt ∧ x_16.toInt ≤ 8) := by constructor <;> omega
          refine lv_iinc (v := x_16) (lv' := [(2, .int x_16), (0, .ref o0), (1, .int p1)]) hx hb dX12_letterIn_22 hl (k := 0) rfl ex_16 (by decide) rfl (fun ls hl => ?_)
          refine lv_goto (tgt := 2) hx hb dX12_letterIn_25 (by decide) ?_
          exact ih_hloop_7 x_16 (by constructor <;> omega) (by omega) ls (lv_sub hl [0, 1, 2] rfl)
        · skip
          rw [← Int32.toInt_inj] at c_15
          refine lv_iload_n hx hb dX12_letterIn_18 rfl (lv_at hl 0 rfl) ?_
          refine lv_iconst (v := 1) hx hb dX12_letterIn_19 (by decide) ?_
          refine lv_iadd hx hb dX12_letterIn_20 ?_
          refine lv_topi (fun x_17 ex_17 => ?_)
          have hx_17 : x_17.toInt = y_8.toInt + 1 := by rw [ex_17, ad_I (by rw [ti_1]; omega) (by rw [ti_1]; omega), ti_1]
          have bx_17 : (1 ≤ x_17.toInt ∧ x_17.toInt ≤ 8) := by constructor <;> omega
          exact W.iret (v := x_17) hx hb hr (fun t ht hW => ⟨⟨x_17, f, rfl, ⟨rfl, (by constructor <;> omega), (fun g9 h9 => by rw [hfo_9] at h9; cases h9; exact (by have h7 : x_11.toInt = (g_10 0).toInt := (by rw [ex_11]; rfl); omega))⟩, by rw [ht]; exact hP, va_K.moved hW.alike hK, pl_in hD⟩, hS.F ht⟩) hS.2.2 dX12_letterIn_21
  exact hloop_7 9 0 (by decide) (by (try rw [ti_0]) <;> omega) ls hl
set_option maxHeartbeats 8000000 in
set_option maxRecDepth 100000 in
theorem s_X12_hasPair_a575 (l : Launch) (D : va_G) (cI cL cZ cR cG cH : ClassId) (Z : zT) (kd : Nat → Nat) (L : List Nat) (f : Nat → va_E) (hG : GI (okc cI cL cZ cR cG cH L kd) kd L f) (o0 : Nat) (mo0 : o0 ∈ L) (ko0 : kd o0 = 575) (p1 : Int32) (bp1 : (0 ≤ p1.toInt ∧ p1.toInt ≤ 8)) (p2 : Int32) (bp2 : (0 ≤ p2.toInt ∧ p2.toInt ≤ 8)) : mPI l D cI cL cZ cR cG cH Z yX12_hasPair cX12_hasPair 4 (some .boolean) 0 0 [.ref o0, .int p1, .int p2] L f (fun (r : Int32) (f9 : Nat → va_E) => f = f9 ∧ (0 ≤ r.toInt ∧ r.toInt ≤ 1)) := by
  obtain ⟨dC, dI⟩ := D
  refine Met.ofW (cc := cX12_hasPair) (maxL := 4) (ret := (some .boolean)) (by decide) rfl ?_
  intro p e s m args below meth c s₁ B hml hv
  obtain ⟨rfl, hP, hK, hD0, hN, hZ⟩ := hv
  have hx := B.exec
  have hb := B.bytes
  have hr := B.returns
  have hU : ∀ w ∈ wsU, w.before _ s = true := fun w h => atoms_spec (ws := wU yX12_hasPair cX12_hasPair 4 (some .boolean)) B.pre w (List.mem_cons_of_mem _ h)
  have hown : s.vm.findClass RX12 = some m.cls := findClass_of_methodNamed B.named
  have hlocks := B.notSynchronized
  have hD := pl_in hD0
  have hS : va_S (fun q => q ∈ L) s.heap s.heap [] := va_S.rf
  have hl := lv_entry ([.ref o0, .int p1, .int p2]) (n := 4) (Nat.le_of_ble_eq_true rfl)
  rw [lg_entry_eq]
  generalize (lg_sl ([.ref o0, .int p1, .int p2]) ++ List.replicate (4 - (lg_sl ([.ref o0, .int p1, .int p2])).length) Slot.unset).toArray = ls at hl ⊢
  have hl : lv_has ls 4 [(0, .ref o0), (1, .int p1), (2, .int p2)] := hl
  refine lv_iconst (v := 0) hx hb dX12_hasPair_0 (by decide) ?_
  refine lv_istore_n (lv' := [(3, .int 0), (0, .ref o0), (1, .int p1), (2, .int p2)]) hx hb dX12_hasPair_1 rfl hl (by decide) rfl (fun ls hl => ?_)
  have hloop_7 : ∀ (n : Nat), ∀ (y_8 : Int32), (0 ≤ y_8.toInt ∧ y_8.toInt ≤ 20) → 20 - y_8.toInt < (n : Int) → ∀ (ls : Array Slot), lv_has ls 4 [(3, .int y_8), (0, .ref o0), (1, .int p1), (2, .int p2)] → W p l e (headSpec (wU yX12_hasPair cX12_hasPair 4 (some .boolean)) { frames := 0, cells := 0, slots := 0, locals := 0 }).room s m [.ref o0, .int p1, .int p2].toArray below meth c s.heap [] 0 0 (MQ below (va_Qi (fun (r : Int32) (f9 : Nat → va_E) => f = f9 ∧ (0 ≤ r.toInt ∧ r.toInt ≤ 1)) (qP (dC, dI) cI cL cZ cR cG cH L) (fun q => q ∈ L)) [.ref o0, .int p1, .int p2].toArray s 0 0 (fun q => q ∈ L)) (F0 m 2 ls []) := by
    intro n
    induction n with
    | zero => intro y_8 by_8 hmuhloop_7 ls hl; exfalso; omega
    | succ n ih_hloop_7 =>
      intro y_8 by_8 hmuhloop_7 ls hl
      refine lv_iload_n hx hb dX12_hasPair_2 rfl (lv_at hl 0 rfl) ?_
      refine lv_aload_n hx hb dX12_hasPair_3 rfl (lv_at hl 1 rfl) ?_
      refine lv_bipush (v := 16) hx hb dX12_hasPair_4 (by decide) ?_
      obtain ⟨g_10, hfo_9, hbg_10⟩ := un_575 (hG _ mo0) ko0
      refine tk_ildP hx hb hK hP 0 mo0 hfo_9 rfl (vp_in_nI (n := 16) (by decide) (by decide)) dX12_hasPair_6 ?_
      refine lv_topi (fun x_11 ex_11 => ?_)
      have bx_11 : (0 ≤ x_11.toInt ∧ x_11.toInt ≤ 20) := by rw [ex_11]; exact hbg_10.2.1 _ (by decide) (by decide) (by decide)
      refine lv_icmp_ge (tgt := 33) hx hb dX12_hasPair_7 (by decide) (fun c_12 => ?_) (fun c_12 => ?_)
      · skip
        rw [Int32.le_iff_toInt_le] at c_12
        refine lv_iconst (v := 0) hx hb dX12_hasPair_33 (by decide) ?_
        exact W.zret (v := 0) (ty := .boolean) hx hb hr rfl (fun t ht hW => ⟨⟨0, f, rfl, ⟨rfl, (by decide)⟩, by rw [ht]; exact hP, va_K.moved hW.alike hK, pl_in hD⟩, hS.F ht⟩) hS.2.2 dX12_hasPair_34
      · skip
        rw [Int32.le_iff_toInt_le] at c_12
        refine lv_aload_n hx hb dX12_hasPair_10 rfl (lv_at hl 1 rfl) ?_
        refine lv_bipush (v := 20) hx hb dX12_hasPair_11 (by decide) ?_
        refine lv_iload_n hx hb dX12_hasPair_13 rfl (lv_at hl 0 rfl) ?_
        refine lv_iadd hx hb dX12_hasPair_14 ?_
        refine lv_topi (fun x_13 ex_13 => ?_)
        have hx_13 : x_13.toInt = 20 + y_8.toInt := by rw [ex_13, ad_I (by rw [ti_20]; omega) (by rw [ti_20]; omega), ti_20]
        have bx_13 : (20 ≤ x_13.toInt ∧ x_13.toInt ≤ 39) := by constructor <;> omega
        refine tk_ildP hx hb hK hP 0 mo0 hfo_9 rfl (vp_in_iff.mpr (by constructor <;> omega)) dX12_hasPair_15 ?_
        refine lv_topi (fun x_14 ex_14 => ?_)
        have bx_14 : (0 ≤ x_14.toInt ∧ x_14.toInt ≤ 80) := by have hc9 := cl_I (i := x_13) (by omega); rw [ex_14]; exact hbg_10.2.2.2.2.2.1 _ (by omega) (by omega) (by omega)
        refine lv_bipush (v := 9) hx hb dX12_hasPair_16 (by decide) ?_
        refine lv_iload_n hx hb dX12_hasPair_18 rfl (lv_at hl 2 rfl) ?_
        refine lv_imul hx hb dX12_hasPair_19 ?_
        refine lv_topi (fun x_15 ex_15 => ?_)
        have hx_15 : x_15.toInt = 9 * p1.toInt := by rw [ex_15, ml_I (by rw [ti_9]; omega) (by rw [ti_9]; omega), ti_9]
        have bx_15 : (0 ≤ x_15.toInt ∧ x_15.toInt ≤ 72) := by constructor <;> omega
        refine lv_iload_n hx hb dX12_hasPair_20 rfl (lv_at hl 3 rfl) ?_
        refine lv_iadd hx hb dX12_hasPair_21 ?_
        refine lv_topi (fun x_16 ex_16 => ?_)
        have hx_16 : x_16.toInt = x_15.toInt + p2.toInt := by rw [ex_16, ad_I (by omega) (by omega)]
        have bx_16 : (0 ≤ x_16.toInt ∧ x_16.toInt ≤ 80) := by constructor <;> omega
        refine lv_icmp_ne (tgt := 27) hx hb dX12_hasPair_22 (by decide) (fun c_17 => ?_) (fun c_17 => ?_)
        · skip
          rw [← Int32.toInt_inj] at c_17
          obtain ⟨x_18, ex_18⟩ : ∃ y : Int32, y_8 + 1 = y := ⟨_, rfl⟩
          have hx_18 : x_18.toInt = y_8.toInt + 1 := by rw [← ex_18, ad_I (by rw [ti_1]; omega) (by rw [ti_1]; omega), ti_1]
          have bx_18 : (1 ≤ x_18.toInt ∧ x_18.toInt ≤ 20) := by constructor <;> omega
          refine lv_iinc (v := x_18) (lv' := [(3, .int x_18), (0, .ref o0), (1, .int p1), (2, .int p2)]) hx hb dX12_hasPair_27 hl (k := 0) rfl ex_18 (by decide) rfl (fun ls hl => ?_)
          refine lv_goto (tgt := 2) hx hb dX12_hasPair_30 (by decide) ?_
          exact ih_hloop_7 x_18 (by constructor <;> omega) (by omega) ls (lv_sub hl [0, 1, 2, 3] rfl)
        · skip
          rw [← Int32.toInt_inj] at c_17
          refine lv_iconst (v := 1) hx hb dX12_hasPair_25 (by decide) ?_
          exact W.zret (v := 1) (ty := .boolean) hx hb hr rfl (fun t ht hW => ⟨⟨1, f, rfl, ⟨rfl, (by decide)⟩, by rw [ht]; exact hP, va_K.moved hW.alike hK, pl_in hD⟩, hS.F ht⟩) hS.2.2 dX12_hasPair_26
  exact hloop_7 21 0 (by decide) (by (try rw [ti_0]) <;> omega) ls hl
set_option maxHeartbeats 8000000 in
set_option maxRecDepth 100000 in
theorem s_X12_hasPair_a576 (l : Launch) (D : va_G) (cI cL cZ cR cG cH : ClassId) (Z : zT) (kd : Nat → Nat) (L : List Nat) (f : Nat → va_E) (hG : GI (okc cI cL cZ cR cG cH L kd) kd L f) (o0 : Nat) (mo0 : o0 ∈ L) (ko0 : kd o0 = 576) (p1 : Int32) (bp1 : (0 ≤ p1.toInt ∧ p1.toInt ≤ 8)) (p2 : Int32) (bp2 : (0 ≤ p2.toInt ∧ p2.toInt ≤ 8)) : mPI l D cI cL cZ cR cG cH Z yX12_hasPair cX12_hasPair 4 (some .boolean) 0 0 [.ref o0, .int p1, .int p2] L f (fun (r : Int32) (f9 : Nat → va_E) => f = f9 ∧ (0 ≤ r.toInt ∧ r.toInt ≤ 1) ∧ (∀ g9, f o0 = .inl (cI, 1560, .inl g9) → r.toInt = 1 ∨ ∀ j : Nat, (j : Int) < (g9 16).toInt → (g9 (20 + j)).toInt ≠ 9 * p1.toInt + p2.toInt)) := by
  obtain ⟨dC, dI⟩ := D
  refine Met.ofW (cc := cX12_hasPair) (maxL := 4) (ret := (some .boolean)) (by decide) rfl ?_
  intro p e s m args below meth c s₁ B hml hv
  obtain ⟨rfl, hP, hK, hD0, hN, hZ⟩ := hv
  have hx := B.exec
  have hb := B.bytes
  have hr := B.returns
  have hU : ∀ w ∈ wsU, w.before _ s = true := fun w h => atoms_spec (ws := wU yX12_hasPair cX12_hasPair 4 (some .boolean)) B.pre w (List.mem_cons_of_mem _ h)
  have hown : s.vm.findClass RX12 = some m.cls := findClass_of_methodNamed B.named
  have hlocks := B.notSynchronized
  have hD := pl_in hD0
  have hS : va_S (fun q => q ∈ L) s.heap s.heap [] := va_S.rf
  have hl := lv_entry ([.ref o0, .int p1, .int p2]) (n := 4) (Nat.le_of_ble_eq_true rfl)
  rw [lg_entry_eq]
  generalize (lg_sl ([.ref o0, .int p1, .int p2]) ++ List.replicate (4 - (lg_sl ([.ref o0, .int p1, .int p2])).length) Slot.unset).toArray = ls at hl ⊢
  have hl : lv_has ls 4 [(0, .ref o0), (1, .int p1), (2, .int p2)] := hl
  obtain ⟨g_2, hfo_1, hbg_2⟩ := un_576 (hG _ mo0) ko0
  refine lv_iconst (v := 0) hx hb dX12_hasPair_0 (by decide) ?_
  refine lv_istore_n (lv' := [(3, .int 0), (0, .ref o0), (1, .int p1), (2, .int p2)]) hx hb dX12_hasPair_1 rfl hl (by decide) rfl (fun ls hl => ?_)
  have hloop_9 : ∀ (n : Nat), ∀ (y_10 : Int32), (0 ≤ y_10.toInt ∧ y_10.toInt ≤ 20) → (∀ j : Nat, (j : Int) < y_10.toInt → (g_2 (20 + j)).toInt ≠ 9 * p1.toInt + p2.toInt) → 20 - y_10.toInt < (n : Int) → ∀ (ls : Array Slot), lv_has ls 4 [(3, .int y_10), (0, .ref o0), (1, .int p1), (2, .int p2)] → W p l e (headSpec (wU yX12_hasPair cX12_hasPair 4 (some .boolean)) { frames := 0, cells := 0, slots := 0, locals := 0 }).room s m [.ref o0, .int p1, .int p2].toArray below meth c s.heap [] 0 0 (MQ below (va_Qi (fun (r : Int32) (f9 : Nat → va_E) => f = f9 ∧ (0 ≤ r.toInt ∧ r.toInt ≤ 1) ∧ (∀ g9, f o0 = .inl (cI, 1560, .inl g9) → r.toInt = 1 ∨ ∀ j : Nat, (j : Int) < (g9 16).toInt → (g9 (20 + j)).toInt ≠ 9 * p1.toInt + p2.toInt)) (qP (dC, dI) cI cL cZ cR cG cH L) (fun q => q ∈ L)) [.ref o0, .int p1, .int p2].toArray s 0 0 (fun q => q ∈ L)) (F0 m 2 ls []) := by
    intro n
    induction n with
    | zero => intro y_10 by_10 hxh hmuhloop_9 ls hl; exfalso; omega
    | succ n ih_hloop_9 =>
      intro y_10 by_10 hxh hmuhloop_9 ls hl
      refine lv_iload_n hx hb dX12_hasPair_2 rfl (lv_at hl 0 rfl) ?_
      refine lv_aload_n hx hb dX12_hasPair_3 rfl (lv_at hl 1 rfl) ?_
      refine lv_bipush (v := 16) hx hb dX12_hasPair_4 (by decide) ?_
      refine tk_ildP hx hb hK hP 0 mo0 hfo_1 rfl (vp_in_nI (n := 16) (by decide) (by decide)) dX12_hasPair_6 ?_
      refine lv_topi (fun x_11 ex_11 => ?_)
      have bx_11 : (0 ≤ x_11.toInt ∧ x_11.toInt ≤ 20) := by rw [ex_11]; exact hbg_2.2.1 _ (by decide) (by decide) (by decide)
      refine lv_icmp_ge (tgt := 33) hx hb dX12_hasPair_7 (by decide) (fun c_12 => ?_) (fun c_12 => ?_)
      · skip
        rw [Int32.le_iff_toInt_le] at c_12
        refine lv_iconst (v := 0) hx hb dX12_hasPair_33 (by decide) ?_
        exact W.zret (v := 0) (ty := .boolean) hx hb hr rfl (fun t ht hW => ⟨⟨0, f, rfl, ⟨rfl, (by decide), (fun g9 h9 => by rw [hfo_1] at h9; cases h9; exact Or.inr (fun j hj => hxh j (by have h7 : x_11.toInt = (g_2 16).toInt := (by rw [ex_11]; rfl); omega)))⟩, by rw [ht]; exact hP, va_K.moved hW.alike hK, pl_in hD⟩, hS.F ht⟩) hS.2.2 dX12_hasPair_34
      · skip
        rw [Int32.le_iff_toInt_le] at c_12
        refine lv_aload_n hx hb dX12_hasPair_10 rfl (lv_at hl 1 rfl) ?_
        refine lv_bipush (v := 20) hx hb dX12_hasPair_11 (by decide) ?_
        refine lv_iload_n hx hb dX12_hasPair_13 rfl (lv_at hl 0 rfl) ?_
        refine lv_iadd hx hb dX12_hasPair_14 ?_
        refine lv_topi (fun x_13 ex_13 => ?_)
        have hx_13 : x_13.toInt = 20 + y_10.toInt := by rw [ex_13, ad_I (by rw [ti_20]; omega) (by rw [ti_20]; omega), ti_20]
        have bx_13 : (20 ≤ x_13.toInt ∧ x_13.toInt ≤ 39) := by constructor <;> omega
        refine tk_ildP hx hb hK hP 0 mo0 hfo_1 rfl (vp_in_iff.mpr (by constructor <;> omega)) dX12_hasPair_15 ?_
        refine lv_topi (fun x_14 ex_14 => ?_)
        have bx_14 : (0 ≤ x_14.toInt ∧ x_14.toInt ≤ 80) := by have hc9 := cl_I (i := x_13) (by omega); rw [ex_14]; exact hbg_2.2.2.2.2.2.1 _ (by omega) (by omega) (by omega)
        refine lv_bipush (v := 9) hx hb dX12_hasPair_16 (by decide) ?_
        refine lv_iload_n hx hb dX12_hasPair_18 rfl (lv_at hl 2 rfl) ?_
        refine lv_imul hx hb dX12_hasPair_19 ?_
        refine lv_topi (fun x_15 ex_15 => ?_)
        have hx_15 : x_15.toInt = 9 * p1.toInt := by rw [ex_15, ml_I (by rw [ti_9]; omega) (by rw [ti_9]; omega), ti_9]
        have bx_15 : (0 ≤ x_15.toInt ∧ x_15.toInt ≤ 72) := by constructor <;> omega
        refine lv_iload_n hx hb dX12_hasPair_20 rfl (lv_at hl 3 rfl) ?_
        refine lv_iadd hx hb dX12_hasPair_21 ?_
        refine lv_topi (fun x_16 ex_16 => ?_)
        have hx_16 : x_16.toInt = x_15.toInt + p2.toInt := by rw [ex_16, ad_I (by omega) (by omega)]
        have bx_16 : (0 ≤ x_16.toInt ∧ x_16.toInt ≤ 80) := by constructor <;> omega
        refine lv_icmp_ne (tgt := 27) hx hb dX12_hasPair_22 (by decide) (fun c_17 => ?_) (fun c_17 => ?_)
        · skip
          rw [← Int32.toInt_inj] at c_17
          obtain ⟨x_18, ex_18⟩ : ∃ y : Int32, y_10 + 1 = y := ⟨_, rfl⟩
          have hx_18 : x_18.toInt = y_10.toInt + 1 := by rw [← ex_18, ad_I (by rw [ti_1]; omega) (by rw [ti_1]; omega), ti_1]
          have bx_18 : (1 ≤ x_18.toInt ∧ x_18.toInt ≤ 20) := by constructor <;> omega
          refine lv_iinc (v := x_18) (lv' := [(3, .int x_18), (0, .ref o0), (1, .int p1), (2, .int p2)]) hx hb dX12_hasPair_27 hl (k := 0) rfl ex_18 (by decide) rfl (fun ls hl => ?_)
          refine lv_goto (tgt := 2) hx hb dX12_hasPair_30 (by decide) ?_
          exact ih_hloop_9 x_18 (by constructor <;> omega) (fun j hj => by by_cases hjk : (j : Int) = y_10.toInt; (· have hc9 := cl_I (i := x_13) (by omega); rw [show 20 + j = Int32.toNatClampNeg x_13 by omega, ← ex_14]; omega); (· exact hxh j (by omega))) (by omega) ls (lv_sub hl [0, 1, 2, 3] rfl)
        · skip
          rw [← Int32.toInt_inj] at c_17
          refine lv_iconst (v := 1) hx hb dX12_hasPair_25 (by decide) ?_
          exact W.zret (v := 1) (ty := .boolean) hx hb hr rfl (fun t ht hW => ⟨⟨1, f, rfl, ⟨rfl, (by decide), (fun _ _ => Or.inl (by decide))⟩, by rw [ht]; exact hP, va_K.moved hW.alike hK, pl_in hD⟩, hS.F ht⟩) hS.2.2 dX12_hasPair_26
  exact hloop_9 21 0 (by decide) (fun j hj => by exfalso; have h3 : ((0 : Int32)).toInt = 0 := rfl; omega) (by (try rw [ti_0]) <;> omega) ls hl
set_option maxHeartbeats 8000000 in
set_option maxRecDepth 100000 in
theorem s_X12_takesS_k12 (l : Launch) (D : va_G) (cI cL cZ cR cG cH : ClassId) (Z : zT) (kd : Nat → Nat) (L : List Nat) (f : Nat → va_E) (hG : GI (okc cI cL cZ cR cG cH L kd) kd L f) (o0 : Nat) (mo0 : o0 ∈ L) (ko0 : kd o0 = 12) : mPI l D cI cL cZ cR cG cH Z yX12_takesS cX12_takesS 2 (some .boolean) 3 61 [.ref o0] L f (fun (r : Int32) (f9 : Nat → va_E) => GI (okc cI cL cZ cR cG cH L kd) kd L f9 ∧ (0 ≤ r.toInt ∧ r.toInt ≤ 1) ∧ (∀ b, kd b ≠ 12 → f9 b = f b) ∧ (∀ b, kd b = 12 → ∀ j, fldR (f9 b) j = fldR (f b) j) ∧ (∀ b, kd b = 12 → ∀ j, j ≠ 6 → j ≠ 7 → j ≠ 8 → j ≠ 11 → fldI (f9 b) j = fldI (f b) j) ∧ (∀ (w6 z6 : Int32), fldI (f o0) 6 = some w6 → fldI (f9 o0) 6 = some z6 → w6.toInt ≤ z6.toInt) ∧ (∀ b9 g9 z9, fldR (f9 o0) 1 = some b9 → f9 b9 = .inl (cI, 1560, .inl g9) → fldI (f9 o0) 11 = some z9 → r.toInt = 0 ∨ z9.toInt ≤ (g9 0).toInt)) := by
  obtain ⟨dC, dI⟩ := D
  refine Met.ofW (cc := cX12_takesS) (maxL := 2) (ret := (some .boolean)) (by decide) rfl ?_
  intro p e s m args below meth c s₁ B hml hv
  obtain ⟨rfl, hP, hK, hD0, hN, hZ⟩ := hv
  have hx := B.exec
  have hb := B.bytes
  have hr := B.returns
  have hU : ∀ w ∈ wsU, w.before _ s = true := fun w h => atoms_spec (ws := wU yX12_takesS cX12_takesS 2 (some .boolean)) B.pre w (List.mem_cons_of_mem _ h)
  have hown : s.vm.findClass RX12 = some m.cls := findClass_of_methodNamed B.named
  have hlocks := B.notSynchronized
  have hD := pl_in hD0
  have hS : va_S (fun q => q ∈ L) s.heap s.heap [] := va_S.rf
  have hl := lv_entry ([.ref o0]) (n := 2) (Nat.le_of_ble_eq_true rfl)
  rw [lg_entry_eq]
  generalize (lg_sl ([.ref o0]) ++ List.replicate (2 - (lg_sl ([.ref o0])).length) Slot.unset).toArray = ls at hl ⊢
  have hl : lv_has ls 2 [(0, .ref o0)] := hl
  have hfr0 : ∀ b, kd b ≠ 12 → f b = f b := fun _ _ => rfl
  have hrA12 : ∀ b, kd b = 12 → ∀ j, fldR (f b) j = fldR (f b) j := fun _ _ _ => rfl
  have hfA12 : ∀ b, kd b = 12 → ∀ j, j ≠ 6 → j ≠ 7 → j ≠ 8 → j ≠ 11 → fldI (f b) j = fldI (f b) j := fun _ _ _ _ _ _ _ => rfl
  obtain ⟨a_1, a_2, a_3, v_4, a_5, v_6, v_7, v_8, v_9, v_10, v_11, v_12, v_13, v_14, v_15, a_16, a_17, a_18, a_19, a_20, a_21, a_22, a_23, v_24, v_25, v_26, v_27, v_28, a_29, v_30, a_31, a_32, v_33, v_34, a_35, v_36, a_37, a_38, v_39, v_40, a_41, a_42, a_43, v_44, a_45, a_46, a_47, a_48, a_49, a_50, a_51, a_52, a_53, v_54, v_55, a_56, hfo_57, fa_58⟩ := un12 (hG _ mo0) ko0
  obtain ⟨ma_2, ka_2⟩ := fa12_1 fa_58
  have bv_7 : (0 ≤ v_7.toInt ∧ v_7.toInt ≤ 600) := fa12_6 fa_58
  refine lv_aload_n hx hb dX12_takesS_0 rfl (lv_at hl 0 rfl) ?_
  refine tk_ViP (As := []) (rest := []) (n := 0) hx hb hml hown hU hN hZ (s_X12_sign_k12 l (dC, dI) cI cL cZ cR cG cH Z kd L f hG o0 mo0 ko0) wd_573 wd_574 wd_575 wd_5 wd_576 (by decide +kernel) ⟨Nat.le_of_ble_eq_true rfl, Nat.le_of_ble_eq_true rfl⟩ hK hP hD hS mo0 hfo_57 12 rfl rfl rfl hl.1 rfl (Nat.le_of_ble_eq_true rfl) dX12_takesS_1 ⟨Nat.le_of_ble_eq_true rfl, Nat.le_of_ble_eq_true rfl⟩ (fun x_59 f_60 H locs hw hP hD hS => ?_)
  obtain ⟨hG, bx_59, hkc_61, hra_62, hfa_63, hpost_64⟩ := hw
  have hfr0 : ∀ b, kd b ≠ 12 → f_60 b = f b := fun b q12 => (hkc_61 b q12).trans (hfr0 b q12)
  have hrA12 : ∀ b, kd b = 12 → ∀ j, fldR (f_60 b) j = fldR (f b) j := fun b kb j => (hra_62 b kb j).trans (hrA12 b kb j)
  have hfA12 : ∀ b, kd b = 12 → ∀ j, j ≠ 6 → j ≠ 7 → j ≠ 8 → j ≠ 11 → fldI (f_60 b) j = fldI (f b) j := fun b kb j n6 n7 n8 n11 => (hfa_63 b kb j n6).trans (hfA12 b kb j n6 n7 n8 n11)
  obtain ⟨v_66, hfo_67, fa_68⟩ := op12_6 hfo_57 (hG _ mo0) ko0 (hra_62 o0 ko0) (hfa_63 o0 ko0)
  have bv_66 : (0 ≤ v_66.toInt ∧ v_66.toInt ≤ 600) := fa12_6 fa_68
  have hqhpost_64 := hpost_64 v_7 v_66 (by rw [hfo_57]; rfl) (by rw [hfo_67]; rfl)
  refine lv_istore_n (lv' := [(1, .int x_59), (0, .ref o0)]) hx hb dX12_takesS_4 rfl hl (by decide) rfl (fun ls hl => ?_)
  refine lv_iload_n hx hb dX12_takesS_5 rfl (lv_at hl 0 rfl) ?_
  refine lv_bipush (v := 48) hx hb dX12_takesS_6 (by decide) ?_
  refine lv_icmp_ne (tgt := 28) hx hb dX12_takesS_8 (by decide) (fun c_69 => ?_) (fun c_69 => ?_)
  · skip
    rw [← Int32.toInt_inj, ti_48] at c_69
    refine lv_iload_n hx hb dX12_takesS_28 rfl (lv_at hl 0 rfl) ?_
    refine tk_SiP (As := [.int x_59]) (rest := []) (n := 1) hx hb hml hown hU hN hZ (s_X12_isSmall l (dC, dI) cI cL cZ cR cG cH Z kd L f_60 hG x_59) wd_589 wd_590 wd_5 wd_591 (by decide +kernel) ⟨Nat.le_of_ble_eq_true rfl, Nat.le_of_ble_eq_true rfl⟩ hK hP hD hS rfl hl.1 rfl (Nat.le_of_ble_eq_true rfl) dX12_takesS_29 ⟨Nat.le_of_ble_eq_true rfl, Nat.le_of_ble_eq_true rfl⟩ (fun x_70 f_71 H locs hw hP hD hS => ?_)
    obtain ⟨rfl, bx_70, relx_70⟩ := hw
    refine lv_if_ne (tgt := 45) hx hb dX12_takesS_32 (by decide) (fun c_73 => ?_) (fun c_73 => ?_)
    · skip
      rw [← Int32.toInt_inj, ti_0] at c_73
      refine lv_aload_n hx hb dX12_takesS_45 rfl (lv_at hl 1 rfl) ?_
      refine lv_aload_n hx hb dX12_takesS_46 rfl (lv_at hl 1 rfl) ?_
      refine tk_getP (D := (dC, dI)) (ci := 12) (v := .ref a_2) (C := RX12) (T := TX12) (N := 56) hx hb hU inlX12 hown hK hP mo0 hfo_67 rfl 1 (by decide) (hU _ wd_170) (fun _ h9 => h9) rfl dX12_takesS_47 ?_
      refine lv_iload_n hx hb dX12_takesS_50 rfl (lv_at hl 0 rfl) ?_
      refine tk_SiP (As := [.ref a_2, .int x_59]) (rest := [.ref o0]) (n := 2) hx hb hml hown hU hN hZ (s_X12_letterIn_a576 l (dC, dI) cI cL cZ cR cG cH Z kd L f_60 hG a_2 ma_2 ka_2 x_59) wd_606 wd_607 wd_5 wd_608 (by decide +kernel) ⟨Nat.le_of_ble_eq_true rfl, Nat.le_of_ble_eq_true rfl⟩ hK hP hD hS rfl hl.1 rfl (Nat.le_of_ble_eq_true rfl) dX12_takesS_51 ⟨Nat.le_of_ble_eq_true rfl, Nat.le_of_ble_eq_true rfl⟩ (fun x_74 f_75 H locs hw hP hD hS => ?_)
      obtain ⟨rfl, bx_74, hxp_76⟩ := hw
      obtain ⟨g_79, hfo_78, hbg_79⟩ := un_576 (hG _ ma_2) ka_2
      have hlix_74 := hxp_76 g_79 hfo_78
      refine tk_putP (D := (dC, dI)) (ci := 12) (v := .int x_74) (ty := .int) (C := RX12) (T := TX12) (N := 56) hx hb hU inlX12 tyX12 tyX12_ok nmX12 hown hK hP hD hS mo0 hfo_67 rfl 11 (by decide) (hU _ wd_617) (fun _ h9 => h9) rfl (by decide +kernel) rfl rfl (Nat.le_of_ble_eq_true rfl) dX12_takesS_54 (fun H locs hP hD hS => ?_)
      have fa_80 := fu12_11 (y := x_74) fa_68 (by constructor <;> omega)
      obtain ⟨f_82, ef_82⟩ : ∃ y : Nat → va_E, y = va_up f_60 o0 (.inr (12, [.ref a_1, .ref a_2, .ref a_3, .int v_4, .ref a_5, .int v_6, .int v_66, .int v_8, .int v_9, .int v_10, .int v_11, .int x_74, .int v_13, .int v_14, .int v_15, .ref a_16, .ref a_17, .ref a_18, .ref a_19, .ref a_20, .ref a_21, .ref a_22, .ref a_23, .int v_24, .int v_25, .int v_26, .int v_27, .int v_28, .ref a_29, .int v_30, .ref a_31, .ref a_32, .int v_33, .int v_34, .ref a_35, .int v_36, .ref a_37, .ref a_38, .int v_39, .int v_40, .ref a_41, .ref a_42, .ref a_43, .int v_44, .ref a_45, .ref a_46, .ref a_47, .ref a_48, .ref a_49, .ref a_50, .ref a_51, .ref a_52, .ref a_53, .int v_54, .int v_55, .ref a_56])) := ⟨_, rfl⟩
      have hP : va_P (dC, dI) vwCl (va_pl L f_82) H := by rw [ef_82]; exact hP
      have hD : va_D (fun q => q ∈ L) (va_pl L f_82) := by rw [ef_82]; exact hD
      have hG : GI (okc cI cL cZ cR cG cH L kd) kd L f_82 := by rw [ef_82]; exact hG.set o0 (mk_12 ko0 (fo12 fa_80))
      have hfo_83 : f_82 a_2 = .inl (cI, 1560, .inl g_79) := by rw [ef_82, up_ne (kd_ne ko0 ka_2 (by decide))]; exact hfo_78
      have hfr0 : ∀ b, kd b ≠ 12 → f_82 b = f b := fun b q12 => (congrFun ef_82 b).trans ((up_ne (fun e9 => q12 (by rw [e9]; exact ko0))).trans (hfr0 b q12))
      have hrA12 : ∀ b, kd b = 12 → ∀ j, fldR (f_82 b) j = fldR (f b) j := fun b kb j => ((congrArg (fun x => fldR x j) (congrFun ef_82 b)).trans (fra_up (fun j => by rw [hfo_67]; exact fr_set (k := 11) rfl rfl) j b)).trans (hrA12 b kb j)
      have hfA12 : ∀ b, kd b = 12 → ∀ j, j ≠ 6 → j ≠ 7 → j ≠ 8 → j ≠ 11 → fldI (f_82 b) j = fldI (f b) j := fun b kb j n6 n7 n8 n11 => ((congrArg (fun x => fldI x j) (congrFun ef_82 b)).trans (fia_up (fun h9 => by rw [hfo_67]; exact fi_set (k := 11) rfl h9) n11 b)).trans (hfA12 b kb j n6 n7 n8 n11)
      have hfo_84 : f_82 o0 = .inr (12, [.ref a_1, .ref a_2, .ref a_3, .int v_4, .ref a_5, .int v_6, .int v_66, .int v_8, .int v_9, .int v_10, .int v_11, .int x_74, .int v_13, .int v_14, .int v_15, .ref a_16, .ref a_17, .ref a_18, .ref a_19, .ref a_20, .ref a_21, .ref a_22, .ref a_23, .int v_24, .int v_25, .int v_26, .int v_27, .int v_28, .ref a_29, .int v_30, .ref a_31, .ref a_32, .int v_33, .int v_34, .ref a_35, .int v_36, .ref a_37, .ref a_38, .int v_39, .int v_40, .ref a_41, .ref a_42, .ref a_43, .int v_44, .ref a_45, .ref a_46, .ref a_47, .ref a_48, .ref a_49, .ref a_50, .ref a_51, .ref a_52, .ref a_53, .int v_54, .int v_55, .ref a_56]) := by rw [ef_82]; exact up_self
      refine lv_aload_n hx hb dX12_takesS_57 rfl (lv_at hl 1 rfl) ?_
      refine tk_getP (D := (dC, dI)) (ci := 12) (v := .int x_74) (C := RX12) (T := TX12) (N := 56) hx hb hU inlX12 hown hK hP mo0 hfo_84 rfl 11 (by decide) (hU _ wd_617) (fun _ h9 => h9) rfl dX12_takesS_58 ?_
      refine lv_if_ne (tgt := 74) hx hb dX12_takesS_61 (by decide) (fun c_85 => ?_) (fun c_85 => ?_)
      · skip
        rw [← Int32.toInt_inj, ti_0] at c_85
        have hclc_86 : (0 ≤ v_66.toInt ∧ v_66.toInt ≤ 599) := by constructor <;> omega
        refine lv_aload_n hx hb dX12_takesS_74 rfl (lv_at hl 1 rfl) ?_
        refine lv_dup hx hb dX12_takesS_75 rfl ?_
        refine tk_getP (D := (dC, dI)) (ci := 12) (v := .int v_66) (C := RX12) (T := TX12) (N := 56) hx hb hU inlX12 hown hK hP mo0 hfo_84 rfl 6 (by decide) (hU _ wd_566) (fun _ h9 => h9) rfl dX12_takesS_76 ?_
        refine lv_iconst (v := 1) hx hb dX12_takesS_79 (by decide) ?_
        refine lv_iadd hx hb dX12_takesS_80 ?_
        refine lv_topi (fun x_87 ex_87 => ?_)
        have hx_87 : x_87.toInt = v_66.toInt + 1 := by rw [ex_87, ad_I (by rw [ti_1]; omega) (by rw [ti_1]; omega), ti_1]
        have bx_87 : (1 ≤ x_87.toInt ∧ x_87.toInt ≤ 600) := by constructor <;> omega
        refine tk_putP (D := (dC, dI)) (ci := 12) (v := .int x_87) (ty := .int) (C := RX12) (T := TX12) (N := 56) hx hb hU inlX12 tyX12 tyX12_ok nmX12 hown hK hP hD hS mo0 hfo_84 rfl 6 (by decide) (hU _ wd_566) (fun _ h9 => h9) rfl (by decide +kernel) rfl rfl (Nat.le_of_ble_eq_true rfl) dX12_takesS_81 (fun H locs hP hD hS => ?_)
        have fa_88 := fu12_6 (y := x_87) fa_80 (by constructor <;> omega)
        obtain ⟨f_90, ef_90⟩ : ∃ y : Nat → va_E, y = va_up f_82 o0 (.inr (12, [.ref a_1, .ref a_2, .ref a_3, .int v_4, .ref a_5, .int v_6, .int x_87, .int v_8, .int v_9, .int v_10, .int v_11, .int x_74, .int v_13, .int v_14, .int v_15, .ref a_16, .ref a_17, .ref a_18, .ref a_19, .ref a_20, .ref a_21, .ref a_22, .ref a_23, .int v_24, .int v_25, .int v_26, .int v_27, .int v_28, .ref a_29, .int v_30, .ref a_31, .ref a_32, .int v_33, .int v_34, .ref a_35, .int v_36, .ref a_37, .ref a_38, .int v_39, .int v_40, .ref a_41, .ref a_42, .ref a_43, .int v_44, .ref a_45, .ref a_46, .ref a_47, .ref a_48, .ref a_49, .ref a_50, .ref a_51, .ref a_52, .ref a_53, .int v_54, .int v_55, .ref a_56])) := ⟨_, rfl⟩
        have hP : va_P (dC, dI) vwCl (va_pl L f_90) H := by rw [ef_90]; exact hP
        have hD : va_D (fun q => q ∈ L) (va_pl L f_90) := by rw [ef_90]; exact hD
        have hG : GI (okc cI cL cZ cR cG cH L kd) kd L f_90 := by rw [ef_90]; exact hG.set o0 (mk_12 ko0 (fo12 fa_88))
        have hfo_91 : f_90 a_2 = .inl (cI, 1560, .inl g_79) := by rw [ef_90, up_ne (kd_ne ko0 ka_2 (by decide))]; exact hfo_83
        have hfr0 : ∀ b, kd b ≠ 12 → f_90 b = f b := fun b q12 => (congrFun ef_90 b).trans ((up_ne (fun e9 => q12 (by rw [e9]; exact ko0))).trans (hfr0 b q12))
        have hrA12 : ∀ b, kd b = 12 → ∀ j, fldR (f_90 b) j = fldR (f b) j := fun b kb j => ((congrArg (fun x => fldR x j) (congrFun ef_90 b)).trans (fra_up (fun j => by rw [hfo_84]; exact fr_set (k := 6) rfl rfl) j b)).trans (hrA12 b kb j)
        have hfA12 : ∀ b, kd b = 12 → ∀ j, j ≠ 6 → j ≠ 7 → j ≠ 8 → j ≠ 11 → fldI (f_90 b) j = fldI (f b) j := fun b kb j n6 n7 n8 n11 => ((congrArg (fun x => fldI x j) (congrFun ef_90 b)).trans (fia_up (fun h9 => by rw [hfo_84]; exact fi_set (k := 6) rfl h9) n6 b)).trans (hfA12 b kb j n6 n7 n8 n11)
        have hfo_92 : f_90 o0 = .inr (12, [.ref a_1, .ref a_2, .ref a_3, .int v_4, .ref a_5, .int v_6, .int x_87, .int v_8, .int v_9, .int v_10, .int v_11, .int x_74, .int v_13, .int v_14, .int v_15, .ref a_16, .ref a_17, .ref a_18, .ref a_19, .ref a_20, .ref a_21, .ref a_22, .ref a_23, .int v_24, .int v_25, .int v_26, .int v_27, .int v_28, .ref a_29, .int v_30, .ref a_31, .ref a_32, .int v_33, .int v_34, .ref a_35, .int v_36, .ref a_37, .ref a_38, .int v_39, .int v_40, .ref a_41, .ref a_42, .ref a_43, .int v_44, .ref a_45, .ref a_46, .ref a_47, .ref a_48, .ref a_49, .ref a_50, .ref a_51, .ref a_52, .ref a_53, .int v_54, .int v_55, .ref a_56]) := by rw [ef_90]; exact up_self
        refine lv_iconst (v := 1) hx hb dX12_takesS_84 (by decide) ?_
        exact W.zret (v := 1) (ty := .boolean) hx hb hr rfl (fun t ht hW => ⟨⟨1, f_90, rfl, ⟨hG, (by decide), hfr0, hrA12, hfA12, (by intro w6 z6 e6 d6; rw [hfo_57] at e6; rw [hfo_92] at d6; obtain rfl := Option.some.inj e6; obtain rfl := Option.some.inj d6; (try rw [ti_1]) <;> omega), (fun b9 g9 z9 h1 h2 h3 => Or.inr (by rw [hfo_92] at h1 h3; obtain rfl := Option.some.inj h1; obtain rfl := Option.some.inj h3; rw [hfo_91] at h2; cases h2; exact (hlix_74)))⟩, by rw [ht]; exact hP, va_K.moved hW.alike hK, pl_in hD⟩, hS.F ht⟩) hS.2.2 dX12_takesS_85
      · skip
        rw [← Int32.toInt_inj, ti_0] at c_85
        refine lv_aload_n hx hb dX12_takesS_64 rfl (lv_at hl 1 rfl) ?_
        refine lv_iconst (v := 2) hx hb dX12_takesS_65 (by decide) ?_
        refine lv_aload_n hx hb dX12_takesS_66 rfl (lv_at hl 1 rfl) ?_
        refine tk_getP (D := (dC, dI)) (ci := 12) (v := .int v_66) (C := RX12) (T := TX12) (N := 56) hx hb hU inlX12 hown hK hP mo0 hfo_84 rfl 6 (by decide) (hU _ wd_566) (fun _ h9 => h9) rfl dX12_takesS_67 ?_
        refine tk_ViP (As := [.int 2, .int v_66]) (rest := []) (n := 2) hx hb hml hown hU hN hZ (s_X12_bad_k12 l (dC, dI) cI cL cZ cR cG cH Z kd L f_82 hG o0 mo0 ko0 2 v_66) wd_602 wd_603 wd_604 wd_5 wd_605 (by decide +kernel) ⟨Nat.le_of_ble_eq_true rfl, Nat.le_of_ble_eq_true rfl⟩ hK hP hD hS mo0 hfo_84 12 rfl rfl rfl hl.1 rfl (Nat.le_of_ble_eq_true rfl) dX12_takesS_70 ⟨Nat.le_of_ble_eq_true rfl, Nat.le_of_ble_eq_true rfl⟩ (fun x_93 f_94 H locs hw hP hD hS => ?_)
        obtain ⟨hG, bx_93, hkc_95, hra_96, hfa_97⟩ := hw
        have hfo_99 : f_94 a_2 = .inl (cI, 1560, .inl g_79) := by rw [hkc_95 a_2 (by rw [ka_2]; decide)]; exact hfo_83
        have hfr0 : ∀ b, kd b ≠ 12 → f_94 b = f b := fun b q12 => (hkc_95 b q12).trans (hfr0 b q12)
        have hrA12 : ∀ b, kd b = 12 → ∀ j, fldR (f_94 b) j = fldR (f b) j := fun b kb j => (hra_96 b kb j).trans (hrA12 b kb j)
        have hfA12 : ∀ b, kd b = 12 → ∀ j, j ≠ 6 → j ≠ 7 → j ≠ 8 → j ≠ 11 → fldI (f_94 b) j = fldI (f b) j := fun b kb j n6 n7 n8 n11 => (hfa_97 b kb j n7 n8).trans (hfA12 b kb j n6 n7 n8 n11)
        obtain ⟨v_100, v_101, hfo_102, fa_103⟩ := op12_7_8 hfo_84 (hG _ mo0) ko0 (hra_96 o0 ko0) (hfa_97 o0 ko0)
        have bv_100 : ((-2147483648) ≤ v_100.toInt ∧ v_100.toInt ≤ 2147483647) := ⟨i32_lo _, i32_hi _⟩
        have bv_101 : ((-2147483648) ≤ v_101.toInt ∧ v_101.toInt ≤ 2147483647) := ⟨i32_lo _, i32_hi _⟩
        exact W.zret (v := x_93) (ty := .boolean) hx hb hr (zb_n (by constructor <;> omega)) (fun t ht hW => ⟨⟨x_93, f_94, rfl, ⟨hG, (by constructor <;> omega), hfr0, hrA12, hfA12, (by intro w6 z6 e6 d6; rw [hfo_57] at e6; rw [hfo_102] at d6; obtain rfl := Option.some.inj e6; obtain rfl := Option.some.inj d6; omega), (fun _ _ _ _ _ _ => Or.inl (by omega))⟩, by rw [ht]; exact hP, va_K.moved hW.alike hK, pl_in hD⟩, hS.F ht⟩) hS.2.2 dX12_takesS_73
    · skip
      rw [← Int32.toInt_inj, ti_0] at c_73
      refine lv_aload_n hx hb dX12_takesS_35 rfl (lv_at hl 1 rfl) ?_
      refine lv_iconst (v := 1) hx hb dX12_takesS_36 (by decide) ?_
      refine lv_aload_n hx hb dX12_takesS_37 rfl (lv_at hl 1 rfl) ?_
      refine tk_getP (D := (dC, dI)) (ci := 12) (v := .int v_66) (C := RX12) (T := TX12) (N := 56) hx hb hU inlX12 hown hK hP mo0 hfo_67 rfl 6 (by decide) (hU _ wd_566) (fun _ h9 => h9) rfl dX12_takesS_38 ?_
      refine tk_ViP (As := [.int 1, .int v_66]) (rest := []) (n := 2) hx hb hml hown hU hN hZ (s_X12_bad_k12 l (dC, dI) cI cL cZ cR cG cH Z kd L f_60 hG o0 mo0 ko0 1 v_66) wd_602 wd_603 wd_604 wd_5 wd_605 (by decide +kernel) ⟨Nat.le_of_ble_eq_true rfl, Nat.le_of_ble_eq_true rfl⟩ hK hP hD hS mo0 hfo_67 12 rfl rfl rfl hl.1 rfl (Nat.le_of_ble_eq_true rfl) dX12_takesS_41 ⟨Nat.le_of_ble_eq_true rfl, Nat.le_of_ble_eq_true rfl⟩ (fun x_104 f_105 H locs hw hP hD hS => ?_)
      obtain ⟨hG, bx_104, hkc_106, hra_107, hfa_108⟩ := hw
      have hfr0 : ∀ b, kd b ≠ 12 → f_105 b = f b := fun b q12 => (hkc_106 b q12).trans (hfr0 b q12)
      have hrA12 : ∀ b, kd b = 12 → ∀ j, fldR (f_105 b) j = fldR (f b) j := fun b kb j => (hra_107 b kb j).trans (hrA12 b kb j)
      have hfA12 : ∀ b, kd b = 12 → ∀ j, j ≠ 6 → j ≠ 7 → j ≠ 8 → j ≠ 11 → fldI (f_105 b) j = fldI (f b) j := fun b kb j n6 n7 n8 n11 => (hfa_108 b kb j n7 n8).trans (hfA12 b kb j n6 n7 n8 n11)
      obtain ⟨v_110, v_111, hfo_112, fa_113⟩ := op12_7_8 hfo_67 (hG _ mo0) ko0 (hra_107 o0 ko0) (hfa_108 o0 ko0)
      have bv_110 : ((-2147483648) ≤ v_110.toInt ∧ v_110.toInt ≤ 2147483647) := ⟨i32_lo _, i32_hi _⟩
      have bv_111 : ((-2147483648) ≤ v_111.toInt ∧ v_111.toInt ≤ 2147483647) := ⟨i32_lo _, i32_hi _⟩
      exact W.zret (v := x_104) (ty := .boolean) hx hb hr (zb_n (by constructor <;> omega)) (fun t ht hW => ⟨⟨x_104, f_105, rfl, ⟨hG, (by constructor <;> omega), hfr0, hrA12, hfA12, (by intro w6 z6 e6 d6; rw [hfo_57] at e6; rw [hfo_112] at d6; obtain rfl := Option.some.inj e6; obtain rfl := Option.some.inj d6; omega), (fun _ _ _ _ _ _ => Or.inl (by omega))⟩, by rw [ht]; exact hP, va_K.moved hW.alike hK, pl_in hD⟩, hS.F ht⟩) hS.2.2 dX12_takesS_44
  · skip
    rw [← Int32.toInt_inj, ti_48] at c_69
    refine lv_aload_n hx hb dX12_takesS_11 rfl (lv_at hl 1 rfl) ?_
    refine lv_iconst (v := 0) hx hb dX12_takesS_12 (by decide) ?_
    refine tk_putP (D := (dC, dI)) (ci := 12) (v := .int 0) (ty := .int) (C := RX12) (T := TX12) (N := 56) hx hb hU inlX12 tyX12 tyX12_ok nmX12 hown hK hP hD hS mo0 hfo_67 rfl 11 (by decide) (hU _ wd_617) (fun _ h9 => h9) rfl (by decide +kernel) rfl rfl (Nat.le_of_ble_eq_true rfl) dX12_takesS_13 (fun H locs hP hD hS => ?_)
    have fa_114 := fu12_11 (y := 0) fa_68 (by decide)
    obtain ⟨f_116, ef_116⟩ : ∃ y : Nat → va_E, y = va_up f_60 o0 (.inr (12, [.ref a_1, .ref a_2, .ref a_3, .int v_4, .ref a_5, .int v_6, .int v_66, .int v_8, .int v_9, .int v_10, .int v_11, .int 0, .int v_13, .int v_14, .int v_15, .ref a_16, .ref a_17, .ref a_18, .ref a_19, .ref a_20, .ref a_21, .ref a_22, .ref a_23, .int v_24, .int v_25, .int v_26, .int v_27, .int v_28, .ref a_29, .int v_30, .ref a_31, .ref a_32, .int v_33, .int v_34, .ref a_35, .int v_36, .ref a_37, .ref a_38, .int v_39, .int v_40, .ref a_41, .ref a_42, .ref a_43, .int v_44, .ref a_45, .ref a_46, .ref a_47, .ref a_48, .ref a_49, .ref a_50, .ref a_51, .ref a_52, .ref a_53, .int v_54, .int v_55, .ref a_56])) := ⟨_, rfl⟩
    have hP : va_P (dC, dI) vwCl (va_pl L f_116) H := by rw [ef_116]; exact hP
    have hD : va_D (fun q => q ∈ L) (va_pl L f_116) := by rw [ef_116]; exact hD
    have hG : GI (okc cI cL cZ cR cG cH L kd) kd L f_116 := by rw [ef_116]; exact hG.set o0 (mk_12 ko0 (fo12 fa_114))
    have hfr0 : ∀ b, kd b ≠ 12 → f_116 b = f b := fun b q12 => (congrFun ef_116 b).trans ((up_ne (fun e9 => q12 (by rw [e9]; exact ko0))).trans (hfr0 b q12))
    have hrA12 : ∀ b, kd b = 12 → ∀ j, fldR (f_116 b) j = fldR (f b) j := fun b kb j => ((congrArg (fun x => fldR x j) (congrFun ef_116 b)).trans (fra_up (fun j => by rw [hfo_67]; exact fr_set (k := 11) rfl rfl) j b)).trans (hrA12 b kb j)
    have hfA12 : ∀ b, kd b = 12 → ∀ j, j ≠ 6 → j ≠ 7 → j ≠ 8 → j ≠ 11 → fldI (f_116 b) j = fldI (f b) j := fun b kb j n6 n7 n8 n11 => ((congrArg (fun x => fldI x j) (congrFun ef_116 b)).trans (fia_up (fun h9 => by rw [hfo_67]; exact fi_set (k := 11) rfl h9) n11 b)).trans (hfA12 b kb j n6 n7 n8 n11)
    have hfo_117 : f_116 o0 = .inr (12, [.ref a_1, .ref a_2, .ref a_3, .int v_4, .ref a_5, .int v_6, .int v_66, .int v_8, .int v_9, .int v_10, .int v_11, .int 0, .int v_13, .int v_14, .int v_15, .ref a_16, .ref a_17, .ref a_18, .ref a_19, .ref a_20, .ref a_21, .ref a_22, .ref a_23, .int v_24, .int v_25, .int v_26, .int v_27, .int v_28, .ref a_29, .int v_30, .ref a_31, .ref a_32, .int v_33, .int v_34, .ref a_35, .int v_36, .ref a_37, .ref a_38, .int v_39, .int v_40, .ref a_41, .ref a_42, .ref a_43, .int v_44, .ref a_45, .ref a_46, .ref a_47, .ref a_48, .ref a_49, .ref a_50, .ref a_51, .ref a_52, .ref a_53, .int v_54, .int v_55, .ref a_56]) := by rw [ef_116]; exact up_self
    have hclc_118 : (0 ≤ v_66.toInt ∧ v_66.toInt ≤ 599) := by constructor <;> omega
    refine lv_aload_n hx hb dX12_takesS_16 rfl (lv_at hl 1 rfl) ?_
    refine lv_dup hx hb dX12_takesS_17 rfl ?_
    refine tk_getP (D := (dC, dI)) (ci := 12) (v := .int v_66) (C := RX12) (T := TX12) (N := 56) hx hb hU inlX12 hown hK hP mo0 hfo_117 rfl 6 (by decide) (hU _ wd_566) (fun _ h9 => h9) rfl dX12_takesS_18 ?_
    refine lv_iconst (v := 1) hx hb dX12_takesS_21 (by decide) ?_
    refine lv_iadd hx hb dX12_takesS_22 ?_
    refine lv_topi (fun x_119 ex_119 => ?_)
    have hx_119 : x_119.toInt = v_66.toInt + 1 := by rw [ex_119, ad_I (by rw [ti_1]; omega) (by rw [ti_1]; omega), ti_1]
    have bx_119 : (1 ≤ x_119.toInt ∧ x_119.toInt ≤ 600) := by constructor <;> omega
    refine tk_putP (D := (dC, dI)) (ci := 12) (v := .int x_119) (ty := .int) (C := RX12) (T := TX12) (N := 56) hx hb hU inlX12 tyX12 tyX12_ok nmX12 hown hK hP hD hS mo0 hfo_117 rfl 6 (by decide) (hU _ wd_566) (fun _ h9 => h9) rfl (by decide +kernel) rfl rfl (Nat.le_of_ble_eq_true rfl) dX12_takesS_23 (fun H locs hP hD hS => ?_)
    have fa_120 := fu12_6 (y := x_119) fa_114 (by constructor <;> omega)
    obtain ⟨f_122, ef_122⟩ : ∃ y : Nat → va_E, y = va_up f_116 o0 (.inr (12, [.ref a_1, .ref a_2, .ref a_3, .int v_4, .ref a_5, .int v_6, .int x_119, .int v_8, .int v_9, .int v_10, .int v_11, .int 0, .int v_13, .int v_14, .int v_15, .ref a_16, .ref a_17, .ref a_18, .ref a_19, .ref a_20, .ref a_21, .ref a_22, .ref a_23, .int v_24, .int v_25, .int v_26, .int v_27, .int v_28, .ref a_29, .int v_30, .ref a_31, .ref a_32, .int v_33, .int v_34, .ref a_35, .int v_36, .ref a_37, .ref a_38, .int v_39, .int v_40, .ref a_41, .ref a_42, .ref a_43, .int v_44, .ref a_45, .ref a_46, .ref a_47, .ref a_48, .ref a_49, .ref a_50, .ref a_51, .ref a_52, .ref a_53, .int v_54, .int v_55, .ref a_56])) := ⟨_, rfl⟩
    have hP : va_P (dC, dI) vwCl (va_pl L f_122) H := by rw [ef_122]; exact hP
    have hD : va_D (fun q => q ∈ L) (va_pl L f_122) := by rw [ef_122]; exact hD
    have hG : GI (okc cI cL cZ cR cG cH L kd) kd L f_122 := by rw [ef_122]; exact hG.set o0 (mk_12 ko0 (fo12 fa_120))
    have hfr0 : ∀ b, kd b ≠ 12 → f_122 b = f b := fun b q12 => (congrFun ef_122 b).trans ((up_ne (fun e9 => q12 (by rw [e9]; exact ko0))).trans (hfr0 b q12))
    have hrA12 : ∀ b, kd b = 12 → ∀ j, fldR (f_122 b) j = fldR (f b) j := fun b kb j => ((congrArg (fun x => fldR x j) (congrFun ef_122 b)).trans (fra_up (fun j => by rw [hfo_117]; exact fr_set (k := 6) rfl rfl) j b)).trans (hrA12 b kb j)
    have hfA12 : ∀ b, kd b = 12 → ∀ j, j ≠ 6 → j ≠ 7 → j ≠ 8 → j ≠ 11 → fldI (f_122 b) j = fldI (f b) j := fun b kb j n6 n7 n8 n11 => ((congrArg (fun x => fldI x j) (congrFun ef_122 b)).trans (fia_up (fun h9 => by rw [hfo_117]; exact fi_set (k := 6) rfl h9) n6 b)).trans (hfA12 b kb j n6 n7 n8 n11)
    have hfo_123 : f_122 o0 = .inr (12, [.ref a_1, .ref a_2, .ref a_3, .int v_4, .ref a_5, .int v_6, .int x_119, .int v_8, .int v_9, .int v_10, .int v_11, .int 0, .int v_13, .int v_14, .int v_15, .ref a_16, .ref a_17, .ref a_18, .ref a_19, .ref a_20, .ref a_21, .ref a_22, .ref a_23, .int v_24, .int v_25, .int v_26, .int v_27, .int v_28, .ref a_29, .int v_30, .ref a_31, .ref a_32, .int v_33, .int v_34, .ref a_35, .int v_36, .ref a_37, .ref a_38, .int v_39, .int v_40, .ref a_41, .ref a_42, .ref a_43, .int v_44, .ref a_45, .ref a_46, .ref a_47, .ref a_48, .ref a_49, .ref a_50, .ref a_51, .ref a_52, .ref a_53, .int v_54, .int v_55, .ref a_56]) := by rw [ef_122]; exact up_self
    refine lv_iconst (v := 1) hx hb dX12_takesS_26 (by decide) ?_
    obtain ⟨g_125, hfo_124, hbg_125⟩ := un_576 (hG _ ma_2) ka_2
    exact W.zret (v := 1) (ty := .boolean) hx hb hr rfl (fun t ht hW => ⟨⟨1, f_122, rfl, ⟨hG, (by decide), hfr0, hrA12, hfA12, (by intro w6 z6 e6 d6; rw [hfo_57] at e6; rw [hfo_123] at d6; obtain rfl := Option.some.inj e6; obtain rfl := Option.some.inj d6; (try rw [ti_1]) <;> omega), (fun b9 g9 z9 h1 h2 h3 => Or.inr (by rw [hfo_123] at h1 h3; obtain rfl := Option.some.inj h1; obtain rfl := Option.some.inj h3; rw [hfo_124] at h2; cases h2; exact (by rw [show ((0 : Int32)).toInt = 0 from rfl]; exact (hbg_125.1 0 (by decide) (by decide) (by decide)).1)))⟩, by rw [ht]; exact hP, va_K.moved hW.alike hK, pl_in hD⟩, hS.F ht⟩) hS.2.2 dX12_takesS_27
