set_option maxHeartbeats 8000000 in
set_option maxRecDepth 100000 in
theorem s_X12_sets_k12 (l : Launch) (D : va_G) (cI cL cZ cR cG cH : ClassId) (Z : zT) (kd : Nat → Nat) (L : List Nat) (f : Nat → va_E) (hG : GI (okc cI cL cZ cR cG cH L kd) kd L f) (o0 : Nat) (mo0 : o0 ∈ L) (ko0 : kd o0 = 12) (p1 : Int32) (bp1 : (0 ≤ p1.toInt ∧ p1.toInt ≤ 4)) : mPV l D cI cL cZ cR cG cH Z yX12_sets cX12_sets 2 none 3 68 [.ref o0, .int p1] L f (fun (f9 : Nat → va_E) => GI (okc cI cL cZ cR cG cH L kd) kd L f9 ∧ (∀ b, kd b ≠ 12 → kd b ≠ 579 → kd b ≠ 581 → kd b ≠ 587 → f9 b = f b) ∧ (∀ b, kd b = 12 → ∀ j, fldR (f9 b) j = fldR (f b) j) ∧ (∀ b, kd b = 12 → ∀ j, j ≠ 25 → j ≠ 27 → fldI (f9 b) j = fldI (f b) j) ∧ (∀ (w25 z25 : Int32) (w27 z27 : Int32), fldI (f o0) 25 = some w25 → fldI (f o0) 27 = some w27 → fldI (f9 o0) 25 = some z25 → fldI (f9 o0) 27 = some z27 → z25.toInt = p1.toInt ∧ z27.toInt = 0)) := by
  obtain ⟨dC, dI⟩ := D
  refine Met.ofW (cc := cX12_sets) (maxL := 2) (ret := none) (by decide) rfl ?_
  intro p e s m args below meth c s₁ B hml hv
  obtain ⟨rfl, hP, hK, hD0, hN, hZ⟩ := hv
  have hx := B.exec
  have hb := B.bytes
  have hr := B.returns
  have hU : ∀ w ∈ wsU, w.before _ s = true := fun w h => atoms_spec (ws := wU yX12_sets cX12_sets 2 none) B.pre w (List.mem_cons_of_mem _ h)
  have hown : s.vm.findClass RX12 = some m.cls := findClass_of_methodNamed B.named
  have hlocks := B.notSynchronized
  have hD := pl_in hD0
  have hS : va_S (fun q => q ∈ L) s.heap s.heap [] := va_S.rf
  have hl := lv_entry ([.ref o0, .int p1]) (n := 2) (Nat.le_of_ble_eq_true rfl)
  rw [lg_entry_eq]
  generalize (lg_sl ([.ref o0, .int p1]) ++ List.replicate (2 - (lg_sl ([.ref o0, .int p1])).length) Slot.unset).toArray = ls at hl ⊢
  have hl : lv_has ls 2 [(0, .ref o0), (1, .int p1)] := hl
  have hfr0 : ∀ b, kd b ≠ 12 → kd b ≠ 579 → kd b ≠ 581 → kd b ≠ 587 → f b = f b := fun _ _ _ _ _ => rfl
  have hrA12 : ∀ b, kd b = 12 → ∀ j, fldR (f b) j = fldR (f b) j := fun _ _ _ => rfl
  have hfA12 : ∀ b, kd b = 12 → ∀ j, j ≠ 25 → j ≠ 27 → fldI (f b) j = fldI (f b) j := fun _ _ _ _ _ => rfl
  obtain ⟨a_1, a_2, a_3, v_4, a_5, v_6, v_7, v_8, v_9, v_10, v_11, v_12, v_13, v_14, v_15, a_16, a_17, a_18, a_19, a_20, a_21, a_22, a_23, v_24, v_25, v_26, v_27, v_28, a_29, v_30, a_31, a_32, v_33, v_34, a_35, v_36, a_37, a_38, v_39, v_40, a_41, a_42, a_43, v_44, a_45, a_46, a_47, a_48, a_49, a_50, a_51, a_52, a_53, v_54, v_55, a_56, hfo_57, fa_58⟩ := un12 (hG _ mo0) ko0
  refine lv_aload_n hx hb dX12_sets_0 rfl (lv_at hl 0 rfl) ?_
  refine lv_iload_n hx hb dX12_sets_1 rfl (lv_at hl 1 rfl) ?_
  refine tk_putP (D := (dC, dI)) (ci := 12) (v := .int p1) (ty := .int) (C := RX12) (T := TX12) (N := 56) hx hb hU inlX12 tyX12 tyX12_ok nmX12 hown hK hP hD hS mo0 hfo_57 rfl 25 (by decide) (hU _ wd_872) (fun _ h9 => h9) rfl (by decide +kernel) rfl rfl (Nat.le_of_ble_eq_true rfl) dX12_sets_2 (fun H locs hP hD hS => ?_)
  have fa_59 := fu12_25 (y := p1) fa_58 (by constructor <;> omega)
  obtain ⟨f_61, ef_61⟩ : ∃ y : Nat → va_E, y = va_up f o0 (.inr (12, [.ref a_1, .ref a_2, .ref a_3, .int v_4, .ref a_5, .int v_6, .int v_7, .int v_8, .int v_9, .int v_10, .int v_11, .int v_12, .int v_13, .int v_14, .int v_15, .ref a_16, .ref a_17, .ref a_18, .ref a_19, .ref a_20, .ref a_21, .ref a_22, .ref a_23, .int v_24, .int v_25, .int p1, .int v_27, .int v_28, .ref a_29, .int v_30, .ref a_31, .ref a_32, .int v_33, .int v_34, .ref a_35, .int v_36, .ref a_37, .ref a_38, .int v_39, .int v_40, .ref a_41, .ref a_42, .ref a_43, .int v_44, .ref a_45, .ref a_46, .ref a_47, .ref a_48, .ref a_49, .ref a_50, .ref a_51, .ref a_52, .ref a_53, .int v_54, .int v_55, .ref a_56])) := ⟨_, rfl⟩
  have hP : va_P (dC, dI) vwCl (va_pl L f_61) H := by rw [ef_61]; exact hP
  have hD : va_D (fun q => q ∈ L) (va_pl L f_61) := by rw [ef_61]; exact hD
  have hG : GI (okc cI cL cZ cR cG cH L kd) kd L f_61 := by rw [ef_61]; exact hG.set o0 (mk_12 ko0 (fo12 fa_59))
  have hfr0 : ∀ b, kd b ≠ 12 → kd b ≠ 579 → kd b ≠ 581 → kd b ≠ 587 → f_61 b = f b := fun b q12 q579 q581 q587 => (congrFun ef_61 b).trans ((up_ne (fun e9 => q12 (by rw [e9]; exact ko0))).trans (hfr0 b q12 q579 q581 q587))
  have hrA12 : ∀ b, kd b = 12 → ∀ j, fldR (f_61 b) j = fldR (f b) j := fun b kb j => ((congrArg (fun x => fldR x j) (congrFun ef_61 b)).trans (fra_up (fun j => by rw [hfo_57]; exact fr_set (k := 25) rfl rfl) j b)).trans (hrA12 b kb j)
  have hfA12 : ∀ b, kd b = 12 → ∀ j, j ≠ 25 → j ≠ 27 → fldI (f_61 b) j = fldI (f b) j := fun b kb j n25 n27 => ((congrArg (fun x => fldI x j) (congrFun ef_61 b)).trans (fia_up (fun h9 => by rw [hfo_57]; exact fi_set (k := 25) rfl h9) n25 b)).trans (hfA12 b kb j n25 n27)
  have hfo_62 : f_61 o0 = .inr (12, [.ref a_1, .ref a_2, .ref a_3, .int v_4, .ref a_5, .int v_6, .int v_7, .int v_8, .int v_9, .int v_10, .int v_11, .int v_12, .int v_13, .int v_14, .int v_15, .ref a_16, .ref a_17, .ref a_18, .ref a_19, .ref a_20, .ref a_21, .ref a_22, .ref a_23, .int v_24, .int v_25, .int p1, .int v_27, .int v_28, .ref a_29, .int v_30, .ref a_31, .ref a_32, .int v_33, .int v_34, .ref a_35, .int v_36, .ref a_37, .ref a_38, .int v_39, .int v_40, .ref a_41, .ref a_42, .ref a_43, .int v_44, .ref a_45, .ref a_46, .ref a_47, .ref a_48, .ref a_49, .ref a_50, .ref a_51, .ref a_52, .ref a_53, .int v_54, .int v_55, .ref a_56]) := by rw [ef_61]; exact up_self
  refine lv_aload_n hx hb dX12_sets_5 rfl (lv_at hl 0 rfl) ?_
  refine lv_iconst (v := 0) hx hb dX12_sets_6 (by decide) ?_
  refine tk_putP (D := (dC, dI)) (ci := 12) (v := .int 0) (ty := .boolean) (C := RX12) (T := TX12) (N := 56) hx hb hU inlX12 tyX12 tyX12_ok nmX12 hown hK hP hD hS mo0 hfo_62 rfl 27 (by decide) (hU _ wd_873) (fun _ h9 => h9) rfl (by decide +kernel) rfl rfl (Nat.le_of_ble_eq_true rfl) dX12_sets_7 (fun H locs hP hD hS => ?_)
  have fa_63 := fu12_27 (y := 0) fa_59 (by decide)
  obtain ⟨f_65, ef_65⟩ : ∃ y : Nat → va_E, y = va_up f_61 o0 (.inr (12, [.ref a_1, .ref a_2, .ref a_3, .int v_4, .ref a_5, .int v_6, .int v_7, .int v_8, .int v_9, .int v_10, .int v_11, .int v_12, .int v_13, .int v_14, .int v_15, .ref a_16, .ref a_17, .ref a_18, .ref a_19, .ref a_20, .ref a_21, .ref a_22, .ref a_23, .int v_24, .int v_25, .int p1, .int v_27, .int 0, .ref a_29, .int v_30, .ref a_31, .ref a_32, .int v_33, .int v_34, .ref a_35, .int v_36, .ref a_37, .ref a_38, .int v_39, .int v_40, .ref a_41, .ref a_42, .ref a_43, .int v_44, .ref a_45, .ref a_46, .ref a_47, .ref a_48, .ref a_49, .ref a_50, .ref a_51, .ref a_52, .ref a_53, .int v_54, .int v_55, .ref a_56])) := ⟨_, rfl⟩
  have hP : va_P (dC, dI) vwCl (va_pl L f_65) H := by rw [ef_65]; exact hP
  have hD : va_D (fun q => q ∈ L) (va_pl L f_65) := by rw [ef_65]; exact hD
  have hG : GI (okc cI cL cZ cR cG cH L kd) kd L f_65 := by rw [ef_65]; exact hG.set o0 (mk_12 ko0 (fo12 fa_63))
  have hfr0 : ∀ b, kd b ≠ 12 → kd b ≠ 579 → kd b ≠ 581 → kd b ≠ 587 → f_65 b = f b := fun b q12 q579 q581 q587 => (congrFun ef_65 b).trans ((up_ne (fun e9 => q12 (by rw [e9]; exact ko0))).trans (hfr0 b q12 q579 q581 q587))
  have hrA12 : ∀ b, kd b = 12 → ∀ j, fldR (f_65 b) j = fldR (f b) j := fun b kb j => ((congrArg (fun x => fldR x j) (congrFun ef_65 b)).trans (fra_up (fun j => by rw [hfo_62]; exact fr_set (k := 27) rfl rfl) j b)).trans (hrA12 b kb j)
  have hfA12 : ∀ b, kd b = 12 → ∀ j, j ≠ 25 → j ≠ 27 → fldI (f_65 b) j = fldI (f b) j := fun b kb j n25 n27 => ((congrArg (fun x => fldI x j) (congrFun ef_65 b)).trans (fia_up (fun h9 => by rw [hfo_62]; exact fi_set (k := 27) rfl h9) n27 b)).trans (hfA12 b kb j n25 n27)
  have hfo_66 : f_65 o0 = .inr (12, [.ref a_1, .ref a_2, .ref a_3, .int v_4, .ref a_5, .int v_6, .int v_7, .int v_8, .int v_9, .int v_10, .int v_11, .int v_12, .int v_13, .int v_14, .int v_15, .ref a_16, .ref a_17, .ref a_18, .ref a_19, .ref a_20, .ref a_21, .ref a_22, .ref a_23, .int v_24, .int v_25, .int p1, .int v_27, .int 0, .ref a_29, .int v_30, .ref a_31, .ref a_32, .int v_33, .int v_34, .ref a_35, .int v_36, .ref a_37, .ref a_38, .int v_39, .int v_40, .ref a_41, .ref a_42, .ref a_43, .int v_44, .ref a_45, .ref a_46, .ref a_47, .ref a_48, .ref a_49, .ref a_50, .ref a_51, .ref a_52, .ref a_53, .int v_54, .int v_55, .ref a_56]) := by rw [ef_65]; exact up_self
  refine lv_aload_n hx hb dX12_sets_10 rfl (lv_at hl 0 rfl) ?_
  refine tk_VvP (As := []) (rest := []) (n := 0) hx hb hml hown hU hN hZ (s_X12_begins_k12 l (dC, dI) cI cL cZ cR cG cH Z kd L f_65 hG o0 mo0 ko0) wd_874 wd_875 wd_876 wd_5 wd_877 (by decide +kernel) ⟨Nat.le_of_ble_eq_true rfl, Nat.le_of_ble_eq_true rfl⟩ hK hP hD hS mo0 hfo_66 12 rfl rfl rfl hl.1 rfl (Nat.le_of_ble_eq_true rfl) dX12_sets_11 ⟨Nat.le_of_ble_eq_true rfl, Nat.le_of_ble_eq_true rfl⟩ (fun f_68 H locs hw hP hD hS => ?_)
  obtain ⟨hG, hkc_69⟩ := hw
  have hfo_71 : f_68 o0 = .inr (12, [.ref a_1, .ref a_2, .ref a_3, .int v_4, .ref a_5, .int v_6, .int v_7, .int v_8, .int v_9, .int v_10, .int v_11, .int v_12, .int v_13, .int v_14, .int v_15, .ref a_16, .ref a_17, .ref a_18, .ref a_19, .ref a_20, .ref a_21, .ref a_22, .ref a_23, .int v_24, .int v_25, .int p1, .int v_27, .int 0, .ref a_29, .int v_30, .ref a_31, .ref a_32, .int v_33, .int v_34, .ref a_35, .int v_36, .ref a_37, .ref a_38, .int v_39, .int v_40, .ref a_41, .ref a_42, .ref a_43, .int v_44, .ref a_45, .ref a_46, .ref a_47, .ref a_48, .ref a_49, .ref a_50, .ref a_51, .ref a_52, .ref a_53, .int v_54, .int v_55, .ref a_56]) := by rw [hkc_69 o0 (by rw [ko0]; decide) (by rw [ko0]; decide) (by rw [ko0]; decide)]; exact hfo_66
  have hfr0 : ∀ b, kd b ≠ 12 → kd b ≠ 579 → kd b ≠ 581 → kd b ≠ 587 → f_68 b = f b := fun b q12 q579 q581 q587 => (hkc_69 b q579 q581 q587).trans (hfr0 b q12 q579 q581 q587)
  have hrA12 : ∀ b, kd b = 12 → ∀ j, fldR (f_68 b) j = fldR (f b) j := fun b kb j => (congrArg (fun x => fldR x j) (hkc_69 b (by rw [kb]; decide) (by rw [kb]; decide) (by rw [kb]; decide))).trans (hrA12 b kb j)
  have hfA12 : ∀ b, kd b = 12 → ∀ j, j ≠ 25 → j ≠ 27 → fldI (f_68 b) j = fldI (f b) j := fun b kb j n25 n27 => (congrArg (fun x => fldI x j) (hkc_69 b (by rw [kb]; decide) (by rw [kb]; decide) (by rw [kb]; decide))).trans (hfA12 b kb j n25 n27)
  exact W.vret hx hb hr (fun t ht hW => ⟨⟨f_68, rfl, ⟨hG, hfr0, hrA12, hfA12, (by intro w25 z25 w27 z27 e25 e27 d25 d27; rw [hfo_57] at e25 e27; rw [hfo_71] at d25 d27; obtain rfl := Option.some.inj e25; obtain rfl := Option.some.inj d25; obtain rfl := Option.some.inj e27; obtain rfl := Option.some.inj d27; (try rw [ti_0]) <;> omega)⟩, by rw [ht]; exact hP, va_K.moved hW.alike hK, pl_in hD⟩, hS.F ht⟩) hS.2.2 dX12_sets_14
set_option maxHeartbeats 8000000 in
set_option maxRecDepth 100000 in
theorem s_X12_goes_k12 (l : Launch) (D : va_G) (cI cL cZ cR cG cH : ClassId) (Z : zT) (kd : Nat → Nat) (L : List Nat) (n_ : Nat) (f : Nat → va_E) (hG : GI (okc cI cL cZ cR cG cH L kd) kd L f) (o0 : Nat) (mo0 : o0 ∈ L) (ko0 : kd o0 = 12) (p1 : Int32) (bp1 : (0 ≤ p1.toInt ∧ p1.toInt ≤ 12)) (p2 : Int32) (bp2 : (0 ≤ p2.toInt ∧ p2.toInt ≤ 1)) (p3 : Int32) (bp3 : (0 ≤ p3.toInt ∧ p3.toInt ≤ 13)) (p4 : Int32) (bp4 : (0 ≤ p4.toInt ∧ p4.toInt ≤ 13)) (p5 : Int32) (hpreo0 : ∀ (w23 : Int32) (w25 : Int32) (w27 : Int32) (w29 : Int32), fldI (f o0) 23 = some w23 → fldI (f o0) 25 = some w25 → fldI (f o0) 27 = some w27 → fldI (f o0) 29 = some w29 → w27.toInt = 0 ∧ w29.toInt ≤ 200 ∧ p1.toInt ≤ w23.toInt ∧ (w25.toInt ≤ 1 ∨ w25.toInt = 3 ∨ w23.toInt ≤ 3)) (hxrel : p3.toInt ≤ p1.toInt + 1 - p2.toInt ∧ p4.toInt ≤ p3.toInt) (hxtr0 : srel kd 592 f o0) (hrk : 13 - p3.toInt < (n_ : Int)) : mPV l D cI cL cZ cR cG cH Z yX12_goes cX12_goes 11 none (8 + n_) (205 + n_ * 30) [.ref o0, .int p1, .int p2, .int p3, .int p4, .int p5] L f (fun (f9 : Nat → va_E) => GI (okc cI cL cZ cR cG cH L kd) kd L f9 ∧ (∀ b, kd b ≠ 12 → kd b ≠ 579 → kd b ≠ 581 → kd b ≠ 583 → kd b ≠ 585 → kd b ≠ 587 → kd b ≠ 588 → kd b ≠ 590 → kd b ≠ 591 → kd b ≠ 592 → kd b ≠ 593 → kd b ≠ 603 → f9 b = f b) ∧ (∀ b, kd b = 12 → ∀ j, fldR (f9 b) j = fldR (f b) j) ∧ (∀ b, kd b = 12 → ∀ j, j ≠ 27 → j ≠ 29 → j ≠ 32 → fldI (f9 b) j = fldI (f b) j) ∧ (∀ (w25 z25 : Int32) (w27 z27 : Int32) (w29 z29 : Int32), fldI (f o0) 25 = some w25 → fldI (f o0) 27 = some w27 → fldI (f o0) 29 = some w29 → fldI (f9 o0) 25 = some z25 → fldI (f9 o0) 27 = some z27 → fldI (f9 o0) 29 = some z29 → (z27.toInt = 1 ∨ z29.toInt ≤ 200) ∧ (w25.toInt ≤ 1 ∨ z29.toInt = w29.toInt)) ∧ (srel kd 592 f9 o0)) := by
  obtain ⟨dC, dI⟩ := D
  induction n_ generalizing f o0 mo0 ko0 p1 bp1 p2 bp2 p3 bp3 p4 bp4 p5 hpreo0 hxrel hxtr0 with
  | zero => exfalso; omega
  | succ n_ ih_ =>
    have ih_rec := ih_
    clear ih_
    refine Met.ofW (cc := cX12_goes) (maxL := 11) (ret := none) (by decide) rfl ?_
    intro p e s m args below meth c s₁ B hml hv
    obtain ⟨rfl, hP, hK, hD0, hN, hZ⟩ := hv
    have hx := B.exec
    have hb := B.bytes
    have hr := B.returns
    have hU : ∀ w ∈ wsU, w.before _ s = true := fun w h => atoms_spec (ws := wU yX12_goes cX12_goes 11 none) B.pre w (List.mem_cons_of_mem _ h)
    have hown : s.vm.findClass RX12 = some m.cls := findClass_of_methodNamed B.named
    have hlocks := B.notSynchronized
    have hD := pl_in hD0
    have hS : va_S (fun q => q ∈ L) s.heap s.heap [] := va_S.rf
    have hl := lv_entry ([.ref o0, .int p1, .int p2, .int p3, .int p4, .int p5]) (n := 11) (Nat.le_of_ble_eq_true rfl)
    rw [lg_entry_eq]
    generalize (lg_sl ([.ref o0, .int p1, .int p2, .int p3, .int p4, .int p5]) ++ List.replicate (11 - (lg_sl ([.ref o0, .int p1, .int p2, .int p3, .int p4, .int p5])).length) Slot.unset).toArray = ls at hl ⊢
    have hl : lv_has ls 11 [(0, .ref o0), (1, .int p1), (2, .int p2), (3, .int p3), (4, .int p4), (5, .int p5)] := hl
    have bp5 : ((-2147483648) ≤ p5.toInt ∧ p5.toInt ≤ 2147483647) := ⟨i32_lo _, i32_hi _⟩
    have hfr0 : ∀ b, kd b ≠ 12 → kd b ≠ 579 → kd b ≠ 581 → kd b ≠ 583 → kd b ≠ 585 → kd b ≠ 587 → kd b ≠ 588 → kd b ≠ 590 → kd b ≠ 591 → kd b ≠ 592 → kd b ≠ 593 → kd b ≠ 603 → f b = f b := fun _ _ _ _ _ _ _ _ _ _ _ _ _ => rfl
    have hrA12 : ∀ b, kd b = 12 → ∀ j, fldR (f b) j = fldR (f b) j := fun _ _ _ => rfl
    have hfA12 : ∀ b, kd b = 12 → ∀ j, j ≠ 27 → j ≠ 29 → j ≠ 32 → fldI (f b) j = fldI (f b) j := fun _ _ _ _ _ _ => rfl
    obtain ⟨a_1, a_2, a_3, v_4, a_5, v_6, v_7, v_8, v_9, v_10, v_11, v_12, v_13, v_14, v_15, a_16, a_17, a_18, a_19, a_20, a_21, a_22, a_23, v_24, v_25, v_26, v_27, v_28, a_29, v_30, a_31, a_32, v_33, v_34, a_35, v_36, a_37, a_38, v_39, v_40, a_41, a_42, a_43, v_44, a_45, a_46, a_47, a_48, a_49, a_50, a_51, a_52, a_53, v_54, v_55, a_56, hfo_57, fa_58⟩ := un12 (hG _ mo0) ko0
    obtain ⟨ma_1, ka_1⟩ := fa12_0 fa_58
    obtain ⟨ma_22, ka_22⟩ := fa12_21 fa_58
    obtain ⟨ma_23, ka_23⟩ := fa12_22 fa_58
    have bv_24 : (0 ≤ v_24.toInt ∧ v_24.toInt ≤ 12) := fa12_23 fa_58
    have bv_26 : (0 ≤ v_26.toInt ∧ v_26.toInt ≤ 4) := fa12_25 fa_58
    have bv_28 : (0 ≤ v_28.toInt ∧ v_28.toInt ≤ 1) := fa12_27 fa_58
    have bv_30 : (0 ≤ v_30.toInt ∧ v_30.toInt ≤ 201) := fa12_29 fa_58
    have hpo0 := hpreo0 v_24 v_26 v_28 v_30 (by rw [hfo_57]; rfl) (by rw [hfo_57]; rfl) (by rw [hfo_57]; rfl) (by rw [hfo_57]; rfl)
    have hT0 := hxtr0
    refine lv_iload_n hx hb dX12_goes_0 rfl (lv_at hl 1 rfl) ?_
    refine lv_aload_n hx hb dX12_goes_1 rfl (lv_at hl 0 rfl) ?_
    refine tk_getP (D := (dC, dI)) (ci := 12) (v := .int v_24) (C := RX12) (T := TX12) (N := 56) hx hb hU inlX12 hown hK hP mo0 hfo_57 rfl 23 (by decide) (hU _ wd_867) (fun _ h9 => h9) rfl dX12_goes_2 ?_
    have hcut_61 : ∀ (f_60 : Nat → va_E), GI (okc cI cL cZ cR cG cH L kd) kd L f_60 → ∀ (H : Heap) (locs : List Loc), va_P (dC, dI) vwCl (va_pl L f_60) H → va_S (fun q => q ∈ L) s.heap H locs → va_D (fun q => q ∈ L) (va_pl L f_60) → (∀ b, kd b ≠ 12 → kd b ≠ 579 → kd b ≠ 581 → kd b ≠ 583 → kd b ≠ 585 → kd b ≠ 587 → kd b ≠ 588 → kd b ≠ 590 → kd b ≠ 591 → kd b ≠ 592 → kd b ≠ 593 → kd b ≠ 603 → f_60 b = f b) → (∀ b, kd b = 12 → ∀ j, fldR (f_60 b) j = fldR (f b) j) → (∀ b, kd b = 12 → ∀ j, j ≠ 27 → j ≠ 29 → j ≠ 32 → fldI (f_60 b) j = fldI (f b) j) → srel kd 592 f_60 o0 → ∀ (whcut_61_0_27 : Int32), fldI (f_60 o0) 27 = some whcut_61_0_27 → ∀ (whcut_61_0_29 : Int32), fldI (f_60 o0) 29 = some whcut_61_0_29 → ((whcut_61_0_27.toInt = 1 ∨ whcut_61_0_29.toInt ≤ 200) ∧ (v_26.toInt ≤ 1 ∨ whcut_61_0_29.toInt = v_30.toInt)) → ∀ (ls : Array Slot), lv_has ls 11 [(0, .ref o0), (1, .int p1), (2, .int p2), (3, .int p3), (4, .int p4), (5, .int p5)] → W p l e (headSpec (wU yX12_goes cX12_goes 11 none) { frames := 8 + (n_ + 1), cells := 0, slots := 0, locals := 205 + (n_ + 1) * 30 }).room s m [.ref o0, .int p1, .int p2, .int p3, .int p4, .int p5].toArray below meth c H locs 0 0 (MQ below (va_Qv (fun (f9 : Nat → va_E) => GI (okc cI cL cZ cR cG cH L kd) kd L f9 ∧ (∀ b, kd b ≠ 12 → kd b ≠ 579 → kd b ≠ 581 → kd b ≠ 583 → kd b ≠ 585 → kd b ≠ 587 → kd b ≠ 588 → kd b ≠ 590 → kd b ≠ 591 → kd b ≠ 592 → kd b ≠ 593 → kd b ≠ 603 → f9 b = f b) ∧ (∀ b, kd b = 12 → ∀ j, fldR (f9 b) j = fldR (f b) j) ∧ (∀ b, kd b = 12 → ∀ j, j ≠ 27 → j ≠ 29 → j ≠ 32 → fldI (f9 b) j = fldI (f b) j) ∧ (∀ (w25 z25 : Int32) (w27 z27 : Int32) (w29 z29 : Int32), fldI (f o0) 25 = some w25 → fldI (f o0) 27 = some w27 → fldI (f o0) 29 = some w29 → fldI (f9 o0) 25 = some z25 → fldI (f9 o0) 27 = some z27 → fldI (f9 o0) 29 = some z29 → (z27.toInt = 1 ∨ z29.toInt ≤ 200) ∧ (w25.toInt ≤ 1 ∨ z29.toInt = w29.toInt)) ∧ (srel kd 592 f9 o0)) (qP (dC, dI) cI cL cZ cR cG cH L) (fun q => q ∈ L)) [.ref o0, .int p1, .int p2, .int p3, .int p4, .int p5].toArray s 0 0 (fun q => q ∈ L)) (F0 m 25 ls []) := by
      intro f_60 hG H locs hP hS hD hfr0 hrA12 hfA12 hT0 whcut_61_0_27 hghcut_61_0_27 whcut_61_0_29 hghcut_61_0_29 hjhcut_61_0 ls hl
      obtain ⟨v_62, v_63, v_64, hfo_65, fa_66⟩ := op12_27_29_32 hfo_57 (hG _ mo0) ko0 (hrA12 o0 ko0) (hfA12 o0 ko0)
      have bv_62 : (0 ≤ v_62.toInt ∧ v_62.toInt ≤ 1) := fa12_27 fa_66
      have bv_63 : (0 ≤ v_63.toInt ∧ v_63.toInt ≤ 201) := fa12_29 fa_66
      have bv_64 : (0 ≤ v_64.toInt ∧ v_64.toInt ≤ 6561) := fa12_32 fa_66
      obtain rfl : v_62 = whcut_61_0_27 := by rw [hfo_65] at hghcut_61_0_27; exact Option.some.inj hghcut_61_0_27
      obtain rfl : v_63 = whcut_61_0_29 := by rw [hfo_65] at hghcut_61_0_29; exact Option.some.inj hghcut_61_0_29
      refine lv_iconst (v := 0) hx hb dX12_goes_25 (by decide) ?_
      refine lv_istore (lv' := [(6, .int 0), (0, .ref o0), (1, .int p1), (2, .int p2), (3, .int p3), (4, .int p4), (5, .int p5)]) hx hb dX12_goes_26 hl (by decide) rfl (fun ls hl => ?_)
      have hloop_72 : ∀ (n : Nat), ∀ (y_73 : Int32), (0 ≤ y_73.toInt ∧ y_73.toInt ≤ 20) → ∀ (f_75 : Nat → va_E), GI (okc cI cL cZ cR cG cH L kd) kd L f_75 → ∀ (H : Heap) (locs : List Loc), va_P (dC, dI) vwCl (va_pl L f_75) H → va_S (fun q => q ∈ L) s.heap H locs → va_D (fun q => q ∈ L) (va_pl L f_75) → (∀ b, kd b ≠ 12 → kd b ≠ 579 → kd b ≠ 581 → kd b ≠ 583 → kd b ≠ 585 → kd b ≠ 587 → kd b ≠ 588 → kd b ≠ 590 → kd b ≠ 591 → kd b ≠ 592 → kd b ≠ 593 → kd b ≠ 603 → f_75 b = f b) → (∀ b, kd b = 12 → ∀ j, fldR (f_75 b) j = fldR (f b) j) → (∀ b, kd b = 12 → ∀ j, j ≠ 27 → j ≠ 29 → j ≠ 32 → fldI (f_75 b) j = fldI (f b) j) → srel kd 592 f_75 o0 → ∀ (whloop_72_0_27 : Int32), fldI (f_75 o0) 27 = some whloop_72_0_27 → ∀ (whloop_72_0_29 : Int32), fldI (f_75 o0) 29 = some whloop_72_0_29 → ((whloop_72_0_27.toInt = 1 ∨ whloop_72_0_29.toInt ≤ 200) ∧ (v_26.toInt ≤ 1 ∨ whloop_72_0_29.toInt = v_30.toInt)) → (0 ≤ whloop_72_0_27.toInt ∧ whloop_72_0_27.toInt ≤ 1) → (0 ≤ whloop_72_0_29.toInt ∧ whloop_72_0_29.toInt ≤ 201) → 20 - y_73.toInt < (n : Int) → ∀ (ls : Array Slot), lv_has ls 11 [(6, .int y_73), (0, .ref o0), (1, .int p1), (2, .int p2), (3, .int p3), (4, .int p4), (5, .int p5)] → W p l e (headSpec (wU yX12_goes cX12_goes 11 none) { frames := 8 + (n_ + 1), cells := 0, slots := 0, locals := 205 + (n_ + 1) * 30 }).room s m [.ref o0, .int p1, .int p2, .int p3, .int p4, .int p5].toArray below meth c H locs 0 0 (MQ below (va_Qv (fun (f9 : Nat → va_E) => GI (okc cI cL cZ cR cG cH L kd) kd L f9 ∧ (∀ b, kd b ≠ 12 → kd b ≠ 579 → kd b ≠ 581 → kd b ≠ 583 → kd b ≠ 585 → kd b ≠ 587 → kd b ≠ 588 → kd b ≠ 590 → kd b ≠ 591 → kd b ≠ 592 → kd b ≠ 593 → kd b ≠ 603 → f9 b = f b) ∧ (∀ b, kd b = 12 → ∀ j, fldR (f9 b) j = fldR (f b) j) ∧ (∀ b, kd b = 12 → ∀ j, j ≠ 27 → j ≠ 29 → j ≠ 32 → fldI (f9 b) j = fldI (f b) j) ∧ (∀ (w25 z25 : Int32) (w27 z27 : Int32) (w29 z29 : Int32), fldI (f o0) 25 = some w25 → fldI (f o0) 27 = some w27 → fldI (f o0) 29 = some w29 → fldI (f9 o0) 25 = some z25 → fldI (f9 o0) 27 = some z27 → fldI (f9 o0) 29 = some z29 → (z27.toInt = 1 ∨ z29.toInt ≤ 200) ∧ (w25.toInt ≤ 1 ∨ z29.toInt = w29.toInt)) ∧ (srel kd 592 f9 o0)) (qP (dC, dI) cI cL cZ cR cG cH L) (fun q => q ∈ L)) [.ref o0, .int p1, .int p2, .int p3, .int p4, .int p5].toArray s 0 0 (fun q => q ∈ L)) (F0 m 28 ls []) := by
        intro n
        induction n with
        | zero => intro y_73 by_73 f_75 hG H locs hP hS hD hfr0 hrA12 hfA12 hT0 whloop_72_0_27 hghloop_72_0_27 whloop_72_0_29 hghloop_72_0_29 hrelhloop_72_0 hrelhloop_72_1 hrelhloop_72_2 hmuhloop_72 ls hl; exfalso; omega
        | succ n ih_hloop_72 =>
          intro y_73 by_73 f_75 hG H locs hP hS hD hfr0 hrA12 hfA12 hT0 whloop_72_0_27 hghloop_72_0_27 whloop_72_0_29 hghloop_72_0_29 hrelhloop_72_0 hrelhloop_72_1 hrelhloop_72_2 hmuhloop_72 ls hl
          obtain ⟨v_76, v_77, v_78, hfo_79, fa_80⟩ := op12_27_29_32 hfo_57 (hG _ mo0) ko0 (hrA12 o0 ko0) (hfA12 o0 ko0)
          have bv_76 : (0 ≤ v_76.toInt ∧ v_76.toInt ≤ 1) := fa12_27 fa_80
          have bv_77 : (0 ≤ v_77.toInt ∧ v_77.toInt ≤ 201) := fa12_29 fa_80
          have bv_78 : (0 ≤ v_78.toInt ∧ v_78.toInt ≤ 6561) := fa12_32 fa_80
          obtain rfl : v_76 = whloop_72_0_27 := by rw [hfo_79] at hghloop_72_0_27; exact Option.some.inj hghloop_72_0_27
          obtain rfl : v_77 = whloop_72_0_29 := by rw [hfo_79] at hghloop_72_0_29; exact Option.some.inj hghloop_72_0_29
          refine lv_iload hx hb dX12_goes_28 (lv_at hl 0 rfl) ?_
          refine lv_aload_n hx hb dX12_goes_30 rfl (lv_at hl 1 rfl) ?_
          refine tk_getP (D := (dC, dI)) (ci := 12) (v := .ref a_1) (C := RX12) (T := TX12) (N := 56) hx hb hU inlX12 hown hK hP mo0 hfo_79 rfl 0 (by decide) (hU _ wd_169) (fun _ h9 => h9) rfl dX12_goes_31 ?_
          refine lv_bipush (v := 16) hx hb dX12_goes_34 (by decide) ?_
          obtain ⟨g_82, hfo_81, hbg_82⟩ := un_575 (hG _ ma_1) ka_1
          refine tk_ildP hx hb hK hP 0 ma_1 hfo_81 rfl (vp_in_nI (n := 16) (by decide) (by decide)) dX12_goes_36 ?_
          refine lv_topi (fun x_83 ex_83 => ?_)
          have bx_83 : (0 ≤ x_83.toInt ∧ x_83.toInt ≤ 20) := by rw [ex_83]; exact hbg_82.2.1 _ (by decide) (by decide) (by decide)
          have hcut_84 : ∀ (ls : Array Slot), lv_has ls 11 [(6, .int y_73), (0, .ref o0), (1, .int p1), (2, .int p2), (3, .int p3), (4, .int p4), (5, .int p5)] → W p l e (headSpec (wU yX12_goes cX12_goes 11 none) { frames := 8 + (n_ + 1), cells := 0, slots := 0, locals := 205 + (n_ + 1) * 30 }).room s m [.ref o0, .int p1, .int p2, .int p3, .int p4, .int p5].toArray below meth c H locs 0 0 (MQ below (va_Qv (fun (f9 : Nat → va_E) => GI (okc cI cL cZ cR cG cH L kd) kd L f9 ∧ (∀ b, kd b ≠ 12 → kd b ≠ 579 → kd b ≠ 581 → kd b ≠ 583 → kd b ≠ 585 → kd b ≠ 587 → kd b ≠ 588 → kd b ≠ 590 → kd b ≠ 591 → kd b ≠ 592 → kd b ≠ 593 → kd b ≠ 603 → f9 b = f b) ∧ (∀ b, kd b = 12 → ∀ j, fldR (f9 b) j = fldR (f b) j) ∧ (∀ b, kd b = 12 → ∀ j, j ≠ 27 → j ≠ 29 → j ≠ 32 → fldI (f9 b) j = fldI (f b) j) ∧ (∀ (w25 z25 : Int32) (w27 z27 : Int32) (w29 z29 : Int32), fldI (f o0) 25 = some w25 → fldI (f o0) 27 = some w27 → fldI (f o0) 29 = some w29 → fldI (f9 o0) 25 = some z25 → fldI (f9 o0) 27 = some z27 → fldI (f9 o0) 29 = some z29 → (z27.toInt = 1 ∨ z29.toInt ≤ 200) ∧ (w25.toInt ≤ 1 ∨ z29.toInt = w29.toInt)) ∧ (srel kd 592 f9 o0)) (qP (dC, dI) cI cL cZ cR cG cH L) (fun q => q ∈ L)) [.ref o0, .int p1, .int p2, .int p3, .int p4, .int p5].toArray s 0 0 (fun q => q ∈ L)) (F0 m 246 ls []) := by
            intro ls hl
            exact W.vret hx hb hr (fun t ht hW => ⟨⟨f_75, rfl, ⟨hG, hfr0, hrA12, hfA12, (by intro w25 z25 w27 z27 w29 z29 e25 e27 e29 d25 d27 d29; rw [hfo_57] at e25 e27 e29; rw [hfo_79] at d25 d27 d29; obtain rfl := Option.some.inj e25; obtain rfl := Option.some.inj d25; obtain rfl := Option.some.inj e27; obtain rfl := Option.some.inj d27; obtain rfl := Option.some.inj e29; obtain rfl := Option.some.inj d29; omega), hT0⟩, by rw [ht]; exact hP, va_K.moved hW.alike hK, pl_in hD⟩, hS.F ht⟩) hS.2.2 dX12_goes_246
          refine lv_icmp_ge (tgt := 246) hx hb dX12_goes_37 (by decide) (fun c_85 => ?_) (fun c_85 => ?_)
          · skip
            rw [Int32.le_iff_toInt_le] at c_85
            exact hcut_84 ls (lv_sub hl [0, 1, 2, 3, 4, 5, 6] rfl)
          · skip
            rw [Int32.le_iff_toInt_le] at c_85
            refine lv_aload_n hx hb dX12_goes_40 rfl (lv_at hl 1 rfl) ?_
            refine tk_getP (D := (dC, dI)) (ci := 12) (v := .int v_76) (C := RX12) (T := TX12) (N := 56) hx hb hU inlX12 hown hK hP mo0 hfo_79 rfl 27 (by decide) (hU _ wd_873) (fun _ h9 => h9) rfl dX12_goes_41 ?_
            refine lv_if_ne (tgt := 246) hx hb dX12_goes_44 (by decide) (fun c_86 => ?_) (fun c_86 => ?_)
            · skip
              rw [← Int32.toInt_inj, ti_0] at c_86
              exact hcut_84 ls (lv_sub hl [0, 1, 2, 3, 4, 5, 6] rfl)
            · skip
              rw [← Int32.toInt_inj, ti_0] at c_86
              have hclc_87 : (0 ≤ v_77.toInt ∧ v_77.toInt ≤ 200) := by constructor <;> omega
              refine lv_aload_n hx hb dX12_goes_47 rfl (lv_at hl 1 rfl) ?_
              refine tk_getP (D := (dC, dI)) (ci := 12) (v := .ref a_1) (C := RX12) (T := TX12) (N := 56) hx hb hU inlX12 hown hK hP mo0 hfo_79 rfl 0 (by decide) (hU _ wd_169) (fun _ h9 => h9) rfl dX12_goes_48 ?_
              refine lv_bipush (v := 20) hx hb dX12_goes_51 (by decide) ?_
              refine lv_iload hx hb dX12_goes_53 (lv_at hl 0 rfl) ?_
              refine lv_iadd hx hb dX12_goes_55 ?_
              refine lv_topi (fun x_88 ex_88 => ?_)
              have hx_88 : x_88.toInt = 20 + y_73.toInt := by rw [ex_88, ad_I (by rw [ti_20]; omega) (by rw [ti_20]; omega), ti_20]
              have bx_88 : (20 ≤ x_88.toInt ∧ x_88.toInt ≤ 39) := by constructor <;> omega
              refine tk_ildP hx hb hK hP 0 ma_1 hfo_81 rfl (vp_in_iff.mpr (by constructor <;> omega)) dX12_goes_56 ?_
              refine lv_topi (fun x_89 ex_89 => ?_)
              have bx_89 : (0 ≤ x_89.toInt ∧ x_89.toInt ≤ 80) := by have hc9 := cl_I (i := x_88) (by omega); rw [ex_89]; exact hbg_82.2.2.2.2.2.1 _ (by omega) (by omega) (by omega)
              refine lv_istore (lv' := [(7, .int x_89), (6, .int y_73), (0, .ref o0), (1, .int p1), (2, .int p2), (3, .int p3), (4, .int p4), (5, .int p5)]) hx hb dX12_goes_57 hl (by decide) rfl (fun ls hl => ?_)
              refine lv_aload_n hx hb dX12_goes_59 rfl (lv_at hl 2 rfl) ?_
              refine tk_getP (D := (dC, dI)) (ci := 12) (v := .int v_26) (C := RX12) (T := TX12) (N := 56) hx hb hU inlX12 hown hK hP mo0 hfo_79 rfl 25 (by decide) (hU _ wd_872) (fun _ h9 => h9) rfl dX12_goes_60 ?_
              refine lv_iconst (v := 1) hx hb dX12_goes_63 (by decide) ?_
              have hcut_91 : ∀ (y_90 : Int32), (0 ≤ y_90.toInt ∧ y_90.toInt ≤ 8) → (y_90.toInt = x_89.toInt / 9 ∨ y_90.toInt = x_89.toInt % 9) → ∀ (ls : Array Slot), lv_has ls 11 [(7, .int x_89), (6, .int y_73), (0, .ref o0), (1, .int p1), (2, .int p2), (3, .int p3), (4, .int p4), (5, .int p5)] → W p l e (headSpec (wU yX12_goes cX12_goes 11 none) { frames := 8 + (n_ + 1), cells := 0, slots := 0, locals := 205 + (n_ + 1) * 30 }).room s m [.ref o0, .int p1, .int p2, .int p3, .int p4, .int p5].toArray below meth c H locs 0 0 (MQ below (va_Qv (fun (f9 : Nat → va_E) => GI (okc cI cL cZ cR cG cH L kd) kd L f9 ∧ (∀ b, kd b ≠ 12 → kd b ≠ 579 → kd b ≠ 581 → kd b ≠ 583 → kd b ≠ 585 → kd b ≠ 587 → kd b ≠ 588 → kd b ≠ 590 → kd b ≠ 591 → kd b ≠ 592 → kd b ≠ 593 → kd b ≠ 603 → f9 b = f b) ∧ (∀ b, kd b = 12 → ∀ j, fldR (f9 b) j = fldR (f b) j) ∧ (∀ b, kd b = 12 → ∀ j, j ≠ 27 → j ≠ 29 → j ≠ 32 → fldI (f9 b) j = fldI (f b) j) ∧ (∀ (w25 z25 : Int32) (w27 z27 : Int32) (w29 z29 : Int32), fldI (f o0) 25 = some w25 → fldI (f o0) 27 = some w27 → fldI (f o0) 29 = some w29 → fldI (f9 o0) 25 = some z25 → fldI (f9 o0) 27 = some z27 → fldI (f9 o0) 29 = some z29 → (z27.toInt = 1 ∨ z29.toInt ≤ 200) ∧ (w25.toInt ≤ 1 ∨ z29.toInt = w29.toInt)) ∧ (srel kd 592 f9 o0)) (qP (dC, dI) cI cL cZ cR cG cH L) (fun q => q ∈ L)) [.ref o0, .int p1, .int p2, .int p3, .int p4, .int p5].toArray s 0 0 (fun q => q ∈ L)) (F0 m 80 ls [.int y_90]) := by
                intro y_90 by_90 hjhcut_91_0 ls hl
                refine lv_istore (lv' := [(8, .int y_90), (7, .int x_89), (6, .int y_73), (0, .ref o0), (1, .int p1), (2, .int p2), (3, .int p3), (4, .int p4), (5, .int p5)]) hx hb dX12_goes_80 hl (by decide) rfl (fun ls hl => ?_)
                refine lv_aload_n hx hb dX12_goes_82 rfl (lv_at hl 3 rfl) ?_
                refine tk_getP (D := (dC, dI)) (ci := 12) (v := .int v_26) (C := RX12) (T := TX12) (N := 56) hx hb hU inlX12 hown hK hP mo0 hfo_79 rfl 25 (by decide) (hU _ wd_872) (fun _ h9 => h9) rfl dX12_goes_83 ?_
                refine lv_iconst (v := 1) hx hb dX12_goes_86 (by decide) ?_
                have hcut_93 : ∀ (y_92 : Int32), (0 ≤ y_92.toInt ∧ y_92.toInt ≤ 8) → ∀ (ls : Array Slot), lv_has ls 11 [(8, .int y_90), (7, .int x_89), (6, .int y_73), (0, .ref o0), (1, .int p1), (2, .int p2), (3, .int p3), (4, .int p4), (5, .int p5)] → W p l e (headSpec (wU yX12_goes cX12_goes 11 none) { frames := 8 + (n_ + 1), cells := 0, slots := 0, locals := 205 + (n_ + 1) * 30 }).room s m [.ref o0, .int p1, .int p2, .int p3, .int p4, .int p5].toArray below meth c H locs 0 0 (MQ below (va_Qv (fun (f9 : Nat → va_E) => GI (okc cI cL cZ cR cG cH L kd) kd L f9 ∧ (∀ b, kd b ≠ 12 → kd b ≠ 579 → kd b ≠ 581 → kd b ≠ 583 → kd b ≠ 585 → kd b ≠ 587 → kd b ≠ 588 → kd b ≠ 590 → kd b ≠ 591 → kd b ≠ 592 → kd b ≠ 593 → kd b ≠ 603 → f9 b = f b) ∧ (∀ b, kd b = 12 → ∀ j, fldR (f9 b) j = fldR (f b) j) ∧ (∀ b, kd b = 12 → ∀ j, j ≠ 27 → j ≠ 29 → j ≠ 32 → fldI (f9 b) j = fldI (f b) j) ∧ (∀ (w25 z25 : Int32) (w27 z27 : Int32) (w29 z29 : Int32), fldI (f o0) 25 = some w25 → fldI (f o0) 27 = some w27 → fldI (f o0) 29 = some w29 → fldI (f9 o0) 25 = some z25 → fldI (f9 o0) 27 = some z27 → fldI (f9 o0) 29 = some z29 → (z27.toInt = 1 ∨ z29.toInt ≤ 200) ∧ (w25.toInt ≤ 1 ∨ z29.toInt = w29.toInt)) ∧ (srel kd 592 f9 o0)) (qP (dC, dI) cI cL cZ cR cG cH L) (fun q => q ∈ L)) [.ref o0, .int p1, .int p2, .int p3, .int p4, .int p5].toArray s 0 0 (fun q => q ∈ L)) (F0 m 103 ls [.int y_92]) := by
                  intro y_92 by_92 ls hl
                  refine lv_istore (lv' := [(9, .int y_92), (8, .int y_90), (7, .int x_89), (6, .int y_73), (0, .ref o0), (1, .int p1), (2, .int p2), (3, .int p3), (4, .int p4), (5, .int p5)]) hx hb dX12_goes_103 hl (by decide) rfl (fun ls hl => ?_)
                  refine lv_iload hx hb dX12_goes_105 (lv_at hl 2 rfl) ?_
                  refine lv_bipush (v := 9) hx hb dX12_goes_107 (by decide) ?_
                  refine lv_idiv hx hb dX12_goes_109 (by decide) ?_
                  refine lv_topi (fun x_94 ex_94 => ?_)
                  have hx_94 : x_94.toInt = x_89.toInt / 9 := by rw [ex_94, dv_I (by omega) (by rw [ti_9]; omega), ti_9]
                  have bx_94 : (0 ≤ x_94.toInt ∧ x_94.toInt ≤ 8) := by constructor <;> omega
                  have hcut_96 : ∀ (y_95 : Int32), (0 ≤ y_95.toInt ∧ y_95.toInt ≤ 1) → (y_95.toInt = 1 ∨ (y_95.toInt = 0 ∧ x_89.toInt / 9 ≠ 0 ∧ x_89.toInt % 9 ≠ 0)) → ∀ (ls : Array Slot), lv_has ls 11 [(9, .int y_92), (8, .int y_90), (7, .int x_89), (6, .int y_73), (0, .ref o0), (1, .int p1), (2, .int p2), (3, .int p3), (4, .int p4), (5, .int p5)] → W p l e (headSpec (wU yX12_goes cX12_goes 11 none) { frames := 8 + (n_ + 1), cells := 0, slots := 0, locals := 205 + (n_ + 1) * 30 }).room s m [.ref o0, .int p1, .int p2, .int p3, .int p4, .int p5].toArray below meth c H locs 0 0 (MQ below (va_Qv (fun (f9 : Nat → va_E) => GI (okc cI cL cZ cR cG cH L kd) kd L f9 ∧ (∀ b, kd b ≠ 12 → kd b ≠ 579 → kd b ≠ 581 → kd b ≠ 583 → kd b ≠ 585 → kd b ≠ 587 → kd b ≠ 588 → kd b ≠ 590 → kd b ≠ 591 → kd b ≠ 592 → kd b ≠ 593 → kd b ≠ 603 → f9 b = f b) ∧ (∀ b, kd b = 12 → ∀ j, fldR (f9 b) j = fldR (f b) j) ∧ (∀ b, kd b = 12 → ∀ j, j ≠ 27 → j ≠ 29 → j ≠ 32 → fldI (f9 b) j = fldI (f b) j) ∧ (∀ (w25 z25 : Int32) (w27 z27 : Int32) (w29 z29 : Int32), fldI (f o0) 25 = some w25 → fldI (f o0) 27 = some w27 → fldI (f o0) 29 = some w29 → fldI (f9 o0) 25 = some z25 → fldI (f9 o0) 27 = some z27 → fldI (f9 o0) 29 = some z29 → (z27.toInt = 1 ∨ z29.toInt ≤ 200) ∧ (w25.toInt ≤ 1 ∨ z29.toInt = w29.toInt)) ∧ (srel kd 592 f9 o0)) (qP (dC, dI) cI cL cZ cR cG cH L) (fun q => q ∈ L)) [.ref o0, .int p1, .int p2, .int p3, .int p4, .int p5].toArray s 0 0 (fun q => q ∈ L)) (F0 m 126 ls [.int y_95]) := by
                    intro y_95 by_95 hjhcut_96_0 ls hl
                    refine lv_istore (lv' := [(10, .int y_95), (9, .int y_92), (8, .int y_90), (7, .int x_89), (6, .int y_73), (0, .ref o0), (1, .int p1), (2, .int p2), (3, .int p3), (4, .int p4), (5, .int p5)]) hx hb dX12_goes_126 hl (by decide) rfl (fun ls hl => ?_)
                    refine lv_iload hx hb dX12_goes_128 (lv_at hl 0 rfl) ?_
                    have hcut_100 : ∀ (f_98 : Nat → va_E), GI (okc cI cL cZ cR cG cH L kd) kd L f_98 → ∀ (H : Heap) (locs : List Loc), va_P (dC, dI) vwCl (va_pl L f_98) H → va_S (fun q => q ∈ L) s.heap H locs → va_D (fun q => q ∈ L) (va_pl L f_98) → (∀ b, kd b ≠ 12 → kd b ≠ 579 → kd b ≠ 581 → kd b ≠ 583 → kd b ≠ 585 → kd b ≠ 587 → kd b ≠ 588 → kd b ≠ 590 → kd b ≠ 591 → kd b ≠ 592 → kd b ≠ 593 → kd b ≠ 603 → f_98 b = f b) → (∀ b, kd b = 12 → ∀ j, fldR (f_98 b) j = fldR (f b) j) → (∀ b, kd b = 12 → ∀ j, j ≠ 27 → j ≠ 29 → j ≠ 32 → fldI (f_98 b) j = fldI (f b) j) → (f_98 a_1 = .inl (cI, 1560, .inl g_82)) → srel kd 592 f_98 o0 → ∀ (whcut_100_0_27 : Int32), fldI (f_98 o0) 27 = some whcut_100_0_27 → ∀ (whcut_100_0_29 : Int32), fldI (f_98 o0) 29 = some whcut_100_0_29 → ((whcut_100_0_27.toInt = 1 ∨ whcut_100_0_29.toInt ≤ 200) ∧ (v_26.toInt ≤ 1 ∨ whcut_100_0_29.toInt = v_30.toInt)) → ∀ (ls : Array Slot), lv_has ls 11 [(10, .int y_95), (9, .int y_92), (8, .int y_90), (7, .int x_89), (6, .int y_73), (0, .ref o0), (1, .int p1), (2, .int p2), (3, .int p3), (4, .int p4), (5, .int p5)] → W p l e (headSpec (wU yX12_goes cX12_goes 11 none) { frames := 8 + (n_ + 1), cells := 0, slots := 0, locals := 205 + (n_ + 1) * 30 }).room s m [.ref o0, .int p1, .int p2, .int p3, .int p4, .int p5].toArray below meth c H locs 0 0 (MQ below (va_Qv (fun (f9 : Nat → va_E) => GI (okc cI cL cZ cR cG cH L kd) kd L f9 ∧ (∀ b, kd b ≠ 12 → kd b ≠ 579 → kd b ≠ 581 → kd b ≠ 583 → kd b ≠ 585 → kd b ≠ 587 → kd b ≠ 588 → kd b ≠ 590 → kd b ≠ 591 → kd b ≠ 592 → kd b ≠ 593 → kd b ≠ 603 → f9 b = f b) ∧ (∀ b, kd b = 12 → ∀ j, fldR (f9 b) j = fldR (f b) j) ∧ (∀ b, kd b = 12 → ∀ j, j ≠ 27 → j ≠ 29 → j ≠ 32 → fldI (f9 b) j = fldI (f b) j) ∧ (∀ (w25 z25 : Int32) (w27 z27 : Int32) (w29 z29 : Int32), fldI (f o0) 25 = some w25 → fldI (f o0) 27 = some w27 → fldI (f o0) 29 = some w29 → fldI (f9 o0) 25 = some z25 → fldI (f9 o0) 27 = some z27 → fldI (f9 o0) 29 = some z29 → (z27.toInt = 1 ∨ z29.toInt ≤ 200) ∧ (w25.toInt ≤ 1 ∨ z29.toInt = w29.toInt)) ∧ (srel kd 592 f9 o0)) (qP (dC, dI) cI cL cZ cR cG cH L) (fun q => q ∈ L)) [.ref o0, .int p1, .int p2, .int p3, .int p4, .int p5].toArray s 0 0 (fun q => q ∈ L)) (F0 m 240 ls []) := by
                      intro f_98 hG H locs hP hS hD hfr0 hrA12 hfA12 hfo_99 hT0 whcut_100_0_27 hghcut_100_0_27 whcut_100_0_29 hghcut_100_0_29 hjhcut_100_0 ls hl
                      obtain ⟨v_101, v_102, v_103, hfo_104, fa_105⟩ := op12_27_29_32 hfo_57 (hG _ mo0) ko0 (hrA12 o0 ko0) (hfA12 o0 ko0)
                      have bv_101 : (0 ≤ v_101.toInt ∧ v_101.toInt ≤ 1) := fa12_27 fa_105
                      have bv_102 : (0 ≤ v_102.toInt ∧ v_102.toInt ≤ 201) := fa12_29 fa_105
                      have bv_103 : (0 ≤ v_103.toInt ∧ v_103.toInt ≤ 6561) := fa12_32 fa_105
                      obtain rfl : v_101 = whcut_100_0_27 := by rw [hfo_104] at hghcut_100_0_27; exact Option.some.inj hghcut_100_0_27
                      obtain rfl : v_102 = whcut_100_0_29 := by rw [hfo_104] at hghcut_100_0_29; exact Option.some.inj hghcut_100_0_29
                      obtain ⟨x_106, ex_106⟩ : ∃ y : Int32, y_73 + 1 = y := ⟨_, rfl⟩
                      have hx_106 : x_106.toInt = y_73.toInt + 1 := by rw [← ex_106, ad_I (by rw [ti_1]; omega) (by rw [ti_1]; omega), ti_1]
                      have bx_106 : (1 ≤ x_106.toInt ∧ x_106.toInt ≤ 20) := by constructor <;> omega
                      refine lv_iinc (v := x_106) (lv' := [(6, .int x_106), (10, .int y_95), (9, .int y_92), (8, .int y_90), (7, .int x_89), (0, .ref o0), (1, .int p1), (2, .int p2), (3, .int p3), (4, .int p4), (5, .int p5)]) hx hb dX12_goes_240 hl (k := 4) rfl ex_106 (by decide) rfl (fun ls hl => ?_)
                      refine lv_goto (tgt := 28) hx hb dX12_goes_243 (by decide) ?_
                      exact ih_hloop_72 x_106 (by constructor <;> omega) f_98 hG _ _ hP hS hD hfr0 hrA12 hfA12 hT0 v_101 (by rw [hfo_104]; rfl) v_102 (by rw [hfo_104]; rfl) (by omega) (by omega) (by omega) (by omega) ls (lv_sub hl [0, 5, 6, 7, 8, 9, 10] rfl)
                    refine lv_if_eq (tgt := 137) hx hb dX12_goes_130 (by decide) (fun c_107 => ?_) (fun c_107 => ?_)
                    · skip
                      rw [← Int32.toInt_inj, ti_0] at c_107
                      refine lv_iload hx hb dX12_goes_137 (lv_at hl 2 rfl) ?_
                      refine lv_if_eq (tgt := 164) hx hb dX12_goes_139 (by decide) (fun c_108 => ?_) (fun c_108 => ?_)
                      · skip
                        rw [← Int32.toInt_inj, ti_0] at c_108
                        refine lv_aload_n hx hb dX12_goes_164 rfl (lv_at hl 5 rfl) ?_
                        refine lv_iload_n hx hb dX12_goes_165 rfl (lv_at hl 8 rfl) ?_
                        refine lv_iload hx hb dX12_goes_166 (lv_at hl 3 rfl) ?_
                        refine lv_iload hx hb dX12_goes_168 (lv_at hl 10 rfl) ?_
                        refine tk_ViP (As := [.int p3, .int x_89, .int p5]) (rest := []) (n := 3) hx hb hml hown hU hN hZ (s_X12_reads_k12 l (dC, dI) cI cL cZ cR cG cH Z kd L f_75 hG o0 mo0 ko0 p3 (by constructor <;> omega) x_89 p5) wd_950 wd_951 wd_952 wd_5 wd_953 (by decide +kernel) ⟨(show 4 + 1 ≤ 8 + (n_ + 1) by omega), (show 8 + (5 + 11) + 105 ≤ 205 + (n_ + 1) * 30 by omega)⟩ hK hP hD hS mo0 hfo_79 12 rfl rfl rfl hl.1 rfl (Nat.le_of_ble_eq_true rfl) dX12_goes_170 ⟨Nat.le_of_ble_eq_true rfl, Nat.le_of_ble_eq_true rfl⟩ (fun x_109 f_110 H locs hw hP hD hS => ?_)
                        obtain ⟨hG, bx_109, hkc_111⟩ := hw
                        have hfo_113 : f_110 o0 = .inr (12, [.ref a_1, .ref a_2, .ref a_3, .int v_4, .ref a_5, .int v_6, .int v_7, .int v_8, .int v_9, .int v_10, .int v_11, .int v_12, .int v_13, .int v_14, .int v_15, .ref a_16, .ref a_17, .ref a_18, .ref a_19, .ref a_20, .ref a_21, .ref a_22, .ref a_23, .int v_24, .int v_25, .int v_26, .int v_27, .int v_76, .ref a_29, .int v_77, .ref a_31, .ref a_32, .int v_78, .int v_34, .ref a_35, .int v_36, .ref a_37, .ref a_38, .int v_39, .int v_40, .ref a_41, .ref a_42, .ref a_43, .int v_44, .ref a_45, .ref a_46, .ref a_47, .ref a_48, .ref a_49, .ref a_50, .ref a_51, .ref a_52, .ref a_53, .int v_54, .int v_55, .ref a_56]) := by rw [hkc_111 o0 (by rw [ko0]; decide) (by rw [ko0]; decide) (by rw [ko0]; decide) (by rw [ko0]; decide) (by rw [ko0]; decide) (by rw [ko0]; decide)]; exact hfo_79
                        have hfo_114 : f_110 a_1 = .inl (cI, 1560, .inl g_82) := by rw [hkc_111 a_1 (by rw [ka_1]; decide) (by rw [ka_1]; decide) (by rw [ka_1]; decide) (by rw [ka_1]; decide) (by rw [ka_1]; decide) (by rw [ka_1]; decide)]; exact hfo_81
                        have hfr0 : ∀ b, kd b ≠ 12 → kd b ≠ 579 → kd b ≠ 581 → kd b ≠ 583 → kd b ≠ 585 → kd b ≠ 587 → kd b ≠ 588 → kd b ≠ 590 → kd b ≠ 591 → kd b ≠ 592 → kd b ≠ 593 → kd b ≠ 603 → f_110 b = f b := fun b q12 q579 q581 q583 q585 q587 q588 q590 q591 q592 q593 q603 => (hkc_111 b q579 q581 q583 q585 q587 q588).trans (hfr0 b q12 q579 q581 q583 q585 q587 q588 q590 q591 q592 q593 q603)
                        have hrA12 : ∀ b, kd b = 12 → ∀ j, fldR (f_110 b) j = fldR (f b) j := fun b kb j => (congrArg (fun x => fldR x j) (hkc_111 b (by rw [kb]; decide) (by rw [kb]; decide) (by rw [kb]; decide) (by rw [kb]; decide) (by rw [kb]; decide) (by rw [kb]; decide))).trans (hrA12 b kb j)
                        have hfA12 : ∀ b, kd b = 12 → ∀ j, j ≠ 27 → j ≠ 29 → j ≠ 32 → fldI (f_110 b) j = fldI (f b) j := fun b kb j n27 n29 n32 => (congrArg (fun x => fldI x j) (hkc_111 b (by rw [kb]; decide) (by rw [kb]; decide) (by rw [kb]; decide) (by rw [kb]; decide) (by rw [kb]; decide) (by rw [kb]; decide))).trans (hfA12 b kb j n27 n29 n32)
                        have hT0 : srel kd 592 f_110 o0 := hT0.keep (fun b q => congrArg (fun x => fldR x 30) (hkc_111 b (by rw [q]; decide) (by rw [q]; decide) (by rw [q]; decide) (by rw [q]; decide) (by rw [q]; decide) (by rw [q]; decide))) (fun b q => congrArg (fun x => fldI x 32) (hkc_111 b (by rw [q]; decide) (by rw [q]; decide) (by rw [q]; decide) (by rw [q]; decide) (by rw [q]; decide) (by rw [q]; decide))) (fun b q => congrArg (fun x => fldI x 33) (hkc_111 b (by rw [q]; decide) (by rw [q]; decide) (by rw [q]; decide) (by rw [q]; decide) (by rw [q]; decide) (by rw [q]; decide))) (fun b q => hkc_111 b (by rw [q]; decide) (by rw [q]; decide) (by rw [q]; decide) (by rw [q]; decide) (by rw [q]; decide) (by rw [q]; decide))
                        refine lv_if_ne (tgt := 179) hx hb dX12_goes_173 (by decide) (fun c_115 => ?_) (fun c_115 => ?_)
                        · skip
                          rw [← Int32.toInt_inj, ti_0] at c_115
                          refine lv_iload hx hb dX12_goes_179 (lv_at hl 1 rfl) ?_
                          have hcut_120 : ∀ (f_117 : Nat → va_E), GI (okc cI cL cZ cR cG cH L kd) kd L f_117 → ∀ (H : Heap) (locs : List Loc), va_P (dC, dI) vwCl (va_pl L f_117) H → va_S (fun q => q ∈ L) s.heap H locs → va_D (fun q => q ∈ L) (va_pl L f_117) → (∀ b, kd b ≠ 12 → kd b ≠ 579 → kd b ≠ 581 → kd b ≠ 583 → kd b ≠ 585 → kd b ≠ 587 → kd b ≠ 588 → kd b ≠ 590 → kd b ≠ 591 → kd b ≠ 592 → kd b ≠ 593 → kd b ≠ 603 → f_117 b = f b) → (∀ b, kd b = 12 → ∀ j, fldR (f_117 b) j = fldR (f b) j) → (∀ b, kd b = 12 → ∀ j, j ≠ 27 → j ≠ 29 → j ≠ 32 → fldI (f_117 b) j = fldI (f b) j) → (f_117 o0 = .inr (12, [.ref a_1, .ref a_2, .ref a_3, .int v_4, .ref a_5, .int v_6, .int v_7, .int v_8, .int v_9, .int v_10, .int v_11, .int v_12, .int v_13, .int v_14, .int v_15, .ref a_16, .ref a_17, .ref a_18, .ref a_19, .ref a_20, .ref a_21, .ref a_22, .ref a_23, .int v_24, .int v_25, .int v_26, .int v_27, .int v_76, .ref a_29, .int v_77, .ref a_31, .ref a_32, .int v_78, .int v_34, .ref a_35, .int v_36, .ref a_37, .ref a_38, .int v_39, .int v_40, .ref a_41, .ref a_42, .ref a_43, .int v_44, .ref a_45, .ref a_46, .ref a_47, .ref a_48, .ref a_49, .ref a_50, .ref a_51, .ref a_52, .ref a_53, .int v_54, .int v_55, .ref a_56])) → (f_117 a_1 = .inl (cI, 1560, .inl g_82)) → srel kd 592 f_117 o0 → ∀ (ls : Array Slot), lv_has ls 11 [(10, .int y_95), (9, .int y_92), (8, .int y_90), (7, .int x_89), (6, .int y_73), (0, .ref o0), (1, .int p1), (2, .int p2), (3, .int p3), (4, .int p4), (5, .int p5)] → W p l e (headSpec (wU yX12_goes cX12_goes 11 none) { frames := 8 + (n_ + 1), cells := 0, slots := 0, locals := 205 + (n_ + 1) * 30 }).room s m [.ref o0, .int p1, .int p2, .int p3, .int p4, .int p5].toArray below meth c H locs 0 0 (MQ below (va_Qv (fun (f9 : Nat → va_E) => GI (okc cI cL cZ cR cG cH L kd) kd L f9 ∧ (∀ b, kd b ≠ 12 → kd b ≠ 579 → kd b ≠ 581 → kd b ≠ 583 → kd b ≠ 585 → kd b ≠ 587 → kd b ≠ 588 → kd b ≠ 590 → kd b ≠ 591 → kd b ≠ 592 → kd b ≠ 593 → kd b ≠ 603 → f9 b = f b) ∧ (∀ b, kd b = 12 → ∀ j, fldR (f9 b) j = fldR (f b) j) ∧ (∀ b, kd b = 12 → ∀ j, j ≠ 27 → j ≠ 29 → j ≠ 32 → fldI (f9 b) j = fldI (f b) j) ∧ (∀ (w25 z25 : Int32) (w27 z27 : Int32) (w29 z29 : Int32), fldI (f o0) 25 = some w25 → fldI (f o0) 27 = some w27 → fldI (f o0) 29 = some w29 → fldI (f9 o0) 25 = some z25 → fldI (f9 o0) 27 = some z27 → fldI (f9 o0) 29 = some z29 → (z27.toInt = 1 ∨ z29.toInt ≤ 200) ∧ (w25.toInt ≤ 1 ∨ z29.toInt = w29.toInt)) ∧ (srel kd 592 f9 o0)) (qP (dC, dI) cI cL cZ cR cG cH L) (fun q => q ∈ L)) [.ref o0, .int p1, .int p2, .int p3, .int p4, .int p5].toArray s 0 0 (fun q => q ∈ L)) (F0 m 193 ls []) := by
                            intro f_117 hG H locs hP hS hD hfr0 hrA12 hfA12 hfo_118 hfo_119 hT0 ls hl
                            refine lv_aload_n hx hb dX12_goes_193 rfl (lv_at hl 5 rfl) ?_
                            refine lv_iload hx hb dX12_goes_194 (lv_at hl 2 rfl) ?_
                            refine lv_if_ne (tgt := 203) hx hb dX12_goes_196 (by decide) (fun c_121 => ?_) (fun c_121 => ?_)
                            · skip
                              rw [← Int32.toInt_inj, ti_0] at c_121
                              exfalso
                              omega
                            · skip
                              rw [← Int32.toInt_inj, ti_0] at c_121
                              refine lv_iload_n hx hb dX12_goes_199 rfl (lv_at hl 6 rfl) ?_
                              refine lv_goto (tgt := 206) hx hb dX12_goes_200 (by decide) ?_
                              refine lv_iload hx hb dX12_goes_206 (lv_at hl 0 rfl) ?_
                              refine lv_if_eq (tgt := 217) hx hb dX12_goes_208 (by decide) (fun c_122 => ?_) (fun c_122 => ?_)
                              · skip
                                rw [← Int32.toInt_inj, ti_0] at c_122
                                refine lv_iload_n hx hb dX12_goes_217 rfl (lv_at hl 7 rfl) ?_
                                refine lv_iload_n hx hb dX12_goes_218 rfl (lv_at hl 8 rfl) ?_
                                refine lv_iconst (v := 1) hx hb dX12_goes_219 (by decide) ?_
                                refine lv_iadd hx hb dX12_goes_220 ?_
                                refine lv_topi (fun x_123 ex_123 => ?_)
                                have hx_123 : x_123.toInt = p3.toInt + 1 := by rw [ex_123, ad_I (by rw [ti_1]; omega) (by rw [ti_1]; omega), ti_1]
                                have bx_123 : (1 ≤ x_123.toInt ∧ x_123.toInt ≤ 14) := by constructor <;> omega
                                have hclc_124 : (1 ≤ x_123.toInt ∧ x_123.toInt ≤ 13) := by constructor <;> omega
                                refine lv_iload hx hb dX12_goes_221 (lv_at hl 1 rfl) ?_
                                have hcut_126 : ∀ (y_125 : Int32), (0 ≤ y_125.toInt ∧ y_125.toInt ≤ 13) → ((y_92.toInt = 0 ∧ y_125.toInt = p4.toInt) ∨ (y_92.toInt ≠ 0 ∧ y_125.toInt = p4.toInt + 1)) → ∀ (ls : Array Slot), lv_has ls 11 [(10, .int y_95), (9, .int y_92), (8, .int y_90), (7, .int x_89), (6, .int y_73), (0, .ref o0), (1, .int p1), (2, .int p2), (3, .int p3), (4, .int p4), (5, .int p5)] → W p l e (headSpec (wU yX12_goes cX12_goes 11 none) { frames := 8 + (n_ + 1), cells := 0, slots := 0, locals := 205 + (n_ + 1) * 30 }).room s m [.ref o0, .int p1, .int p2, .int p3, .int p4, .int p5].toArray below meth c H locs 0 0 (MQ below (va_Qv (fun (f9 : Nat → va_E) => GI (okc cI cL cZ cR cG cH L kd) kd L f9 ∧ (∀ b, kd b ≠ 12 → kd b ≠ 579 → kd b ≠ 581 → kd b ≠ 583 → kd b ≠ 585 → kd b ≠ 587 → kd b ≠ 588 → kd b ≠ 590 → kd b ≠ 591 → kd b ≠ 592 → kd b ≠ 593 → kd b ≠ 603 → f9 b = f b) ∧ (∀ b, kd b = 12 → ∀ j, fldR (f9 b) j = fldR (f b) j) ∧ (∀ b, kd b = 12 → ∀ j, j ≠ 27 → j ≠ 29 → j ≠ 32 → fldI (f9 b) j = fldI (f b) j) ∧ (∀ (w25 z25 : Int32) (w27 z27 : Int32) (w29 z29 : Int32), fldI (f o0) 25 = some w25 → fldI (f o0) 27 = some w27 → fldI (f o0) 29 = some w29 → fldI (f9 o0) 25 = some z25 → fldI (f9 o0) 27 = some z27 → fldI (f9 o0) 29 = some z29 → (z27.toInt = 1 ∨ z29.toInt ≤ 200) ∧ (w25.toInt ≤ 1 ∨ z29.toInt = w29.toInt)) ∧ (srel kd 592 f9 o0)) (qP (dC, dI) cI cL cZ cR cG cH L) (fun q => q ∈ L)) [.ref o0, .int p1, .int p2, .int p3, .int p4, .int p5].toArray s 0 0 (fun q => q ∈ L)) (F0 m 235 ls [.int y_125, .int x_123, .int p2, .int p1, .ref o0]) := by
                                  intro y_125 by_125 hjhcut_126_0 ls hl
                                  refine lv_iload hx hb dX12_goes_235 (lv_at hl 10 rfl) ?_
                                  refine tk_VvP (As := [.int p1, .int p2, .int x_123, .int y_125, .int p5]) (rest := []) (n := 5) hx hb hml hown hU hN hZ (ih_rec f_117 hG o0 mo0 ko0 p1 (by constructor <;> omega) p2 (by constructor <;> omega) x_123 (by constructor <;> omega) y_125 (by constructor <;> omega) p5 (by intro w23 w25 w27 w29 e23 e25 e27 e29; rw [hfo_118] at e23 e25 e27 e29; obtain rfl := Option.some.inj e23; obtain rfl := Option.some.inj e25; obtain rfl := Option.some.inj e27; obtain rfl := Option.some.inj e29; omega) (by omega) hT0 (by omega)) wd_886 wd_887 wd_888 wd_5 wd_889 (by decide +kernel) ⟨(show (8 + n_) + 1 ≤ 8 + (n_ + 1) by omega), (show 8 + (11 + 11) + (205 + n_ * 30) ≤ 205 + (n_ + 1) * 30 by omega)⟩ hK hP hD hS mo0 hfo_118 12 rfl rfl rfl hl.1 rfl (Nat.le_of_ble_eq_true rfl) dX12_goes_237 ⟨Nat.le_of_ble_eq_true rfl, Nat.le_of_ble_eq_true rfl⟩ (fun f_128 H locs hw hP hD hS => ?_)
                                  obtain ⟨hG, hkc_129, hra_130, hfa_131, hpost_132, hTc_133⟩ := hw
                                  have hfo_135 : f_128 a_1 = .inl (cI, 1560, .inl g_82) := by rw [hkc_129 a_1 (by rw [ka_1]; decide) (by rw [ka_1]; decide) (by rw [ka_1]; decide) (by rw [ka_1]; decide) (by rw [ka_1]; decide) (by rw [ka_1]; decide) (by rw [ka_1]; decide) (by rw [ka_1]; decide) (by rw [ka_1]; decide) (by rw [ka_1]; decide) (by rw [ka_1]; decide) (by rw [ka_1]; decide)]; exact hfo_119
                                  have hfr0 : ∀ b, kd b ≠ 12 → kd b ≠ 579 → kd b ≠ 581 → kd b ≠ 583 → kd b ≠ 585 → kd b ≠ 587 → kd b ≠ 588 → kd b ≠ 590 → kd b ≠ 591 → kd b ≠ 592 → kd b ≠ 593 → kd b ≠ 603 → f_128 b = f b := fun b q12 q579 q581 q583 q585 q587 q588 q590 q591 q592 q593 q603 => (hkc_129 b q12 q579 q581 q583 q585 q587 q588 q590 q591 q592 q593 q603).trans (hfr0 b q12 q579 q581 q583 q585 q587 q588 q590 q591 q592 q593 q603)
                                  have hrA12 : ∀ b, kd b = 12 → ∀ j, fldR (f_128 b) j = fldR (f b) j := fun b kb j => (hra_130 b kb j).trans (hrA12 b kb j)
                                  have hfA12 : ∀ b, kd b = 12 → ∀ j, j ≠ 27 → j ≠ 29 → j ≠ 32 → fldI (f_128 b) j = fldI (f b) j := fun b kb j n27 n29 n32 => (hfa_131 b kb j n27 n29 n32).trans (hfA12 b kb j n27 n29 n32)
                                  obtain ⟨v_136, v_137, v_138, hfo_139, fa_140⟩ := op12_27_29_32 hfo_118 (hG _ mo0) ko0 (hra_130 o0 ko0) (hfa_131 o0 ko0)
                                  have bv_136 : (0 ≤ v_136.toInt ∧ v_136.toInt ≤ 1) := fa12_27 fa_140
                                  have bv_137 : (0 ≤ v_137.toInt ∧ v_137.toInt ≤ 201) := fa12_29 fa_140
                                  have bv_138 : (0 ≤ v_138.toInt ∧ v_138.toInt ≤ 6561) := fa12_32 fa_140
                                  have hqhpost_132 := hpost_132 v_26 v_26 v_76 v_136 v_77 v_137 (by rw [hfo_118]; rfl) (by rw [hfo_118]; rfl) (by rw [hfo_118]; rfl) (by rw [hfo_139]; rfl) (by rw [hfo_139]; rfl) (by rw [hfo_139]; rfl)
                                  exact hcut_100 f_128 hG _ _ hP hS hD hfr0 hrA12 hfA12 hfo_135 hTc_133 v_136 (by rw [hfo_139]; rfl) v_137 (by rw [hfo_139]; rfl) (by omega) ls (lv_sub hl [0, 1, 2, 3, 4, 5, 6, 7, 8, 9, 10] rfl)
                                refine lv_if_ne (tgt := 231) hx hb dX12_goes_223 (by decide) (fun c_141 => ?_) (fun c_141 => ?_)
                                · skip
                                  rw [← Int32.toInt_inj, ti_0] at c_141
                                  refine lv_iload hx hb dX12_goes_231 (lv_at hl 9 rfl) ?_
                                  refine lv_iconst (v := 1) hx hb dX12_goes_233 (by decide) ?_
                                  refine lv_iadd hx hb dX12_goes_234 ?_
                                  refine lv_topi (fun x_142 ex_142 => ?_)
                                  have hx_142 : x_142.toInt = p4.toInt + 1 := by rw [ex_142, ad_I (by rw [ti_1]; omega) (by rw [ti_1]; omega), ti_1]
                                  have bx_142 : (1 ≤ x_142.toInt ∧ x_142.toInt ≤ 14) := by constructor <;> omega
                                  exact hcut_126 x_142 (by constructor <;> omega) (by omega) ls (lv_sub hl [0, 1, 2, 3, 4, 5, 6, 7, 8, 9, 10] rfl)
                                · skip
                                  rw [← Int32.toInt_inj, ti_0] at c_141
                                  refine lv_iload hx hb dX12_goes_226 (lv_at hl 9 rfl) ?_
                                  refine lv_goto (tgt := 235) hx hb dX12_goes_228 (by decide) ?_
                                  exact hcut_126 p4 (by constructor <;> omega) (by omega) ls (lv_sub hl [0, 1, 2, 3, 4, 5, 6, 7, 8, 9, 10] rfl)
                              · skip
                                rw [← Int32.toInt_inj, ti_0] at c_122
                                exfalso
                                omega
                          refine lv_if_eq (tgt := 193) hx hb dX12_goes_181 (by decide) (fun c_143 => ?_) (fun c_143 => ?_)
                          · skip
                            rw [← Int32.toInt_inj, ti_0] at c_143
                            exact hcut_120 f_110 hG _ _ hP hS hD hfr0 hrA12 hfA12 hfo_113 hfo_114 hT0 ls (lv_sub hl [0, 1, 2, 3, 4, 5, 6, 7, 8, 9, 10] rfl)
                          · skip
                            rw [← Int32.toInt_inj, ti_0] at c_143
                            refine lv_aload_n hx hb dX12_goes_184 rfl (lv_at hl 5 rfl) ?_
                            refine tk_getP (D := (dC, dI)) (ci := 12) (v := .ref a_23) (C := RX12) (T := TX12) (N := 56) hx hb hU inlX12 hown hK hP mo0 hfo_113 rfl 22 (by decide) (hU _ wd_182) (fun _ h9 => h9) rfl dX12_goes_185 ?_
                            refine lv_iload hx hb dX12_goes_188 (lv_at hl 9 rfl) ?_
                            refine lv_iload hx hb dX12_goes_190 (lv_at hl 1 rfl) ?_
                            obtain ⟨g_145, hfo_144, hbg_145⟩ := un_590 (hG _ ma_23) ka_23
                            refine tk_istP hx hb hK hP hD hS 0 ma_23 hfo_144 rfl (vp_in_iff.mpr (by constructor <;> omega)) dX12_goes_192 (fun H locs hP hD hS => ?_)
                            obtain ⟨f_147, ef_147⟩ : ∃ y : Nat → va_E, y = va_up f_110 a_23 (.inl (cI, 16, .inl (upd g_145 (Int32.toNatClampNeg p4) y_92))) := ⟨_, rfl⟩
                            have hP : va_P (dC, dI) vwCl (va_pl L f_147) H := by rw [ef_147]; exact hP
                            have hD : va_D (fun q => q ∈ L) (va_pl L f_147) := by rw [ef_147]; exact hD
                            have hG : GI (okc cI cL cZ cR cG cH L kd) kd L f_147 := by rw [ef_147]; exact hG.set a_23 (mk_590 ka_23 ⟨_, rfl, okI_up hbg_145 (by constructor <;> omega) _⟩)
                            have hfo_148 : f_147 o0 = .inr (12, [.ref a_1, .ref a_2, .ref a_3, .int v_4, .ref a_5, .int v_6, .int v_7, .int v_8, .int v_9, .int v_10, .int v_11, .int v_12, .int v_13, .int v_14, .int v_15, .ref a_16, .ref a_17, .ref a_18, .ref a_19, .ref a_20, .ref a_21, .ref a_22, .ref a_23, .int v_24, .int v_25, .int v_26, .int v_27, .int v_76, .ref a_29, .int v_77, .ref a_31, .ref a_32, .int v_78, .int v_34, .ref a_35, .int v_36, .ref a_37, .ref a_38, .int v_39, .int v_40, .ref a_41, .ref a_42, .ref a_43, .int v_44, .ref a_45, .ref a_46, .ref a_47, .ref a_48, .ref a_49, .ref a_50, .ref a_51, .ref a_52, .ref a_53, .int v_54, .int v_55, .ref a_56]) := by rw [ef_147, up_ne (kd_ne ka_23 ko0 (by decide))]; exact hfo_113
                            have hfo_149 : f_147 a_1 = .inl (cI, 1560, .inl g_82) := by rw [ef_147, up_ne (kd_ne ka_23 ka_1 (by decide))]; exact hfo_114
                            have hfr0 : ∀ b, kd b ≠ 12 → kd b ≠ 579 → kd b ≠ 581 → kd b ≠ 583 → kd b ≠ 585 → kd b ≠ 587 → kd b ≠ 588 → kd b ≠ 590 → kd b ≠ 591 → kd b ≠ 592 → kd b ≠ 593 → kd b ≠ 603 → f_147 b = f b := fun b q12 q579 q581 q583 q585 q587 q588 q590 q591 q592 q593 q603 => (congrFun ef_147 b).trans ((up_ne (fun e9 => q590 (by rw [e9]; exact ka_23))).trans (hfr0 b q12 q579 q581 q583 q585 q587 q588 q590 q591 q592 q593 q603))
                            have hrA12 : ∀ b, kd b = 12 → ∀ j, fldR (f_147 b) j = fldR (f b) j := fun b kb j => (congrArg (fun x => fldR x j) ((congrFun ef_147 b).trans (up_ne (kd_ne ka_23 kb (by decide))))).trans (hrA12 b kb j)
                            have hfA12 : ∀ b, kd b = 12 → ∀ j, j ≠ 27 → j ≠ 29 → j ≠ 32 → fldI (f_147 b) j = fldI (f b) j := fun b kb j n27 n29 n32 => (congrArg (fun x => fldI x j) ((congrFun ef_147 b).trans (up_ne (kd_ne ka_23 kb (by decide))))).trans (hfA12 b kb j n27 n29 n32)
                            have hT0 : srel kd 592 f_147 o0 := by rw [ef_147]; exact hT0.keep (fun b q => congrArg (fun x => fldR x 30) (up_ne (kd_ne ka_23 q (by decide)))) (fun b q => congrArg (fun x => fldI x 32) (up_ne (kd_ne ka_23 q (by decide)))) (fun b q => congrArg (fun x => fldI x 33) (up_ne (kd_ne ka_23 q (by decide)))) (fun b q => up_ne (kd_ne ka_23 q (by decide)))
                            have hfo_150 : f_147 a_23 = .inl (cI, 16, .inl (upd g_145 (Int32.toNatClampNeg p4) y_92)) := by rw [ef_147]; exact up_self
                            exact hcut_120 f_147 hG _ _ hP hS hD hfr0 hrA12 hfA12 hfo_148 hfo_149 hT0 ls (lv_sub hl [0, 1, 2, 3, 4, 5, 6, 7, 8, 9, 10] rfl)
                        · skip
                          rw [← Int32.toInt_inj, ti_0] at c_115
                          refine lv_goto (tgt := 240) hx hb dX12_goes_176 (by decide) ?_
                          exact hcut_100 f_110 hG _ _ hP hS hD hfr0 hrA12 hfA12 hfo_114 hT0 v_76 (by rw [hfo_113]; rfl) v_77 (by rw [hfo_113]; rfl) (by omega) ls (lv_sub hl [0, 1, 2, 3, 4, 5, 6, 7, 8, 9, 10] rfl)
                      · skip
                        rw [← Int32.toInt_inj, ti_0] at c_108
                        refine lv_iload_n hx hb dX12_goes_142 rfl (lv_at hl 6 rfl) ?_
                        refine lv_aload_n hx hb dX12_goes_143 rfl (lv_at hl 5 rfl) ?_
                        refine tk_getP (D := (dC, dI)) (ci := 12) (v := .int v_24) (C := RX12) (T := TX12) (N := 56) hx hb hU inlX12 hown hK hP mo0 hfo_79 rfl 23 (by decide) (hU _ wd_867) (fun _ h9 => h9) rfl dX12_goes_144 ?_
                        refine lv_icmp_eq (tgt := 240) hx hb dX12_goes_147 (by decide) (fun c_151 => ?_) (fun c_151 => ?_)
                        · skip
                          rw [← Int32.toInt_inj] at c_151
                          exact hcut_100 f_75 hG _ _ hP hS hD hfr0 hrA12 hfA12 hfo_81 hT0 v_76 (by rw [hfo_79]; rfl) v_77 (by rw [hfo_79]; rfl) (by omega) ls (lv_sub hl [0, 1, 2, 3, 4, 5, 6, 7, 8, 9, 10] rfl)
                        · skip
                          rw [← Int32.toInt_inj] at c_151
                          have hclc_152 : (0 ≤ p1.toInt ∧ p1.toInt ≤ 11) := by constructor <;> omega
                          refine lv_aload_n hx hb dX12_goes_150 rfl (lv_at hl 5 rfl) ?_
                          refine tk_getP (D := (dC, dI)) (ci := 12) (v := .ref a_22) (C := RX12) (T := TX12) (N := 56) hx hb hU inlX12 hown hK hP mo0 hfo_79 rfl 21 (by decide) (hU _ wd_181) (fun _ h9 => h9) rfl dX12_goes_151 ?_
                          refine lv_iload_n hx hb dX12_goes_154 rfl (lv_at hl 6 rfl) ?_
                          obtain ⟨g_154, hfo_153, hbg_154⟩ := un_589 (hG _ ma_22) ka_22
                          refine tk_ildP hx hb hK hP 0 ma_22 hfo_153 rfl (vp_in_iff.mpr (by constructor <;> omega)) dX12_goes_155 ?_
                          refine lv_topi (fun x_155 ex_155 => ?_)
                          have bx_155 : (0 ≤ x_155.toInt ∧ x_155.toInt ≤ 8) := by rw [ex_155]; exact hbg_154 _
                          refine lv_iload hx hb dX12_goes_156 (lv_at hl 2 rfl) ?_
                          refine lv_icmp_eq (tgt := 164) hx hb dX12_goes_158 (by decide) (fun c_156 => ?_) (fun c_156 => ?_)
                          · skip
                            rw [← Int32.toInt_inj] at c_156
                            refine lv_aload_n hx hb dX12_goes_164 rfl (lv_at hl 5 rfl) ?_
                            refine lv_iload_n hx hb dX12_goes_165 rfl (lv_at hl 8 rfl) ?_
                            refine lv_iload hx hb dX12_goes_166 (lv_at hl 3 rfl) ?_
                            refine lv_iload hx hb dX12_goes_168 (lv_at hl 10 rfl) ?_
                            refine tk_ViP (As := [.int p3, .int x_89, .int p5]) (rest := []) (n := 3) hx hb hml hown hU hN hZ (s_X12_reads_k12 l (dC, dI) cI cL cZ cR cG cH Z kd L f_75 hG o0 mo0 ko0 p3 (by constructor <;> omega) x_89 p5) wd_950 wd_951 wd_952 wd_5 wd_953 (by decide +kernel) ⟨(show 4 + 1 ≤ 8 + (n_ + 1) by omega), (show 8 + (5 + 11) + 105 ≤ 205 + (n_ + 1) * 30 by omega)⟩ hK hP hD hS mo0 hfo_79 12 rfl rfl rfl hl.1 rfl (Nat.le_of_ble_eq_true rfl) dX12_goes_170 ⟨Nat.le_of_ble_eq_true rfl, Nat.le_of_ble_eq_true rfl⟩ (fun x_157 f_158 H locs hw hP hD hS => ?_)
                            obtain ⟨hG, bx_157, hkc_159⟩ := hw
                            have hfo_161 : f_158 o0 = .inr (12, [.ref a_1, .ref a_2, .ref a_3, .int v_4, .ref a_5, .int v_6, .int v_7, .int v_8, .int v_9, .int v_10, .int v_11, .int v_12, .int v_13, .int v_14, .int v_15, .ref a_16, .ref a_17, .ref a_18, .ref a_19, .ref a_20, .ref a_21, .ref a_22, .ref a_23, .int v_24, .int v_25, .int v_26, .int v_27, .int v_76, .ref a_29, .int v_77, .ref a_31, .ref a_32, .int v_78, .int v_34, .ref a_35, .int v_36, .ref a_37, .ref a_38, .int v_39, .int v_40, .ref a_41, .ref a_42, .ref a_43, .int v_44, .ref a_45, .ref a_46, .ref a_47, .ref a_48, .ref a_49, .ref a_50, .ref a_51, .ref a_52, .ref a_53, .int v_54, .int v_55, .ref a_56]) := by rw [hkc_159 o0 (by rw [ko0]; decide) (by rw [ko0]; decide) (by rw [ko0]; decide) (by rw [ko0]; decide) (by rw [ko0]; decide) (by rw [ko0]; decide)]; exact hfo_79
                            have hfo_162 : f_158 a_1 = .inl (cI, 1560, .inl g_82) := by rw [hkc_159 a_1 (by rw [ka_1]; decide) (by rw [ka_1]; decide) (by rw [ka_1]; decide) (by rw [ka_1]; decide) (by rw [ka_1]; decide) (by rw [ka_1]; decide)]; exact hfo_81
                            have hfo_163 : f_158 a_22 = .inl (cI, 16, .inl g_154) := by rw [hkc_159 a_22 (by rw [ka_22]; decide) (by rw [ka_22]; decide) (by rw [ka_22]; decide) (by rw [ka_22]; decide) (by rw [ka_22]; decide) (by rw [ka_22]; decide)]; exact hfo_153
                            have hfr0 : ∀ b, kd b ≠ 12 → kd b ≠ 579 → kd b ≠ 581 → kd b ≠ 583 → kd b ≠ 585 → kd b ≠ 587 → kd b ≠ 588 → kd b ≠ 590 → kd b ≠ 591 → kd b ≠ 592 → kd b ≠ 593 → kd b ≠ 603 → f_158 b = f b := fun b q12 q579 q581 q583 q585 q587 q588 q590 q591 q592 q593 q603 => (hkc_159 b q579 q581 q583 q585 q587 q588).trans (hfr0 b q12 q579 q581 q583 q585 q587 q588 q590 q591 q592 q593 q603)
                            have hrA12 : ∀ b, kd b = 12 → ∀ j, fldR (f_158 b) j = fldR (f b) j := fun b kb j => (congrArg (fun x => fldR x j) (hkc_159 b (by rw [kb]; decide) (by rw [kb]; decide) (by rw [kb]; decide) (by rw [kb]; decide) (by rw [kb]; decide) (by rw [kb]; decide))).trans (hrA12 b kb j)
                            have hfA12 : ∀ b, kd b = 12 → ∀ j, j ≠ 27 → j ≠ 29 → j ≠ 32 → fldI (f_158 b) j = fldI (f b) j := fun b kb j n27 n29 n32 => (congrArg (fun x => fldI x j) (hkc_159 b (by rw [kb]; decide) (by rw [kb]; decide) (by rw [kb]; decide) (by rw [kb]; decide) (by rw [kb]; decide) (by rw [kb]; decide))).trans (hfA12 b kb j n27 n29 n32)
                            have hT0 : srel kd 592 f_158 o0 := hT0.keep (fun b q => congrArg (fun x => fldR x 30) (hkc_159 b (by rw [q]; decide) (by rw [q]; decide) (by rw [q]; decide) (by rw [q]; decide) (by rw [q]; decide) (by rw [q]; decide))) (fun b q => congrArg (fun x => fldI x 32) (hkc_159 b (by rw [q]; decide) (by rw [q]; decide) (by rw [q]; decide) (by rw [q]; decide) (by rw [q]; decide) (by rw [q]; decide))) (fun b q => congrArg (fun x => fldI x 33) (hkc_159 b (by rw [q]; decide) (by rw [q]; decide) (by rw [q]; decide) (by rw [q]; decide) (by rw [q]; decide) (by rw [q]; decide))) (fun b q => hkc_159 b (by rw [q]; decide) (by rw [q]; decide) (by rw [q]; decide) (by rw [q]; decide) (by rw [q]; decide) (by rw [q]; decide))
                            refine lv_if_ne (tgt := 179) hx hb dX12_goes_173 (by decide) (fun c_164 => ?_) (fun c_164 => ?_)
                            · skip
                              rw [← Int32.toInt_inj, ti_0] at c_164
                              refine lv_iload hx hb dX12_goes_179 (lv_at hl 1 rfl) ?_
                              have hcut_170 : ∀ (f_166 : Nat → va_E), GI (okc cI cL cZ cR cG cH L kd) kd L f_166 → ∀ (H : Heap) (locs : List Loc), va_P (dC, dI) vwCl (va_pl L f_166) H → va_S (fun q => q ∈ L) s.heap H locs → va_D (fun q => q ∈ L) (va_pl L f_166) → (∀ b, kd b ≠ 12 → kd b ≠ 579 → kd b ≠ 581 → kd b ≠ 583 → kd b ≠ 585 → kd b ≠ 587 → kd b ≠ 588 → kd b ≠ 590 → kd b ≠ 591 → kd b ≠ 592 → kd b ≠ 593 → kd b ≠ 603 → f_166 b = f b) → (∀ b, kd b = 12 → ∀ j, fldR (f_166 b) j = fldR (f b) j) → (∀ b, kd b = 12 → ∀ j, j ≠ 27 → j ≠ 29 → j ≠ 32 → fldI (f_166 b) j = fldI (f b) j) → (f_166 o0 = .inr (12, [.ref a_1, .ref a_2, .ref a_3, .int v_4, .ref a_5, .int v_6, .int v_7, .int v_8, .int v_9, .int v_10, .int v_11, .int v_12, .int v_13, .int v_14, .int v_15, .ref a_16, .ref a_17, .ref a_18, .ref a_19, .ref a_20, .ref a_21, .ref a_22, .ref a_23, .int v_24, .int v_25, .int v_26, .int v_27, .int v_76, .ref a_29, .int v_77, .ref a_31, .ref a_32, .int v_78, .int v_34, .ref a_35, .int v_36, .ref a_37, .ref a_38, .int v_39, .int v_40, .ref a_41, .ref a_42, .ref a_43, .int v_44, .ref a_45, .ref a_46, .ref a_47, .ref a_48, .ref a_49, .ref a_50, .ref a_51, .ref a_52, .ref a_53, .int v_54, .int v_55, .ref a_56])) → (f_166 a_1 = .inl (cI, 1560, .inl g_82)) → (f_166 a_22 = .inl (cI, 16, .inl g_154)) → srel kd 592 f_166 o0 → ∀ (ls : Array Slot), lv_has ls 11 [(10, .int y_95), (9, .int y_92), (8, .int y_90), (7, .int x_89), (6, .int y_73), (0, .ref o0), (1, .int p1), (2, .int p2), (3, .int p3), (4, .int p4), (5, .int p5)] → W p l e (headSpec (wU yX12_goes cX12_goes 11 none) { frames := 8 + (n_ + 1), cells := 0, slots := 0, locals := 205 + (n_ + 1) * 30 }).room s m [.ref o0, .int p1, .int p2, .int p3, .int p4, .int p5].toArray below meth c H locs 0 0 (MQ below (va_Qv (fun (f9 : Nat → va_E) => GI (okc cI cL cZ cR cG cH L kd) kd L f9 ∧ (∀ b, kd b ≠ 12 → kd b ≠ 579 → kd b ≠ 581 → kd b ≠ 583 → kd b ≠ 585 → kd b ≠ 587 → kd b ≠ 588 → kd b ≠ 590 → kd b ≠ 591 → kd b ≠ 592 → kd b ≠ 593 → kd b ≠ 603 → f9 b = f b) ∧ (∀ b, kd b = 12 → ∀ j, fldR (f9 b) j = fldR (f b) j) ∧ (∀ b, kd b = 12 → ∀ j, j ≠ 27 → j ≠ 29 → j ≠ 32 → fldI (f9 b) j = fldI (f b) j) ∧ (∀ (w25 z25 : Int32) (w27 z27 : Int32) (w29 z29 : Int32), fldI (f o0) 25 = some w25 → fldI (f o0) 27 = some w27 → fldI (f o0) 29 = some w29 → fldI (f9 o0) 25 = some z25 → fldI (f9 o0) 27 = some z27 → fldI (f9 o0) 29 = some z29 → (z27.toInt = 1 ∨ z29.toInt ≤ 200) ∧ (w25.toInt ≤ 1 ∨ z29.toInt = w29.toInt)) ∧ (srel kd 592 f9 o0)) (qP (dC, dI) cI cL cZ cR cG cH L) (fun q => q ∈ L)) [.ref o0, .int p1, .int p2, .int p3, .int p4, .int p5].toArray s 0 0 (fun q => q ∈ L)) (F0 m 193 ls []) := by
                                intro f_166 hG H locs hP hS hD hfr0 hrA12 hfA12 hfo_167 hfo_168 hfo_169 hT0 ls hl
                                refine lv_aload_n hx hb dX12_goes_193 rfl (lv_at hl 5 rfl) ?_
                                refine lv_iload hx hb dX12_goes_194 (lv_at hl 2 rfl) ?_
                                refine lv_if_ne (tgt := 203) hx hb dX12_goes_196 (by decide) (fun c_171 => ?_) (fun c_171 => ?_)
                                · skip
                                  rw [← Int32.toInt_inj, ti_0] at c_171
                                  refine lv_iload_n hx hb dX12_goes_203 rfl (lv_at hl 6 rfl) ?_
                                  refine lv_iconst (v := 1) hx hb dX12_goes_204 (by decide) ?_
                                  refine lv_iadd hx hb dX12_goes_205 ?_
                                  refine lv_topi (fun x_172 ex_172 => ?_)
                                  have hx_172 : x_172.toInt = p1.toInt + 1 := by rw [ex_172, ad_I (by rw [ti_1]; omega) (by rw [ti_1]; omega), ti_1]
                                  have bx_172 : (1 ≤ x_172.toInt ∧ x_172.toInt ≤ 12) := by constructor <;> omega
                                  refine lv_iload hx hb dX12_goes_206 (lv_at hl 0 rfl) ?_
                                  refine lv_if_eq (tgt := 217) hx hb dX12_goes_208 (by decide) (fun c_173 => ?_) (fun c_173 => ?_)
                                  · skip
                                    rw [← Int32.toInt_inj, ti_0] at c_173
                                    refine lv_iload_n hx hb dX12_goes_217 rfl (lv_at hl 7 rfl) ?_
                                    refine lv_iload_n hx hb dX12_goes_218 rfl (lv_at hl 8 rfl) ?_
                                    refine lv_iconst (v := 1) hx hb dX12_goes_219 (by decide) ?_
                                    refine lv_iadd hx hb dX12_goes_220 ?_
                                    refine lv_topi (fun x_174 ex_174 => ?_)
                                    have hx_174 : x_174.toInt = p3.toInt + 1 := by rw [ex_174, ad_I (by rw [ti_1]; omega) (by rw [ti_1]; omega), ti_1]
                                    have bx_174 : (1 ≤ x_174.toInt ∧ x_174.toInt ≤ 14) := by constructor <;> omega
                                    have hclc_175 : (1 ≤ x_174.toInt ∧ x_174.toInt ≤ 13) := by constructor <;> omega
                                    refine lv_iload hx hb dX12_goes_221 (lv_at hl 1 rfl) ?_
                                    have hcut_177 : ∀ (y_176 : Int32), (0 ≤ y_176.toInt ∧ y_176.toInt ≤ 13) → ((y_92.toInt = 0 ∧ y_176.toInt = p4.toInt) ∨ (y_92.toInt ≠ 0 ∧ y_176.toInt = p4.toInt + 1)) → ∀ (ls : Array Slot), lv_has ls 11 [(10, .int y_95), (9, .int y_92), (8, .int y_90), (7, .int x_89), (6, .int y_73), (0, .ref o0), (1, .int p1), (2, .int p2), (3, .int p3), (4, .int p4), (5, .int p5)] → W p l e (headSpec (wU yX12_goes cX12_goes 11 none) { frames := 8 + (n_ + 1), cells := 0, slots := 0, locals := 205 + (n_ + 1) * 30 }).room s m [.ref o0, .int p1, .int p2, .int p3, .int p4, .int p5].toArray below meth c H locs 0 0 (MQ below (va_Qv (fun (f9 : Nat → va_E) => GI (okc cI cL cZ cR cG cH L kd) kd L f9 ∧ (∀ b, kd b ≠ 12 → kd b ≠ 579 → kd b ≠ 581 → kd b ≠ 583 → kd b ≠ 585 → kd b ≠ 587 → kd b ≠ 588 → kd b ≠ 590 → kd b ≠ 591 → kd b ≠ 592 → kd b ≠ 593 → kd b ≠ 603 → f9 b = f b) ∧ (∀ b, kd b = 12 → ∀ j, fldR (f9 b) j = fldR (f b) j) ∧ (∀ b, kd b = 12 → ∀ j, j ≠ 27 → j ≠ 29 → j ≠ 32 → fldI (f9 b) j = fldI (f b) j) ∧ (∀ (w25 z25 : Int32) (w27 z27 : Int32) (w29 z29 : Int32), fldI (f o0) 25 = some w25 → fldI (f o0) 27 = some w27 → fldI (f o0) 29 = some w29 → fldI (f9 o0) 25 = some z25 → fldI (f9 o0) 27 = some z27 → fldI (f9 o0) 29 = some z29 → (z27.toInt = 1 ∨ z29.toInt ≤ 200) ∧ (w25.toInt ≤ 1 ∨ z29.toInt = w29.toInt)) ∧ (srel kd 592 f9 o0)) (qP (dC, dI) cI cL cZ cR cG cH L) (fun q => q ∈ L)) [.ref o0, .int p1, .int p2, .int p3, .int p4, .int p5].toArray s 0 0 (fun q => q ∈ L)) (F0 m 235 ls [.int y_176, .int x_174, .int p2, .int x_172, .ref o0]) := by
                                      intro y_176 by_176 hjhcut_177_0 ls hl
                                      refine lv_iload hx hb dX12_goes_235 (lv_at hl 10 rfl) ?_
                                      refine tk_VvP (As := [.int x_172, .int p2, .int x_174, .int y_176, .int p5]) (rest := []) (n := 5) hx hb hml hown hU hN hZ (ih_rec f_166 hG o0 mo0 ko0 x_172 (by constructor <;> omega) p2 (by constructor <;> omega) x_174 (by constructor <;> omega) y_176 (by constructor <;> omega) p5 (by intro w23 w25 w27 w29 e23 e25 e27 e29; rw [hfo_167] at e23 e25 e27 e29; obtain rfl := Option.some.inj e23; obtain rfl := Option.some.inj e25; obtain rfl := Option.some.inj e27; obtain rfl := Option.some.inj e29; omega) (by omega) hT0 (by omega)) wd_886 wd_887 wd_888 wd_5 wd_889 (by decide +kernel) ⟨(show (8 + n_) + 1 ≤ 8 + (n_ + 1) by omega), (show 8 + (11 + 11) + (205 + n_ * 30) ≤ 205 + (n_ + 1) * 30 by omega)⟩ hK hP hD hS mo0 hfo_167 12 rfl rfl rfl hl.1 rfl (Nat.le_of_ble_eq_true rfl) dX12_goes_237 ⟨Nat.le_of_ble_eq_true rfl, Nat.le_of_ble_eq_true rfl⟩ (fun f_179 H locs hw hP hD hS => ?_)
                                      obtain ⟨hG, hkc_180, hra_181, hfa_182, hpost_183, hTc_184⟩ := hw
                                      have hfo_186 : f_179 a_1 = .inl (cI, 1560, .inl g_82) := by rw [hkc_180 a_1 (by rw [ka_1]; decide) (by rw [ka_1]; decide) (by rw [ka_1]; decide) (by rw [ka_1]; decide) (by rw [ka_1]; decide) (by rw [ka_1]; decide) (by rw [ka_1]; decide) (by rw [ka_1]; decide) (by rw [ka_1]; decide) (by rw [ka_1]; decide) (by rw [ka_1]; decide) (by rw [ka_1]; decide)]; exact hfo_168
                                      have hfo_187 : f_179 a_22 = .inl (cI, 16, .inl g_154) := by rw [hkc_180 a_22 (by rw [ka_22]; decide) (by rw [ka_22]; decide) (by rw [ka_22]; decide) (by rw [ka_22]; decide) (by rw [ka_22]; decide) (by rw [ka_22]; decide) (by rw [ka_22]; decide) (by rw [ka_22]; decide) (by rw [ka_22]; decide) (by rw [ka_22]; decide) (by rw [ka_22]; decide) (by rw [ka_22]; decide)]; exact hfo_169
                                      have hfr0 : ∀ b, kd b ≠ 12 → kd b ≠ 579 → kd b ≠ 581 → kd b ≠ 583 → kd b ≠ 585 → kd b ≠ 587 → kd b ≠ 588 → kd b ≠ 590 → kd b ≠ 591 → kd b ≠ 592 → kd b ≠ 593 → kd b ≠ 603 → f_179 b = f b := fun b q12 q579 q581 q583 q585 q587 q588 q590 q591 q592 q593 q603 => (hkc_180 b q12 q579 q581 q583 q585 q587 q588 q590 q591 q592 q593 q603).trans (hfr0 b q12 q579 q581 q583 q585 q587 q588 q590 q591 q592 q593 q603)
                                      have hrA12 : ∀ b, kd b = 12 → ∀ j, fldR (f_179 b) j = fldR (f b) j := fun b kb j => (hra_181 b kb j).trans (hrA12 b kb j)
                                      have hfA12 : ∀ b, kd b = 12 → ∀ j, j ≠ 27 → j ≠ 29 → j ≠ 32 → fldI (f_179 b) j = fldI (f b) j := fun b kb j n27 n29 n32 => (hfa_182 b kb j n27 n29 n32).trans (hfA12 b kb j n27 n29 n32)
                                      obtain ⟨v_188, v_189, v_190, hfo_191, fa_192⟩ := op12_27_29_32 hfo_167 (hG _ mo0) ko0 (hra_181 o0 ko0) (hfa_182 o0 ko0)
                                      have bv_188 : (0 ≤ v_188.toInt ∧ v_188.toInt ≤ 1) := fa12_27 fa_192
                                      have bv_189 : (0 ≤ v_189.toInt ∧ v_189.toInt ≤ 201) := fa12_29 fa_192
                                      have bv_190 : (0 ≤ v_190.toInt ∧ v_190.toInt ≤ 6561) := fa12_32 fa_192
                                      have hqhpost_183 := hpost_183 v_26 v_26 v_76 v_188 v_77 v_189 (by rw [hfo_167]; rfl) (by rw [hfo_167]; rfl) (by rw [hfo_167]; rfl) (by rw [hfo_191]; rfl) (by rw [hfo_191]; rfl) (by rw [hfo_191]; rfl)
                                      exact hcut_100 f_179 hG _ _ hP hS hD hfr0 hrA12 hfA12 hfo_186 hTc_184 v_188 (by rw [hfo_191]; rfl) v_189 (by rw [hfo_191]; rfl) (by omega) ls (lv_sub hl [0, 1, 2, 3, 4, 5, 6, 7, 8, 9, 10] rfl)
                                    refine lv_if_ne (tgt := 231) hx hb dX12_goes_223 (by decide) (fun c_193 => ?_) (fun c_193 => ?_)
                                    · skip
                                      rw [← Int32.toInt_inj, ti_0] at c_193
                                      refine lv_iload hx hb dX12_goes_231 (lv_at hl 9 rfl) ?_
                                      refine lv_iconst (v := 1) hx hb dX12_goes_233 (by decide) ?_
                                      refine lv_iadd hx hb dX12_goes_234 ?_
                                      refine lv_topi (fun x_194 ex_194 => ?_)
                                      have hx_194 : x_194.toInt = p4.toInt + 1 := by rw [ex_194, ad_I (by rw [ti_1]; omega) (by rw [ti_1]; omega), ti_1]
                                      have bx_194 : (1 ≤ x_194.toInt ∧ x_194.toInt ≤ 14) := by constructor <;> omega
                                      exact hcut_177 x_194 (by constructor <;> omega) (by omega) ls (lv_sub hl [0, 1, 2, 3, 4, 5, 6, 7, 8, 9, 10] rfl)
                                    · skip
                                      rw [← Int32.toInt_inj, ti_0] at c_193
                                      refine lv_iload hx hb dX12_goes_226 (lv_at hl 9 rfl) ?_
                                      refine lv_goto (tgt := 235) hx hb dX12_goes_228 (by decide) ?_
                                      exact hcut_177 p4 (by constructor <;> omega) (by omega) ls (lv_sub hl [0, 1, 2, 3, 4, 5, 6, 7, 8, 9, 10] rfl)
                                  · skip
                                    rw [← Int32.toInt_inj, ti_0] at c_173
                                    exfalso
                                    omega
                                · skip
                                  rw [← Int32.toInt_inj, ti_0] at c_171
                                  exfalso
                                  omega
                              refine lv_if_eq (tgt := 193) hx hb dX12_goes_181 (by decide) (fun c_195 => ?_) (fun c_195 => ?_)
                              · skip
                                rw [← Int32.toInt_inj, ti_0] at c_195
                                exact hcut_170 f_158 hG _ _ hP hS hD hfr0 hrA12 hfA12 hfo_161 hfo_162 hfo_163 hT0 ls (lv_sub hl [0, 1, 2, 3, 4, 5, 6, 7, 8, 9, 10] rfl)
                              · skip
                                rw [← Int32.toInt_inj, ti_0] at c_195
                                refine lv_aload_n hx hb dX12_goes_184 rfl (lv_at hl 5 rfl) ?_
                                refine tk_getP (D := (dC, dI)) (ci := 12) (v := .ref a_23) (C := RX12) (T := TX12) (N := 56) hx hb hU inlX12 hown hK hP mo0 hfo_161 rfl 22 (by decide) (hU _ wd_182) (fun _ h9 => h9) rfl dX12_goes_185 ?_
                                refine lv_iload hx hb dX12_goes_188 (lv_at hl 9 rfl) ?_
                                refine lv_iload hx hb dX12_goes_190 (lv_at hl 1 rfl) ?_
                                obtain ⟨g_197, hfo_196, hbg_197⟩ := un_590 (hG _ ma_23) ka_23
                                refine tk_istP hx hb hK hP hD hS 0 ma_23 hfo_196 rfl (vp_in_iff.mpr (by constructor <;> omega)) dX12_goes_192 (fun H locs hP hD hS => ?_)
                                obtain ⟨f_199, ef_199⟩ : ∃ y : Nat → va_E, y = va_up f_158 a_23 (.inl (cI, 16, .inl (upd g_197 (Int32.toNatClampNeg p4) y_92))) := ⟨_, rfl⟩
                                have hP : va_P (dC, dI) vwCl (va_pl L f_199) H := by rw [ef_199]; exact hP
                                have hD : va_D (fun q => q ∈ L) (va_pl L f_199) := by rw [ef_199]; exact hD
                                have hG : GI (okc cI cL cZ cR cG cH L kd) kd L f_199 := by rw [ef_199]; exact hG.set a_23 (mk_590 ka_23 ⟨_, rfl, okI_up hbg_197 (by constructor <;> omega) _⟩)
                                have hfo_200 : f_199 o0 = .inr (12, [.ref a_1, .ref a_2, .ref a_3, .int v_4, .ref a_5, .int v_6, .int v_7, .int v_8, .int v_9, .int v_10, .int v_11, .int v_12, .int v_13, .int v_14, .int v_15, .ref a_16, .ref a_17, .ref a_18, .ref a_19, .ref a_20, .ref a_21, .ref a_22, .ref a_23, .int v_24, .int v_25, .int v_26, .int v_27, .int v_76, .ref a_29, .int v_77, .ref a_31, .ref a_32, .int v_78, .int v_34, .ref a_35, .int v_36, .ref a_37, .ref a_38, .int v_39, .int v_40, .ref a_41, .ref a_42, .ref a_43, .int v_44, .ref a_45, .ref a_46, .ref a_47, .ref a_48, .ref a_49, .ref a_50, .ref a_51, .ref a_52, .ref a_53, .int v_54, .int v_55, .ref a_56]) := by rw [ef_199, up_ne (kd_ne ka_23 ko0 (by decide))]; exact hfo_161
                                have hfo_201 : f_199 a_1 = .inl (cI, 1560, .inl g_82) := by rw [ef_199, up_ne (kd_ne ka_23 ka_1 (by decide))]; exact hfo_162
                                have hfo_202 : f_199 a_22 = .inl (cI, 16, .inl g_154) := by rw [ef_199, up_ne (kd_ne ka_23 ka_22 (by decide))]; exact hfo_163
                                have hfr0 : ∀ b, kd b ≠ 12 → kd b ≠ 579 → kd b ≠ 581 → kd b ≠ 583 → kd b ≠ 585 → kd b ≠ 587 → kd b ≠ 588 → kd b ≠ 590 → kd b ≠ 591 → kd b ≠ 592 → kd b ≠ 593 → kd b ≠ 603 → f_199 b = f b := fun b q12 q579 q581 q583 q585 q587 q588 q590 q591 q592 q593 q603 => (congrFun ef_199 b).trans ((up_ne (fun e9 => q590 (by rw [e9]; exact ka_23))).trans (hfr0 b q12 q579 q581 q583 q585 q587 q588 q590 q591 q592 q593 q603))
                                have hrA12 : ∀ b, kd b = 12 → ∀ j, fldR (f_199 b) j = fldR (f b) j := fun b kb j => (congrArg (fun x => fldR x j) ((congrFun ef_199 b).trans (up_ne (kd_ne ka_23 kb (by decide))))).trans (hrA12 b kb j)
                                have hfA12 : ∀ b, kd b = 12 → ∀ j, j ≠ 27 → j ≠ 29 → j ≠ 32 → fldI (f_199 b) j = fldI (f b) j := fun b kb j n27 n29 n32 => (congrArg (fun x => fldI x j) ((congrFun ef_199 b).trans (up_ne (kd_ne ka_23 kb (by decide))))).trans (hfA12 b kb j n27 n29 n32)
                                have hT0 : srel kd 592 f_199 o0 := by rw [ef_199]; exact hT0.keep (fun b q => congrArg (fun x => fldR x 30) (up_ne (kd_ne ka_23 q (by decide)))) (fun b q => congrArg (fun x => fldI x 32) (up_ne (kd_ne ka_23 q (by decide)))) (fun b q => congrArg (fun x => fldI x 33) (up_ne (kd_ne ka_23 q (by decide)))) (fun b q => up_ne (kd_ne ka_23 q (by decide)))
                                have hfo_203 : f_199 a_23 = .inl (cI, 16, .inl (upd g_197 (Int32.toNatClampNeg p4) y_92)) := by rw [ef_199]; exact up_self
                                exact hcut_170 f_199 hG _ _ hP hS hD hfr0 hrA12 hfA12 hfo_200 hfo_201 hfo_202 hT0 ls (lv_sub hl [0, 1, 2, 3, 4, 5, 6, 7, 8, 9, 10] rfl)
                            · skip
                              rw [← Int32.toInt_inj, ti_0] at c_164
                              refine lv_goto (tgt := 240) hx hb dX12_goes_176 (by decide) ?_
                              exact hcut_100 f_158 hG _ _ hP hS hD hfr0 hrA12 hfA12 hfo_162 hT0 v_76 (by rw [hfo_161]; rfl) v_77 (by rw [hfo_161]; rfl) (by omega) ls (lv_sub hl [0, 1, 2, 3, 4, 5, 6, 7, 8, 9, 10] rfl)
                          · skip
                            rw [← Int32.toInt_inj] at c_156
                            refine lv_goto (tgt := 240) hx hb dX12_goes_161 (by decide) ?_
                            exact hcut_100 f_75 hG _ _ hP hS hD hfr0 hrA12 hfA12 hfo_81 hT0 v_76 (by rw [hfo_79]; rfl) v_77 (by rw [hfo_79]; rfl) (by omega) ls (lv_sub hl [0, 1, 2, 3, 4, 5, 6, 7, 8, 9, 10] rfl)
                    · skip
                      rw [← Int32.toInt_inj, ti_0] at c_107
                      refine lv_iload_n hx hb dX12_goes_133 rfl (lv_at hl 7 rfl) ?_
                      refine lv_if_eq (tgt := 240) hx hb dX12_goes_134 (by decide) (fun c_204 => ?_) (fun c_204 => ?_)
                      · skip
                        rw [← Int32.toInt_inj, ti_0] at c_204
                        exact hcut_100 f_75 hG _ _ hP hS hD hfr0 hrA12 hfA12 hfo_81 hT0 v_76 (by rw [hfo_79]; rfl) v_77 (by rw [hfo_79]; rfl) (by omega) ls (lv_sub hl [0, 1, 2, 3, 4, 5, 6, 7, 8, 9, 10] rfl)
                      · skip
                        rw [← Int32.toInt_inj, ti_0] at c_204
                        refine lv_iload hx hb dX12_goes_137 (lv_at hl 2 rfl) ?_
                        refine lv_if_eq (tgt := 164) hx hb dX12_goes_139 (by decide) (fun c_205 => ?_) (fun c_205 => ?_)
                        · skip
                          rw [← Int32.toInt_inj, ti_0] at c_205
                          refine lv_aload_n hx hb dX12_goes_164 rfl (lv_at hl 5 rfl) ?_
                          refine lv_iload_n hx hb dX12_goes_165 rfl (lv_at hl 8 rfl) ?_
                          refine lv_iload hx hb dX12_goes_166 (lv_at hl 3 rfl) ?_
                          refine lv_iload hx hb dX12_goes_168 (lv_at hl 10 rfl) ?_
                          refine tk_ViP (As := [.int p3, .int x_89, .int p5]) (rest := []) (n := 3) hx hb hml hown hU hN hZ (s_X12_reads_k12 l (dC, dI) cI cL cZ cR cG cH Z kd L f_75 hG o0 mo0 ko0 p3 (by constructor <;> omega) x_89 p5) wd_950 wd_951 wd_952 wd_5 wd_953 (by decide +kernel) ⟨(show 4 + 1 ≤ 8 + (n_ + 1) by omega), (show 8 + (5 + 11) + 105 ≤ 205 + (n_ + 1) * 30 by omega)⟩ hK hP hD hS mo0 hfo_79 12 rfl rfl rfl hl.1 rfl (Nat.le_of_ble_eq_true rfl) dX12_goes_170 ⟨Nat.le_of_ble_eq_true rfl, Nat.le_of_ble_eq_true rfl⟩ (fun x_206 f_207 H locs hw hP hD hS => ?_)
                          obtain ⟨hG, bx_206, hkc_208⟩ := hw
                          have hfo_210 : f_207 o0 = .inr (12, [.ref a_1, .ref a_2, .ref a_3, .int v_4, .ref a_5, .int v_6, .int v_7, .int v_8, .int v_9, .int v_10, .int v_11, .int v_12, .int v_13, .int v_14, .int v_15, .ref a_16, .ref a_17, .ref a_18, .ref a_19, .ref a_20, .ref a_21, .ref a_22, .ref a_23, .int v_24, .int v_25, .int v_26, .int v_27, .int v_76, .ref a_29, .int v_77, .ref a_31, .ref a_32, .int v_78, .int v_34, .ref a_35, .int v_36, .ref a_37, .ref a_38, .int v_39, .int v_40, .ref a_41, .ref a_42, .ref a_43, .int v_44, .ref a_45, .ref a_46, .ref a_47, .ref a_48, .ref a_49, .ref a_50, .ref a_51, .ref a_52, .ref a_53, .int v_54, .int v_55, .ref a_56]) := by rw [hkc_208 o0 (by rw [ko0]; decide) (by rw [ko0]; decide) (by rw [ko0]; decide) (by rw [ko0]; decide) (by rw [ko0]; decide) (by rw [ko0]; decide)]; exact hfo_79
                          have hfo_211 : f_207 a_1 = .inl (cI, 1560, .inl g_82) := by rw [hkc_208 a_1 (by rw [ka_1]; decide) (by rw [ka_1]; decide) (by rw [ka_1]; decide) (by rw [ka_1]; decide) (by rw [ka_1]; decide) (by rw [ka_1]; decide)]; exact hfo_81
                          have hfr0 : ∀ b, kd b ≠ 12 → kd b ≠ 579 → kd b ≠ 581 → kd b ≠ 583 → kd b ≠ 585 → kd b ≠ 587 → kd b ≠ 588 → kd b ≠ 590 → kd b ≠ 591 → kd b ≠ 592 → kd b ≠ 593 → kd b ≠ 603 → f_207 b = f b := fun b q12 q579 q581 q583 q585 q587 q588 q590 q591 q592 q593 q603 => (hkc_208 b q579 q581 q583 q585 q587 q588).trans (hfr0 b q12 q579 q581 q583 q585 q587 q588 q590 q591 q592 q593 q603)
                          have hrA12 : ∀ b, kd b = 12 → ∀ j, fldR (f_207 b) j = fldR (f b) j := fun b kb j => (congrArg (fun x => fldR x j) (hkc_208 b (by rw [kb]; decide) (by rw [kb]; decide) (by rw [kb]; decide) (by rw [kb]; decide) (by rw [kb]; decide) (by rw [kb]; decide))).trans (hrA12 b kb j)
                          have hfA12 : ∀ b, kd b = 12 → ∀ j, j ≠ 27 → j ≠ 29 → j ≠ 32 → fldI (f_207 b) j = fldI (f b) j := fun b kb j n27 n29 n32 => (congrArg (fun x => fldI x j) (hkc_208 b (by rw [kb]; decide) (by rw [kb]; decide) (by rw [kb]; decide) (by rw [kb]; decide) (by rw [kb]; decide) (by rw [kb]; decide))).trans (hfA12 b kb j n27 n29 n32)
                          have hT0 : srel kd 592 f_207 o0 := hT0.keep (fun b q => congrArg (fun x => fldR x 30) (hkc_208 b (by rw [q]; decide) (by rw [q]; decide) (by rw [q]; decide) (by rw [q]; decide) (by rw [q]; decide) (by rw [q]; decide))) (fun b q => congrArg (fun x => fldI x 32) (hkc_208 b (by rw [q]; decide) (by rw [q]; decide) (by rw [q]; decide) (by rw [q]; decide) (by rw [q]; decide) (by rw [q]; decide))) (fun b q => congrArg (fun x => fldI x 33) (hkc_208 b (by rw [q]; decide) (by rw [q]; decide) (by rw [q]; decide) (by rw [q]; decide) (by rw [q]; decide) (by rw [q]; decide))) (fun b q => hkc_208 b (by rw [q]; decide) (by rw [q]; decide) (by rw [q]; decide) (by rw [q]; decide) (by rw [q]; decide) (by rw [q]; decide))
                          refine lv_if_ne (tgt := 179) hx hb dX12_goes_173 (by decide) (fun c_212 => ?_) (fun c_212 => ?_)
                          · skip
                            rw [← Int32.toInt_inj, ti_0] at c_212
                            refine lv_iload hx hb dX12_goes_179 (lv_at hl 1 rfl) ?_
                            have hcut_217 : ∀ (f_214 : Nat → va_E), GI (okc cI cL cZ cR cG cH L kd) kd L f_214 → ∀ (H : Heap) (locs : List Loc), va_P (dC, dI) vwCl (va_pl L f_214) H → va_S (fun q => q ∈ L) s.heap H locs → va_D (fun q => q ∈ L) (va_pl L f_214) → (∀ b, kd b ≠ 12 → kd b ≠ 579 → kd b ≠ 581 → kd b ≠ 583 → kd b ≠ 585 → kd b ≠ 587 → kd b ≠ 588 → kd b ≠ 590 → kd b ≠ 591 → kd b ≠ 592 → kd b ≠ 593 → kd b ≠ 603 → f_214 b = f b) → (∀ b, kd b = 12 → ∀ j, fldR (f_214 b) j = fldR (f b) j) → (∀ b, kd b = 12 → ∀ j, j ≠ 27 → j ≠ 29 → j ≠ 32 → fldI (f_214 b) j = fldI (f b) j) → (f_214 o0 = .inr (12, [.ref a_1, .ref a_2, .ref a_3, .int v_4, .ref a_5, .int v_6, .int v_7, .int v_8, .int v_9, .int v_10, .int v_11, .int v_12, .int v_13, .int v_14, .int v_15, .ref a_16, .ref a_17, .ref a_18, .ref a_19, .ref a_20, .ref a_21, .ref a_22, .ref a_23, .int v_24, .int v_25, .int v_26, .int v_27, .int v_76, .ref a_29, .int v_77, .ref a_31, .ref a_32, .int v_78, .int v_34, .ref a_35, .int v_36, .ref a_37, .ref a_38, .int v_39, .int v_40, .ref a_41, .ref a_42, .ref a_43, .int v_44, .ref a_45, .ref a_46, .ref a_47, .ref a_48, .ref a_49, .ref a_50, .ref a_51, .ref a_52, .ref a_53, .int v_54, .int v_55, .ref a_56])) → (f_214 a_1 = .inl (cI, 1560, .inl g_82)) → srel kd 592 f_214 o0 → ∀ (ls : Array Slot), lv_has ls 11 [(10, .int y_95), (9, .int y_92), (8, .int y_90), (7, .int x_89), (6, .int y_73), (0, .ref o0), (1, .int p1), (2, .int p2), (3, .int p3), (4, .int p4), (5, .int p5)] → W p l e (headSpec (wU yX12_goes cX12_goes 11 none) { frames := 8 + (n_ + 1), cells := 0, slots := 0, locals := 205 + (n_ + 1) * 30 }).room s m [.ref o0, .int p1, .int p2, .int p3, .int p4, .int p5].toArray below meth c H locs 0 0 (MQ below (va_Qv (fun (f9 : Nat → va_E) => GI (okc cI cL cZ cR cG cH L kd) kd L f9 ∧ (∀ b, kd b ≠ 12 → kd b ≠ 579 → kd b ≠ 581 → kd b ≠ 583 → kd b ≠ 585 → kd b ≠ 587 → kd b ≠ 588 → kd b ≠ 590 → kd b ≠ 591 → kd b ≠ 592 → kd b ≠ 593 → kd b ≠ 603 → f9 b = f b) ∧ (∀ b, kd b = 12 → ∀ j, fldR (f9 b) j = fldR (f b) j) ∧ (∀ b, kd b = 12 → ∀ j, j ≠ 27 → j ≠ 29 → j ≠ 32 → fldI (f9 b) j = fldI (f b) j) ∧ (∀ (w25 z25 : Int32) (w27 z27 : Int32) (w29 z29 : Int32), fldI (f o0) 25 = some w25 → fldI (f o0) 27 = some w27 → fldI (f o0) 29 = some w29 → fldI (f9 o0) 25 = some z25 → fldI (f9 o0) 27 = some z27 → fldI (f9 o0) 29 = some z29 → (z27.toInt = 1 ∨ z29.toInt ≤ 200) ∧ (w25.toInt ≤ 1 ∨ z29.toInt = w29.toInt)) ∧ (srel kd 592 f9 o0)) (qP (dC, dI) cI cL cZ cR cG cH L) (fun q => q ∈ L)) [.ref o0, .int p1, .int p2, .int p3, .int p4, .int p5].toArray s 0 0 (fun q => q ∈ L)) (F0 m 193 ls []) := by
                              intro f_214 hG H locs hP hS hD hfr0 hrA12 hfA12 hfo_215 hfo_216 hT0 ls hl
                              refine lv_aload_n hx hb dX12_goes_193 rfl (lv_at hl 5 rfl) ?_
                              refine lv_iload hx hb dX12_goes_194 (lv_at hl 2 rfl) ?_
                              refine lv_if_ne (tgt := 203) hx hb dX12_goes_196 (by decide) (fun c_218 => ?_) (fun c_218 => ?_)
                              · skip
                                rw [← Int32.toInt_inj, ti_0] at c_218
                                exfalso
                                omega
                              · skip
                                rw [← Int32.toInt_inj, ti_0] at c_218
                                refine lv_iload_n hx hb dX12_goes_199 rfl (lv_at hl 6 rfl) ?_
                                refine lv_goto (tgt := 206) hx hb dX12_goes_200 (by decide) ?_
                                refine lv_iload hx hb dX12_goes_206 (lv_at hl 0 rfl) ?_
                                refine lv_if_eq (tgt := 217) hx hb dX12_goes_208 (by decide) (fun c_219 => ?_) (fun c_219 => ?_)
                                · skip
                                  rw [← Int32.toInt_inj, ti_0] at c_219
                                  exfalso
                                  omega
                                · skip
                                  rw [← Int32.toInt_inj, ti_0] at c_219
                                  refine lv_iload_n hx hb dX12_goes_211 rfl (lv_at hl 7 rfl) ?_
                                  refine lv_iconst (v := 1) hx hb dX12_goes_212 (by decide) ?_
                                  refine lv_isub hx hb dX12_goes_213 ?_
                                  refine lv_topi (fun x_220 ex_220 => ?_)
                                  have hx_220 : x_220.toInt = p2.toInt - 1 := by rw [ex_220, sb_I (by rw [ti_1]; omega) (by rw [ti_1]; omega), ti_1]
                                  have bx_220 : (0 ≤ x_220.toInt ∧ x_220.toInt ≤ 0) := by constructor <;> omega
                                  refine lv_goto (tgt := 218) hx hb dX12_goes_214 (by decide) ?_
                                  refine lv_iload_n hx hb dX12_goes_218 rfl (lv_at hl 8 rfl) ?_
                                  refine lv_iconst (v := 1) hx hb dX12_goes_219 (by decide) ?_
                                  refine lv_iadd hx hb dX12_goes_220 ?_
                                  refine lv_topi (fun x_221 ex_221 => ?_)
                                  have hx_221 : x_221.toInt = p3.toInt + 1 := by rw [ex_221, ad_I (by rw [ti_1]; omega) (by rw [ti_1]; omega), ti_1]
                                  have bx_221 : (1 ≤ x_221.toInt ∧ x_221.toInt ≤ 14) := by constructor <;> omega
                                  have hclc_222 : (1 ≤ x_221.toInt ∧ x_221.toInt ≤ 13) := by constructor <;> omega
                                  refine lv_iload hx hb dX12_goes_221 (lv_at hl 1 rfl) ?_
                                  have hcut_224 : ∀ (y_223 : Int32), (0 ≤ y_223.toInt ∧ y_223.toInt ≤ 13) → ((y_92.toInt = 0 ∧ y_223.toInt = p4.toInt) ∨ (y_92.toInt ≠ 0 ∧ y_223.toInt = p4.toInt + 1)) → ∀ (ls : Array Slot), lv_has ls 11 [(10, .int y_95), (9, .int y_92), (8, .int y_90), (7, .int x_89), (6, .int y_73), (0, .ref o0), (1, .int p1), (2, .int p2), (3, .int p3), (4, .int p4), (5, .int p5)] → W p l e (headSpec (wU yX12_goes cX12_goes 11 none) { frames := 8 + (n_ + 1), cells := 0, slots := 0, locals := 205 + (n_ + 1) * 30 }).room s m [.ref o0, .int p1, .int p2, .int p3, .int p4, .int p5].toArray below meth c H locs 0 0 (MQ below (va_Qv (fun (f9 : Nat → va_E) => GI (okc cI cL cZ cR cG cH L kd) kd L f9 ∧ (∀ b, kd b ≠ 12 → kd b ≠ 579 → kd b ≠ 581 → kd b ≠ 583 → kd b ≠ 585 → kd b ≠ 587 → kd b ≠ 588 → kd b ≠ 590 → kd b ≠ 591 → kd b ≠ 592 → kd b ≠ 593 → kd b ≠ 603 → f9 b = f b) ∧ (∀ b, kd b = 12 → ∀ j, fldR (f9 b) j = fldR (f b) j) ∧ (∀ b, kd b = 12 → ∀ j, j ≠ 27 → j ≠ 29 → j ≠ 32 → fldI (f9 b) j = fldI (f b) j) ∧ (∀ (w25 z25 : Int32) (w27 z27 : Int32) (w29 z29 : Int32), fldI (f o0) 25 = some w25 → fldI (f o0) 27 = some w27 → fldI (f o0) 29 = some w29 → fldI (f9 o0) 25 = some z25 → fldI (f9 o0) 27 = some z27 → fldI (f9 o0) 29 = some z29 → (z27.toInt = 1 ∨ z29.toInt ≤ 200) ∧ (w25.toInt ≤ 1 ∨ z29.toInt = w29.toInt)) ∧ (srel kd 592 f9 o0)) (qP (dC, dI) cI cL cZ cR cG cH L) (fun q => q ∈ L)) [.ref o0, .int p1, .int p2, .int p3, .int p4, .int p5].toArray s 0 0 (fun q => q ∈ L)) (F0 m 235 ls [.int y_223, .int x_221, .int x_220, .int p1, .ref o0]) := by
                                    intro y_223 by_223 hjhcut_224_0 ls hl
                                    refine lv_iload hx hb dX12_goes_235 (lv_at hl 10 rfl) ?_
                                    refine tk_VvP (As := [.int p1, .int x_220, .int x_221, .int y_223, .int p5]) (rest := []) (n := 5) hx hb hml hown hU hN hZ (ih_rec f_214 hG o0 mo0 ko0 p1 (by constructor <;> omega) x_220 (by constructor <;> omega) x_221 (by constructor <;> omega) y_223 (by constructor <;> omega) p5 (by intro w23 w25 w27 w29 e23 e25 e27 e29; rw [hfo_215] at e23 e25 e27 e29; obtain rfl := Option.some.inj e23; obtain rfl := Option.some.inj e25; obtain rfl := Option.some.inj e27; obtain rfl := Option.some.inj e29; omega) (by omega) hT0 (by omega)) wd_886 wd_887 wd_888 wd_5 wd_889 (by decide +kernel) ⟨(show (8 + n_) + 1 ≤ 8 + (n_ + 1) by omega), (show 8 + (11 + 11) + (205 + n_ * 30) ≤ 205 + (n_ + 1) * 30 by omega)⟩ hK hP hD hS mo0 hfo_215 12 rfl rfl rfl hl.1 rfl (Nat.le_of_ble_eq_true rfl) dX12_goes_237 ⟨Nat.le_of_ble_eq_true rfl, Nat.le_of_ble_eq_true rfl⟩ (fun f_226 H locs hw hP hD hS => ?_)
                                    obtain ⟨hG, hkc_227, hra_228, hfa_229, hpost_230, hTc_231⟩ := hw
                                    have hfo_233 : f_226 a_1 = .inl (cI, 1560, .inl g_82) := by rw [hkc_227 a_1 (by rw [ka_1]; decide) (by rw [ka_1]; decide) (by rw [ka_1]; decide) (by rw [ka_1]; decide) (by rw [ka_1]; decide) (by rw [ka_1]; decide) (by rw [ka_1]; decide) (by rw [ka_1]; decide) (by rw [ka_1]; decide) (by rw [ka_1]; decide) (by rw [ka_1]; decide) (by rw [ka_1]; decide)]; exact hfo_216
                                    have hfr0 : ∀ b, kd b ≠ 12 → kd b ≠ 579 → kd b ≠ 581 → kd b ≠ 583 → kd b ≠ 585 → kd b ≠ 587 → kd b ≠ 588 → kd b ≠ 590 → kd b ≠ 591 → kd b ≠ 592 → kd b ≠ 593 → kd b ≠ 603 → f_226 b = f b := fun b q12 q579 q581 q583 q585 q587 q588 q590 q591 q592 q593 q603 => (hkc_227 b q12 q579 q581 q583 q585 q587 q588 q590 q591 q592 q593 q603).trans (hfr0 b q12 q579 q581 q583 q585 q587 q588 q590 q591 q592 q593 q603)
                                    have hrA12 : ∀ b, kd b = 12 → ∀ j, fldR (f_226 b) j = fldR (f b) j := fun b kb j => (hra_228 b kb j).trans (hrA12 b kb j)
                                    have hfA12 : ∀ b, kd b = 12 → ∀ j, j ≠ 27 → j ≠ 29 → j ≠ 32 → fldI (f_226 b) j = fldI (f b) j := fun b kb j n27 n29 n32 => (hfa_229 b kb j n27 n29 n32).trans (hfA12 b kb j n27 n29 n32)
                                    obtain ⟨v_234, v_235, v_236, hfo_237, fa_238⟩ := op12_27_29_32 hfo_215 (hG _ mo0) ko0 (hra_228 o0 ko0) (hfa_229 o0 ko0)
                                    have bv_234 : (0 ≤ v_234.toInt ∧ v_234.toInt ≤ 1) := fa12_27 fa_238
                                    have bv_235 : (0 ≤ v_235.toInt ∧ v_235.toInt ≤ 201) := fa12_29 fa_238
                                    have bv_236 : (0 ≤ v_236.toInt ∧ v_236.toInt ≤ 6561) := fa12_32 fa_238
                                    have hqhpost_230 := hpost_230 v_26 v_26 v_76 v_234 v_77 v_235 (by rw [hfo_215]; rfl) (by rw [hfo_215]; rfl) (by rw [hfo_215]; rfl) (by rw [hfo_237]; rfl) (by rw [hfo_237]; rfl) (by rw [hfo_237]; rfl)
                                    exact hcut_100 f_226 hG _ _ hP hS hD hfr0 hrA12 hfA12 hfo_233 hTc_231 v_234 (by rw [hfo_237]; rfl) v_235 (by rw [hfo_237]; rfl) (by omega) ls (lv_sub hl [0, 1, 2, 3, 4, 5, 6, 7, 8, 9, 10] rfl)
                                  refine lv_if_ne (tgt := 231) hx hb dX12_goes_223 (by decide) (fun c_239 => ?_) (fun c_239 => ?_)
                                  · skip
                                    rw [← Int32.toInt_inj, ti_0] at c_239
                                    refine lv_iload hx hb dX12_goes_231 (lv_at hl 9 rfl) ?_
                                    refine lv_iconst (v := 1) hx hb dX12_goes_233 (by decide) ?_
                                    refine lv_iadd hx hb dX12_goes_234 ?_
                                    refine lv_topi (fun x_240 ex_240 => ?_)
                                    have hx_240 : x_240.toInt = p4.toInt + 1 := by rw [ex_240, ad_I (by rw [ti_1]; omega) (by rw [ti_1]; omega), ti_1]
                                    have bx_240 : (1 ≤ x_240.toInt ∧ x_240.toInt ≤ 14) := by constructor <;> omega
                                    exact hcut_224 x_240 (by constructor <;> omega) (by omega) ls (lv_sub hl [0, 1, 2, 3, 4, 5, 6, 7, 8, 9, 10] rfl)
                                  · skip
                                    rw [← Int32.toInt_inj, ti_0] at c_239
                                    refine lv_iload hx hb dX12_goes_226 (lv_at hl 9 rfl) ?_
                                    refine lv_goto (tgt := 235) hx hb dX12_goes_228 (by decide) ?_
                                    exact hcut_224 p4 (by constructor <;> omega) (by omega) ls (lv_sub hl [0, 1, 2, 3, 4, 5, 6, 7, 8, 9, 10] rfl)
                            refine lv_if_eq (tgt := 193) hx hb dX12_goes_181 (by decide) (fun c_241 => ?_) (fun c_241 => ?_)
                            · skip
                              rw [← Int32.toInt_inj, ti_0] at c_241
                              exact hcut_217 f_207 hG _ _ hP hS hD hfr0 hrA12 hfA12 hfo_210 hfo_211 hT0 ls (lv_sub hl [0, 1, 2, 3, 4, 5, 6, 7, 8, 9, 10] rfl)
                            · skip
                              rw [← Int32.toInt_inj, ti_0] at c_241
                              refine lv_aload_n hx hb dX12_goes_184 rfl (lv_at hl 5 rfl) ?_
                              refine tk_getP (D := (dC, dI)) (ci := 12) (v := .ref a_23) (C := RX12) (T := TX12) (N := 56) hx hb hU inlX12 hown hK hP mo0 hfo_210 rfl 22 (by decide) (hU _ wd_182) (fun _ h9 => h9) rfl dX12_goes_185 ?_
                              refine lv_iload hx hb dX12_goes_188 (lv_at hl 9 rfl) ?_
                              refine lv_iload hx hb dX12_goes_190 (lv_at hl 1 rfl) ?_
                              obtain ⟨g_243, hfo_242, hbg_243⟩ := un_590 (hG _ ma_23) ka_23
                              refine tk_istP hx hb hK hP hD hS 0 ma_23 hfo_242 rfl (vp_in_iff.mpr (by constructor <;> omega)) dX12_goes_192 (fun H locs hP hD hS => ?_)
                              obtain ⟨f_245, ef_245⟩ : ∃ y : Nat → va_E, y = va_up f_207 a_23 (.inl (cI, 16, .inl (upd g_243 (Int32.toNatClampNeg p4) y_92))) := ⟨_, rfl⟩
                              have hP : va_P (dC, dI) vwCl (va_pl L f_245) H := by rw [ef_245]; exact hP
                              have hD : va_D (fun q => q ∈ L) (va_pl L f_245) := by rw [ef_245]; exact hD
                              have hG : GI (okc cI cL cZ cR cG cH L kd) kd L f_245 := by rw [ef_245]; exact hG.set a_23 (mk_590 ka_23 ⟨_, rfl, okI_up hbg_243 (by constructor <;> omega) _⟩)
                              have hfo_246 : f_245 o0 = .inr (12, [.ref a_1, .ref a_2, .ref a_3, .int v_4, .ref a_5, .int v_6, .int v_7, .int v_8, .int v_9, .int v_10, .int v_11, .int v_12, .int v_13, .int v_14, .int v_15, .ref a_16, .ref a_17, .ref a_18, .ref a_19, .ref a_20, .ref a_21, .ref a_22, .ref a_23, .int v_24, .int v_25, .int v_26, .int v_27, .int v_76, .ref a_29, .int v_77, .ref a_31, .ref a_32, .int v_78, .int v_34, .ref a_35, .int v_36, .ref a_37, .ref a_38, .int v_39, .int v_40, .ref a_41, .ref a_42, .ref a_43, .int v_44, .ref a_45, .ref a_46, .ref a_47, .ref a_48, .ref a_49, .ref a_50, .ref a_51, .ref a_52, .ref a_53, .int v_54, .int v_55, .ref a_56]) := by rw [ef_245, up_ne (kd_ne ka_23 ko0 (by decide))]; exact hfo_210
                              have hfo_247 : f_245 a_1 = .inl (cI, 1560, .inl g_82) := by rw [ef_245, up_ne (kd_ne ka_23 ka_1 (by decide))]; exact hfo_211
                              have hfr0 : ∀ b, kd b ≠ 12 → kd b ≠ 579 → kd b ≠ 581 → kd b ≠ 583 → kd b ≠ 585 → kd b ≠ 587 → kd b ≠ 588 → kd b ≠ 590 → kd b ≠ 591 → kd b ≠ 592 → kd b ≠ 593 → kd b ≠ 603 → f_245 b = f b := fun b q12 q579 q581 q583 q585 q587 q588 q590 q591 q592 q593 q603 => (congrFun ef_245 b).trans ((up_ne (fun e9 => q590 (by rw [e9]; exact ka_23))).trans (hfr0 b q12 q579 q581 q583 q585 q587 q588 q590 q591 q592 q593 q603))
                              have hrA12 : ∀ b, kd b = 12 → ∀ j, fldR (f_245 b) j = fldR (f b) j := fun b kb j => (congrArg (fun x => fldR x j) ((congrFun ef_245 b).trans (up_ne (kd_ne ka_23 kb (by decide))))).trans (hrA12 b kb j)
                              have hfA12 : ∀ b, kd b = 12 → ∀ j, j ≠ 27 → j ≠ 29 → j ≠ 32 → fldI (f_245 b) j = fldI (f b) j := fun b kb j n27 n29 n32 => (congrArg (fun x => fldI x j) ((congrFun ef_245 b).trans (up_ne (kd_ne ka_23 kb (by decide))))).trans (hfA12 b kb j n27 n29 n32)
                              have hT0 : srel kd 592 f_245 o0 := by rw [ef_245]; exact hT0.keep (fun b q => congrArg (fun x => fldR x 30) (up_ne (kd_ne ka_23 q (by decide)))) (fun b q => congrArg (fun x => fldI x 32) (up_ne (kd_ne ka_23 q (by decide)))) (fun b q => congrArg (fun x => fldI x 33) (up_ne (kd_ne ka_23 q (by decide)))) (fun b q => up_ne (kd_ne ka_23 q (by decide)))
                              have hfo_248 : f_245 a_23 = .inl (cI, 16, .inl (upd g_243 (Int32.toNatClampNeg p4) y_92)) := by rw [ef_245]; exact up_self
                              exact hcut_217 f_245 hG _ _ hP hS hD hfr0 hrA12 hfA12 hfo_246 hfo_247 hT0 ls (lv_sub hl [0, 1, 2, 3, 4, 5, 6, 7, 8, 9, 10] rfl)
                          · skip
                            rw [← Int32.toInt_inj, ti_0] at c_212
                            refine lv_goto (tgt := 240) hx hb dX12_goes_176 (by decide) ?_
                            exact hcut_100 f_207 hG _ _ hP hS hD hfr0 hrA12 hfA12 hfo_211 hT0 v_76 (by rw [hfo_210]; rfl) v_77 (by rw [hfo_210]; rfl) (by omega) ls (lv_sub hl [0, 1, 2, 3, 4, 5, 6, 7, 8, 9, 10] rfl)
                        · skip
                          rw [← Int32.toInt_inj, ti_0] at c_205
                          refine lv_iload_n hx hb dX12_goes_142 rfl (lv_at hl 6 rfl) ?_
                          refine lv_aload_n hx hb dX12_goes_143 rfl (lv_at hl 5 rfl) ?_
                          refine tk_getP (D := (dC, dI)) (ci := 12) (v := .int v_24) (C := RX12) (T := TX12) (N := 56) hx hb hU inlX12 hown hK hP mo0 hfo_79 rfl 23 (by decide) (hU _ wd_867) (fun _ h9 => h9) rfl dX12_goes_144 ?_
                          refine lv_icmp_eq (tgt := 240) hx hb dX12_goes_147 (by decide) (fun c_249 => ?_) (fun c_249 => ?_)
                          · skip
                            rw [← Int32.toInt_inj] at c_249
                            exact hcut_100 f_75 hG _ _ hP hS hD hfr0 hrA12 hfA12 hfo_81 hT0 v_76 (by rw [hfo_79]; rfl) v_77 (by rw [hfo_79]; rfl) (by omega) ls (lv_sub hl [0, 1, 2, 3, 4, 5, 6, 7, 8, 9, 10] rfl)
                          · skip
                            rw [← Int32.toInt_inj] at c_249
                            have hclc_250 : (0 ≤ p1.toInt ∧ p1.toInt ≤ 11) := by constructor <;> omega
                            refine lv_aload_n hx hb dX12_goes_150 rfl (lv_at hl 5 rfl) ?_
                            refine tk_getP (D := (dC, dI)) (ci := 12) (v := .ref a_22) (C := RX12) (T := TX12) (N := 56) hx hb hU inlX12 hown hK hP mo0 hfo_79 rfl 21 (by decide) (hU _ wd_181) (fun _ h9 => h9) rfl dX12_goes_151 ?_
                            refine lv_iload_n hx hb dX12_goes_154 rfl (lv_at hl 6 rfl) ?_
                            obtain ⟨g_252, hfo_251, hbg_252⟩ := un_589 (hG _ ma_22) ka_22
                            refine tk_ildP hx hb hK hP 0 ma_22 hfo_251 rfl (vp_in_iff.mpr (by constructor <;> omega)) dX12_goes_155 ?_
                            refine lv_topi (fun x_253 ex_253 => ?_)
                            have bx_253 : (0 ≤ x_253.toInt ∧ x_253.toInt ≤ 8) := by rw [ex_253]; exact hbg_252 _
                            refine lv_iload hx hb dX12_goes_156 (lv_at hl 2 rfl) ?_
                            refine lv_icmp_eq (tgt := 164) hx hb dX12_goes_158 (by decide) (fun c_254 => ?_) (fun c_254 => ?_)
                            · skip
                              rw [← Int32.toInt_inj] at c_254
                              refine lv_aload_n hx hb dX12_goes_164 rfl (lv_at hl 5 rfl) ?_
                              refine lv_iload_n hx hb dX12_goes_165 rfl (lv_at hl 8 rfl) ?_
                              refine lv_iload hx hb dX12_goes_166 (lv_at hl 3 rfl) ?_
                              refine lv_iload hx hb dX12_goes_168 (lv_at hl 10 rfl) ?_
                              refine tk_ViP (As := [.int p3, .int x_89, .int p5]) (rest := []) (n := 3) hx hb hml hown hU hN hZ (s_X12_reads_k12 l (dC, dI) cI cL cZ cR cG cH Z kd L f_75 hG o0 mo0 ko0 p3 (by constructor <;> omega) x_89 p5) wd_950 wd_951 wd_952 wd_5 wd_953 (by decide +kernel) ⟨(show 4 + 1 ≤ 8 + (n_ + 1) by omega), (show 8 + (5 + 11) + 105 ≤ 205 + (n_ + 1) * 30 by omega)⟩ hK hP hD hS mo0 hfo_79 12 rfl rfl rfl hl.1 rfl (Nat.le_of_ble_eq_true rfl) dX12_goes_170 ⟨Nat.le_of_ble_eq_true rfl, Nat.le_of_ble_eq_true rfl⟩ (fun x_255 f_256 H locs hw hP hD hS => ?_)
                              obtain ⟨hG, bx_255, hkc_257⟩ := hw
                              have hfo_259 : f_256 o0 = .inr (12, [.ref a_1, .ref a_2, .ref a_3, .int v_4, .ref a_5, .int v_6, .int v_7, .int v_8, .int v_9, .int v_10, .int v_11, .int v_12, .int v_13, .int v_14, .int v_15, .ref a_16, .ref a_17, .ref a_18, .ref a_19, .ref a_20, .ref a_21, .ref a_22, .ref a_23, .int v_24, .int v_25, .int v_26, .int v_27, .int v_76, .ref a_29, .int v_77, .ref a_31, .ref a_32, .int v_78, .int v_34, .ref a_35, .int v_36, .ref a_37, .ref a_38, .int v_39, .int v_40, .ref a_41, .ref a_42, .ref a_43, .int v_44, .ref a_45, .ref a_46, .ref a_47, .ref a_48, .ref a_49, .ref a_50, .ref a_51, .ref a_52, .ref a_53, .int v_54, .int v_55, .ref a_56]) := by rw [hkc_257 o0 (by rw [ko0]; decide) (by rw [ko0]; decide) (by rw [ko0]; decide) (by rw [ko0]; decide) (by rw [ko0]; decide) (by rw [ko0]; decide)]; exact hfo_79
                              have hfo_260 : f_256 a_1 = .inl (cI, 1560, .inl g_82) := by rw [hkc_257 a_1 (by rw [ka_1]; decide) (by rw [ka_1]; decide) (by rw [ka_1]; decide) (by rw [ka_1]; decide) (by rw [ka_1]; decide) (by rw [ka_1]; decide)]; exact hfo_81
                              have hfo_261 : f_256 a_22 = .inl (cI, 16, .inl g_252) := by rw [hkc_257 a_22 (by rw [ka_22]; decide) (by rw [ka_22]; decide) (by rw [ka_22]; decide) (by rw [ka_22]; decide) (by rw [ka_22]; decide) (by rw [ka_22]; decide)]; exact hfo_251
                              have hfr0 : ∀ b, kd b ≠ 12 → kd b ≠ 579 → kd b ≠ 581 → kd b ≠ 583 → kd b ≠ 585 → kd b ≠ 587 → kd b ≠ 588 → kd b ≠ 590 → kd b ≠ 591 → kd b ≠ 592 → kd b ≠ 593 → kd b ≠ 603 → f_256 b = f b := fun b q12 q579 q581 q583 q585 q587 q588 q590 q591 q592 q593 q603 => (hkc_257 b q579 q581 q583 q585 q587 q588).trans (hfr0 b q12 q579 q581 q583 q585 q587 q588 q590 q591 q592 q593 q603)
                              have hrA12 : ∀ b, kd b = 12 → ∀ j, fldR (f_256 b) j = fldR (f b) j := fun b kb j => (congrArg (fun x => fldR x j) (hkc_257 b (by rw [kb]; decide) (by rw [kb]; decide) (by rw [kb]; decide) (by rw [kb]; decide) (by rw [kb]; decide) (by rw [kb]; decide))).trans (hrA12 b kb j)
                              have hfA12 : ∀ b, kd b = 12 → ∀ j, j ≠ 27 → j ≠ 29 → j ≠ 32 → fldI (f_256 b) j = fldI (f b) j := fun b kb j n27 n29 n32 => (congrArg (fun x => fldI x j) (hkc_257 b (by rw [kb]; decide) (by rw [kb]; decide) (by rw [kb]; decide) (by rw [kb]; decide) (by rw [kb]; decide) (by rw [kb]; decide))).trans (hfA12 b kb j n27 n29 n32)
                              have hT0 : srel kd 592 f_256 o0 := hT0.keep (fun b q => congrArg (fun x => fldR x 30) (hkc_257 b (by rw [q]; decide) (by rw [q]; decide) (by rw [q]; decide) (by rw [q]; decide) (by rw [q]; decide) (by rw [q]; decide))) (fun b q => congrArg (fun x => fldI x 32) (hkc_257 b (by rw [q]; decide) (by rw [q]; decide) (by rw [q]; decide) (by rw [q]; decide) (by rw [q]; decide) (by rw [q]; decide))) (fun b q => congrArg (fun x => fldI x 33) (hkc_257 b (by rw [q]; decide) (by rw [q]; decide) (by rw [q]; decide) (by rw [q]; decide) (by rw [q]; decide) (by rw [q]; decide))) (fun b q => hkc_257 b (by rw [q]; decide) (by rw [q]; decide) (by rw [q]; decide) (by rw [q]; decide) (by rw [q]; decide) (by rw [q]; decide))
                              refine lv_if_ne (tgt := 179) hx hb dX12_goes_173 (by decide) (fun c_262 => ?_) (fun c_262 => ?_)
                              · skip
                                rw [← Int32.toInt_inj, ti_0] at c_262
                                refine lv_iload hx hb dX12_goes_179 (lv_at hl 1 rfl) ?_
                                have hcut_268 : ∀ (f_264 : Nat → va_E), GI (okc cI cL cZ cR cG cH L kd) kd L f_264 → ∀ (H : Heap) (locs : List Loc), va_P (dC, dI) vwCl (va_pl L f_264) H → va_S (fun q => q ∈ L) s.heap H locs → va_D (fun q => q ∈ L) (va_pl L f_264) → (∀ b, kd b ≠ 12 → kd b ≠ 579 → kd b ≠ 581 → kd b ≠ 583 → kd b ≠ 585 → kd b ≠ 587 → kd b ≠ 588 → kd b ≠ 590 → kd b ≠ 591 → kd b ≠ 592 → kd b ≠ 593 → kd b ≠ 603 → f_264 b = f b) → (∀ b, kd b = 12 → ∀ j, fldR (f_264 b) j = fldR (f b) j) → (∀ b, kd b = 12 → ∀ j, j ≠ 27 → j ≠ 29 → j ≠ 32 → fldI (f_264 b) j = fldI (f b) j) → (f_264 o0 = .inr (12, [.ref a_1, .ref a_2, .ref a_3, .int v_4, .ref a_5, .int v_6, .int v_7, .int v_8, .int v_9, .int v_10, .int v_11, .int v_12, .int v_13, .int v_14, .int v_15, .ref a_16, .ref a_17, .ref a_18, .ref a_19, .ref a_20, .ref a_21, .ref a_22, .ref a_23, .int v_24, .int v_25, .int v_26, .int v_27, .int v_76, .ref a_29, .int v_77, .ref a_31, .ref a_32, .int v_78, .int v_34, .ref a_35, .int v_36, .ref a_37, .ref a_38, .int v_39, .int v_40, .ref a_41, .ref a_42, .ref a_43, .int v_44, .ref a_45, .ref a_46, .ref a_47, .ref a_48, .ref a_49, .ref a_50, .ref a_51, .ref a_52, .ref a_53, .int v_54, .int v_55, .ref a_56])) → (f_264 a_1 = .inl (cI, 1560, .inl g_82)) → (f_264 a_22 = .inl (cI, 16, .inl g_252)) → srel kd 592 f_264 o0 → ∀ (ls : Array Slot), lv_has ls 11 [(10, .int y_95), (9, .int y_92), (8, .int y_90), (7, .int x_89), (6, .int y_73), (0, .ref o0), (1, .int p1), (2, .int p2), (3, .int p3), (4, .int p4), (5, .int p5)] → W p l e (headSpec (wU yX12_goes cX12_goes 11 none) { frames := 8 + (n_ + 1), cells := 0, slots := 0, locals := 205 + (n_ + 1) * 30 }).room s m [.ref o0, .int p1, .int p2, .int p3, .int p4, .int p5].toArray below meth c H locs 0 0 (MQ below (va_Qv (fun (f9 : Nat → va_E) => GI (okc cI cL cZ cR cG cH L kd) kd L f9 ∧ (∀ b, kd b ≠ 12 → kd b ≠ 579 → kd b ≠ 581 → kd b ≠ 583 → kd b ≠ 585 → kd b ≠ 587 → kd b ≠ 588 → kd b ≠ 590 → kd b ≠ 591 → kd b ≠ 592 → kd b ≠ 593 → kd b ≠ 603 → f9 b = f b) ∧ (∀ b, kd b = 12 → ∀ j, fldR (f9 b) j = fldR (f b) j) ∧ (∀ b, kd b = 12 → ∀ j, j ≠ 27 → j ≠ 29 → j ≠ 32 → fldI (f9 b) j = fldI (f b) j) ∧ (∀ (w25 z25 : Int32) (w27 z27 : Int32) (w29 z29 : Int32), fldI (f o0) 25 = some w25 → fldI (f o0) 27 = some w27 → fldI (f o0) 29 = some w29 → fldI (f9 o0) 25 = some z25 → fldI (f9 o0) 27 = some z27 → fldI (f9 o0) 29 = some z29 → (z27.toInt = 1 ∨ z29.toInt ≤ 200) ∧ (w25.toInt ≤ 1 ∨ z29.toInt = w29.toInt)) ∧ (srel kd 592 f9 o0)) (qP (dC, dI) cI cL cZ cR cG cH L) (fun q => q ∈ L)) [.ref o0, .int p1, .int p2, .int p3, .int p4, .int p5].toArray s 0 0 (fun q => q ∈ L)) (F0 m 193 ls []) := by
                                  intro f_264 hG H locs hP hS hD hfr0 hrA12 hfA12 hfo_265 hfo_266 hfo_267 hT0 ls hl
                                  refine lv_aload_n hx hb dX12_goes_193 rfl (lv_at hl 5 rfl) ?_
                                  refine lv_iload hx hb dX12_goes_194 (lv_at hl 2 rfl) ?_
                                  refine lv_if_ne (tgt := 203) hx hb dX12_goes_196 (by decide) (fun c_269 => ?_) (fun c_269 => ?_)
                                  · skip
                                    rw [← Int32.toInt_inj, ti_0] at c_269
                                    refine lv_iload_n hx hb dX12_goes_203 rfl (lv_at hl 6 rfl) ?_
                                    refine lv_iconst (v := 1) hx hb dX12_goes_204 (by decide) ?_
                                    refine lv_iadd hx hb dX12_goes_205 ?_
                                    refine lv_topi (fun x_270 ex_270 => ?_)
                                    have hx_270 : x_270.toInt = p1.toInt + 1 := by rw [ex_270, ad_I (by rw [ti_1]; omega) (by rw [ti_1]; omega), ti_1]
                                    have bx_270 : (1 ≤ x_270.toInt ∧ x_270.toInt ≤ 12) := by constructor <;> omega
                                    refine lv_iload hx hb dX12_goes_206 (lv_at hl 0 rfl) ?_
                                    refine lv_if_eq (tgt := 217) hx hb dX12_goes_208 (by decide) (fun c_271 => ?_) (fun c_271 => ?_)
                                    · skip
                                      rw [← Int32.toInt_inj, ti_0] at c_271
                                      exfalso
                                      omega
                                    · skip
                                      rw [← Int32.toInt_inj, ti_0] at c_271
                                      refine lv_iload_n hx hb dX12_goes_211 rfl (lv_at hl 7 rfl) ?_
                                      refine lv_iconst (v := 1) hx hb dX12_goes_212 (by decide) ?_
                                      refine lv_isub hx hb dX12_goes_213 ?_
                                      refine lv_topi (fun x_272 ex_272 => ?_)
                                      have hx_272 : x_272.toInt = p2.toInt - 1 := by rw [ex_272, sb_I (by rw [ti_1]; omega) (by rw [ti_1]; omega), ti_1]
                                      have bx_272 : (0 ≤ x_272.toInt ∧ x_272.toInt ≤ 0) := by constructor <;> omega
                                      refine lv_goto (tgt := 218) hx hb dX12_goes_214 (by decide) ?_
                                      refine lv_iload_n hx hb dX12_goes_218 rfl (lv_at hl 8 rfl) ?_
                                      refine lv_iconst (v := 1) hx hb dX12_goes_219 (by decide) ?_
                                      refine lv_iadd hx hb dX12_goes_220 ?_
                                      refine lv_topi (fun x_273 ex_273 => ?_)
                                      have hx_273 : x_273.toInt = p3.toInt + 1 := by rw [ex_273, ad_I (by rw [ti_1]; omega) (by rw [ti_1]; omega), ti_1]
                                      have bx_273 : (1 ≤ x_273.toInt ∧ x_273.toInt ≤ 14) := by constructor <;> omega
                                      have hclc_274 : (1 ≤ x_273.toInt ∧ x_273.toInt ≤ 13) := by constructor <;> omega
                                      refine lv_iload hx hb dX12_goes_221 (lv_at hl 1 rfl) ?_
                                      have hcut_276 : ∀ (y_275 : Int32), (0 ≤ y_275.toInt ∧ y_275.toInt ≤ 13) → ((y_92.toInt = 0 ∧ y_275.toInt = p4.toInt) ∨ (y_92.toInt ≠ 0 ∧ y_275.toInt = p4.toInt + 1)) → ∀ (ls : Array Slot), lv_has ls 11 [(10, .int y_95), (9, .int y_92), (8, .int y_90), (7, .int x_89), (6, .int y_73), (0, .ref o0), (1, .int p1), (2, .int p2), (3, .int p3), (4, .int p4), (5, .int p5)] → W p l e (headSpec (wU yX12_goes cX12_goes 11 none) { frames := 8 + (n_ + 1), cells := 0, slots := 0, locals := 205 + (n_ + 1) * 30 }).room s m [.ref o0, .int p1, .int p2, .int p3, .int p4, .int p5].toArray below meth c H locs 0 0 (MQ below (va_Qv (fun (f9 : Nat → va_E) => GI (okc cI cL cZ cR cG cH L kd) kd L f9 ∧ (∀ b, kd b ≠ 12 → kd b ≠ 579 → kd b ≠ 581 → kd b ≠ 583 → kd b ≠ 585 → kd b ≠ 587 → kd b ≠ 588 → kd b ≠ 590 → kd b ≠ 591 → kd b ≠ 592 → kd b ≠ 593 → kd b ≠ 603 → f9 b = f b) ∧ (∀ b, kd b = 12 → ∀ j, fldR (f9 b) j = fldR (f b) j) ∧ (∀ b, kd b = 12 → ∀ j, j ≠ 27 → j ≠ 29 → j ≠ 32 → fldI (f9 b) j = fldI (f b) j) ∧ (∀ (w25 z25 : Int32) (w27 z27 : Int32) (w29 z29 : Int32), fldI (f o0) 25 = some w25 → fldI (f o0) 27 = some w27 → fldI (f o0) 29 = some w29 → fldI (f9 o0) 25 = some z25 → fldI (f9 o0) 27 = some z27 → fldI (f9 o0) 29 = some z29 → (z27.toInt = 1 ∨ z29.toInt ≤ 200) ∧ (w25.toInt ≤ 1 ∨ z29.toInt = w29.toInt)) ∧ (srel kd 592 f9 o0)) (qP (dC, dI) cI cL cZ cR cG cH L) (fun q => q ∈ L)) [.ref o0, .int p1, .int p2, .int p3, .int p4, .int p5].toArray s 0 0 (fun q => q ∈ L)) (F0 m 235 ls [.int y_275, .int x_273, .int x_272, .int x_270, .ref o0]) := by
                                        intro y_275 by_275 hjhcut_276_0 ls hl
                                        refine lv_iload hx hb dX12_goes_235 (lv_at hl 10 rfl) ?_
                                        refine tk_VvP (As := [.int x_270, .int x_272, .int x_273, .int y_275, .int p5]) (rest := []) (n := 5) hx hb hml hown hU hN hZ (ih_rec f_264 hG o0 mo0 ko0 x_270 (by constructor <;> omega) x_272 (by constructor <;> omega) x_273 (by constructor <;> omega) y_275 (by constructor <;> omega) p5 (by intro w23 w25 w27 w29 e23 e25 e27 e29; rw [hfo_265] at e23 e25 e27 e29; obtain rfl := Option.some.inj e23; obtain rfl := Option.some.inj e25; obtain rfl := Option.some.inj e27; obtain rfl := Option.some.inj e29; omega) (by omega) hT0 (by omega)) wd_886 wd_887 wd_888 wd_5 wd_889 (by decide +kernel) ⟨(show (8 + n_) + 1 ≤ 8 + (n_ + 1) by omega), (show 8 + (11 + 11) + (205 + n_ * 30) ≤ 205 + (n_ + 1) * 30 by omega)⟩ hK hP hD hS mo0 hfo_265 12 rfl rfl rfl hl.1 rfl (Nat.le_of_ble_eq_true rfl) dX12_goes_237 ⟨Nat.le_of_ble_eq_true rfl, Nat.le_of_ble_eq_true rfl⟩ (fun f_278 H locs hw hP hD hS => ?_)
                                        obtain ⟨hG, hkc_279, hra_280, hfa_281, hpost_282, hTc_283⟩ := hw
                                        have hfo_285 : f_278 a_1 = .inl (cI, 1560, .inl g_82) := by rw [hkc_279 a_1 (by rw [ka_1]; decide) (by rw [ka_1]; decide) (by rw [ka_1]; decide) (by rw [ka_1]; decide) (by rw [ka_1]; decide) (by rw [ka_1]; decide) (by rw [ka_1]; decide) (by rw [ka_1]; decide) (by rw [ka_1]; decide) (by rw [ka_1]; decide) (by rw [ka_1]; decide) (by rw [ka_1]; decide)]; exact hfo_266
                                        have hfo_286 : f_278 a_22 = .inl (cI, 16, .inl g_252) := by rw [hkc_279 a_22 (by rw [ka_22]; decide) (by rw [ka_22]; decide) (by rw [ka_22]; decide) (by rw [ka_22]; decide) (by rw [ka_22]; decide) (by rw [ka_22]; decide) (by rw [ka_22]; decide) (by rw [ka_22]; decide) (by rw [ka_22]; decide) (by rw [ka_22]; decide) (by rw [ka_22]; decide) (by rw [ka_22]; decide)]; exact hfo_267
                                        have hfr0 : ∀ b, kd b ≠ 12 → kd b ≠ 579 → kd b ≠ 581 → kd b ≠ 583 → kd b ≠ 585 → kd b ≠ 587 → kd b ≠ 588 → kd b ≠ 590 → kd b ≠ 591 → kd b ≠ 592 → kd b ≠ 593 → kd b ≠ 603 → f_278 b = f b := fun b q12 q579 q581 q583 q585 q587 q588 q590 q591 q592 q593 q603 => (hkc_279 b q12 q579 q581 q583 q585 q587 q588 q590 q591 q592 q593 q603).trans (hfr0 b q12 q579 q581 q583 q585 q587 q588 q590 q591 q592 q593 q603)
                                        have hrA12 : ∀ b, kd b = 12 → ∀ j, fldR (f_278 b) j = fldR (f b) j := fun b kb j => (hra_280 b kb j).trans (hrA12 b kb j)
                                        have hfA12 : ∀ b, kd b = 12 → ∀ j, j ≠ 27 → j ≠ 29 → j ≠ 32 → fldI (f_278 b) j = fldI (f b) j := fun b kb j n27 n29 n32 => (hfa_281 b kb j n27 n29 n32).trans (hfA12 b kb j n27 n29 n32)
                                        obtain ⟨v_287, v_288, v_289, hfo_290, fa_291⟩ := op12_27_29_32 hfo_265 (hG _ mo0) ko0 (hra_280 o0 ko0) (hfa_281 o0 ko0)
                                        have bv_287 : (0 ≤ v_287.toInt ∧ v_287.toInt ≤ 1) := fa12_27 fa_291
                                        have bv_288 : (0 ≤ v_288.toInt ∧ v_288.toInt ≤ 201) := fa12_29 fa_291
                                        have bv_289 : (0 ≤ v_289.toInt ∧ v_289.toInt ≤ 6561) := fa12_32 fa_291
                                        have hqhpost_282 := hpost_282 v_26 v_26 v_76 v_287 v_77 v_288 (by rw [hfo_265]; rfl) (by rw [hfo_265]; rfl) (by rw [hfo_265]; rfl) (by rw [hfo_290]; rfl) (by rw [hfo_290]; rfl) (by rw [hfo_290]; rfl)
                                        exact hcut_100 f_278 hG _ _ hP hS hD hfr0 hrA12 hfA12 hfo_285 hTc_283 v_287 (by rw [hfo_290]; rfl) v_288 (by rw [hfo_290]; rfl) (by omega) ls (lv_sub hl [0, 1, 2, 3, 4, 5, 6, 7, 8, 9, 10] rfl)
                                      refine lv_if_ne (tgt := 231) hx hb dX12_goes_223 (by decide) (fun c_292 => ?_) (fun c_292 => ?_)
                                      · skip
                                        rw [← Int32.toInt_inj, ti_0] at c_292
                                        refine lv_iload hx hb dX12_goes_231 (lv_at hl 9 rfl) ?_
                                        refine lv_iconst (v := 1) hx hb dX12_goes_233 (by decide) ?_
                                        refine lv_iadd hx hb dX12_goes_234 ?_
                                        refine lv_topi (fun x_293 ex_293 => ?_)
                                        have hx_293 : x_293.toInt = p4.toInt + 1 := by rw [ex_293, ad_I (by rw [ti_1]; omega) (by rw [ti_1]; omega), ti_1]
                                        have bx_293 : (1 ≤ x_293.toInt ∧ x_293.toInt ≤ 14) := by constructor <;> omega
                                        exact hcut_276 x_293 (by constructor <;> omega) (by omega) ls (lv_sub hl [0, 1, 2, 3, 4, 5, 6, 7, 8, 9, 10] rfl)
                                      · skip
                                        rw [← Int32.toInt_inj, ti_0] at c_292
                                        refine lv_iload hx hb dX12_goes_226 (lv_at hl 9 rfl) ?_
                                        refine lv_goto (tgt := 235) hx hb dX12_goes_228 (by decide) ?_
                                        exact hcut_276 p4 (by constructor <;> omega) (by omega) ls (lv_sub hl [0, 1, 2, 3, 4, 5, 6, 7, 8, 9, 10] rfl)
                                  · skip
                                    rw [← Int32.toInt_inj, ti_0] at c_269
                                    exfalso
                                    omega
                                refine lv_if_eq (tgt := 193) hx hb dX12_goes_181 (by decide) (fun c_294 => ?_) (fun c_294 => ?_)
                                · skip
                                  rw [← Int32.toInt_inj, ti_0] at c_294
                                  exact hcut_268 f_256 hG _ _ hP hS hD hfr0 hrA12 hfA12 hfo_259 hfo_260 hfo_261 hT0 ls (lv_sub hl [0, 1, 2, 3, 4, 5, 6, 7, 8, 9, 10] rfl)
                                · skip
                                  rw [← Int32.toInt_inj, ti_0] at c_294
                                  refine lv_aload_n hx hb dX12_goes_184 rfl (lv_at hl 5 rfl) ?_
                                  refine tk_getP (D := (dC, dI)) (ci := 12) (v := .ref a_23) (C := RX12) (T := TX12) (N := 56) hx hb hU inlX12 hown hK hP mo0 hfo_259 rfl 22 (by decide) (hU _ wd_182) (fun _ h9 => h9) rfl dX12_goes_185 ?_
                                  refine lv_iload hx hb dX12_goes_188 (lv_at hl 9 rfl) ?_
                                  refine lv_iload hx hb dX12_goes_190 (lv_at hl 1 rfl) ?_
                                  obtain ⟨g_296, hfo_295, hbg_296⟩ := un_590 (hG _ ma_23) ka_23
                                  refine tk_istP hx hb hK hP hD hS 0 ma_23 hfo_295 rfl (vp_in_iff.mpr (by constructor <;> omega)) dX12_goes_192 (fun H locs hP hD hS => ?_)
                                  obtain ⟨f_298, ef_298⟩ : ∃ y : Nat → va_E, y = va_up f_256 a_23 (.inl (cI, 16, .inl (upd g_296 (Int32.toNatClampNeg p4) y_92))) := ⟨_, rfl⟩
                                  have hP : va_P (dC, dI) vwCl (va_pl L f_298) H := by rw [ef_298]; exact hP
                                  have hD : va_D (fun q => q ∈ L) (va_pl L f_298) := by rw [ef_298]; exact hD
                                  have hG : GI (okc cI cL cZ cR cG cH L kd) kd L f_298 := by rw [ef_298]; exact hG.set a_23 (mk_590 ka_23 ⟨_, rfl, okI_up hbg_296 (by constructor <;> omega) _⟩)
                                  have hfo_299 : f_298 o0 = .inr (12, [.ref a_1, .ref a_2, .ref a_3, .int v_4, .ref a_5, .int v_6, .int v_7, .int v_8, .int v_9, .int v_10, .int v_11, .int v_12, .int v_13, .int v_14, .int v_15, .ref a_16, .ref a_17, .ref a_18, .ref a_19, .ref a_20, .ref a_21, .ref a_22, .ref a_23, .int v_24, .int v_25, .int v_26, .int v_27, .int v_76, .ref a_29, .int v_77, .ref a_31, .ref a_32, .int v_78, .int v_34, .ref a_35, .int v_36, .ref a_37, .ref a_38, .int v_39, .int v_40, .ref a_41, .ref a_42, .ref a_43, .int v_44, .ref a_45, .ref a_46, .ref a_47, .ref a_48, .ref a_49, .ref a_50, .ref a_51, .ref a_52, .ref a_53, .int v_54, .int v_55, .ref a_56]) := by rw [ef_298, up_ne (kd_ne ka_23 ko0 (by decide))]; exact hfo_259
                                  have hfo_300 : f_298 a_1 = .inl (cI, 1560, .inl g_82) := by rw [ef_298, up_ne (kd_ne ka_23 ka_1 (by decide))]; exact hfo_260
                                  have hfo_301 : f_298 a_22 = .inl (cI, 16, .inl g_252) := by rw [ef_298, up_ne (kd_ne ka_23 ka_22 (by decide))]; exact hfo_261
                                  have hfr0 : ∀ b, kd b ≠ 12 → kd b ≠ 579 → kd b ≠ 581 → kd b ≠ 583 → kd b ≠ 585 → kd b ≠ 587 → kd b ≠ 588 → kd b ≠ 590 → kd b ≠ 591 → kd b ≠ 592 → kd b ≠ 593 → kd b ≠ 603 → f_298 b = f b := fun b q12 q579 q581 q583 q585 q587 q588 q590 q591 q592 q593 q603 => (congrFun ef_298 b).trans ((up_ne (fun e9 => q590 (by rw [e9]; exact ka_23))).trans (hfr0 b q12 q579 q581 q583 q585 q587 q588 q590 q591 q592 q593 q603))
                                  have hrA12 : ∀ b, kd b = 12 → ∀ j, fldR (f_298 b) j = fldR (f b) j := fun b kb j => (congrArg (fun x => fldR x j) ((congrFun ef_298 b).trans (up_ne (kd_ne ka_23 kb (by decide))))).trans (hrA12 b kb j)
                                  have hfA12 : ∀ b, kd b = 12 → ∀ j, j ≠ 27 → j ≠ 29 → j ≠ 32 → fldI (f_298 b) j = fldI (f b) j := fun b kb j n27 n29 n32 => (congrArg (fun x => fldI x j) ((congrFun ef_298 b).trans (up_ne (kd_ne ka_23 kb (by decide))))).trans (hfA12 b kb j n27 n29 n32)
                                  have hT0 : srel kd 592 f_298 o0 := by rw [ef_298]; exact hT0.keep (fun b q => congrArg (fun x => fldR x 30) (up_ne (kd_ne ka_23 q (by decide)))) (fun b q => congrArg (fun x => fldI x 32) (up_ne (kd_ne ka_23 q (by decide)))) (fun b q => congrArg (fun x => fldI x 33) (up_ne (kd_ne ka_23 q (by decide)))) (fun b q => up_ne (kd_ne ka_23 q (by decide)))
                                  have hfo_302 : f_298 a_23 = .inl (cI, 16, .inl (upd g_296 (Int32.toNatClampNeg p4) y_92)) := by rw [ef_298]; exact up_self
                                  exact hcut_268 f_298 hG _ _ hP hS hD hfr0 hrA12 hfA12 hfo_299 hfo_300 hfo_301 hT0 ls (lv_sub hl [0, 1, 2, 3, 4, 5, 6, 7, 8, 9, 10] rfl)
                              · skip
                                rw [← Int32.toInt_inj, ti_0] at c_262
                                refine lv_goto (tgt := 240) hx hb dX12_goes_176 (by decide) ?_
                                exact hcut_100 f_256 hG _ _ hP hS hD hfr0 hrA12 hfA12 hfo_260 hT0 v_76 (by rw [hfo_259]; rfl) v_77 (by rw [hfo_259]; rfl) (by omega) ls (lv_sub hl [0, 1, 2, 3, 4, 5, 6, 7, 8, 9, 10] rfl)
                            · skip
                              rw [← Int32.toInt_inj] at c_254
                              refine lv_goto (tgt := 240) hx hb dX12_goes_161 (by decide) ?_
                              exact hcut_100 f_75 hG _ _ hP hS hD hfr0 hrA12 hfA12 hfo_81 hT0 v_76 (by rw [hfo_79]; rfl) v_77 (by rw [hfo_79]; rfl) (by omega) ls (lv_sub hl [0, 1, 2, 3, 4, 5, 6, 7, 8, 9, 10] rfl)
                  refine lv_if_eq (tgt := 121) hx hb dX12_goes_110 (by decide) (fun c_303 => ?_) (fun c_303 => ?_)
                  · skip
                    rw [← Int32.toInt_inj, ti_0] at c_303
                    refine lv_iconst (v := 1) hx hb dX12_goes_121 (by decide) ?_
                    refine lv_goto (tgt := 126) hx hb dX12_goes_122 (by decide) ?_
                    exact hcut_96 1 (by decide) (by (try rw [ti_1]) <;> omega) ls (lv_sub hl [0, 1, 2, 3, 4, 5, 6, 7, 8, 9] rfl)
                  · skip
                    rw [← Int32.toInt_inj, ti_0] at c_303
                    refine lv_iload hx hb dX12_goes_113 (lv_at hl 2 rfl) ?_
                    refine lv_bipush (v := 9) hx hb dX12_goes_115 (by decide) ?_
                    refine lv_irem hx hb dX12_goes_117 (by decide) ?_
                    refine lv_topi (fun x_304 ex_304 => ?_)
                    have hx_304 : x_304.toInt = x_89.toInt % 9 := by rw [ex_304, rm_I (by omega) (by rw [ti_9]; omega), ti_9]
                    have bx_304 : (0 ≤ x_304.toInt ∧ x_304.toInt ≤ 8) := by constructor <;> omega
                    refine lv_if_ne (tgt := 125) hx hb dX12_goes_118 (by decide) (fun c_305 => ?_) (fun c_305 => ?_)
                    · skip
                      rw [← Int32.toInt_inj, ti_0] at c_305
                      refine lv_iconst (v := 0) hx hb dX12_goes_125 (by decide) ?_
                      exact hcut_96 0 (by decide) (by (try rw [ti_0]) <;> omega) ls (lv_sub hl [0, 1, 2, 3, 4, 5, 6, 7, 8, 9] rfl)
                    · skip
                      rw [← Int32.toInt_inj, ti_0] at c_305
                      refine lv_iconst (v := 1) hx hb dX12_goes_121 (by decide) ?_
                      refine lv_goto (tgt := 126) hx hb dX12_goes_122 (by decide) ?_
                      exact hcut_96 1 (by decide) (by (try rw [ti_1]) <;> omega) ls (lv_sub hl [0, 1, 2, 3, 4, 5, 6, 7, 8, 9] rfl)
                refine lv_icmp_ne (tgt := 98) hx hb dX12_goes_87 (by decide) (fun c_306 => ?_) (fun c_306 => ?_)
                · skip
                  rw [← Int32.toInt_inj, ti_1] at c_306
                  refine lv_iload hx hb dX12_goes_98 (lv_at hl 1 rfl) ?_
                  refine lv_bipush (v := 9) hx hb dX12_goes_100 (by decide) ?_
                  refine lv_irem hx hb dX12_goes_102 (by decide) ?_
                  refine lv_topi (fun x_307 ex_307 => ?_)
                  have hx_307 : x_307.toInt = x_89.toInt % 9 := by rw [ex_307, rm_I (by omega) (by rw [ti_9]; omega), ti_9]
                  have bx_307 : (0 ≤ x_307.toInt ∧ x_307.toInt ≤ 8) := by constructor <;> omega
                  exact hcut_93 x_307 (by constructor <;> omega) ls (lv_sub hl [0, 1, 2, 3, 4, 5, 6, 7, 8] rfl)
                · skip
                  rw [← Int32.toInt_inj, ti_1] at c_306
                  refine lv_iload hx hb dX12_goes_90 (lv_at hl 1 rfl) ?_
                  refine lv_bipush (v := 9) hx hb dX12_goes_92 (by decide) ?_
                  refine lv_idiv hx hb dX12_goes_94 (by decide) ?_
                  refine lv_topi (fun x_308 ex_308 => ?_)
                  have hx_308 : x_308.toInt = x_89.toInt / 9 := by rw [ex_308, dv_I (by omega) (by rw [ti_9]; omega), ti_9]
                  have bx_308 : (0 ≤ x_308.toInt ∧ x_308.toInt ≤ 8) := by constructor <;> omega
                  refine lv_goto (tgt := 103) hx hb dX12_goes_95 (by decide) ?_
                  exact hcut_93 x_308 (by constructor <;> omega) ls (lv_sub hl [0, 1, 2, 3, 4, 5, 6, 7, 8] rfl)
              refine lv_icmp_ne (tgt := 75) hx hb dX12_goes_64 (by decide) (fun c_309 => ?_) (fun c_309 => ?_)
              · skip
                rw [← Int32.toInt_inj, ti_1] at c_309
                refine lv_iload hx hb dX12_goes_75 (lv_at hl 0 rfl) ?_
                refine lv_bipush (v := 9) hx hb dX12_goes_77 (by decide) ?_
                refine lv_idiv hx hb dX12_goes_79 (by decide) ?_
                refine lv_topi (fun x_310 ex_310 => ?_)
                have hx_310 : x_310.toInt = x_89.toInt / 9 := by rw [ex_310, dv_I (by omega) (by rw [ti_9]; omega), ti_9]
                have bx_310 : (0 ≤ x_310.toInt ∧ x_310.toInt ≤ 8) := by constructor <;> omega
                exact hcut_91 x_310 (by constructor <;> omega) (by omega) ls (lv_sub hl [0, 1, 2, 3, 4, 5, 6, 7] rfl)
              · skip
                rw [← Int32.toInt_inj, ti_1] at c_309
                refine lv_iload hx hb dX12_goes_67 (lv_at hl 0 rfl) ?_
                refine lv_bipush (v := 9) hx hb dX12_goes_69 (by decide) ?_
                refine lv_irem hx hb dX12_goes_71 (by decide) ?_
                refine lv_topi (fun x_311 ex_311 => ?_)
                have hx_311 : x_311.toInt = x_89.toInt % 9 := by rw [ex_311, rm_I (by omega) (by rw [ti_9]; omega), ti_9]
                have bx_311 : (0 ≤ x_311.toInt ∧ x_311.toInt ≤ 8) := by constructor <;> omega
                refine lv_goto (tgt := 80) hx hb dX12_goes_72 (by decide) ?_
                exact hcut_91 x_311 (by constructor <;> omega) (by omega) ls (lv_sub hl [0, 1, 2, 3, 4, 5, 6, 7] rfl)
      exact hloop_72 21 0 (by decide) f_60 hG _ _ hP hS hD hfr0 hrA12 hfA12 hT0 v_62 (by rw [hfo_65]; rfl) v_63 (by rw [hfo_65]; rfl) (by (try rw [ti_0]) <;> omega) (by (try rw [ti_0]) <;> omega) (by (try rw [ti_0]) <;> omega) (by (try rw [ti_0]) <;> omega) ls hl
    refine lv_icmp_ne (tgt := 25) hx hb dX12_goes_5 (by decide) (fun c_312 => ?_) (fun c_312 => ?_)
    · skip
      rw [← Int32.toInt_inj] at c_312
      exact hcut_61 f hG _ _ hP hS hD hfr0 hrA12 hfA12 hT0 v_28 (by rw [hfo_57]; rfl) v_30 (by rw [hfo_57]; rfl) (by omega) ls (lv_sub hl [0, 1, 2, 3, 4, 5] rfl)
    · skip
      rw [← Int32.toInt_inj] at c_312
      refine lv_aload_n hx hb dX12_goes_8 rfl (lv_at hl 0 rfl) ?_
      refine lv_iload_n hx hb dX12_goes_9 rfl (lv_at hl 3 rfl) ?_
      refine lv_iload hx hb dX12_goes_10 (lv_at hl 5 rfl) ?_
      refine tk_ViP (As := [.int p3, .int p5]) (rest := []) (n := 2) hx hb hml hown hU hN hZ (s_X12_closes_k12 l (dC, dI) cI cL cZ cR cG cH Z kd L f hG o0 mo0 ko0 p3 (by constructor <;> omega) p5) wd_890 wd_891 wd_892 wd_5 wd_893 (by decide +kernel) ⟨(show 2 + 1 ≤ 8 + (n_ + 1) by omega), (show 8 + (6 + 11) + 45 ≤ 205 + (n_ + 1) * 30 by omega)⟩ hK hP hD hS mo0 hfo_57 12 rfl rfl rfl hl.1 rfl (Nat.le_of_ble_eq_true rfl) dX12_goes_12 ⟨Nat.le_of_ble_eq_true rfl, Nat.le_of_ble_eq_true rfl⟩ (fun x_313 f_314 H locs hw hP hD hS => ?_)
      obtain ⟨rfl, bx_313⟩ := hw
      refine lv_if_eq (tgt := 25) hx hb dX12_goes_15 (by decide) (fun c_316 => ?_) (fun c_316 => ?_)
      · skip
        rw [← Int32.toInt_inj, ti_0] at c_316
        exact hcut_61 f hG _ _ hP hS hD hfr0 hrA12 hfA12 hT0 v_28 (by rw [hfo_57]; rfl) v_30 (by rw [hfo_57]; rfl) (by omega) ls (lv_sub hl [0, 1, 2, 3, 4, 5] rfl)
      · skip
        rw [← Int32.toInt_inj, ti_0] at c_316
        refine lv_aload_n hx hb dX12_goes_18 rfl (lv_at hl 0 rfl) ?_
        refine lv_iload_n hx hb dX12_goes_19 rfl (lv_at hl 3 rfl) ?_
        refine lv_iload hx hb dX12_goes_20 (lv_at hl 4 rfl) ?_
        refine tk_VvP (As := [.int p3, .int p4]) (rest := []) (n := 2) hx hb hml hown hU hN hZ (s_X12_completes_k12 l (dC, dI) cI cL cZ cR cG cH Z kd L f hG o0 mo0 ko0 p3 (by constructor <;> omega) p4 (by constructor <;> omega) (by intro w23 w25 w27 w29 e23 e25 e27 e29; rw [hfo_57] at e23 e25 e27 e29; obtain rfl := Option.some.inj e23; obtain rfl := Option.some.inj e25; obtain rfl := Option.some.inj e27; obtain rfl := Option.some.inj e29; omega) hT0) wd_902 wd_903 wd_904 wd_5 wd_905 (by decide +kernel) ⟨(show 7 + 1 ≤ 8 + (n_ + 1) by omega), (show 8 + (4 + 11) + 182 ≤ 205 + (n_ + 1) * 30 by omega)⟩ hK hP hD hS mo0 hfo_57 12 rfl rfl rfl hl.1 rfl (Nat.le_of_ble_eq_true rfl) dX12_goes_22 ⟨Nat.le_of_ble_eq_true rfl, Nat.le_of_ble_eq_true rfl⟩ (fun f_318 H locs hw hP hD hS => ?_)
        obtain ⟨hG, hkc_319, hra_320, hfa_321, hpost_322, hTc_323⟩ := hw
        have hfr0 : ∀ b, kd b ≠ 12 → kd b ≠ 579 → kd b ≠ 581 → kd b ≠ 583 → kd b ≠ 585 → kd b ≠ 587 → kd b ≠ 588 → kd b ≠ 590 → kd b ≠ 591 → kd b ≠ 592 → kd b ≠ 593 → kd b ≠ 603 → f_318 b = f b := fun b q12 q579 q581 q583 q585 q587 q588 q590 q591 q592 q593 q603 => (hkc_319 b q12 q591 q592 q593 q603).trans (hfr0 b q12 q579 q581 q583 q585 q587 q588 q590 q591 q592 q593 q603)
        have hrA12 : ∀ b, kd b = 12 → ∀ j, fldR (f_318 b) j = fldR (f b) j := fun b kb j => (hra_320 b kb j).trans (hrA12 b kb j)
        have hfA12 : ∀ b, kd b = 12 → ∀ j, j ≠ 27 → j ≠ 29 → j ≠ 32 → fldI (f_318 b) j = fldI (f b) j := fun b kb j n27 n29 n32 => (hfa_321 b kb j n27 n29 n32).trans (hfA12 b kb j n27 n29 n32)
        obtain ⟨v_325, v_326, v_327, hfo_328, fa_329⟩ := op12_27_29_32 hfo_57 (hG _ mo0) ko0 (hra_320 o0 ko0) (hfa_321 o0 ko0)
        have bv_325 : (0 ≤ v_325.toInt ∧ v_325.toInt ≤ 1) := fa12_27 fa_329
        have bv_326 : (0 ≤ v_326.toInt ∧ v_326.toInt ≤ 201) := fa12_29 fa_329
        have bv_327 : (0 ≤ v_327.toInt ∧ v_327.toInt ≤ 6561) := fa12_32 fa_329
        have hqhpost_322 := hpost_322 v_26 v_26 v_28 v_325 v_30 v_326 (by rw [hfo_57]; rfl) (by rw [hfo_57]; rfl) (by rw [hfo_57]; rfl) (by rw [hfo_328]; rfl) (by rw [hfo_328]; rfl) (by rw [hfo_328]; rfl)
        exact hcut_61 f_318 hG _ _ hP hS hD hfr0 hrA12 hfA12 hTc_323 v_325 (by rw [hfo_328]; rfl) v_326 (by rw [hfo_328]; rfl) (by omega) ls (lv_sub hl [0, 1, 2, 3, 4, 5] rfl)
