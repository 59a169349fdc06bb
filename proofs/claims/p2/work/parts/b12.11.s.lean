set_option maxHeartbeats 8000000 in
set_option maxRecDepth 100000 in
theorem s_X12_isSaid_k12 (l : Launch) (D : va_G) (cI cL cZ cR cG cH : ClassId) (Z : zT) (kd : Nat → Nat) (L : List Nat) (f : Nat → va_E) (hG : GI (okc cI cL cZ cR cG cH L kd) kd L f) (o0 : Nat) (mo0 : o0 ∈ L) (ko0 : kd o0 = 12) (p1 : Int32) : mPI l D cI cL cZ cR cG cH Z yX12_isSaid cX12_isSaid 2 (some .boolean) 20 564 [.ref o0, .int p1] L f (fun (r : Int32) (f9 : Nat → va_E) => GI (okc cI cL cZ cR cG cH L kd) kd L f9 ∧ (0 ≤ r.toInt ∧ r.toInt ≤ 1) ∧ (∀ b, kd b ≠ 579 → kd b ≠ 581 → kd b ≠ 583 → kd b ≠ 585 → kd b ≠ 587 → kd b ≠ 588 → f9 b = f b)) := by
  obtain ⟨dC, dI⟩ := D
  refine Met.ofW (cc := cX12_isSaid) (maxL := 2) (ret := (some .boolean)) (by decide) rfl ?_
  intro p e s m args below meth c s₁ B hml hv
  obtain ⟨rfl, hP, hK, hD0, hN, hZ⟩ := hv
  have hx := B.exec
  have hb := B.bytes
  have hr := B.returns
  have hU : ∀ w ∈ wsU, w.before _ s = true := fun w h => atoms_spec (ws := wU yX12_isSaid cX12_isSaid 2 (some .boolean)) B.pre w (List.mem_cons_of_mem _ h)
  have hown : s.vm.findClass RX12 = some m.cls := findClass_of_methodNamed B.named
  have hlocks := B.notSynchronized
  have hD := pl_in hD0
  have hS : va_S (fun q => q ∈ L) s.heap s.heap [] := va_S.rf
  have hl := lv_entry ([.ref o0, .int p1]) (n := 2) (Nat.le_of_ble_eq_true rfl)
  rw [lg_entry_eq]
  generalize (lg_sl ([.ref o0, .int p1]) ++ List.replicate (2 - (lg_sl ([.ref o0, .int p1])).length) Slot.unset).toArray = ls at hl ⊢
  have hl : lv_has ls 2 [(0, .ref o0), (1, .int p1)] := hl
  have bp1 : ((-2147483648) ≤ p1.toInt ∧ p1.toInt ≤ 2147483647) := ⟨i32_lo _, i32_hi _⟩
  have hfr0 : ∀ b, kd b ≠ 579 → kd b ≠ 581 → kd b ≠ 583 → kd b ≠ 585 → kd b ≠ 587 → kd b ≠ 588 → f b = f b := fun _ _ _ _ _ _ _ => rfl
  refine lv_aload_n hx hb dX12_isSaid_0 rfl (lv_at hl 0 rfl) ?_
  obtain ⟨a_1, a_2, a_3, v_4, a_5, v_6, v_7, v_8, v_9, v_10, v_11, v_12, v_13, v_14, v_15, a_16, a_17, a_18, a_19, a_20, a_21, a_22, a_23, v_24, v_25, v_26, v_27, v_28, a_29, v_30, a_31, a_32, v_33, v_34, a_35, v_36, a_37, a_38, v_39, v_40, a_41, a_42, a_43, v_44, a_45, a_46, a_47, a_48, a_49, a_50, a_51, a_52, a_53, v_54, v_55, a_56, hfo_57, fa_58⟩ := un12 (hG _ mo0) ko0
  obtain ⟨ma_1, ka_1⟩ := fa12_0 fa_58
  have bv_24 : (0 ≤ v_24.toInt ∧ v_24.toInt ≤ 12) := fa12_23 fa_58
  have bv_36 : (0 ≤ v_36.toInt ∧ v_36.toInt ≤ 8) := fa12_35 fa_58
  refine tk_VvP (As := []) (rest := []) (n := 0) hx hb hml hown hU hN hZ (s_X12_begins_k12 l (dC, dI) cI cL cZ cR cG cH Z kd L f hG o0 mo0 ko0) wd_874 wd_875 wd_876 wd_5 wd_877 (by decide +kernel) ⟨Nat.le_of_ble_eq_true rfl, Nat.le_of_ble_eq_true rfl⟩ hK hP hD hS mo0 hfo_57 12 rfl rfl rfl hl.1 rfl (Nat.le_of_ble_eq_true rfl) dX12_isSaid_1 ⟨Nat.le_of_ble_eq_true rfl, Nat.le_of_ble_eq_true rfl⟩ (fun f_60 H locs hw hP hD hS => ?_)
  obtain ⟨hG, hkc_61⟩ := hw
  have hfo_63 : f_60 o0 = .inr (12, [.ref a_1, .ref a_2, .ref a_3, .int v_4, .ref a_5, .int v_6, .int v_7, .int v_8, .int v_9, .int v_10, .int v_11, .int v_12, .int v_13, .int v_14, .int v_15, .ref a_16, .ref a_17, .ref a_18, .ref a_19, .ref a_20, .ref a_21, .ref a_22, .ref a_23, .int v_24, .int v_25, .int v_26, .int v_27, .int v_28, .ref a_29, .int v_30, .ref a_31, .ref a_32, .int v_33, .int v_34, .ref a_35, .int v_36, .ref a_37, .ref a_38, .int v_39, .int v_40, .ref a_41, .ref a_42, .ref a_43, .int v_44, .ref a_45, .ref a_46, .ref a_47, .ref a_48, .ref a_49, .ref a_50, .ref a_51, .ref a_52, .ref a_53, .int v_54, .int v_55, .ref a_56]) := by rw [hkc_61 o0 (by rw [ko0]; decide) (by rw [ko0]; decide) (by rw [ko0]; decide)]; exact hfo_57
  have hfr0 : ∀ b, kd b ≠ 579 → kd b ≠ 581 → kd b ≠ 583 → kd b ≠ 585 → kd b ≠ 587 → kd b ≠ 588 → f_60 b = f b := fun b q579 q581 q583 q585 q587 q588 => (hkc_61 b q579 q581 q587).trans (hfr0 b q579 q581 q583 q585 q587 q588)
  refine lv_aload_n hx hb dX12_isSaid_4 rfl (lv_at hl 0 rfl) ?_
  refine lv_iconst (v := 0) hx hb dX12_isSaid_5 (by decide) ?_
  refine lv_iconst (v := 0) hx hb dX12_isSaid_6 (by decide) ?_
  refine lv_aload_n hx hb dX12_isSaid_7 rfl (lv_at hl 0 rfl) ?_
  refine tk_getP (D := (dC, dI)) (ci := 12) (v := .ref a_1) (C := RX12) (T := TX12) (N := 56) hx hb hU inlX12 hown hK hP mo0 hfo_63 rfl 0 (by decide) (hU _ wd_169) (fun _ h9 => h9) rfl dX12_isSaid_8 ?_
  refine lv_bipush (v := 41) hx hb dX12_isSaid_11 (by decide) ?_
  obtain ⟨g_65, hfo_64, hbg_65⟩ := un_575 (hG _ ma_1) ka_1
  refine tk_ildP hx hb hK hP 0 ma_1 hfo_64 rfl (vp_in_nI (n := 41) (by decide) (by decide)) dX12_isSaid_13 ?_
  refine lv_topi (fun x_66 ex_66 => ?_)
  have bx_66 : (0 ≤ x_66.toInt ∧ x_66.toInt ≤ 1) := by rw [ex_66]; exact hbg_65.2.2.2.2.2.2.2.1 _ (by decide) (by decide) (by decide)
  refine lv_iconst (v := 0) hx hb dX12_isSaid_14 (by decide) ?_
  refine lv_iload_n hx hb dX12_isSaid_15 rfl (lv_at hl 1 rfl) ?_
  refine tk_ViP (As := [.int 0, .int 0, .int x_66, .int 0, .int p1]) (rest := []) (n := 5) hx hb hml hown hU hN hZ (s_X12_aligns_k12 l (dC, dI) cI cL cZ cR cG cH Z kd L 14 f_60 hG o0 mo0 ko0 0 (by decide) 0 (by decide) x_66 (by constructor <;> omega) 0 (by decide) p1 (by intro w23 w35 e23 e35; rw [hfo_63] at e23 e35; obtain rfl := Option.some.inj e23; obtain rfl := Option.some.inj e35; (try rw [ti_0]) <;> omega) (by (try rw [ti_0]) <;> omega) (by (try rw [ti_0]) <;> omega)) wd_1054 wd_1055 wd_1056 wd_5 wd_1057 (by decide +kernel) ⟨Nat.le_of_ble_eq_true rfl, Nat.le_of_ble_eq_true rfl⟩ hK hP hD hS mo0 hfo_63 12 rfl rfl rfl hl.1 rfl (Nat.le_of_ble_eq_true rfl) dX12_isSaid_16 ⟨Nat.le_of_ble_eq_true rfl, Nat.le_of_ble_eq_true rfl⟩ (fun x_67 f_68 H locs hw hP hD hS => ?_)
  obtain ⟨hG, bx_67, hkc_69⟩ := hw
  have hfo_71 : f_68 o0 = .inr (12, [.ref a_1, .ref a_2, .ref a_3, .int v_4, .ref a_5, .int v_6, .int v_7, .int v_8, .int v_9, .int v_10, .int v_11, .int v_12, .int v_13, .int v_14, .int v_15, .ref a_16, .ref a_17, .ref a_18, .ref a_19, .ref a_20, .ref a_21, .ref a_22, .ref a_23, .int v_24, .int v_25, .int v_26, .int v_27, .int v_28, .ref a_29, .int v_30, .ref a_31, .ref a_32, .int v_33, .int v_34, .ref a_35, .int v_36, .ref a_37, .ref a_38, .int v_39, .int v_40, .ref a_41, .ref a_42, .ref a_43, .int v_44, .ref a_45, .ref a_46, .ref a_47, .ref a_48, .ref a_49, .ref a_50, .ref a_51, .ref a_52, .ref a_53, .int v_54, .int v_55, .ref a_56]) := by rw [hkc_69 o0 (by rw [ko0]; decide) (by rw [ko0]; decide) (by rw [ko0]; decide) (by rw [ko0]; decide) (by rw [ko0]; decide) (by rw [ko0]; decide)]; exact hfo_63
  have hfo_72 : f_68 a_1 = .inl (cI, 1560, .inl g_65) := by rw [hkc_69 a_1 (by rw [ka_1]; decide) (by rw [ka_1]; decide) (by rw [ka_1]; decide) (by rw [ka_1]; decide) (by rw [ka_1]; decide) (by rw [ka_1]; decide)]; exact hfo_64
  have hfr0 : ∀ b, kd b ≠ 579 → kd b ≠ 581 → kd b ≠ 583 → kd b ≠ 585 → kd b ≠ 587 → kd b ≠ 588 → f_68 b = f b := fun b q579 q581 q583 q585 q587 q588 => (hkc_69 b q579 q581 q583 q585 q587 q588).trans (hfr0 b q579 q581 q583 q585 q587 q588)
  exact W.zret (v := x_67) (ty := .boolean) hx hb hr (zb_n (by constructor <;> omega)) (fun t ht hW => ⟨⟨x_67, f_68, rfl, ⟨hG, (by constructor <;> omega), hfr0⟩, by rw [ht]; exact hP, va_K.moved hW.alike hK, pl_in hD⟩, hS.F ht⟩) hS.2.2 dX12_isSaid_19
set_option maxHeartbeats 8000000 in
set_option maxRecDepth 100000 in
theorem s_X12_understand_k12 (l : Launch) (D : va_G) (cI cL cZ cR cG cH : ClassId) (Z : zT) (kd : Nat → Nat) (L : List Nat) (f : Nat → va_E) (hG : GI (okc cI cL cZ cR cG cH L kd) kd L f) (o0 : Nat) (mo0 : o0 ∈ L) (ko0 : kd o0 = 12) : mPI l D cI cL cZ cR cG cH Z yX12_understand cX12_understand 4 (some .int) 21 585 [.ref o0] L f (fun (r : Int32) (f9 : Nat → va_E) => GI (okc cI cL cZ cR cG cH L kd) kd L f9 ∧ ((-2147483648) ≤ r.toInt ∧ r.toInt ≤ 2147483647) ∧ (∀ b, kd b ≠ 12 → kd b ≠ 579 → kd b ≠ 581 → kd b ≠ 583 → kd b ≠ 585 → kd b ≠ 587 → kd b ≠ 588 → kd b ≠ 589 → kd b ≠ 594 → kd b ≠ 595 → kd b ≠ 596 → f9 b = f b) ∧ (∀ b, kd b = 12 → ∀ j, fldR (f9 b) j = fldR (f b) j) ∧ (∀ b, kd b = 12 → ∀ j, j ≠ 5 → j ≠ 23 → j ≠ 35 → j ≠ 38 → fldI (f9 b) j = fldI (f b) j) ∧ (∀ (w5 z5 : Int32), fldI (f o0) 5 = some w5 → fldI (f9 o0) 5 = some z5 → z5.toInt = 0)) := by
  obtain ⟨dC, dI⟩ := D
  refine Met.ofW (cc := cX12_understand) (maxL := 4) (ret := (some .int)) (by decide) rfl ?_
  intro p e s m args below meth c s₁ B hml hv
  obtain ⟨rfl, hP, hK, hD0, hN, hZ⟩ := hv
  have hx := B.exec
  have hb := B.bytes
  have hr := B.returns
  have hU : ∀ w ∈ wsU, w.before _ s = true := fun w h => atoms_spec (ws := wU yX12_understand cX12_understand 4 (some .int)) B.pre w (List.mem_cons_of_mem _ h)
  have hown : s.vm.findClass RX12 = some m.cls := findClass_of_methodNamed B.named
  have hlocks := B.notSynchronized
  have hD := pl_in hD0
  have hS : va_S (fun q => q ∈ L) s.heap s.heap [] := va_S.rf
  have hl := lv_entry ([.ref o0]) (n := 4) (Nat.le_of_ble_eq_true rfl)
  rw [lg_entry_eq]
  generalize (lg_sl ([.ref o0]) ++ List.replicate (4 - (lg_sl ([.ref o0])).length) Slot.unset).toArray = ls at hl ⊢
  have hl : lv_has ls 4 [(0, .ref o0)] := hl
  have hfr0 : ∀ b, kd b ≠ 12 → kd b ≠ 579 → kd b ≠ 581 → kd b ≠ 583 → kd b ≠ 585 → kd b ≠ 587 → kd b ≠ 588 → kd b ≠ 589 → kd b ≠ 594 → kd b ≠ 595 → kd b ≠ 596 → f b = f b := fun _ _ _ _ _ _ _ _ _ _ _ _ => rfl
  have hrA12 : ∀ b, kd b = 12 → ∀ j, fldR (f b) j = fldR (f b) j := fun _ _ _ => rfl
  have hfA12 : ∀ b, kd b = 12 → ∀ j, j ≠ 5 → j ≠ 23 → j ≠ 35 → j ≠ 38 → fldI (f b) j = fldI (f b) j := fun _ _ _ _ _ _ _ => rfl
  obtain ⟨a_1, a_2, a_3, v_4, a_5, v_6, v_7, v_8, v_9, v_10, v_11, v_12, v_13, v_14, v_15, a_16, a_17, a_18, a_19, a_20, a_21, a_22, a_23, v_24, v_25, v_26, v_27, v_28, a_29, v_30, a_31, a_32, v_33, v_34, a_35, v_36, a_37, a_38, v_39, v_40, a_41, a_42, a_43, v_44, a_45, a_46, a_47, a_48, a_49, a_50, a_51, a_52, a_53, v_54, v_55, a_56, hfo_57, fa_58⟩ := un12 (hG _ mo0) ko0
  obtain ⟨ma_1, ka_1⟩ := fa12_0 fa_58
  have bv_6 : (0 ≤ v_6.toInt ∧ v_6.toInt ≤ 600) := fa12_5 fa_58
  obtain ⟨ma_22, ka_22⟩ := fa12_21 fa_58
  have bv_24 : (0 ≤ v_24.toInt ∧ v_24.toInt ≤ 12) := fa12_23 fa_58
  obtain ⟨ma_35, ka_35⟩ := fa12_34 fa_58
  obtain ⟨ma_37, ka_37⟩ := fa12_36 fa_58
  obtain ⟨ma_38, ka_38⟩ := fa12_37 fa_58
  refine lv_aload_n hx hb dX12_understand_0 rfl (lv_at hl 0 rfl) ?_
  refine lv_iconst (v := 0) hx hb dX12_understand_1 (by decide) ?_
  refine tk_putP (D := (dC, dI)) (ci := 12) (v := .int 0) (ty := .int) (C := RX12) (T := TX12) (N := 56) hx hb hU inlX12 tyX12 tyX12_ok nmX12 hown hK hP hD hS mo0 hfo_57 rfl 38 (by decide) (hU _ wd_571) (fun _ h9 => h9) rfl (by decide +kernel) rfl rfl (Nat.le_of_ble_eq_true rfl) dX12_understand_2 (fun H locs hP hD hS => ?_)
  have fa_59 := fu12_38 (y := 0) fa_58 (by decide)
  obtain ⟨f_61, ef_61⟩ : ∃ y : Nat → va_E, y = va_up f o0 (.inr (12, [.ref a_1, .ref a_2, .ref a_3, .int v_4, .ref a_5, .int v_6, .int v_7, .int v_8, .int v_9, .int v_10, .int v_11, .int v_12, .int v_13, .int v_14, .int v_15, .ref a_16, .ref a_17, .ref a_18, .ref a_19, .ref a_20, .ref a_21, .ref a_22, .ref a_23, .int v_24, .int v_25, .int v_26, .int v_27, .int v_28, .ref a_29, .int v_30, .ref a_31, .ref a_32, .int v_33, .int v_34, .ref a_35, .int v_36, .ref a_37, .ref a_38, .int 0, .int v_40, .ref a_41, .ref a_42, .ref a_43, .int v_44, .ref a_45, .ref a_46, .ref a_47, .ref a_48, .ref a_49, .ref a_50, .ref a_51, .ref a_52, .ref a_53, .int v_54, .int v_55, .ref a_56])) := ⟨_, rfl⟩
  have hP : va_P (dC, dI) vwCl (va_pl L f_61) H := by rw [ef_61]; exact hP
  have hD : va_D (fun q => q ∈ L) (va_pl L f_61) := by rw [ef_61]; exact hD
  have hG : GI (okc cI cL cZ cR cG cH L kd) kd L f_61 := by rw [ef_61]; exact hG.set o0 (mk_12 ko0 (fo12 fa_59))
  have hfr0 : ∀ b, kd b ≠ 12 → kd b ≠ 579 → kd b ≠ 581 → kd b ≠ 583 → kd b ≠ 585 → kd b ≠ 587 → kd b ≠ 588 → kd b ≠ 589 → kd b ≠ 594 → kd b ≠ 595 → kd b ≠ 596 → f_61 b = f b := fun b q12 q579 q581 q583 q585 q587 q588 q589 q594 q595 q596 => (congrFun ef_61 b).trans ((up_ne (fun e9 => q12 (by rw [e9]; exact ko0))).trans (hfr0 b q12 q579 q581 q583 q585 q587 q588 q589 q594 q595 q596))
  have hrA12 : ∀ b, kd b = 12 → ∀ j, fldR (f_61 b) j = fldR (f b) j := fun b kb j => ((congrArg (fun x => fldR x j) (congrFun ef_61 b)).trans (fra_up (fun j => by rw [hfo_57]; exact fr_set (k := 38) rfl rfl) j b)).trans (hrA12 b kb j)
  have hfA12 : ∀ b, kd b = 12 → ∀ j, j ≠ 5 → j ≠ 23 → j ≠ 35 → j ≠ 38 → fldI (f_61 b) j = fldI (f b) j := fun b kb j n5 n23 n35 n38 => ((congrArg (fun x => fldI x j) (congrFun ef_61 b)).trans (fia_up (fun h9 => by rw [hfo_57]; exact fi_set (k := 38) rfl h9) n38 b)).trans (hfA12 b kb j n5 n23 n35 n38)
  have hfo_62 : f_61 o0 = .inr (12, [.ref a_1, .ref a_2, .ref a_3, .int v_4, .ref a_5, .int v_6, .int v_7, .int v_8, .int v_9, .int v_10, .int v_11, .int v_12, .int v_13, .int v_14, .int v_15, .ref a_16, .ref a_17, .ref a_18, .ref a_19, .ref a_20, .ref a_21, .ref a_22, .ref a_23, .int v_24, .int v_25, .int v_26, .int v_27, .int v_28, .ref a_29, .int v_30, .ref a_31, .ref a_32, .int v_33, .int v_34, .ref a_35, .int v_36, .ref a_37, .ref a_38, .int 0, .int v_40, .ref a_41, .ref a_42, .ref a_43, .int v_44, .ref a_45, .ref a_46, .ref a_47, .ref a_48, .ref a_49, .ref a_50, .ref a_51, .ref a_52, .ref a_53, .int v_54, .int v_55, .ref a_56]) := by rw [ef_61]; exact up_self
  refine lv_aload_n hx hb dX12_understand_5 rfl (lv_at hl 0 rfl) ?_
  refine lv_iconst (v := 1) hx hb dX12_understand_6 (by decide) ?_
  refine lv_bipush (v := 8) hx hb dX12_understand_7 (by decide) ?_
  refine tk_ViP (As := [.int 1, .int 8]) (rest := []) (n := 2) hx hb hml hown hU hN hZ (s_X12_takesWord_k12_c1_c8 l (dC, dI) cI cL cZ cR cG cH Z kd L f_61 hG o0 mo0 ko0) wd_863 wd_864 wd_865 wd_5 wd_866 (by decide +kernel) ⟨Nat.le_of_ble_eq_true rfl, Nat.le_of_ble_eq_true rfl⟩ hK hP hD hS mo0 hfo_62 12 rfl rfl rfl hl.1 rfl (Nat.le_of_ble_eq_true rfl) dX12_understand_9 ⟨Nat.le_of_ble_eq_true rfl, Nat.le_of_ble_eq_true rfl⟩ (fun x_63 f_64 H locs hw hP hD hS => ?_)
  obtain ⟨hG, bx_63, hkc_65, hra_66, hfa_67, hpost_68⟩ := hw
  have hfr0 : ∀ b, kd b ≠ 12 → kd b ≠ 579 → kd b ≠ 581 → kd b ≠ 583 → kd b ≠ 585 → kd b ≠ 587 → kd b ≠ 588 → kd b ≠ 589 → kd b ≠ 594 → kd b ≠ 595 → kd b ≠ 596 → f_64 b = f b := fun b q12 q579 q581 q583 q585 q587 q588 q589 q594 q595 q596 => (hkc_65 b q12 q589).trans (hfr0 b q12 q579 q581 q583 q585 q587 q588 q589 q594 q595 q596)
  have hrA12 : ∀ b, kd b = 12 → ∀ j, fldR (f_64 b) j = fldR (f b) j := fun b kb j => (hra_66 b kb j).trans (hrA12 b kb j)
  have hfA12 : ∀ b, kd b = 12 → ∀ j, j ≠ 5 → j ≠ 23 → j ≠ 35 → j ≠ 38 → fldI (f_64 b) j = fldI (f b) j := fun b kb j n5 n23 n35 n38 => (hfa_67 b kb j n5 n23).trans (hfA12 b kb j n5 n23 n35 n38)
  obtain ⟨v_70, v_71, hfo_72, fa_73⟩ := op12_5_23 hfo_62 (hG _ mo0) ko0 (hra_66 o0 ko0) (hfa_67 o0 ko0)
  have bv_70 : (0 ≤ v_70.toInt ∧ v_70.toInt ≤ 600) := fa12_5 fa_73
  have bv_71 : (0 ≤ v_71.toInt ∧ v_71.toInt ≤ 12) := fa12_23 fa_73
  have hqhpost_68 := hpost_68 v_6 v_70 v_24 v_71 (by rw [hfo_62]; rfl) (by rw [hfo_62]; rfl) (by rw [hfo_72]; rfl) (by rw [hfo_72]; rfl)
  try rw [ti_1] at hqhpost_68
  try rw [ti_8] at hqhpost_68
  refine lv_if_ne (tgt := 17) hx hb dX12_understand_12 (by decide) (fun c_74 => ?_) (fun c_74 => ?_)
  · skip
    rw [← Int32.toInt_inj, ti_0] at c_74
    have hclc_75 : (0 ≤ v_71.toInt ∧ v_71.toInt ≤ 8) := by constructor <;> omega
    refine lv_aload_n hx hb dX12_understand_17 rfl (lv_at hl 0 rfl) ?_
    refine lv_aload_n hx hb dX12_understand_18 rfl (lv_at hl 0 rfl) ?_
    refine tk_getP (D := (dC, dI)) (ci := 12) (v := .int v_71) (C := RX12) (T := TX12) (N := 56) hx hb hU inlX12 hown hK hP mo0 hfo_72 rfl 23 (by decide) (hU _ wd_867) (fun _ h9 => h9) rfl dX12_understand_19 ?_
    refine tk_putP (D := (dC, dI)) (ci := 12) (v := .int v_71) (ty := .int) (C := RX12) (T := TX12) (N := 56) hx hb hU inlX12 tyX12 tyX12_ok nmX12 hown hK hP hD hS mo0 hfo_72 rfl 35 (by decide) (hU _ wd_1049) (fun _ h9 => h9) rfl (by decide +kernel) rfl rfl (Nat.le_of_ble_eq_true rfl) dX12_understand_22 (fun H locs hP hD hS => ?_)
    have fa_76 := fu12_35 (y := v_71) fa_73 (by constructor <;> omega)
    obtain ⟨f_78, ef_78⟩ : ∃ y : Nat → va_E, y = va_up f_64 o0 (.inr (12, [.ref a_1, .ref a_2, .ref a_3, .int v_4, .ref a_5, .int v_70, .int v_7, .int v_8, .int v_9, .int v_10, .int v_11, .int v_12, .int v_13, .int v_14, .int v_15, .ref a_16, .ref a_17, .ref a_18, .ref a_19, .ref a_20, .ref a_21, .ref a_22, .ref a_23, .int v_71, .int v_25, .int v_26, .int v_27, .int v_28, .ref a_29, .int v_30, .ref a_31, .ref a_32, .int v_33, .int v_34, .ref a_35, .int v_71, .ref a_37, .ref a_38, .int 0, .int v_40, .ref a_41, .ref a_42, .ref a_43, .int v_44, .ref a_45, .ref a_46, .ref a_47, .ref a_48, .ref a_49, .ref a_50, .ref a_51, .ref a_52, .ref a_53, .int v_54, .int v_55, .ref a_56])) := ⟨_, rfl⟩
    have hP : va_P (dC, dI) vwCl (va_pl L f_78) H := by rw [ef_78]; exact hP
    have hD : va_D (fun q => q ∈ L) (va_pl L f_78) := by rw [ef_78]; exact hD
    have hG : GI (okc cI cL cZ cR cG cH L kd) kd L f_78 := by rw [ef_78]; exact hG.set o0 (mk_12 ko0 (fo12 fa_76))
    have hfr0 : ∀ b, kd b ≠ 12 → kd b ≠ 579 → kd b ≠ 581 → kd b ≠ 583 → kd b ≠ 585 → kd b ≠ 587 → kd b ≠ 588 → kd b ≠ 589 → kd b ≠ 594 → kd b ≠ 595 → kd b ≠ 596 → f_78 b = f b := fun b q12 q579 q581 q583 q585 q587 q588 q589 q594 q595 q596 => (congrFun ef_78 b).trans ((up_ne (fun e9 => q12 (by rw [e9]; exact ko0))).trans (hfr0 b q12 q579 q581 q583 q585 q587 q588 q589 q594 q595 q596))
    have hrA12 : ∀ b, kd b = 12 → ∀ j, fldR (f_78 b) j = fldR (f b) j := fun b kb j => ((congrArg (fun x => fldR x j) (congrFun ef_78 b)).trans (fra_up (fun j => by rw [hfo_72]; exact fr_set (k := 35) rfl rfl) j b)).trans (hrA12 b kb j)
    have hfA12 : ∀ b, kd b = 12 → ∀ j, j ≠ 5 → j ≠ 23 → j ≠ 35 → j ≠ 38 → fldI (f_78 b) j = fldI (f b) j := fun b kb j n5 n23 n35 n38 => ((congrArg (fun x => fldI x j) (congrFun ef_78 b)).trans (fia_up (fun h9 => by rw [hfo_72]; exact fi_set (k := 35) rfl h9) n35 b)).trans (hfA12 b kb j n5 n23 n35 n38)
    have hfo_79 : f_78 o0 = .inr (12, [.ref a_1, .ref a_2, .ref a_3, .int v_4, .ref a_5, .int v_70, .int v_7, .int v_8, .int v_9, .int v_10, .int v_11, .int v_12, .int v_13, .int v_14, .int v_15, .ref a_16, .ref a_17, .ref a_18, .ref a_19, .ref a_20, .ref a_21, .ref a_22, .ref a_23, .int v_71, .int v_25, .int v_26, .int v_27, .int v_28, .ref a_29, .int v_30, .ref a_31, .ref a_32, .int v_33, .int v_34, .ref a_35, .int v_71, .ref a_37, .ref a_38, .int 0, .int v_40, .ref a_41, .ref a_42, .ref a_43, .int v_44, .ref a_45, .ref a_46, .ref a_47, .ref a_48, .ref a_49, .ref a_50, .ref a_51, .ref a_52, .ref a_53, .int v_54, .int v_55, .ref a_56]) := by rw [ef_78]; exact up_self
    refine lv_iconst (v := 0) hx hb dX12_understand_25 (by decide) ?_
    refine lv_istore_n (lv' := [(1, .int 0), (0, .ref o0)]) hx hb dX12_understand_26 rfl hl (by decide) rfl (fun ls hl => ?_)
    have hloop_95 : ∀ (n : Nat), ∀ (y_96 : Int32), (0 ≤ y_96.toInt ∧ y_96.toInt ≤ 8) → ∀ (f_98 : Nat → va_E), GI (okc cI cL cZ cR cG cH L kd) kd L f_98 → ∀ (H : Heap) (locs : List Loc), va_P (dC, dI) vwCl (va_pl L f_98) H → va_S (fun q => q ∈ L) s.heap H locs → va_D (fun q => q ∈ L) (va_pl L f_98) → (∀ b, kd b ≠ 12 → kd b ≠ 579 → kd b ≠ 581 → kd b ≠ 583 → kd b ≠ 585 → kd b ≠ 587 → kd b ≠ 588 → kd b ≠ 589 → kd b ≠ 594 → kd b ≠ 595 → kd b ≠ 596 → f_98 b = f b) → (∀ b, kd b = 12 → ∀ j, fldR (f_98 b) j = fldR (f b) j) → (∀ b, kd b = 12 → ∀ j, j ≠ 5 → j ≠ 23 → j ≠ 35 → j ≠ 38 → fldI (f_98 b) j = fldI (f b) j) → (f_98 o0 = .inr (12, [.ref a_1, .ref a_2, .ref a_3, .int v_4, .ref a_5, .int v_70, .int v_7, .int v_8, .int v_9, .int v_10, .int v_11, .int v_12, .int v_13, .int v_14, .int v_15, .ref a_16, .ref a_17, .ref a_18, .ref a_19, .ref a_20, .ref a_21, .ref a_22, .ref a_23, .int v_71, .int v_25, .int v_26, .int v_27, .int v_28, .ref a_29, .int v_30, .ref a_31, .ref a_32, .int v_33, .int v_34, .ref a_35, .int v_71, .ref a_37, .ref a_38, .int 0, .int v_40, .ref a_41, .ref a_42, .ref a_43, .int v_44, .ref a_45, .ref a_46, .ref a_47, .ref a_48, .ref a_49, .ref a_50, .ref a_51, .ref a_52, .ref a_53, .int v_54, .int v_55, .ref a_56])) → 8 - y_96.toInt < (n : Int) → ∀ (ls : Array Slot), lv_has ls 4 [(1, .int y_96), (0, .ref o0)] → W p l e (headSpec (wU yX12_understand cX12_understand 4 (some .int)) { frames := 21, cells := 0, slots := 0, locals := 585 }).room s m [.ref o0].toArray below meth c H locs 0 0 (MQ below (va_Qi (fun (r : Int32) (f9 : Nat → va_E) => GI (okc cI cL cZ cR cG cH L kd) kd L f9 ∧ ((-2147483648) ≤ r.toInt ∧ r.toInt ≤ 2147483647) ∧ (∀ b, kd b ≠ 12 → kd b ≠ 579 → kd b ≠ 581 → kd b ≠ 583 → kd b ≠ 585 → kd b ≠ 587 → kd b ≠ 588 → kd b ≠ 589 → kd b ≠ 594 → kd b ≠ 595 → kd b ≠ 596 → f9 b = f b) ∧ (∀ b, kd b = 12 → ∀ j, fldR (f9 b) j = fldR (f b) j) ∧ (∀ b, kd b = 12 → ∀ j, j ≠ 5 → j ≠ 23 → j ≠ 35 → j ≠ 38 → fldI (f9 b) j = fldI (f b) j) ∧ (∀ (w5 z5 : Int32), fldI (f o0) 5 = some w5 → fldI (f9 o0) 5 = some z5 → z5.toInt = 0)) (qP (dC, dI) cI cL cZ cR cG cH L) (fun q => q ∈ L)) [.ref o0].toArray s 0 0 (fun q => q ∈ L)) (F0 m 27 ls []) := by
      intro n
      induction n with
      | zero => intro y_96 by_96 f_98 hG H locs hP hS hD hfr0 hrA12 hfA12 hfo_99 hmuhloop_95 ls hl; exfalso; omega
      | succ n ih_hloop_95 =>
        intro y_96 by_96 f_98 hG H locs hP hS hD hfr0 hrA12 hfA12 hfo_99 hmuhloop_95 ls hl
        refine lv_iload_n hx hb dX12_understand_27 rfl (lv_at hl 0 rfl) ?_
        refine lv_aload_n hx hb dX12_understand_28 rfl (lv_at hl 1 rfl) ?_
        refine tk_getP (D := (dC, dI)) (ci := 12) (v := .int v_71) (C := RX12) (T := TX12) (N := 56) hx hb hU inlX12 hown hK hP mo0 hfo_99 rfl 35 (by decide) (hU _ wd_1049) (fun _ h9 => h9) rfl dX12_understand_29 ?_
        refine lv_icmp_ge (tgt := 53) hx hb dX12_understand_32 (by decide) (fun c_100 => ?_) (fun c_100 => ?_)
        · skip
          rw [Int32.le_iff_toInt_le] at c_100
          refine lv_iconst (v := 0) hx hb dX12_understand_53 (by decide) ?_
          refine lv_istore_n (lv' := [(1, .int 0), (0, .ref o0)]) hx hb dX12_understand_54 rfl hl (by decide) rfl (fun ls hl => ?_)
          have hloop_111 : ∀ (n : Nat), ∀ (y_112 : Int32), (0 ≤ y_112.toInt ∧ y_112.toInt ≤ 12) → ∀ (f_114 : Nat → va_E), GI (okc cI cL cZ cR cG cH L kd) kd L f_114 → ∀ (H : Heap) (locs : List Loc), va_P (dC, dI) vwCl (va_pl L f_114) H → va_S (fun q => q ∈ L) s.heap H locs → va_D (fun q => q ∈ L) (va_pl L f_114) → (∀ b, kd b ≠ 12 → kd b ≠ 579 → kd b ≠ 581 → kd b ≠ 583 → kd b ≠ 585 → kd b ≠ 587 → kd b ≠ 588 → kd b ≠ 589 → kd b ≠ 594 → kd b ≠ 595 → kd b ≠ 596 → f_114 b = f b) → (∀ b, kd b = 12 → ∀ j, fldR (f_114 b) j = fldR (f b) j) → (∀ b, kd b = 12 → ∀ j, j ≠ 5 → j ≠ 23 → j ≠ 35 → j ≠ 38 → fldI (f_114 b) j = fldI (f b) j) → ∀ (whloop_111_0_38 : Int32), fldI (f_114 o0) 38 = some whloop_111_0_38 → ∀ (whloop_111_0_5 : Int32), fldI (f_114 o0) 5 = some whloop_111_0_5 → (whloop_111_0_38.toInt ≤ 8 * y_112.toInt) → (0 ≤ whloop_111_0_38.toInt ∧ whloop_111_0_38.toInt ≤ 96) → (0 ≤ whloop_111_0_5.toInt ∧ whloop_111_0_5.toInt ≤ 0) → 12 - y_112.toInt < (n : Int) → ∀ (ls : Array Slot), lv_has ls 4 [(1, .int y_112), (0, .ref o0)] → W p l e (headSpec (wU yX12_understand cX12_understand 4 (some .int)) { frames := 21, cells := 0, slots := 0, locals := 585 }).room s m [.ref o0].toArray below meth c H locs 0 0 (MQ below (va_Qi (fun (r : Int32) (f9 : Nat → va_E) => GI (okc cI cL cZ cR cG cH L kd) kd L f9 ∧ ((-2147483648) ≤ r.toInt ∧ r.toInt ≤ 2147483647) ∧ (∀ b, kd b ≠ 12 → kd b ≠ 579 → kd b ≠ 581 → kd b ≠ 583 → kd b ≠ 585 → kd b ≠ 587 → kd b ≠ 588 → kd b ≠ 589 → kd b ≠ 594 → kd b ≠ 595 → kd b ≠ 596 → f9 b = f b) ∧ (∀ b, kd b = 12 → ∀ j, fldR (f9 b) j = fldR (f b) j) ∧ (∀ b, kd b = 12 → ∀ j, j ≠ 5 → j ≠ 23 → j ≠ 35 → j ≠ 38 → fldI (f9 b) j = fldI (f b) j) ∧ (∀ (w5 z5 : Int32), fldI (f o0) 5 = some w5 → fldI (f9 o0) 5 = some z5 → z5.toInt = 0)) (qP (dC, dI) cI cL cZ cR cG cH L) (fun q => q ∈ L)) [.ref o0].toArray s 0 0 (fun q => q ∈ L)) (F0 m 55 ls []) := by
            intro n
            induction n with
            | zero => intro y_112 by_112 f_114 hG H locs hP hS hD hfr0 hrA12 hfA12 whloop_111_0_38 hghloop_111_0_38 whloop_111_0_5 hghloop_111_0_5 hrelhloop_111_0 hrelhloop_111_1 hrelhloop_111_2 hmuhloop_111 ls hl; exfalso; omega
            | succ n ih_hloop_111 =>
              intro y_112 by_112 f_114 hG H locs hP hS hD hfr0 hrA12 hfA12 whloop_111_0_38 hghloop_111_0_38 whloop_111_0_5 hghloop_111_0_5 hrelhloop_111_0 hrelhloop_111_1 hrelhloop_111_2 hmuhloop_111 ls hl
              obtain ⟨v_115, v_116, v_117, v_118, hfo_119, fa_120⟩ := op12_5_23_35_38 hfo_57 (hG _ mo0) ko0 (hrA12 o0 ko0) (hfA12 o0 ko0)
              have bv_115 : (0 ≤ v_115.toInt ∧ v_115.toInt ≤ 600) := fa12_5 fa_120
              have bv_116 : (0 ≤ v_116.toInt ∧ v_116.toInt ≤ 12) := fa12_23 fa_120
              have bv_117 : (0 ≤ v_117.toInt ∧ v_117.toInt ≤ 8) := fa12_35 fa_120
              have bv_118 : (0 ≤ v_118.toInt ∧ v_118.toInt ≤ 96) := fa12_38 fa_120
              obtain rfl : v_118 = whloop_111_0_38 := by rw [hfo_119] at hghloop_111_0_38; exact Option.some.inj hghloop_111_0_38
              obtain rfl : v_115 = whloop_111_0_5 := by rw [hfo_119] at hghloop_111_0_5; exact Option.some.inj hghloop_111_0_5
              refine lv_iload_n hx hb dX12_understand_55 rfl (lv_at hl 0 rfl) ?_
              refine lv_aload_n hx hb dX12_understand_56 rfl (lv_at hl 1 rfl) ?_
              refine tk_getP (D := (dC, dI)) (ci := 12) (v := .ref a_1) (C := RX12) (T := TX12) (N := 56) hx hb hU inlX12 hown hK hP mo0 hfo_119 rfl 0 (by decide) (hU _ wd_169) (fun _ h9 => h9) rfl dX12_understand_57 ?_
              refine lv_bipush (v := 18) hx hb dX12_understand_60 (by decide) ?_
              obtain ⟨g_122, hfo_121, hbg_122⟩ := un_575 (hG _ ma_1) ka_1
              refine tk_ildP hx hb hK hP 0 ma_1 hfo_121 rfl (vp_in_nI (n := 18) (by decide) (by decide)) dX12_understand_62 ?_
              refine lv_topi (fun x_123 ex_123 => ?_)
              have bx_123 : (0 ≤ x_123.toInt ∧ x_123.toInt ≤ 12) := by rw [ex_123]; exact hbg_122.2.2.2.1 _ (by decide) (by decide) (by decide)
              refine lv_icmp_ge (tgt := 263) hx hb dX12_understand_63 (by decide) (fun c_124 => ?_) (fun c_124 => ?_)
              · skip
                rw [Int32.le_iff_toInt_le] at c_124
                refine lv_aload_n hx hb dX12_understand_263 rfl (lv_at hl 1 rfl) ?_
                refine tk_getP (D := (dC, dI)) (ci := 12) (v := .int v_118) (C := RX12) (T := TX12) (N := 56) hx hb hU inlX12 hown hK hP mo0 hfo_119 rfl 38 (by decide) (hU _ wd_571) (fun _ h9 => h9) rfl dX12_understand_264 ?_
                exact W.iret (v := v_118) hx hb hr (fun t ht hW => ⟨⟨v_118, f_114, rfl, ⟨hG, (by constructor <;> omega), hfr0, hrA12, hfA12, (by intro w5 z5 e5 d5; rw [hfo_57] at e5; rw [hfo_119] at d5; obtain rfl := Option.some.inj e5; obtain rfl := Option.some.inj d5; omega)⟩, by rw [ht]; exact hP, va_K.moved hW.alike hK, pl_in hD⟩, hS.F ht⟩) hS.2.2 dX12_understand_267
              · skip
                rw [Int32.le_iff_toInt_le] at c_124
                refine lv_iconst (v := 0) hx hb dX12_understand_66 (by decide) ?_
                refine lv_istore_n (lv' := [(2, .int 0), (1, .int y_112), (0, .ref o0)]) hx hb dX12_understand_67 rfl hl (by decide) rfl (fun ls hl => ?_)
                have hloop_136 : ∀ (n : Nat), ∀ (y_137 : Int32), (0 ≤ y_137.toInt ∧ y_137.toInt ≤ 8) → ∀ (f_139 : Nat → va_E), GI (okc cI cL cZ cR cG cH L kd) kd L f_139 → ∀ (H : Heap) (locs : List Loc), va_P (dC, dI) vwCl (va_pl L f_139) H → va_S (fun q => q ∈ L) s.heap H locs → va_D (fun q => q ∈ L) (va_pl L f_139) → (∀ b, kd b ≠ 12 → kd b ≠ 579 → kd b ≠ 581 → kd b ≠ 583 → kd b ≠ 585 → kd b ≠ 587 → kd b ≠ 588 → kd b ≠ 589 → kd b ≠ 594 → kd b ≠ 595 → kd b ≠ 596 → f_139 b = f b) → (∀ b, kd b = 12 → ∀ j, fldR (f_139 b) j = fldR (f b) j) → (∀ b, kd b = 12 → ∀ j, j ≠ 5 → j ≠ 23 → j ≠ 35 → j ≠ 38 → fldI (f_139 b) j = fldI (f b) j) → (f_139 a_1 = .inl (cI, 1560, .inl g_122)) → ∀ (whloop_136_0_38 : Int32), fldI (f_139 o0) 38 = some whloop_136_0_38 → ∀ (whloop_136_0_5 : Int32), fldI (f_139 o0) 5 = some whloop_136_0_5 → (whloop_136_0_38.toInt ≤ 8 * y_112.toInt + y_137.toInt) → (0 ≤ whloop_136_0_38.toInt ∧ whloop_136_0_38.toInt ≤ 96) → (0 ≤ whloop_136_0_5.toInt ∧ whloop_136_0_5.toInt ≤ 0) → 8 - y_137.toInt < (n : Int) → ∀ (ls : Array Slot), lv_has ls 4 [(2, .int y_137), (1, .int y_112), (0, .ref o0)] → W p l e (headSpec (wU yX12_understand cX12_understand 4 (some .int)) { frames := 21, cells := 0, slots := 0, locals := 585 }).room s m [.ref o0].toArray below meth c H locs 0 0 (MQ below (va_Qi (fun (r : Int32) (f9 : Nat → va_E) => GI (okc cI cL cZ cR cG cH L kd) kd L f9 ∧ ((-2147483648) ≤ r.toInt ∧ r.toInt ≤ 2147483647) ∧ (∀ b, kd b ≠ 12 → kd b ≠ 579 → kd b ≠ 581 → kd b ≠ 583 → kd b ≠ 585 → kd b ≠ 587 → kd b ≠ 588 → kd b ≠ 589 → kd b ≠ 594 → kd b ≠ 595 → kd b ≠ 596 → f9 b = f b) ∧ (∀ b, kd b = 12 → ∀ j, fldR (f9 b) j = fldR (f b) j) ∧ (∀ b, kd b = 12 → ∀ j, j ≠ 5 → j ≠ 23 → j ≠ 35 → j ≠ 38 → fldI (f9 b) j = fldI (f b) j) ∧ (∀ (w5 z5 : Int32), fldI (f o0) 5 = some w5 → fldI (f9 o0) 5 = some z5 → z5.toInt = 0)) (qP (dC, dI) cI cL cZ cR cG cH L) (fun q => q ∈ L)) [.ref o0].toArray s 0 0 (fun q => q ∈ L)) (F0 m 68 ls []) := by
                  intro n
                  induction n with
                  | zero => intro y_137 by_137 f_139 hG H locs hP hS hD hfr0 hrA12 hfA12 hfo_140 whloop_136_0_38 hghloop_136_0_38 whloop_136_0_5 hghloop_136_0_5 hrelhloop_136_0 hrelhloop_136_1 hrelhloop_136_2 hmuhloop_136 ls hl; exfalso; omega
                  | succ n ih_hloop_136 =>
                    intro y_137 by_137 f_139 hG H locs hP hS hD hfr0 hrA12 hfA12 hfo_140 whloop_136_0_38 hghloop_136_0_38 whloop_136_0_5 hghloop_136_0_5 hrelhloop_136_0 hrelhloop_136_1 hrelhloop_136_2 hmuhloop_136 ls hl
                    obtain ⟨v_141, v_142, v_143, v_144, hfo_145, fa_146⟩ := op12_5_23_35_38 hfo_57 (hG _ mo0) ko0 (hrA12 o0 ko0) (hfA12 o0 ko0)
                    have bv_141 : (0 ≤ v_141.toInt ∧ v_141.toInt ≤ 600) := fa12_5 fa_146
                    have bv_142 : (0 ≤ v_142.toInt ∧ v_142.toInt ≤ 12) := fa12_23 fa_146
                    have bv_143 : (0 ≤ v_143.toInt ∧ v_143.toInt ≤ 8) := fa12_35 fa_146
                    have bv_144 : (0 ≤ v_144.toInt ∧ v_144.toInt ≤ 96) := fa12_38 fa_146
                    obtain rfl : v_144 = whloop_136_0_38 := by rw [hfo_145] at hghloop_136_0_38; exact Option.some.inj hghloop_136_0_38
                    obtain rfl : v_141 = whloop_136_0_5 := by rw [hfo_145] at hghloop_136_0_5; exact Option.some.inj hghloop_136_0_5
                    refine lv_iload_n hx hb dX12_understand_68 rfl (lv_at hl 0 rfl) ?_
                    refine lv_aload_n hx hb dX12_understand_69 rfl (lv_at hl 2 rfl) ?_
                    refine tk_getP (D := (dC, dI)) (ci := 12) (v := .ref a_1) (C := RX12) (T := TX12) (N := 56) hx hb hU inlX12 hown hK hP mo0 hfo_145 rfl 0 (by decide) (hU _ wd_169) (fun _ h9 => h9) rfl dX12_understand_70 ?_
                    refine lv_bipush (v := 19) hx hb dX12_understand_73 (by decide) ?_
                    refine tk_ildP hx hb hK hP 0 ma_1 hfo_140 rfl (vp_in_nI (n := 19) (by decide) (by decide)) dX12_understand_75 ?_
                    refine lv_topi (fun x_147 ex_147 => ?_)
                    have bx_147 : (0 ≤ x_147.toInt ∧ x_147.toInt ≤ 8) := by rw [ex_147]; exact hbg_122.2.2.2.2.1 _ (by decide) (by decide) (by decide)
                    refine lv_icmp_ge (tgt := 257) hx hb dX12_understand_76 (by decide) (fun c_148 => ?_) (fun c_148 => ?_)
                    · skip
                      rw [Int32.le_iff_toInt_le] at c_148
                      obtain ⟨x_149, ex_149⟩ : ∃ y : Int32, y_112 + 1 = y := ⟨_, rfl⟩
                      have hx_149 : x_149.toInt = y_112.toInt + 1 := by rw [← ex_149, ad_I (by rw [ti_1]; omega) (by rw [ti_1]; omega), ti_1]
                      have bx_149 : (1 ≤ x_149.toInt ∧ x_149.toInt ≤ 12) := by constructor <;> omega
                      refine lv_iinc (v := x_149) (lv' := [(1, .int x_149), (2, .int y_137), (0, .ref o0)]) hx hb dX12_understand_257 hl (k := 1) rfl ex_149 (by decide) rfl (fun ls hl => ?_)
                      refine lv_goto (tgt := 55) hx hb dX12_understand_260 (by decide) ?_
                      exact ih_hloop_111 x_149 (by constructor <;> omega) f_139 hG _ _ hP hS hD hfr0 hrA12 hfA12 v_144 (by rw [hfo_145]; rfl) v_141 (by rw [hfo_145]; rfl) (by omega) (by omega) (by omega) (by omega) ls (lv_sub hl [0, 2] rfl)
                    · skip
                      rw [Int32.le_iff_toInt_le] at c_148
                      refine lv_aload_n hx hb dX12_understand_79 rfl (lv_at hl 2 rfl) ?_
                      refine lv_iconst (v := 0) hx hb dX12_understand_80 (by decide) ?_
                      refine tk_putP (D := (dC, dI)) (ci := 12) (v := .int 0) (ty := .int) (C := RX12) (T := TX12) (N := 56) hx hb hU inlX12 tyX12 tyX12_ok nmX12 hown hK hP hD hS mo0 hfo_145 rfl 23 (by decide) (hU _ wd_867) (fun _ h9 => h9) rfl (by decide +kernel) rfl rfl (Nat.le_of_ble_eq_true rfl) dX12_understand_81 (fun H locs hP hD hS => ?_)
                      have fa_150 := fu12_23 (y := 0) fa_146 (by decide)
                      obtain ⟨f_152, ef_152⟩ : ∃ y : Nat → va_E, y = va_up f_139 o0 (.inr (12, [.ref a_1, .ref a_2, .ref a_3, .int v_4, .ref a_5, .int v_141, .int v_7, .int v_8, .int v_9, .int v_10, .int v_11, .int v_12, .int v_13, .int v_14, .int v_15, .ref a_16, .ref a_17, .ref a_18, .ref a_19, .ref a_20, .ref a_21, .ref a_22, .ref a_23, .int 0, .int v_25, .int v_26, .int v_27, .int v_28, .ref a_29, .int v_30, .ref a_31, .ref a_32, .int v_33, .int v_34, .ref a_35, .int v_143, .ref a_37, .ref a_38, .int v_144, .int v_40, .ref a_41, .ref a_42, .ref a_43, .int v_44, .ref a_45, .ref a_46, .ref a_47, .ref a_48, .ref a_49, .ref a_50, .ref a_51, .ref a_52, .ref a_53, .int v_54, .int v_55, .ref a_56])) := ⟨_, rfl⟩
                      have hP : va_P (dC, dI) vwCl (va_pl L f_152) H := by rw [ef_152]; exact hP
                      have hD : va_D (fun q => q ∈ L) (va_pl L f_152) := by rw [ef_152]; exact hD
                      have hG : GI (okc cI cL cZ cR cG cH L kd) kd L f_152 := by rw [ef_152]; exact hG.set o0 (mk_12 ko0 (fo12 fa_150))
                      have hfo_153 : f_152 a_1 = .inl (cI, 1560, .inl g_122) := by rw [ef_152, up_ne (kd_ne ko0 ka_1 (by decide))]; exact hfo_140
                      have hfr0 : ∀ b, kd b ≠ 12 → kd b ≠ 579 → kd b ≠ 581 → kd b ≠ 583 → kd b ≠ 585 → kd b ≠ 587 → kd b ≠ 588 → kd b ≠ 589 → kd b ≠ 594 → kd b ≠ 595 → kd b ≠ 596 → f_152 b = f b := fun b q12 q579 q581 q583 q585 q587 q588 q589 q594 q595 q596 => (congrFun ef_152 b).trans ((up_ne (fun e9 => q12 (by rw [e9]; exact ko0))).trans (hfr0 b q12 q579 q581 q583 q585 q587 q588 q589 q594 q595 q596))
                      have hrA12 : ∀ b, kd b = 12 → ∀ j, fldR (f_152 b) j = fldR (f b) j := fun b kb j => ((congrArg (fun x => fldR x j) (congrFun ef_152 b)).trans (fra_up (fun j => by rw [hfo_145]; exact fr_set (k := 23) rfl rfl) j b)).trans (hrA12 b kb j)
                      have hfA12 : ∀ b, kd b = 12 → ∀ j, j ≠ 5 → j ≠ 23 → j ≠ 35 → j ≠ 38 → fldI (f_152 b) j = fldI (f b) j := fun b kb j n5 n23 n35 n38 => ((congrArg (fun x => fldI x j) (congrFun ef_152 b)).trans (fia_up (fun h9 => by rw [hfo_145]; exact fi_set (k := 23) rfl h9) n23 b)).trans (hfA12 b kb j n5 n23 n35 n38)
                      have hfo_154 : f_152 o0 = .inr (12, [.ref a_1, .ref a_2, .ref a_3, .int v_4, .ref a_5, .int v_141, .int v_7, .int v_8, .int v_9, .int v_10, .int v_11, .int v_12, .int v_13, .int v_14, .int v_15, .ref a_16, .ref a_17, .ref a_18, .ref a_19, .ref a_20, .ref a_21, .ref a_22, .ref a_23, .int 0, .int v_25, .int v_26, .int v_27, .int v_28, .ref a_29, .int v_30, .ref a_31, .ref a_32, .int v_33, .int v_34, .ref a_35, .int v_143, .ref a_37, .ref a_38, .int v_144, .int v_40, .ref a_41, .ref a_42, .ref a_43, .int v_44, .ref a_45, .ref a_46, .ref a_47, .ref a_48, .ref a_49, .ref a_50, .ref a_51, .ref a_52, .ref a_53, .int v_54, .int v_55, .ref a_56]) := by rw [ef_152]; exact up_self
                      refine lv_iconst (v := 0) hx hb dX12_understand_84 (by decide) ?_
                      refine lv_istore_n (lv' := [(3, .int 0), (2, .int y_137), (1, .int y_112), (0, .ref o0)]) hx hb dX12_understand_85 rfl hl (by decide) rfl (fun ls hl => ?_)
                      have hloop_166 : ∀ (n : Nat), ∀ (y_167 : Int32), (0 ≤ y_167.toInt ∧ y_167.toInt ≤ 6) → ∀ (f_169 : Nat → va_E), GI (okc cI cL cZ cR cG cH L kd) kd L f_169 → ∀ (H : Heap) (locs : List Loc), va_P (dC, dI) vwCl (va_pl L f_169) H → va_S (fun q => q ∈ L) s.heap H locs → va_D (fun q => q ∈ L) (va_pl L f_169) → (∀ b, kd b ≠ 12 → kd b ≠ 579 → kd b ≠ 581 → kd b ≠ 583 → kd b ≠ 585 → kd b ≠ 587 → kd b ≠ 588 → kd b ≠ 589 → kd b ≠ 594 → kd b ≠ 595 → kd b ≠ 596 → f_169 b = f b) → (∀ b, kd b = 12 → ∀ j, fldR (f_169 b) j = fldR (f b) j) → (∀ b, kd b = 12 → ∀ j, j ≠ 5 → j ≠ 23 → j ≠ 35 → j ≠ 38 → fldI (f_169 b) j = fldI (f b) j) → (f_169 a_1 = .inl (cI, 1560, .inl g_122)) → ∀ (whloop_166_0_23 : Int32), fldI (f_169 o0) 23 = some whloop_166_0_23 → ∀ (whloop_166_0_38 : Int32), fldI (f_169 o0) 38 = some whloop_166_0_38 → ∀ (whloop_166_0_5 : Int32), fldI (f_169 o0) 5 = some whloop_166_0_5 → (whloop_166_0_23.toInt ≤ y_167.toInt) → (whloop_166_0_38.toInt ≤ 8 * y_112.toInt + y_137.toInt) → (0 ≤ whloop_166_0_23.toInt ∧ whloop_166_0_23.toInt ≤ 6) → (0 ≤ whloop_166_0_38.toInt ∧ whloop_166_0_38.toInt ≤ 96) → (0 ≤ whloop_166_0_5.toInt ∧ whloop_166_0_5.toInt ≤ 0) → 6 - y_167.toInt < (n : Int) → ∀ (ls : Array Slot), lv_has ls 4 [(3, .int y_167), (2, .int y_137), (1, .int y_112), (0, .ref o0)] → W p l e (headSpec (wU yX12_understand cX12_understand 4 (some .int)) { frames := 21, cells := 0, slots := 0, locals := 585 }).room s m [.ref o0].toArray below meth c H locs 0 0 (MQ below (va_Qi (fun (r : Int32) (f9 : Nat → va_E) => GI (okc cI cL cZ cR cG cH L kd) kd L f9 ∧ ((-2147483648) ≤ r.toInt ∧ r.toInt ≤ 2147483647) ∧ (∀ b, kd b ≠ 12 → kd b ≠ 579 → kd b ≠ 581 → kd b ≠ 583 → kd b ≠ 585 → kd b ≠ 587 → kd b ≠ 588 → kd b ≠ 589 → kd b ≠ 594 → kd b ≠ 595 → kd b ≠ 596 → f9 b = f b) ∧ (∀ b, kd b = 12 → ∀ j, fldR (f9 b) j = fldR (f b) j) ∧ (∀ b, kd b = 12 → ∀ j, j ≠ 5 → j ≠ 23 → j ≠ 35 → j ≠ 38 → fldI (f9 b) j = fldI (f b) j) ∧ (∀ (w5 z5 : Int32), fldI (f o0) 5 = some w5 → fldI (f9 o0) 5 = some z5 → z5.toInt = 0)) (qP (dC, dI) cI cL cZ cR cG cH L) (fun q => q ∈ L)) [.ref o0].toArray s 0 0 (fun q => q ∈ L)) (F0 m 86 ls []) := by
                        intro n
                        induction n with
                        | zero => intro y_167 by_167 f_169 hG H locs hP hS hD hfr0 hrA12 hfA12 hfo_170 whloop_166_0_23 hghloop_166_0_23 whloop_166_0_38 hghloop_166_0_38 whloop_166_0_5 hghloop_166_0_5 hrelhloop_166_0 hrelhloop_166_1 hrelhloop_166_2 hrelhloop_166_3 hrelhloop_166_4 hmuhloop_166 ls hl; exfalso; omega
                        | succ n ih_hloop_166 =>
                          intro y_167 by_167 f_169 hG H locs hP hS hD hfr0 hrA12 hfA12 hfo_170 whloop_166_0_23 hghloop_166_0_23 whloop_166_0_38 hghloop_166_0_38 whloop_166_0_5 hghloop_166_0_5 hrelhloop_166_0 hrelhloop_166_1 hrelhloop_166_2 hrelhloop_166_3 hrelhloop_166_4 hmuhloop_166 ls hl
                          obtain ⟨v_171, v_172, v_173, v_174, hfo_175, fa_176⟩ := op12_5_23_35_38 hfo_57 (hG _ mo0) ko0 (hrA12 o0 ko0) (hfA12 o0 ko0)
                          have bv_171 : (0 ≤ v_171.toInt ∧ v_171.toInt ≤ 600) := fa12_5 fa_176
                          have bv_172 : (0 ≤ v_172.toInt ∧ v_172.toInt ≤ 12) := fa12_23 fa_176
                          have bv_173 : (0 ≤ v_173.toInt ∧ v_173.toInt ≤ 8) := fa12_35 fa_176
                          have bv_174 : (0 ≤ v_174.toInt ∧ v_174.toInt ≤ 96) := fa12_38 fa_176
                          obtain rfl : v_172 = whloop_166_0_23 := by rw [hfo_175] at hghloop_166_0_23; exact Option.some.inj hghloop_166_0_23
                          obtain rfl : v_174 = whloop_166_0_38 := by rw [hfo_175] at hghloop_166_0_38; exact Option.some.inj hghloop_166_0_38
                          obtain rfl : v_171 = whloop_166_0_5 := by rw [hfo_175] at hghloop_166_0_5; exact Option.some.inj hghloop_166_0_5
                          refine lv_iload_n hx hb dX12_understand_86 rfl (lv_at hl 0 rfl) ?_
                          refine lv_aload_n hx hb dX12_understand_87 rfl (lv_at hl 3 rfl) ?_
                          refine tk_getP (D := (dC, dI)) (ci := 12) (v := .ref a_1) (C := RX12) (T := TX12) (N := 56) hx hb hU inlX12 hown hK hP mo0 hfo_175 rfl 0 (by decide) (hU _ wd_169) (fun _ h9 => h9) rfl dX12_understand_88 ?_
                          refine lv_bipush (v := 60) hx hb dX12_understand_91 (by decide) ?_
                          refine lv_bipush (v := 8) hx hb dX12_understand_93 (by decide) ?_
                          refine lv_iload_n hx hb dX12_understand_95 rfl (lv_at hl 2 rfl) ?_
                          refine lv_imul hx hb dX12_understand_96 ?_
                          refine lv_topi (fun x_177 ex_177 => ?_)
                          have hx_177 : x_177.toInt = 8 * y_112.toInt := by rw [ex_177, ml_I (by rw [ti_8]; omega) (by rw [ti_8]; omega), ti_8]
                          have bx_177 : (0 ≤ x_177.toInt ∧ x_177.toInt ≤ 88) := by constructor <;> omega
                          refine lv_iadd hx hb dX12_understand_97 ?_
                          refine lv_topi (fun x_178 ex_178 => ?_)
                          have hx_178 : x_178.toInt = 60 + x_177.toInt := by rw [ex_178, ad_I (by rw [ti_60]; omega) (by rw [ti_60]; omega), ti_60]
                          have bx_178 : (60 ≤ x_178.toInt ∧ x_178.toInt ≤ 148) := by constructor <;> omega
                          refine tk_ildP hx hb hK hP 0 ma_1 hfo_170 rfl (vp_in_iff.mpr (by constructor <;> omega)) dX12_understand_98 ?_
                          refine lv_topi (fun x_179 ex_179 => ?_)
                          have bx_179 : (0 ≤ x_179.toInt ∧ x_179.toInt ≤ 6) := by have hc9 := cl_I (i := x_178) (by omega); rw [ex_179]; exact hbg_122.2.2.2.2.2.2.2.2.2.2.2.1 _ (by omega) (by omega) (by omega)
                          refine lv_icmp_ge (tgt := 143) hx hb dX12_understand_99 (by decide) (fun c_180 => ?_) (fun c_180 => ?_)
                          · skip
                            rw [Int32.le_iff_toInt_le] at c_180
                            refine lv_iconst (v := 0) hx hb dX12_understand_143 (by decide) ?_
                            refine lv_istore_n (lv' := [(3, .int 0), (2, .int y_137), (1, .int y_112), (0, .ref o0)]) hx hb dX12_understand_144 rfl hl (by decide) rfl (fun ls hl => ?_)
                            have hloop_192 : ∀ (n : Nat), ∀ (y_193 : Int32), (0 ≤ y_193.toInt ∧ y_193.toInt ≤ 6) → ∀ (f_195 : Nat → va_E), GI (okc cI cL cZ cR cG cH L kd) kd L f_195 → ∀ (H : Heap) (locs : List Loc), va_P (dC, dI) vwCl (va_pl L f_195) H → va_S (fun q => q ∈ L) s.heap H locs → va_D (fun q => q ∈ L) (va_pl L f_195) → (∀ b, kd b ≠ 12 → kd b ≠ 579 → kd b ≠ 581 → kd b ≠ 583 → kd b ≠ 585 → kd b ≠ 587 → kd b ≠ 588 → kd b ≠ 589 → kd b ≠ 594 → kd b ≠ 595 → kd b ≠ 596 → f_195 b = f b) → (∀ b, kd b = 12 → ∀ j, fldR (f_195 b) j = fldR (f b) j) → (∀ b, kd b = 12 → ∀ j, j ≠ 5 → j ≠ 23 → j ≠ 35 → j ≠ 38 → fldI (f_195 b) j = fldI (f b) j) → (f_195 a_1 = .inl (cI, 1560, .inl g_122)) → ∀ (whloop_192_0_23 : Int32), fldI (f_195 o0) 23 = some whloop_192_0_23 → ∀ (whloop_192_0_38 : Int32), fldI (f_195 o0) 38 = some whloop_192_0_38 → ∀ (whloop_192_0_5 : Int32), fldI (f_195 o0) 5 = some whloop_192_0_5 → (whloop_192_0_23.toInt ≤ 6 + y_193.toInt) → (whloop_192_0_38.toInt ≤ 8 * y_112.toInt + y_137.toInt) → (0 ≤ whloop_192_0_23.toInt ∧ whloop_192_0_23.toInt ≤ 12) → (0 ≤ whloop_192_0_38.toInt ∧ whloop_192_0_38.toInt ≤ 96) → (0 ≤ whloop_192_0_5.toInt ∧ whloop_192_0_5.toInt ≤ 0) → 6 - y_193.toInt < (n : Int) → ∀ (ls : Array Slot), lv_has ls 4 [(3, .int y_193), (2, .int y_137), (1, .int y_112), (0, .ref o0)] → W p l e (headSpec (wU yX12_understand cX12_understand 4 (some .int)) { frames := 21, cells := 0, slots := 0, locals := 585 }).room s m [.ref o0].toArray below meth c H locs 0 0 (MQ below (va_Qi (fun (r : Int32) (f9 : Nat → va_E) => GI (okc cI cL cZ cR cG cH L kd) kd L f9 ∧ ((-2147483648) ≤ r.toInt ∧ r.toInt ≤ 2147483647) ∧ (∀ b, kd b ≠ 12 → kd b ≠ 579 → kd b ≠ 581 → kd b ≠ 583 → kd b ≠ 585 → kd b ≠ 587 → kd b ≠ 588 → kd b ≠ 589 → kd b ≠ 594 → kd b ≠ 595 → kd b ≠ 596 → f9 b = f b) ∧ (∀ b, kd b = 12 → ∀ j, fldR (f9 b) j = fldR (f b) j) ∧ (∀ b, kd b = 12 → ∀ j, j ≠ 5 → j ≠ 23 → j ≠ 35 → j ≠ 38 → fldI (f9 b) j = fldI (f b) j) ∧ (∀ (w5 z5 : Int32), fldI (f o0) 5 = some w5 → fldI (f9 o0) 5 = some z5 → z5.toInt = 0)) (qP (dC, dI) cI cL cZ cR cG cH L) (fun q => q ∈ L)) [.ref o0].toArray s 0 0 (fun q => q ∈ L)) (F0 m 145 ls []) := by
                              intro n
                              induction n with
                              | zero => intro y_193 by_193 f_195 hG H locs hP hS hD hfr0 hrA12 hfA12 hfo_196 whloop_192_0_23 hghloop_192_0_23 whloop_192_0_38 hghloop_192_0_38 whloop_192_0_5 hghloop_192_0_5 hrelhloop_192_0 hrelhloop_192_1 hrelhloop_192_2 hrelhloop_192_3 hrelhloop_192_4 hmuhloop_192 ls hl; exfalso; omega
                              | succ n ih_hloop_192 =>
                                intro y_193 by_193 f_195 hG H locs hP hS hD hfr0 hrA12 hfA12 hfo_196 whloop_192_0_23 hghloop_192_0_23 whloop_192_0_38 hghloop_192_0_38 whloop_192_0_5 hghloop_192_0_5 hrelhloop_192_0 hrelhloop_192_1 hrelhloop_192_2 hrelhloop_192_3 hrelhloop_192_4 hmuhloop_192 ls hl
                                obtain ⟨v_197, v_198, v_199, v_200, hfo_201, fa_202⟩ := op12_5_23_35_38 hfo_57 (hG _ mo0) ko0 (hrA12 o0 ko0) (hfA12 o0 ko0)
                                have bv_197 : (0 ≤ v_197.toInt ∧ v_197.toInt ≤ 600) := fa12_5 fa_202
                                have bv_198 : (0 ≤ v_198.toInt ∧ v_198.toInt ≤ 12) := fa12_23 fa_202
                                have bv_199 : (0 ≤ v_199.toInt ∧ v_199.toInt ≤ 8) := fa12_35 fa_202
                                have bv_200 : (0 ≤ v_200.toInt ∧ v_200.toInt ≤ 96) := fa12_38 fa_202
                                obtain rfl : v_198 = whloop_192_0_23 := by rw [hfo_201] at hghloop_192_0_23; exact Option.some.inj hghloop_192_0_23
                                obtain rfl : v_200 = whloop_192_0_38 := by rw [hfo_201] at hghloop_192_0_38; exact Option.some.inj hghloop_192_0_38
                                obtain rfl : v_197 = whloop_192_0_5 := by rw [hfo_201] at hghloop_192_0_5; exact Option.some.inj hghloop_192_0_5
                                refine lv_iload_n hx hb dX12_understand_145 rfl (lv_at hl 0 rfl) ?_
                                refine lv_aload_n hx hb dX12_understand_146 rfl (lv_at hl 3 rfl) ?_
                                refine tk_getP (D := (dC, dI)) (ci := 12) (v := .ref a_1) (C := RX12) (T := TX12) (N := 56) hx hb hU inlX12 hown hK hP mo0 hfo_201 rfl 0 (by decide) (hU _ wd_169) (fun _ h9 => h9) rfl dX12_understand_147 ?_
                                refine lv_sipush (v := 156) hx hb dX12_understand_150 (by decide) ?_
                                refine lv_bipush (v := 8) hx hb dX12_understand_153 (by decide) ?_
                                refine lv_iload_n hx hb dX12_understand_155 rfl (lv_at hl 1 rfl) ?_
                                refine lv_imul hx hb dX12_understand_156 ?_
                                refine lv_topi (fun x_203 ex_203 => ?_)
                                have hx_203 : x_203.toInt = 8 * y_137.toInt := by rw [ex_203, ml_I (by rw [ti_8]; omega) (by rw [ti_8]; omega), ti_8]
                                have bx_203 : (0 ≤ x_203.toInt ∧ x_203.toInt ≤ 56) := by constructor <;> omega
                                refine lv_iadd hx hb dX12_understand_157 ?_
                                refine lv_topi (fun x_204 ex_204 => ?_)
                                have hx_204 : x_204.toInt = 156 + x_203.toInt := by rw [ex_204, ad_I (by rw [ti_156]; omega) (by rw [ti_156]; omega), ti_156]
                                have bx_204 : (156 ≤ x_204.toInt ∧ x_204.toInt ≤ 212) := by constructor <;> omega
                                refine tk_ildP hx hb hK hP 0 ma_1 hfo_196 rfl (vp_in_iff.mpr (by constructor <;> omega)) dX12_understand_158 ?_
                                refine lv_topi (fun x_205 ex_205 => ?_)
                                have bx_205 : (0 ≤ x_205.toInt ∧ x_205.toInt ≤ 6) := by have hc9 := cl_I (i := x_204) (by omega); rw [ex_205]; exact hbg_122.2.2.2.2.2.2.2.2.2.2.2.1 _ (by omega) (by omega) (by omega)
                                refine lv_icmp_ge (tgt := 204) hx hb dX12_understand_159 (by decide) (fun c_206 => ?_) (fun c_206 => ?_)
                                · skip
                                  rw [Int32.le_iff_toInt_le] at c_206
                                  refine lv_aload_n hx hb dX12_understand_204 rfl (lv_at hl 3 rfl) ?_
                                  refine lv_aload_n hx hb dX12_understand_205 rfl (lv_at hl 3 rfl) ?_
                                  refine tk_getP (D := (dC, dI)) (ci := 12) (v := .ref a_1) (C := RX12) (T := TX12) (N := 56) hx hb hU inlX12 hown hK hP mo0 hfo_201 rfl 0 (by decide) (hU _ wd_169) (fun _ h9 => h9) rfl dX12_understand_206 ?_
                                  refine lv_bipush (v := 40) hx hb dX12_understand_209 (by decide) ?_
                                  refine tk_ildP hx hb hK hP 0 ma_1 hfo_196 rfl (vp_in_nI (n := 40) (by decide) (by decide)) dX12_understand_211 ?_
                                  refine lv_topi (fun x_207 ex_207 => ?_)
                                  have bx_207 : (0 ≤ x_207.toInt ∧ x_207.toInt ≤ 255) := by rw [ex_207]; exact hbg_122.2.2.2.2.2.2.1 _ (by decide) (by decide) (by decide)
                                  refine tk_ViP (As := [.int x_207]) (rest := []) (n := 1) hx hb hml hown hU hN hZ (s_X12_isSaid_k12 l (dC, dI) cI cL cZ cR cG cH Z kd L f_195 hG o0 mo0 ko0 x_207) wd_1050 wd_1051 wd_1052 wd_5 wd_1053 (by decide +kernel) ⟨Nat.le_of_ble_eq_true rfl, Nat.le_of_ble_eq_true rfl⟩ hK hP hD hS mo0 hfo_201 12 rfl rfl rfl hl.1 rfl (Nat.le_of_ble_eq_true rfl) dX12_understand_212 ⟨Nat.le_of_ble_eq_true rfl, Nat.le_of_ble_eq_true rfl⟩ (fun x_208 f_209 H locs hw hP hD hS => ?_)
                                  obtain ⟨hG, bx_208, hkc_210⟩ := hw
                                  have hfo_212 : f_209 a_1 = .inl (cI, 1560, .inl g_122) := by rw [hkc_210 a_1 (by rw [ka_1]; decide) (by rw [ka_1]; decide) (by rw [ka_1]; decide) (by rw [ka_1]; decide) (by rw [ka_1]; decide) (by rw [ka_1]; decide)]; exact hfo_196
                                  have hfo_213 : f_209 o0 = .inr (12, [.ref a_1, .ref a_2, .ref a_3, .int v_4, .ref a_5, .int v_197, .int v_7, .int v_8, .int v_9, .int v_10, .int v_11, .int v_12, .int v_13, .int v_14, .int v_15, .ref a_16, .ref a_17, .ref a_18, .ref a_19, .ref a_20, .ref a_21, .ref a_22, .ref a_23, .int v_198, .int v_25, .int v_26, .int v_27, .int v_28, .ref a_29, .int v_30, .ref a_31, .ref a_32, .int v_33, .int v_34, .ref a_35, .int v_199, .ref a_37, .ref a_38, .int v_200, .int v_40, .ref a_41, .ref a_42, .ref a_43, .int v_44, .ref a_45, .ref a_46, .ref a_47, .ref a_48, .ref a_49, .ref a_50, .ref a_51, .ref a_52, .ref a_53, .int v_54, .int v_55, .ref a_56]) := by rw [hkc_210 o0 (by rw [ko0]; decide) (by rw [ko0]; decide) (by rw [ko0]; decide) (by rw [ko0]; decide) (by rw [ko0]; decide) (by rw [ko0]; decide)]; exact hfo_201
                                  have hfr0 : ∀ b, kd b ≠ 12 → kd b ≠ 579 → kd b ≠ 581 → kd b ≠ 583 → kd b ≠ 585 → kd b ≠ 587 → kd b ≠ 588 → kd b ≠ 589 → kd b ≠ 594 → kd b ≠ 595 → kd b ≠ 596 → f_209 b = f b := fun b q12 q579 q581 q583 q585 q587 q588 q589 q594 q595 q596 => (hkc_210 b q579 q581 q583 q585 q587 q588).trans (hfr0 b q12 q579 q581 q583 q585 q587 q588 q589 q594 q595 q596)
                                  have hrA12 : ∀ b, kd b = 12 → ∀ j, fldR (f_209 b) j = fldR (f b) j := fun b kb j => (congrArg (fun x => fldR x j) (hkc_210 b (by rw [kb]; decide) (by rw [kb]; decide) (by rw [kb]; decide) (by rw [kb]; decide) (by rw [kb]; decide) (by rw [kb]; decide))).trans (hrA12 b kb j)
                                  have hfA12 : ∀ b, kd b = 12 → ∀ j, j ≠ 5 → j ≠ 23 → j ≠ 35 → j ≠ 38 → fldI (f_209 b) j = fldI (f b) j := fun b kb j n5 n23 n35 n38 => (congrArg (fun x => fldI x j) (hkc_210 b (by rw [kb]; decide) (by rw [kb]; decide) (by rw [kb]; decide) (by rw [kb]; decide) (by rw [kb]; decide) (by rw [kb]; decide))).trans (hfA12 b kb j n5 n23 n35 n38)
                                  refine lv_if_ne (tgt := 221) hx hb dX12_understand_215 (by decide) (fun c_214 => ?_) (fun c_214 => ?_)
                                  · skip
                                    rw [← Int32.toInt_inj, ti_0] at c_214
                                    have hclc_215 : (0 ≤ v_200.toInt ∧ v_200.toInt ≤ 95) := by constructor <;> omega
                                    refine lv_aload_n hx hb dX12_understand_221 rfl (lv_at hl 3 rfl) ?_
                                    refine tk_getP (D := (dC, dI)) (ci := 12) (v := .ref a_37) (C := RX12) (T := TX12) (N := 56) hx hb hU inlX12 hown hK hP mo0 hfo_213 rfl 36 (by decide) (hU _ wd_187) (fun _ h9 => h9) rfl dX12_understand_222 ?_
                                    refine lv_aload_n hx hb dX12_understand_225 rfl (lv_at hl 3 rfl) ?_
                                    refine tk_getP (D := (dC, dI)) (ci := 12) (v := .int v_200) (C := RX12) (T := TX12) (N := 56) hx hb hU inlX12 hown hK hP mo0 hfo_213 rfl 38 (by decide) (hU _ wd_571) (fun _ h9 => h9) rfl dX12_understand_226 ?_
                                    refine lv_iload_n hx hb dX12_understand_229 rfl (lv_at hl 2 rfl) ?_
                                    obtain ⟨g_217, hfo_216, hbg_217⟩ := un_595 (hG _ ma_37) ka_37
                                    refine tk_istP hx hb hK hP hD hS 0 ma_37 hfo_216 rfl (vp_in_iff.mpr (by constructor <;> omega)) dX12_understand_230 (fun H locs hP hD hS => ?_)
                                    obtain ⟨f_219, ef_219⟩ : ∃ y : Nat → va_E, y = va_up f_209 a_37 (.inl (cI, 96, .inl (upd g_217 (Int32.toNatClampNeg v_200) y_112))) := ⟨_, rfl⟩
                                    have hP : va_P (dC, dI) vwCl (va_pl L f_219) H := by rw [ef_219]; exact hP
                                    have hD : va_D (fun q => q ∈ L) (va_pl L f_219) := by rw [ef_219]; exact hD
                                    have hG : GI (okc cI cL cZ cR cG cH L kd) kd L f_219 := by rw [ef_219]; exact hG.set a_37 (mk_595 ka_37 ⟨_, rfl, okI_up hbg_217 ⟨i32_lo _, i32_hi _⟩ _⟩)
                                    have hfo_220 : f_219 a_1 = .inl (cI, 1560, .inl g_122) := by rw [ef_219, up_ne (kd_ne ka_37 ka_1 (by decide))]; exact hfo_212
                                    have hfo_221 : f_219 o0 = .inr (12, [.ref a_1, .ref a_2, .ref a_3, .int v_4, .ref a_5, .int v_197, .int v_7, .int v_8, .int v_9, .int v_10, .int v_11, .int v_12, .int v_13, .int v_14, .int v_15, .ref a_16, .ref a_17, .ref a_18, .ref a_19, .ref a_20, .ref a_21, .ref a_22, .ref a_23, .int v_198, .int v_25, .int v_26, .int v_27, .int v_28, .ref a_29, .int v_30, .ref a_31, .ref a_32, .int v_33, .int v_34, .ref a_35, .int v_199, .ref a_37, .ref a_38, .int v_200, .int v_40, .ref a_41, .ref a_42, .ref a_43, .int v_44, .ref a_45, .ref a_46, .ref a_47, .ref a_48, .ref a_49, .ref a_50, .ref a_51, .ref a_52, .ref a_53, .int v_54, .int v_55, .ref a_56]) := by rw [ef_219, up_ne (kd_ne ka_37 ko0 (by decide))]; exact hfo_213
                                    have hfr0 : ∀ b, kd b ≠ 12 → kd b ≠ 579 → kd b ≠ 581 → kd b ≠ 583 → kd b ≠ 585 → kd b ≠ 587 → kd b ≠ 588 → kd b ≠ 589 → kd b ≠ 594 → kd b ≠ 595 → kd b ≠ 596 → f_219 b = f b := fun b q12 q579 q581 q583 q585 q587 q588 q589 q594 q595 q596 => (congrFun ef_219 b).trans ((up_ne (fun e9 => q595 (by rw [e9]; exact ka_37))).trans (hfr0 b q12 q579 q581 q583 q585 q587 q588 q589 q594 q595 q596))
                                    have hrA12 : ∀ b, kd b = 12 → ∀ j, fldR (f_219 b) j = fldR (f b) j := fun b kb j => (congrArg (fun x => fldR x j) ((congrFun ef_219 b).trans (up_ne (kd_ne ka_37 kb (by decide))))).trans (hrA12 b kb j)
                                    have hfA12 : ∀ b, kd b = 12 → ∀ j, j ≠ 5 → j ≠ 23 → j ≠ 35 → j ≠ 38 → fldI (f_219 b) j = fldI (f b) j := fun b kb j n5 n23 n35 n38 => (congrArg (fun x => fldI x j) ((congrFun ef_219 b).trans (up_ne (kd_ne ka_37 kb (by decide))))).trans (hfA12 b kb j n5 n23 n35 n38)
                                    have hfo_222 : f_219 a_37 = .inl (cI, 96, .inl (upd g_217 (Int32.toNatClampNeg v_200) y_112)) := by rw [ef_219]; exact up_self
                                    refine lv_aload_n hx hb dX12_understand_231 rfl (lv_at hl 3 rfl) ?_
                                    refine tk_getP (D := (dC, dI)) (ci := 12) (v := .ref a_38) (C := RX12) (T := TX12) (N := 56) hx hb hU inlX12 hown hK hP mo0 hfo_221 rfl 37 (by decide) (hU _ wd_188) (fun _ h9 => h9) rfl dX12_understand_232 ?_
                                    refine lv_aload_n hx hb dX12_understand_235 rfl (lv_at hl 3 rfl) ?_
                                    refine tk_getP (D := (dC, dI)) (ci := 12) (v := .int v_200) (C := RX12) (T := TX12) (N := 56) hx hb hU inlX12 hown hK hP mo0 hfo_221 rfl 38 (by decide) (hU _ wd_571) (fun _ h9 => h9) rfl dX12_understand_236 ?_
                                    refine lv_iload_n hx hb dX12_understand_239 rfl (lv_at hl 1 rfl) ?_
                                    obtain ⟨g_224, hfo_223, hbg_224⟩ := un_596 (hG _ ma_38) ka_38
                                    refine tk_istP hx hb hK hP hD hS 0 ma_38 hfo_223 rfl (vp_in_iff.mpr (by constructor <;> omega)) dX12_understand_240 (fun H locs hP hD hS => ?_)
                                    obtain ⟨f_226, ef_226⟩ : ∃ y : Nat → va_E, y = va_up f_219 a_38 (.inl (cI, 96, .inl (upd g_224 (Int32.toNatClampNeg v_200) y_137))) := ⟨_, rfl⟩
                                    have hP : va_P (dC, dI) vwCl (va_pl L f_226) H := by rw [ef_226]; exact hP
                                    have hD : va_D (fun q => q ∈ L) (va_pl L f_226) := by rw [ef_226]; exact hD
                                    have hG : GI (okc cI cL cZ cR cG cH L kd) kd L f_226 := by rw [ef_226]; exact hG.set a_38 (mk_596 ka_38 ⟨_, rfl, okI_up hbg_224 ⟨i32_lo _, i32_hi _⟩ _⟩)
                                    have hfo_227 : f_226 a_1 = .inl (cI, 1560, .inl g_122) := by rw [ef_226, up_ne (kd_ne ka_38 ka_1 (by decide))]; exact hfo_220
                                    have hfo_228 : f_226 o0 = .inr (12, [.ref a_1, .ref a_2, .ref a_3, .int v_4, .ref a_5, .int v_197, .int v_7, .int v_8, .int v_9, .int v_10, .int v_11, .int v_12, .int v_13, .int v_14, .int v_15, .ref a_16, .ref a_17, .ref a_18, .ref a_19, .ref a_20, .ref a_21, .ref a_22, .ref a_23, .int v_198, .int v_25, .int v_26, .int v_27, .int v_28, .ref a_29, .int v_30, .ref a_31, .ref a_32, .int v_33, .int v_34, .ref a_35, .int v_199, .ref a_37, .ref a_38, .int v_200, .int v_40, .ref a_41, .ref a_42, .ref a_43, .int v_44, .ref a_45, .ref a_46, .ref a_47, .ref a_48, .ref a_49, .ref a_50, .ref a_51, .ref a_52, .ref a_53, .int v_54, .int v_55, .ref a_56]) := by rw [ef_226, up_ne (kd_ne ka_38 ko0 (by decide))]; exact hfo_221
                                    have hfr0 : ∀ b, kd b ≠ 12 → kd b ≠ 579 → kd b ≠ 581 → kd b ≠ 583 → kd b ≠ 585 → kd b ≠ 587 → kd b ≠ 588 → kd b ≠ 589 → kd b ≠ 594 → kd b ≠ 595 → kd b ≠ 596 → f_226 b = f b := fun b q12 q579 q581 q583 q585 q587 q588 q589 q594 q595 q596 => (congrFun ef_226 b).trans ((up_ne (fun e9 => q596 (by rw [e9]; exact ka_38))).trans (hfr0 b q12 q579 q581 q583 q585 q587 q588 q589 q594 q595 q596))
                                    have hrA12 : ∀ b, kd b = 12 → ∀ j, fldR (f_226 b) j = fldR (f b) j := fun b kb j => (congrArg (fun x => fldR x j) ((congrFun ef_226 b).trans (up_ne (kd_ne ka_38 kb (by decide))))).trans (hrA12 b kb j)
                                    have hfA12 : ∀ b, kd b = 12 → ∀ j, j ≠ 5 → j ≠ 23 → j ≠ 35 → j ≠ 38 → fldI (f_226 b) j = fldI (f b) j := fun b kb j n5 n23 n35 n38 => (congrArg (fun x => fldI x j) ((congrFun ef_226 b).trans (up_ne (kd_ne ka_38 kb (by decide))))).trans (hfA12 b kb j n5 n23 n35 n38)
                                    have hfo_229 : f_226 a_38 = .inl (cI, 96, .inl (upd g_224 (Int32.toNatClampNeg v_200) y_137)) := by rw [ef_226]; exact up_self
                                    refine lv_aload_n hx hb dX12_understand_241 rfl (lv_at hl 3 rfl) ?_
                                    refine lv_dup hx hb dX12_understand_242 rfl ?_
                                    refine tk_getP (D := (dC, dI)) (ci := 12) (v := .int v_200) (C := RX12) (T := TX12) (N := 56) hx hb hU inlX12 hown hK hP mo0 hfo_228 rfl 38 (by decide) (hU _ wd_571) (fun _ h9 => h9) rfl dX12_understand_243 ?_
                                    refine lv_iconst (v := 1) hx hb dX12_understand_246 (by decide) ?_
                                    refine lv_iadd hx hb dX12_understand_247 ?_
                                    refine lv_topi (fun x_230 ex_230 => ?_)
                                    have hx_230 : x_230.toInt = v_200.toInt + 1 := by rw [ex_230, ad_I (by rw [ti_1]; omega) (by rw [ti_1]; omega), ti_1]
                                    have bx_230 : (1 ≤ x_230.toInt ∧ x_230.toInt ≤ 96) := by constructor <;> omega
                                    refine tk_putP (D := (dC, dI)) (ci := 12) (v := .int x_230) (ty := .int) (C := RX12) (T := TX12) (N := 56) hx hb hU inlX12 tyX12 tyX12_ok nmX12 hown hK hP hD hS mo0 hfo_228 rfl 38 (by decide) (hU _ wd_571) (fun _ h9 => h9) rfl (by decide +kernel) rfl rfl (Nat.le_of_ble_eq_true rfl) dX12_understand_248 (fun H locs hP hD hS => ?_)
                                    have fa_231 := fu12_38 (y := x_230) fa_202 (by constructor <;> omega)
                                    obtain ⟨f_233, ef_233⟩ : ∃ y : Nat → va_E, y = va_up f_226 o0 (.inr (12, [.ref a_1, .ref a_2, .ref a_3, .int v_4, .ref a_5, .int v_197, .int v_7, .int v_8, .int v_9, .int v_10, .int v_11, .int v_12, .int v_13, .int v_14, .int v_15, .ref a_16, .ref a_17, .ref a_18, .ref a_19, .ref a_20, .ref a_21, .ref a_22, .ref a_23, .int v_198, .int v_25, .int v_26, .int v_27, .int v_28, .ref a_29, .int v_30, .ref a_31, .ref a_32, .int v_33, .int v_34, .ref a_35, .int v_199, .ref a_37, .ref a_38, .int x_230, .int v_40, .ref a_41, .ref a_42, .ref a_43, .int v_44, .ref a_45, .ref a_46, .ref a_47, .ref a_48, .ref a_49, .ref a_50, .ref a_51, .ref a_52, .ref a_53, .int v_54, .int v_55, .ref a_56])) := ⟨_, rfl⟩
                                    have hP : va_P (dC, dI) vwCl (va_pl L f_233) H := by rw [ef_233]; exact hP
                                    have hD : va_D (fun q => q ∈ L) (va_pl L f_233) := by rw [ef_233]; exact hD
                                    have hG : GI (okc cI cL cZ cR cG cH L kd) kd L f_233 := by rw [ef_233]; exact hG.set o0 (mk_12 ko0 (fo12 fa_231))
                                    have hfo_234 : f_233 a_1 = .inl (cI, 1560, .inl g_122) := by rw [ef_233, up_ne (kd_ne ko0 ka_1 (by decide))]; exact hfo_227
                                    have hfr0 : ∀ b, kd b ≠ 12 → kd b ≠ 579 → kd b ≠ 581 → kd b ≠ 583 → kd b ≠ 585 → kd b ≠ 587 → kd b ≠ 588 → kd b ≠ 589 → kd b ≠ 594 → kd b ≠ 595 → kd b ≠ 596 → f_233 b = f b := fun b q12 q579 q581 q583 q585 q587 q588 q589 q594 q595 q596 => (congrFun ef_233 b).trans ((up_ne (fun e9 => q12 (by rw [e9]; exact ko0))).trans (hfr0 b q12 q579 q581 q583 q585 q587 q588 q589 q594 q595 q596))
                                    have hrA12 : ∀ b, kd b = 12 → ∀ j, fldR (f_233 b) j = fldR (f b) j := fun b kb j => ((congrArg (fun x => fldR x j) (congrFun ef_233 b)).trans (fra_up (fun j => by rw [hfo_228]; exact fr_set (k := 38) rfl rfl) j b)).trans (hrA12 b kb j)
                                    have hfA12 : ∀ b, kd b = 12 → ∀ j, j ≠ 5 → j ≠ 23 → j ≠ 35 → j ≠ 38 → fldI (f_233 b) j = fldI (f b) j := fun b kb j n5 n23 n35 n38 => ((congrArg (fun x => fldI x j) (congrFun ef_233 b)).trans (fia_up (fun h9 => by rw [hfo_228]; exact fi_set (k := 38) rfl h9) n38 b)).trans (hfA12 b kb j n5 n23 n35 n38)
                                    have hfo_235 : f_233 o0 = .inr (12, [.ref a_1, .ref a_2, .ref a_3, .int v_4, .ref a_5, .int v_197, .int v_7, .int v_8, .int v_9, .int v_10, .int v_11, .int v_12, .int v_13, .int v_14, .int v_15, .ref a_16, .ref a_17, .ref a_18, .ref a_19, .ref a_20, .ref a_21, .ref a_22, .ref a_23, .int v_198, .int v_25, .int v_26, .int v_27, .int v_28, .ref a_29, .int v_30, .ref a_31, .ref a_32, .int v_33, .int v_34, .ref a_35, .int v_199, .ref a_37, .ref a_38, .int x_230, .int v_40, .ref a_41, .ref a_42, .ref a_43, .int v_44, .ref a_45, .ref a_46, .ref a_47, .ref a_48, .ref a_49, .ref a_50, .ref a_51, .ref a_52, .ref a_53, .int v_54, .int v_55, .ref a_56]) := by rw [ef_233]; exact up_self
                                    obtain ⟨x_236, ex_236⟩ : ∃ y : Int32, y_137 + 1 = y := ⟨_, rfl⟩
                                    have hx_236 : x_236.toInt = y_137.toInt + 1 := by rw [← ex_236, ad_I (by rw [ti_1]; omega) (by rw [ti_1]; omega), ti_1]
                                    have bx_236 : (1 ≤ x_236.toInt ∧ x_236.toInt ≤ 8) := by constructor <;> omega
                                    refine lv_iinc (v := x_236) (lv' := [(2, .int x_236), (3, .int y_193), (1, .int y_112), (0, .ref o0)]) hx hb dX12_understand_251 hl (k := 1) rfl ex_236 (by decide) rfl (fun ls hl => ?_)
                                    refine lv_goto (tgt := 68) hx hb dX12_understand_254 (by decide) ?_
                                    exact ih_hloop_136 x_236 (by constructor <;> omega) f_233 hG _ _ hP hS hD hfr0 hrA12 hfA12 hfo_234 x_230 (by rw [hfo_235]; rfl) v_197 (by rw [hfo_235]; rfl) (by omega) (by omega) (by omega) (by omega) ls (lv_sub hl [0, 2, 3] rfl)
                                  · skip
                                    rw [← Int32.toInt_inj, ti_0] at c_214
                                    refine lv_goto (tgt := 251) hx hb dX12_understand_218 (by decide) ?_
                                    obtain ⟨x_237, ex_237⟩ : ∃ y : Int32, y_137 + 1 = y := ⟨_, rfl⟩
                                    have hx_237 : x_237.toInt = y_137.toInt + 1 := by rw [← ex_237, ad_I (by rw [ti_1]; omega) (by rw [ti_1]; omega), ti_1]
                                    have bx_237 : (1 ≤ x_237.toInt ∧ x_237.toInt ≤ 8) := by constructor <;> omega
                                    refine lv_iinc (v := x_237) (lv' := [(2, .int x_237), (3, .int y_193), (1, .int y_112), (0, .ref o0)]) hx hb dX12_understand_251 hl (k := 1) rfl ex_237 (by decide) rfl (fun ls hl => ?_)
                                    refine lv_goto (tgt := 68) hx hb dX12_understand_254 (by decide) ?_
                                    exact ih_hloop_136 x_237 (by constructor <;> omega) f_209 hG _ _ hP hS hD hfr0 hrA12 hfA12 hfo_212 v_200 (by rw [hfo_213]; rfl) v_197 (by rw [hfo_213]; rfl) (by omega) (by omega) (by omega) (by omega) ls (lv_sub hl [0, 2, 3] rfl)
                                · skip
                                  rw [Int32.le_iff_toInt_le] at c_206
                                  have hclc_238 : (0 ≤ v_198.toInt ∧ v_198.toInt ≤ 11) := by constructor <;> omega
                                  refine lv_aload_n hx hb dX12_understand_162 rfl (lv_at hl 3 rfl) ?_
                                  refine tk_getP (D := (dC, dI)) (ci := 12) (v := .ref a_22) (C := RX12) (T := TX12) (N := 56) hx hb hU inlX12 hown hK hP mo0 hfo_201 rfl 21 (by decide) (hU _ wd_181) (fun _ h9 => h9) rfl dX12_understand_163 ?_
                                  refine lv_aload_n hx hb dX12_understand_166 rfl (lv_at hl 3 rfl) ?_
                                  refine tk_getP (D := (dC, dI)) (ci := 12) (v := .int v_198) (C := RX12) (T := TX12) (N := 56) hx hb hU inlX12 hown hK hP mo0 hfo_201 rfl 23 (by decide) (hU _ wd_867) (fun _ h9 => h9) rfl dX12_understand_167 ?_
                                  refine lv_aload_n hx hb dX12_understand_170 rfl (lv_at hl 3 rfl) ?_
                                  refine tk_getP (D := (dC, dI)) (ci := 12) (v := .ref a_1) (C := RX12) (T := TX12) (N := 56) hx hb hU inlX12 hown hK hP mo0 hfo_201 rfl 0 (by decide) (hU _ wd_169) (fun _ h9 => h9) rfl dX12_understand_171 ?_
                                  refine lv_sipush (v := 156) hx hb dX12_understand_174 (by decide) ?_
                                  refine lv_bipush (v := 8) hx hb dX12_understand_177 (by decide) ?_
                                  refine lv_iload_n hx hb dX12_understand_179 rfl (lv_at hl 1 rfl) ?_
                                  refine lv_imul hx hb dX12_understand_180 ?_
                                  refine lv_topi (fun x_239 ex_239 => ?_)
                                  have hx_239 : x_239.toInt = 8 * y_137.toInt := by rw [ex_239, ml_I (by rw [ti_8]; omega) (by rw [ti_8]; omega), ti_8]
                                  have bx_239 : (0 ≤ x_239.toInt ∧ x_239.toInt ≤ 56) := by constructor <;> omega
                                  refine lv_iadd hx hb dX12_understand_181 ?_
                                  refine lv_topi (fun x_240 ex_240 => ?_)
                                  have hx_240 : x_240.toInt = 156 + x_239.toInt := by rw [ex_240, ad_I (by rw [ti_156]; omega) (by rw [ti_156]; omega), ti_156]
                                  have bx_240 : (156 ≤ x_240.toInt ∧ x_240.toInt ≤ 212) := by constructor <;> omega
                                  refine lv_iconst (v := 1) hx hb dX12_understand_182 (by decide) ?_
                                  refine lv_iadd hx hb dX12_understand_183 ?_
                                  refine lv_topi (fun x_241 ex_241 => ?_)
                                  have hx_241 : x_241.toInt = x_240.toInt + 1 := by rw [ex_241, ad_I (by rw [ti_1]; omega) (by rw [ti_1]; omega), ti_1]
                                  have bx_241 : (157 ≤ x_241.toInt ∧ x_241.toInt ≤ 213) := by constructor <;> omega
                                  refine lv_iload_n hx hb dX12_understand_184 rfl (lv_at hl 0 rfl) ?_
                                  refine lv_iadd hx hb dX12_understand_185 ?_
                                  refine lv_topi (fun x_242 ex_242 => ?_)
                                  have hx_242 : x_242.toInt = x_241.toInt + y_193.toInt := by rw [ex_242, ad_I (by omega) (by omega)]
                                  have bx_242 : (157 ≤ x_242.toInt ∧ x_242.toInt ≤ 218) := by constructor <;> omega
                                  refine tk_ildP hx hb hK hP 0 ma_1 hfo_196 rfl (vp_in_iff.mpr (by constructor <;> omega)) dX12_understand_186 ?_
                                  refine lv_topi (fun x_243 ex_243 => ?_)
                                  have bx_243 : (0 ≤ x_243.toInt ∧ x_243.toInt ≤ 8) := by have hc9 := cl_I (i := x_242) (by omega); rw [ex_243]; exact hbg_122.2.2.2.2.2.2.2.2.2.2.1 _ (by omega) (by omega) (by omega)
                                  obtain ⟨g_245, hfo_244, hbg_245⟩ := un_589 (hG _ ma_22) ka_22
                                  refine tk_istP hx hb hK hP hD hS 0 ma_22 hfo_244 rfl (vp_in_iff.mpr (by constructor <;> omega)) dX12_understand_187 (fun H locs hP hD hS => ?_)
                                  obtain ⟨f_247, ef_247⟩ : ∃ y : Nat → va_E, y = va_up f_195 a_22 (.inl (cI, 16, .inl (upd g_245 (Int32.toNatClampNeg v_198) x_243))) := ⟨_, rfl⟩
                                  have hP : va_P (dC, dI) vwCl (va_pl L f_247) H := by rw [ef_247]; exact hP
                                  have hD : va_D (fun q => q ∈ L) (va_pl L f_247) := by rw [ef_247]; exact hD
                                  have hG : GI (okc cI cL cZ cR cG cH L kd) kd L f_247 := by rw [ef_247]; exact hG.set a_22 (mk_589 ka_22 ⟨_, rfl, okI_up hbg_245 (by constructor <;> omega) _⟩)
                                  have hfo_248 : f_247 a_1 = .inl (cI, 1560, .inl g_122) := by rw [ef_247, up_ne (kd_ne ka_22 ka_1 (by decide))]; exact hfo_196
                                  have hfo_249 : f_247 o0 = .inr (12, [.ref a_1, .ref a_2, .ref a_3, .int v_4, .ref a_5, .int v_197, .int v_7, .int v_8, .int v_9, .int v_10, .int v_11, .int v_12, .int v_13, .int v_14, .int v_15, .ref a_16, .ref a_17, .ref a_18, .ref a_19, .ref a_20, .ref a_21, .ref a_22, .ref a_23, .int v_198, .int v_25, .int v_26, .int v_27, .int v_28, .ref a_29, .int v_30, .ref a_31, .ref a_32, .int v_33, .int v_34, .ref a_35, .int v_199, .ref a_37, .ref a_38, .int v_200, .int v_40, .ref a_41, .ref a_42, .ref a_43, .int v_44, .ref a_45, .ref a_46, .ref a_47, .ref a_48, .ref a_49, .ref a_50, .ref a_51, .ref a_52, .ref a_53, .int v_54, .int v_55, .ref a_56]) := by rw [ef_247, up_ne (kd_ne ka_22 ko0 (by decide))]; exact hfo_201
                                  have hfr0 : ∀ b, kd b ≠ 12 → kd b ≠ 579 → kd b ≠ 581 → kd b ≠ 583 → kd b ≠ 585 → kd b ≠ 587 → kd b ≠ 588 → kd b ≠ 589 → kd b ≠ 594 → kd b ≠ 595 → kd b ≠ 596 → f_247 b = f b := fun b q12 q579 q581 q583 q585 q587 q588 q589 q594 q595 q596 => (congrFun ef_247 b).trans ((up_ne (fun e9 => q589 (by rw [e9]; exact ka_22))).trans (hfr0 b q12 q579 q581 q583 q585 q587 q588 q589 q594 q595 q596))
                                  have hrA12 : ∀ b, kd b = 12 → ∀ j, fldR (f_247 b) j = fldR (f b) j := fun b kb j => (congrArg (fun x => fldR x j) ((congrFun ef_247 b).trans (up_ne (kd_ne ka_22 kb (by decide))))).trans (hrA12 b kb j)
                                  have hfA12 : ∀ b, kd b = 12 → ∀ j, j ≠ 5 → j ≠ 23 → j ≠ 35 → j ≠ 38 → fldI (f_247 b) j = fldI (f b) j := fun b kb j n5 n23 n35 n38 => (congrArg (fun x => fldI x j) ((congrFun ef_247 b).trans (up_ne (kd_ne ka_22 kb (by decide))))).trans (hfA12 b kb j n5 n23 n35 n38)
                                  have hfo_250 : f_247 a_22 = .inl (cI, 16, .inl (upd g_245 (Int32.toNatClampNeg v_198) x_243)) := by rw [ef_247]; exact up_self
                                  refine lv_aload_n hx hb dX12_understand_188 rfl (lv_at hl 3 rfl) ?_
                                  refine lv_dup hx hb dX12_understand_189 rfl ?_
                                  refine tk_getP (D := (dC, dI)) (ci := 12) (v := .int v_198) (C := RX12) (T := TX12) (N := 56) hx hb hU inlX12 hown hK hP mo0 hfo_249 rfl 23 (by decide) (hU _ wd_867) (fun _ h9 => h9) rfl dX12_understand_190 ?_
                                  refine lv_iconst (v := 1) hx hb dX12_understand_193 (by decide) ?_
                                  refine lv_iadd hx hb dX12_understand_194 ?_
                                  refine lv_topi (fun x_251 ex_251 => ?_)
                                  have hx_251 : x_251.toInt = v_198.toInt + 1 := by rw [ex_251, ad_I (by rw [ti_1]; omega) (by rw [ti_1]; omega), ti_1]
                                  have bx_251 : (1 ≤ x_251.toInt ∧ x_251.toInt ≤ 12) := by constructor <;> omega
                                  refine tk_putP (D := (dC, dI)) (ci := 12) (v := .int x_251) (ty := .int) (C := RX12) (T := TX12) (N := 56) hx hb hU inlX12 tyX12 tyX12_ok nmX12 hown hK hP hD hS mo0 hfo_249 rfl 23 (by decide) (hU _ wd_867) (fun _ h9 => h9) rfl (by decide +kernel) rfl rfl (Nat.le_of_ble_eq_true rfl) dX12_understand_195 (fun H locs hP hD hS => ?_)
                                  have fa_252 := fu12_23 (y := x_251) fa_202 (by constructor <;> omega)
                                  obtain ⟨f_254, ef_254⟩ : ∃ y : Nat → va_E, y = va_up f_247 o0 (.inr (12, [.ref a_1, .ref a_2, .ref a_3, .int v_4, .ref a_5, .int v_197, .int v_7, .int v_8, .int v_9, .int v_10, .int v_11, .int v_12, .int v_13, .int v_14, .int v_15, .ref a_16, .ref a_17, .ref a_18, .ref a_19, .ref a_20, .ref a_21, .ref a_22, .ref a_23, .int x_251, .int v_25, .int v_26, .int v_27, .int v_28, .ref a_29, .int v_30, .ref a_31, .ref a_32, .int v_33, .int v_34, .ref a_35, .int v_199, .ref a_37, .ref a_38, .int v_200, .int v_40, .ref a_41, .ref a_42, .ref a_43, .int v_44, .ref a_45, .ref a_46, .ref a_47, .ref a_48, .ref a_49, .ref a_50, .ref a_51, .ref a_52, .ref a_53, .int v_54, .int v_55, .ref a_56])) := ⟨_, rfl⟩
                                  have hP : va_P (dC, dI) vwCl (va_pl L f_254) H := by rw [ef_254]; exact hP
                                  have hD : va_D (fun q => q ∈ L) (va_pl L f_254) := by rw [ef_254]; exact hD
                                  have hG : GI (okc cI cL cZ cR cG cH L kd) kd L f_254 := by rw [ef_254]; exact hG.set o0 (mk_12 ko0 (fo12 fa_252))
                                  have hfo_255 : f_254 a_1 = .inl (cI, 1560, .inl g_122) := by rw [ef_254, up_ne (kd_ne ko0 ka_1 (by decide))]; exact hfo_248
                                  have hfr0 : ∀ b, kd b ≠ 12 → kd b ≠ 579 → kd b ≠ 581 → kd b ≠ 583 → kd b ≠ 585 → kd b ≠ 587 → kd b ≠ 588 → kd b ≠ 589 → kd b ≠ 594 → kd b ≠ 595 → kd b ≠ 596 → f_254 b = f b := fun b q12 q579 q581 q583 q585 q587 q588 q589 q594 q595 q596 => (congrFun ef_254 b).trans ((up_ne (fun e9 => q12 (by rw [e9]; exact ko0))).trans (hfr0 b q12 q579 q581 q583 q585 q587 q588 q589 q594 q595 q596))
                                  have hrA12 : ∀ b, kd b = 12 → ∀ j, fldR (f_254 b) j = fldR (f b) j := fun b kb j => ((congrArg (fun x => fldR x j) (congrFun ef_254 b)).trans (fra_up (fun j => by rw [hfo_249]; exact fr_set (k := 23) rfl rfl) j b)).trans (hrA12 b kb j)
                                  have hfA12 : ∀ b, kd b = 12 → ∀ j, j ≠ 5 → j ≠ 23 → j ≠ 35 → j ≠ 38 → fldI (f_254 b) j = fldI (f b) j := fun b kb j n5 n23 n35 n38 => ((congrArg (fun x => fldI x j) (congrFun ef_254 b)).trans (fia_up (fun h9 => by rw [hfo_249]; exact fi_set (k := 23) rfl h9) n23 b)).trans (hfA12 b kb j n5 n23 n35 n38)
                                  have hfo_256 : f_254 o0 = .inr (12, [.ref a_1, .ref a_2, .ref a_3, .int v_4, .ref a_5, .int v_197, .int v_7, .int v_8, .int v_9, .int v_10, .int v_11, .int v_12, .int v_13, .int v_14, .int v_15, .ref a_16, .ref a_17, .ref a_18, .ref a_19, .ref a_20, .ref a_21, .ref a_22, .ref a_23, .int x_251, .int v_25, .int v_26, .int v_27, .int v_28, .ref a_29, .int v_30, .ref a_31, .ref a_32, .int v_33, .int v_34, .ref a_35, .int v_199, .ref a_37, .ref a_38, .int v_200, .int v_40, .ref a_41, .ref a_42, .ref a_43, .int v_44, .ref a_45, .ref a_46, .ref a_47, .ref a_48, .ref a_49, .ref a_50, .ref a_51, .ref a_52, .ref a_53, .int v_54, .int v_55, .ref a_56]) := by rw [ef_254]; exact up_self
                                  obtain ⟨x_257, ex_257⟩ : ∃ y : Int32, y_193 + 1 = y := ⟨_, rfl⟩
                                  have hx_257 : x_257.toInt = y_193.toInt + 1 := by rw [← ex_257, ad_I (by rw [ti_1]; omega) (by rw [ti_1]; omega), ti_1]
                                  have bx_257 : (1 ≤ x_257.toInt ∧ x_257.toInt ≤ 6) := by constructor <;> omega
                                  refine lv_iinc (v := x_257) (lv' := [(3, .int x_257), (2, .int y_137), (1, .int y_112), (0, .ref o0)]) hx hb dX12_understand_198 hl (k := 0) rfl ex_257 (by decide) rfl (fun ls hl => ?_)
                                  refine lv_goto (tgt := 145) hx hb dX12_understand_201 (by decide) ?_
                                  exact ih_hloop_192 x_257 (by constructor <;> omega) f_254 hG _ _ hP hS hD hfr0 hrA12 hfA12 hfo_255 x_251 (by rw [hfo_256]; rfl) v_200 (by rw [hfo_256]; rfl) v_197 (by rw [hfo_256]; rfl) (by omega) (by omega) (by omega) (by omega) (by omega) (by omega) ls (lv_sub hl [0, 1, 2, 3] rfl)
                            exact hloop_192 7 0 (by decide) f_169 hG _ _ hP hS hD hfr0 hrA12 hfA12 hfo_170 v_172 (by rw [hfo_175]; rfl) v_174 (by rw [hfo_175]; rfl) v_171 (by rw [hfo_175]; rfl) (by (try rw [ti_0]) <;> omega) (by (try rw [ti_0]) <;> omega) (by (try rw [ti_0]) <;> omega) (by (try rw [ti_0]) <;> omega) (by (try rw [ti_0]) <;> omega) (by (try rw [ti_0]) <;> omega) ls hl
                          · skip
                            rw [Int32.le_iff_toInt_le] at c_180
                            have hclc_258 : (0 ≤ v_172.toInt ∧ v_172.toInt ≤ 5) := by constructor <;> omega
                            refine lv_aload_n hx hb dX12_understand_102 rfl (lv_at hl 3 rfl) ?_
                            refine tk_getP (D := (dC, dI)) (ci := 12) (v := .ref a_22) (C := RX12) (T := TX12) (N := 56) hx hb hU inlX12 hown hK hP mo0 hfo_175 rfl 21 (by decide) (hU _ wd_181) (fun _ h9 => h9) rfl dX12_understand_103 ?_
                            refine lv_aload_n hx hb dX12_understand_106 rfl (lv_at hl 3 rfl) ?_
                            refine tk_getP (D := (dC, dI)) (ci := 12) (v := .int v_172) (C := RX12) (T := TX12) (N := 56) hx hb hU inlX12 hown hK hP mo0 hfo_175 rfl 23 (by decide) (hU _ wd_867) (fun _ h9 => h9) rfl dX12_understand_107 ?_
                            refine lv_aload_n hx hb dX12_understand_110 rfl (lv_at hl 3 rfl) ?_
                            refine tk_getP (D := (dC, dI)) (ci := 12) (v := .ref a_1) (C := RX12) (T := TX12) (N := 56) hx hb hU inlX12 hown hK hP mo0 hfo_175 rfl 0 (by decide) (hU _ wd_169) (fun _ h9 => h9) rfl dX12_understand_111 ?_
                            refine lv_bipush (v := 60) hx hb dX12_understand_114 (by decide) ?_
                            refine lv_bipush (v := 8) hx hb dX12_understand_116 (by decide) ?_
                            refine lv_iload_n hx hb dX12_understand_118 rfl (lv_at hl 2 rfl) ?_
                            refine lv_imul hx hb dX12_understand_119 ?_
                            refine lv_topi (fun x_259 ex_259 => ?_)
                            have hx_259 : x_259.toInt = 8 * y_112.toInt := by rw [ex_259, ml_I (by rw [ti_8]; omega) (by rw [ti_8]; omega), ti_8]
                            have bx_259 : (0 ≤ x_259.toInt ∧ x_259.toInt ≤ 88) := by constructor <;> omega
                            refine lv_iadd hx hb dX12_understand_120 ?_
                            refine lv_topi (fun x_260 ex_260 => ?_)
                            have hx_260 : x_260.toInt = 60 + x_259.toInt := by rw [ex_260, ad_I (by rw [ti_60]; omega) (by rw [ti_60]; omega), ti_60]
                            have bx_260 : (60 ≤ x_260.toInt ∧ x_260.toInt ≤ 148) := by constructor <;> omega
                            refine lv_iconst (v := 1) hx hb dX12_understand_121 (by decide) ?_
                            refine lv_iadd hx hb dX12_understand_122 ?_
                            refine lv_topi (fun x_261 ex_261 => ?_)
                            have hx_261 : x_261.toInt = x_260.toInt + 1 := by rw [ex_261, ad_I (by rw [ti_1]; omega) (by rw [ti_1]; omega), ti_1]
                            have bx_261 : (61 ≤ x_261.toInt ∧ x_261.toInt ≤ 149) := by constructor <;> omega
                            refine lv_iload_n hx hb dX12_understand_123 rfl (lv_at hl 0 rfl) ?_
                            refine lv_iadd hx hb dX12_understand_124 ?_
                            refine lv_topi (fun x_262 ex_262 => ?_)
                            have hx_262 : x_262.toInt = x_261.toInt + y_167.toInt := by rw [ex_262, ad_I (by omega) (by omega)]
                            have bx_262 : (61 ≤ x_262.toInt ∧ x_262.toInt ≤ 154) := by constructor <;> omega
                            refine tk_ildP hx hb hK hP 0 ma_1 hfo_170 rfl (vp_in_iff.mpr (by constructor <;> omega)) dX12_understand_125 ?_
                            refine lv_topi (fun x_263 ex_263 => ?_)
                            have bx_263 : (0 ≤ x_263.toInt ∧ x_263.toInt ≤ 8) := by have hc9 := cl_I (i := x_262) (by omega); rw [ex_263]; exact hbg_122.2.2.2.2.2.2.2.2.2.2.1 _ (by omega) (by omega) (by omega)
                            obtain ⟨g_265, hfo_264, hbg_265⟩ := un_589 (hG _ ma_22) ka_22
                            refine tk_istP hx hb hK hP hD hS 0 ma_22 hfo_264 rfl (vp_in_iff.mpr (by constructor <;> omega)) dX12_understand_126 (fun H locs hP hD hS => ?_)
                            obtain ⟨f_267, ef_267⟩ : ∃ y : Nat → va_E, y = va_up f_169 a_22 (.inl (cI, 16, .inl (upd g_265 (Int32.toNatClampNeg v_172) x_263))) := ⟨_, rfl⟩
                            have hP : va_P (dC, dI) vwCl (va_pl L f_267) H := by rw [ef_267]; exact hP
                            have hD : va_D (fun q => q ∈ L) (va_pl L f_267) := by rw [ef_267]; exact hD
                            have hG : GI (okc cI cL cZ cR cG cH L kd) kd L f_267 := by rw [ef_267]; exact hG.set a_22 (mk_589 ka_22 ⟨_, rfl, okI_up hbg_265 (by constructor <;> omega) _⟩)
                            have hfo_268 : f_267 a_1 = .inl (cI, 1560, .inl g_122) := by rw [ef_267, up_ne (kd_ne ka_22 ka_1 (by decide))]; exact hfo_170
                            have hfo_269 : f_267 o0 = .inr (12, [.ref a_1, .ref a_2, .ref a_3, .int v_4, .ref a_5, .int v_171, .int v_7, .int v_8, .int v_9, .int v_10, .int v_11, .int v_12, .int v_13, .int v_14, .int v_15, .ref a_16, .ref a_17, .ref a_18, .ref a_19, .ref a_20, .ref a_21, .ref a_22, .ref a_23, .int v_172, .int v_25, .int v_26, .int v_27, .int v_28, .ref a_29, .int v_30, .ref a_31, .ref a_32, .int v_33, .int v_34, .ref a_35, .int v_173, .ref a_37, .ref a_38, .int v_174, .int v_40, .ref a_41, .ref a_42, .ref a_43, .int v_44, .ref a_45, .ref a_46, .ref a_47, .ref a_48, .ref a_49, .ref a_50, .ref a_51, .ref a_52, .ref a_53, .int v_54, .int v_55, .ref a_56]) := by rw [ef_267, up_ne (kd_ne ka_22 ko0 (by decide))]; exact hfo_175
                            have hfr0 : ∀ b, kd b ≠ 12 → kd b ≠ 579 → kd b ≠ 581 → kd b ≠ 583 → kd b ≠ 585 → kd b ≠ 587 → kd b ≠ 588 → kd b ≠ 589 → kd b ≠ 594 → kd b ≠ 595 → kd b ≠ 596 → f_267 b = f b := fun b q12 q579 q581 q583 q585 q587 q588 q589 q594 q595 q596 => (congrFun ef_267 b).trans ((up_ne (fun e9 => q589 (by rw [e9]; exact ka_22))).trans (hfr0 b q12 q579 q581 q583 q585 q587 q588 q589 q594 q595 q596))
                            have hrA12 : ∀ b, kd b = 12 → ∀ j, fldR (f_267 b) j = fldR (f b) j := fun b kb j => (congrArg (fun x => fldR x j) ((congrFun ef_267 b).trans (up_ne (kd_ne ka_22 kb (by decide))))).trans (hrA12 b kb j)
                            have hfA12 : ∀ b, kd b = 12 → ∀ j, j ≠ 5 → j ≠ 23 → j ≠ 35 → j ≠ 38 → fldI (f_267 b) j = fldI (f b) j := fun b kb j n5 n23 n35 n38 => (congrArg (fun x => fldI x j) ((congrFun ef_267 b).trans (up_ne (kd_ne ka_22 kb (by decide))))).trans (hfA12 b kb j n5 n23 n35 n38)
                            have hfo_270 : f_267 a_22 = .inl (cI, 16, .inl (upd g_265 (Int32.toNatClampNeg v_172) x_263)) := by rw [ef_267]; exact up_self
                            refine lv_aload_n hx hb dX12_understand_127 rfl (lv_at hl 3 rfl) ?_
                            refine lv_dup hx hb dX12_understand_128 rfl ?_
                            refine tk_getP (D := (dC, dI)) (ci := 12) (v := .int v_172) (C := RX12) (T := TX12) (N := 56) hx hb hU inlX12 hown hK hP mo0 hfo_269 rfl 23 (by decide) (hU _ wd_867) (fun _ h9 => h9) rfl dX12_understand_129 ?_
                            refine lv_iconst (v := 1) hx hb dX12_understand_132 (by decide) ?_
                            refine lv_iadd hx hb dX12_understand_133 ?_
                            refine lv_topi (fun x_271 ex_271 => ?_)
                            have hx_271 : x_271.toInt = v_172.toInt + 1 := by rw [ex_271, ad_I (by rw [ti_1]; omega) (by rw [ti_1]; omega), ti_1]
                            have bx_271 : (1 ≤ x_271.toInt ∧ x_271.toInt ≤ 6) := by constructor <;> omega
                            refine tk_putP (D := (dC, dI)) (ci := 12) (v := .int x_271) (ty := .int) (C := RX12) (T := TX12) (N := 56) hx hb hU inlX12 tyX12 tyX12_ok nmX12 hown hK hP hD hS mo0 hfo_269 rfl 23 (by decide) (hU _ wd_867) (fun _ h9 => h9) rfl (by decide +kernel) rfl rfl (Nat.le_of_ble_eq_true rfl) dX12_understand_134 (fun H locs hP hD hS => ?_)
                            have fa_272 := fu12_23 (y := x_271) fa_176 (by constructor <;> omega)
                            obtain ⟨f_274, ef_274⟩ : ∃ y : Nat → va_E, y = va_up f_267 o0 (.inr (12, [.ref a_1, .ref a_2, .ref a_3, .int v_4, .ref a_5, .int v_171, .int v_7, .int v_8, .int v_9, .int v_10, .int v_11, .int v_12, .int v_13, .int v_14, .int v_15, .ref a_16, .ref a_17, .ref a_18, .ref a_19, .ref a_20, .ref a_21, .ref a_22, .ref a_23, .int x_271, .int v_25, .int v_26, .int v_27, .int v_28, .ref a_29, .int v_30, .ref a_31, .ref a_32, .int v_33, .int v_34, .ref a_35, .int v_173, .ref a_37, .ref a_38, .int v_174, .int v_40, .ref a_41, .ref a_42, .ref a_43, .int v_44, .ref a_45, .ref a_46, .ref a_47, .ref a_48, .ref a_49, .ref a_50, .ref a_51, .ref a_52, .ref a_53, .int v_54, .int v_55, .ref a_56])) := ⟨_, rfl⟩
                            have hP : va_P (dC, dI) vwCl (va_pl L f_274) H := by rw [ef_274]; exact hP
                            have hD : va_D (fun q => q ∈ L) (va_pl L f_274) := by rw [ef_274]; exact hD
                            have hG : GI (okc cI cL cZ cR cG cH L kd) kd L f_274 := by rw [ef_274]; exact hG.set o0 (mk_12 ko0 (fo12 fa_272))
                            have hfo_275 : f_274 a_1 = .inl (cI, 1560, .inl g_122) := by rw [ef_274, up_ne (kd_ne ko0 ka_1 (by decide))]; exact hfo_268
                            have hfr0 : ∀ b, kd b ≠ 12 → kd b ≠ 579 → kd b ≠ 581 → kd b ≠ 583 → kd b ≠ 585 → kd b ≠ 587 → kd b ≠ 588 → kd b ≠ 589 → kd b ≠ 594 → kd b ≠ 595 → kd b ≠ 596 → f_274 b = f b := fun b q12 q579 q581 q583 q585 q587 q588 q589 q594 q595 q596 => (congrFun ef_274 b).trans ((up_ne (fun e9 => q12 (by rw [e9]; exact ko0))).trans (hfr0 b q12 q579 q581 q583 q585 q587 q588 q589 q594 q595 q596))
                            have hrA12 : ∀ b, kd b = 12 → ∀ j, fldR (f_274 b) j = fldR (f b) j := fun b kb j => ((congrArg (fun x => fldR x j) (congrFun ef_274 b)).trans (fra_up (fun j => by rw [hfo_269]; exact fr_set (k := 23) rfl rfl) j b)).trans (hrA12 b kb j)
                            have hfA12 : ∀ b, kd b = 12 → ∀ j, j ≠ 5 → j ≠ 23 → j ≠ 35 → j ≠ 38 → fldI (f_274 b) j = fldI (f b) j := fun b kb j n5 n23 n35 n38 => ((congrArg (fun x => fldI x j) (congrFun ef_274 b)).trans (fia_up (fun h9 => by rw [hfo_269]; exact fi_set (k := 23) rfl h9) n23 b)).trans (hfA12 b kb j n5 n23 n35 n38)
                            have hfo_276 : f_274 o0 = .inr (12, [.ref a_1, .ref a_2, .ref a_3, .int v_4, .ref a_5, .int v_171, .int v_7, .int v_8, .int v_9, .int v_10, .int v_11, .int v_12, .int v_13, .int v_14, .int v_15, .ref a_16, .ref a_17, .ref a_18, .ref a_19, .ref a_20, .ref a_21, .ref a_22, .ref a_23, .int x_271, .int v_25, .int v_26, .int v_27, .int v_28, .ref a_29, .int v_30, .ref a_31, .ref a_32, .int v_33, .int v_34, .ref a_35, .int v_173, .ref a_37, .ref a_38, .int v_174, .int v_40, .ref a_41, .ref a_42, .ref a_43, .int v_44, .ref a_45, .ref a_46, .ref a_47, .ref a_48, .ref a_49, .ref a_50, .ref a_51, .ref a_52, .ref a_53, .int v_54, .int v_55, .ref a_56]) := by rw [ef_274]; exact up_self
                            obtain ⟨x_277, ex_277⟩ : ∃ y : Int32, y_167 + 1 = y := ⟨_, rfl⟩
                            have hx_277 : x_277.toInt = y_167.toInt + 1 := by rw [← ex_277, ad_I (by rw [ti_1]; omega) (by rw [ti_1]; omega), ti_1]
                            have bx_277 : (1 ≤ x_277.toInt ∧ x_277.toInt ≤ 6) := by constructor <;> omega
                            refine lv_iinc (v := x_277) (lv' := [(3, .int x_277), (2, .int y_137), (1, .int y_112), (0, .ref o0)]) hx hb dX12_understand_137 hl (k := 0) rfl ex_277 (by decide) rfl (fun ls hl => ?_)
                            refine lv_goto (tgt := 86) hx hb dX12_understand_140 (by decide) ?_
                            exact ih_hloop_166 x_277 (by constructor <;> omega) f_274 hG _ _ hP hS hD hfr0 hrA12 hfA12 hfo_275 x_271 (by rw [hfo_276]; rfl) v_174 (by rw [hfo_276]; rfl) v_171 (by rw [hfo_276]; rfl) (by omega) (by omega) (by omega) (by omega) (by omega) (by omega) ls (lv_sub hl [0, 1, 2, 3] rfl)
                      exact hloop_166 7 0 (by decide) f_152 hG _ _ hP hS hD hfr0 hrA12 hfA12 hfo_153 0 (by rw [hfo_154]; rfl) v_144 (by rw [hfo_154]; rfl) v_141 (by rw [hfo_154]; rfl) (by (try rw [ti_0]) <;> omega) (by (try rw [ti_0]) <;> omega) (by (try rw [ti_0]) <;> omega) (by (try rw [ti_0]) <;> omega) (by (try rw [ti_0]) <;> omega) (by (try rw [ti_0]) <;> omega) ls hl
                exact hloop_136 9 0 (by decide) f_114 hG _ _ hP hS hD hfr0 hrA12 hfA12 hfo_121 v_118 (by rw [hfo_119]; rfl) v_115 (by rw [hfo_119]; rfl) (by (try rw [ti_0]) <;> omega) (by (try rw [ti_0]) <;> omega) (by (try rw [ti_0]) <;> omega) (by (try rw [ti_0]) <;> omega) ls hl
          exact hloop_111 13 0 (by decide) f_98 hG _ _ hP hS hD hfr0 hrA12 hfA12 0 (by rw [hfo_99]; rfl) v_70 (by rw [hfo_99]; rfl) (by (try rw [ti_0]) <;> omega) (by (try rw [ti_0]) <;> omega) (by (try rw [ti_0]) <;> omega) (by (try rw [ti_0]) <;> omega) ls hl
        · skip
          rw [Int32.le_iff_toInt_le] at c_100
          refine lv_aload_n hx hb dX12_understand_35 rfl (lv_at hl 1 rfl) ?_
          refine tk_getP (D := (dC, dI)) (ci := 12) (v := .ref a_35) (C := RX12) (T := TX12) (N := 56) hx hb hU inlX12 hown hK hP mo0 hfo_99 rfl 34 (by decide) (hU _ wd_186) (fun _ h9 => h9) rfl dX12_understand_36 ?_
          refine lv_iload_n hx hb dX12_understand_39 rfl (lv_at hl 0 rfl) ?_
          refine lv_aload_n hx hb dX12_understand_40 rfl (lv_at hl 1 rfl) ?_
          refine tk_getP (D := (dC, dI)) (ci := 12) (v := .ref a_22) (C := RX12) (T := TX12) (N := 56) hx hb hU inlX12 hown hK hP mo0 hfo_99 rfl 21 (by decide) (hU _ wd_181) (fun _ h9 => h9) rfl dX12_understand_41 ?_
          refine lv_iload_n hx hb dX12_understand_44 rfl (lv_at hl 0 rfl) ?_
          obtain ⟨g_279, hfo_278, hbg_279⟩ := un_589 (hG _ ma_22) ka_22
          refine tk_ildP hx hb hK hP 0 ma_22 hfo_278 rfl (vp_in_iff.mpr (by constructor <;> omega)) dX12_understand_45 ?_
          refine lv_topi (fun x_280 ex_280 => ?_)
          have bx_280 : (0 ≤ x_280.toInt ∧ x_280.toInt ≤ 8) := by rw [ex_280]; exact hbg_279 _
          obtain ⟨g_282, hfo_281, hbg_282⟩ := un_594 (hG _ ma_35) ka_35
          refine tk_istP hx hb hK hP hD hS 0 ma_35 hfo_281 rfl (vp_in_iff.mpr (by constructor <;> omega)) dX12_understand_46 (fun H locs hP hD hS => ?_)
          obtain ⟨f_284, ef_284⟩ : ∃ y : Nat → va_E, y = va_up f_98 a_35 (.inl (cI, 16, .inl (upd g_282 (Int32.toNatClampNeg y_96) x_280))) := ⟨_, rfl⟩
          have hP : va_P (dC, dI) vwCl (va_pl L f_284) H := by rw [ef_284]; exact hP
          have hD : va_D (fun q => q ∈ L) (va_pl L f_284) := by rw [ef_284]; exact hD
          have hG : GI (okc cI cL cZ cR cG cH L kd) kd L f_284 := by rw [ef_284]; exact hG.set a_35 (mk_594 ka_35 ⟨_, rfl, okI_up hbg_282 (by constructor <;> omega) _⟩)
          have hfo_285 : f_284 o0 = .inr (12, [.ref a_1, .ref a_2, .ref a_3, .int v_4, .ref a_5, .int v_70, .int v_7, .int v_8, .int v_9, .int v_10, .int v_11, .int v_12, .int v_13, .int v_14, .int v_15, .ref a_16, .ref a_17, .ref a_18, .ref a_19, .ref a_20, .ref a_21, .ref a_22, .ref a_23, .int v_71, .int v_25, .int v_26, .int v_27, .int v_28, .ref a_29, .int v_30, .ref a_31, .ref a_32, .int v_33, .int v_34, .ref a_35, .int v_71, .ref a_37, .ref a_38, .int 0, .int v_40, .ref a_41, .ref a_42, .ref a_43, .int v_44, .ref a_45, .ref a_46, .ref a_47, .ref a_48, .ref a_49, .ref a_50, .ref a_51, .ref a_52, .ref a_53, .int v_54, .int v_55, .ref a_56]) := by rw [ef_284, up_ne (kd_ne ka_35 ko0 (by decide))]; exact hfo_99
          have hfo_286 : f_284 a_22 = .inl (cI, 16, .inl g_279) := by rw [ef_284, up_ne (kd_ne ka_35 ka_22 (by decide))]; exact hfo_278
          have hfr0 : ∀ b, kd b ≠ 12 → kd b ≠ 579 → kd b ≠ 581 → kd b ≠ 583 → kd b ≠ 585 → kd b ≠ 587 → kd b ≠ 588 → kd b ≠ 589 → kd b ≠ 594 → kd b ≠ 595 → kd b ≠ 596 → f_284 b = f b := fun b q12 q579 q581 q583 q585 q587 q588 q589 q594 q595 q596 => (congrFun ef_284 b).trans ((up_ne (fun e9 => q594 (by rw [e9]; exact ka_35))).trans (hfr0 b q12 q579 q581 q583 q585 q587 q588 q589 q594 q595 q596))
          have hrA12 : ∀ b, kd b = 12 → ∀ j, fldR (f_284 b) j = fldR (f b) j := fun b kb j => (congrArg (fun x => fldR x j) ((congrFun ef_284 b).trans (up_ne (kd_ne ka_35 kb (by decide))))).trans (hrA12 b kb j)
          have hfA12 : ∀ b, kd b = 12 → ∀ j, j ≠ 5 → j ≠ 23 → j ≠ 35 → j ≠ 38 → fldI (f_284 b) j = fldI (f b) j := fun b kb j n5 n23 n35 n38 => (congrArg (fun x => fldI x j) ((congrFun ef_284 b).trans (up_ne (kd_ne ka_35 kb (by decide))))).trans (hfA12 b kb j n5 n23 n35 n38)
          have hfo_287 : f_284 a_35 = .inl (cI, 16, .inl (upd g_282 (Int32.toNatClampNeg y_96) x_280)) := by rw [ef_284]; exact up_self
          obtain ⟨x_288, ex_288⟩ : ∃ y : Int32, y_96 + 1 = y := ⟨_, rfl⟩
          have hx_288 : x_288.toInt = y_96.toInt + 1 := by rw [← ex_288, ad_I (by rw [ti_1]; omega) (by rw [ti_1]; omega), ti_1]
          have bx_288 : (1 ≤ x_288.toInt ∧ x_288.toInt ≤ 8) := by constructor <;> omega
          refine lv_iinc (v := x_288) (lv' := [(1, .int x_288), (0, .ref o0)]) hx hb dX12_understand_47 hl (k := 0) rfl ex_288 (by decide) rfl (fun ls hl => ?_)
          refine lv_goto (tgt := 27) hx hb dX12_understand_50 (by decide) ?_
          exact ih_hloop_95 x_288 (by constructor <;> omega) f_284 hG _ _ hP hS hD hfr0 hrA12 hfA12 hfo_285 (by omega) ls (lv_sub hl [0, 1] rfl)
    exact hloop_95 9 0 (by decide) f_78 hG _ _ hP hS hD hfr0 hrA12 hfA12 hfo_79 (by (try rw [ti_0]) <;> omega) ls hl
  · skip
    rw [← Int32.toInt_inj, ti_0] at c_74
    refine lv_iconst (v := (-1)) hx hb dX12_understand_15 (by decide) ?_
    exact W.iret (v := (-1)) hx hb hr (fun t ht hW => ⟨⟨(-1), f_64, rfl, ⟨hG, (by decide), hfr0, hrA12, hfA12, (by intro w5 z5 e5 d5; rw [hfo_57] at e5; rw [hfo_72] at d5; obtain rfl := Option.some.inj e5; obtain rfl := Option.some.inj d5; (try rw [ti_m1]) <;> omega)⟩, by rw [ht]; exact hP, va_K.moved hW.alike hK, pl_in hD⟩, hS.F ht⟩) hS.2.2 dX12_understand_16
