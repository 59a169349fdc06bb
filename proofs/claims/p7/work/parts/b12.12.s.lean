set_option maxHeartbeats 8000000 in
set_option maxRecDepth 100000 in
theorem s_X12_isSaid_k12 (l : Launch) (D : va_G) (cI cL cZ cR cG cH : ClassId) (Z : zT) (kd : Nat → Nat) (L : List Nat) (f : Nat → va_E) (hG : GI (okc cI cL cZ cR cG cH L kd) kd L f) (o0 : Nat) (mo0 : o0 ∈ L) (ko0 : kd o0 = 12) (p1 : Int32) : mPI l D cI cL cZ cR cG cH Z yX12_isSaid cX12_isSaid 2 (some .boolean) 20 564 [.ref o0, .int p1] L f (fun (r : Int32) (f9 : Nat → va_E) => GI (okc cI cL cZ cR cG cH L kd) kd L f9 ∧ (0 ≤ r.toInt ∧ r.toInt ≤ 1) ∧ (∀ b, kd b ≠ 579 → kd b ≠ 581 → kd b ≠ 583 → kd b ≠ 585 → kd b ≠ 587 → kd b ≠ 588 → f9 b = f b)) := by
  obtain ⟨dC, dI⟩ := D
  refine Met.ofW (cc := cX12_isSaid) (maxL := 2) (ret := (some .boolean)) (by decide) rfl ?_
  intro p e s m args below meth c s₁ B hml hv
  obtain ⟨rfl, hP, hK, hD0, hN, hZ⟩ := hv
  have hx := B.exec
  have hb := B.bytes
  have hr := B.returns
  have hU : ∀ w ∈ wsU, w.before _ s = true := fun w h => atoms_spec (ws := wU yX12_isSaid cX12_isSaid 2 (some .boolean)) B.pre w (List.mem_cons_of_mem _ h)
  have hown : s.vm.findClass RX12 = some m.cls := findClass_of_methodNamed B.named
  have hlocks := B.notSynchronized
  have hD := pl_in hD0
  have hS : va_S (fun q => q ∈ L) s.heap s.heap [] := va_S.rf
  have hl := lv_entry ([.ref o0, .int p1]) (n := 2) (Nat.le_of_ble_eq_true rfl)
  rw [lg_entry_eq]
  generalize (lg_sl ([.ref o0, .int p1]) ++ List.replicate (2 - (lg_sl ([.ref o0, .int p1])).length) Slot.unset).toArray = ls at hl ⊢
  have hl : lv_has ls 2 [(0, .ref o0), (1, .int p1)] := hl
  have bp1 : ((-2147483648) ≤ p1.toInt ∧ p1.toInt ≤ 2147483647) := ⟨i32_lo _, i32_hi _⟩
  have hfr0 : ∀ b, kd b ≠ 579 → kd b ≠ 581 → kd b ≠ 583 → kd b ≠ 585 → kd b ≠ 587 → kd b ≠ 588 → f b = f b := fun _ _ _ _ _ _ _ => rfl
  refine lv_aload_n hx hb dX12_isSaid_0 rfl (lv_at hl 0 rfl) ?_
  obtain ⟨a_2, a_3, a_4, v_5, a_6, v_7, v_8, v_9, v_10, v_11, v_12, v_13, v_14, v_15, v_16, a_17, a_18, a_19, a_20, a_21, a_22, a_23, a_24, v_25, v_26, v_27, v_28, v_29, a_30, v_31, a_32, a_33, v_34, v_35, a_36, v_37, a_38, a_39, v_40, v_41, a_42, a_43, a_44, v_45, a_46, a_47, a_48, a_49, a_50, a_51, a_52, a_53, a_54, v_55, v_56, a_57, hfo_1, ⟨ma_2, ka_2⟩, ⟨ma_3, ka_3⟩, ⟨ma_4, ka_4⟩, bv_5, ⟨ma_6, ka_6⟩, bv_7, bv_8, bv_13, bv_14, bv_15, ⟨ma_17, ka_17⟩, ⟨ma_18, ka_18⟩, ⟨ma_19, ka_19⟩, ⟨ma_20, ka_20⟩, ⟨ma_21, ka_21⟩, ⟨ma_22, ka_22⟩, ⟨ma_23, ka_23⟩, ⟨ma_24, ka_24⟩, bv_25, bv_27, bv_29, ⟨ma_30, ka_30⟩, bv_31, ⟨ma_32, ka_32⟩, ⟨ma_33, ka_33⟩, bv_34, ⟨ma_36, ka_36⟩, bv_37, ⟨ma_38, ka_38⟩, ⟨ma_39, ka_39⟩, bv_40, ⟨ma_42, ka_42⟩, ⟨ma_43, ka_43⟩, ⟨ma_44, ka_44⟩, bv_45, ⟨ma_46, ka_46⟩, ⟨ma_47, ka_47⟩, ⟨ma_48, ka_48⟩, ⟨ma_49, ka_49⟩, ⟨ma_50, ka_50⟩, ⟨ma_51, ka_51⟩, ⟨ma_52, ka_52⟩, ⟨ma_53, ka_53⟩, ⟨ma_54, ka_54⟩, bv_55, ⟨ma_57, ka_57⟩⟩ := un_12 (hG _ mo0) ko0
  have bv_9 : ((-2147483648) ≤ v_9.toInt ∧ v_9.toInt ≤ 2147483647) := ⟨i32_lo _, i32_hi _⟩
  have bv_10 : ((-2147483648) ≤ v_10.toInt ∧ v_10.toInt ≤ 2147483647) := ⟨i32_lo _, i32_hi _⟩
  have bv_11 : ((-2147483648) ≤ v_11.toInt ∧ v_11.toInt ≤ 2147483647) := ⟨i32_lo _, i32_hi _⟩
  have bv_12 : ((-2147483648) ≤ v_12.toInt ∧ v_12.toInt ≤ 2147483647) := ⟨i32_lo _, i32_hi _⟩
  have bv_16 : ((-2147483648) ≤ v_16.toInt ∧ v_16.toInt ≤ 2147483647) := ⟨i32_lo _, i32_hi _⟩
  have bv_26 : ((-2147483648) ≤ v_26.toInt ∧ v_26.toInt ≤ 2147483647) := ⟨i32_lo _, i32_hi _⟩
  have bv_28 : ((-2147483648) ≤ v_28.toInt ∧ v_28.toInt ≤ 2147483647) := ⟨i32_lo _, i32_hi _⟩
  have bv_35 : ((-2147483648) ≤ v_35.toInt ∧ v_35.toInt ≤ 2147483647) := ⟨i32_lo _, i32_hi _⟩
  have bv_41 : ((-2147483648) ≤ v_41.toInt ∧ v_41.toInt ≤ 2147483647) := ⟨i32_lo _, i32_hi _⟩
  have bv_56 : ((-2147483648) ≤ v_56.toInt ∧ v_56.toInt ≤ 2147483647) := ⟨i32_lo _, i32_hi _⟩
  refine tk_VvP (As := []) (rest := []) (n := 0) hx hb hml hown hU hN hZ (s_X12_begins_k12 l (dC, dI) cI cL cZ cR cG cH Z kd L f hG o0 mo0 ko0) wd_874 wd_875 wd_876 wd_5 wd_877 (by decide +kernel) ⟨Nat.le_of_ble_eq_true rfl, Nat.le_of_ble_eq_true rfl⟩ hK hP hD hS mo0 hfo_1 12 rfl rfl rfl hl.1 rfl (Nat.le_of_ble_eq_true rfl) dX12_isSaid_1 ⟨Nat.le_of_ble_eq_true rfl, Nat.le_of_ble_eq_true rfl⟩ (fun f_59 H locs hw hP hD hS => ?_)
  obtain ⟨hG, hkc_60⟩ := hw
  have hfo_62 : f_59 o0 = .inr (12, [.ref a_2, .ref a_3, .ref a_4, .int v_5, .ref a_6, .int v_7, .int v_8, .int v_9, .int v_10, .int v_11, .int v_12, .int v_13, .int v_14, .int v_15, .int v_16, .ref a_17, .ref a_18, .ref a_19, .ref a_20, .ref a_21, .ref a_22, .ref a_23, .ref a_24, .int v_25, .int v_26, .int v_27, .int v_28, .int v_29, .ref a_30, .int v_31, .ref a_32, .ref a_33, .int v_34, .int v_35, .ref a_36, .int v_37, .ref a_38, .ref a_39, .int v_40, .int v_41, .ref a_42, .ref a_43, .ref a_44, .int v_45, .ref a_46, .ref a_47, .ref a_48, .ref a_49, .ref a_50, .ref a_51, .ref a_52, .ref a_53, .ref a_54, .int v_55, .int v_56, .ref a_57]) := by rw [hkc_60 o0 (by rw [ko0]; decide) (by rw [ko0]; decide) (by rw [ko0]; decide)]; exact hfo_1
  have hfr0 : ∀ b, kd b ≠ 579 → kd b ≠ 581 → kd b ≠ 583 → kd b ≠ 585 → kd b ≠ 587 → kd b ≠ 588 → f_59 b = f b := fun b q579 q581 q583 q585 q587 q588 => (hkc_60 b q579 q581 q587).trans (hfr0 b q579 q581 q583 q585 q587 q588)
  refine lv_aload_n hx hb dX12_isSaid_4 rfl (lv_at hl 0 rfl) ?_
  refine lv_iconst (v := 0) hx hb dX12_isSaid_5 (by decide) ?_
  refine lv_iconst (v := 0) hx hb dX12_isSaid_6 (by decide) ?_
  refine lv_aload_n hx hb dX12_isSaid_7 rfl (lv_at hl 0 rfl) ?_
  refine tk_getP (D := (dC, dI)) (ci := 12) (v := .ref a_2) (C := RX12) (T := TX12) (N := 56) hx hb hU inlX12 hown hK hP mo0 hfo_62 rfl 0 (by decide) (hU _ wd_169) (fun _ h9 => h9) rfl dX12_isSaid_8 ?_
  refine lv_bipush (v := 41) hx hb dX12_isSaid_11 (by decide) ?_
  obtain ⟨g_64, hfo_63, hbg_64⟩ := un_575 (hG _ ma_2) ka_2
  refine tk_ildP hx hb hK hP 0 ma_2 hfo_63 rfl (vp_in_nI (n := 41) (by decide) (by decide)) dX12_isSaid_13 ?_
  refine lv_topi (fun x_65 ex_65 => ?_)
  have bx_65 : (0 ≤ x_65.toInt ∧ x_65.toInt ≤ 1) := by rw [ex_65]; exact hbg_64.2.2.2.2.2.2.2.1 _ (by decide) (by decide) (by decide)
  refine lv_iconst (v := 0) hx hb dX12_isSaid_14 (by decide) ?_
  refine lv_iload_n hx hb dX12_isSaid_15 rfl (lv_at hl 1 rfl) ?_
  refine tk_ViP (As := [.int 0, .int 0, .int x_65, .int 0, .int p1]) (rest := []) (n := 5) hx hb hml hown hU hN hZ (s_X12_aligns_k12 l (dC, dI) cI cL cZ cR cG cH Z kd L 14 f_59 hG o0 mo0 ko0 0 (by decide) 0 (by decide) x_65 (by constructor <;> omega) 0 (by decide) p1 (by intro w23 w35 e23 e35; rw [hfo_62] at e23 e35; obtain rfl := Option.some.inj e23; obtain rfl := Option.some.inj e35; omega) (by (try rw [ti_0]) <;> omega) (by (try rw [ti_0]) <;> omega)) wd_1054 wd_1055 wd_1056 wd_5 wd_1057 (by decide +kernel) ⟨Nat.le_of_ble_eq_true rfl, Nat.le_of_ble_eq_true rfl⟩ hK hP hD hS mo0 hfo_62 12 rfl rfl rfl hl.1 rfl (Nat.le_of_ble_eq_true rfl) dX12_isSaid_16 ⟨Nat.le_of_ble_eq_true rfl, Nat.le_of_ble_eq_true rfl⟩ (fun x_66 f_67 H locs hw hP hD hS => ?_)
  obtain ⟨hG, bx_66, hkc_68⟩ := hw
  have hfo_70 : f_67 o0 = .inr (12, [.ref a_2, .ref a_3, .ref a_4, .int v_5, .ref a_6, .int v_7, .int v_8, .int v_9, .int v_10, .int v_11, .int v_12, .int v_13, .int v_14, .int v_15, .int v_16, .ref a_17, .ref a_18, .ref a_19, .ref a_20, .ref a_21, .ref a_22, .ref a_23, .ref a_24, .int v_25, .int v_26, .int v_27, .int v_28, .int v_29, .ref a_30, .int v_31, .ref a_32, .ref a_33, .int v_34, .int v_35, .ref a_36, .int v_37, .ref a_38, .ref a_39, .int v_40, .int v_41, .ref a_42, .ref a_43, .ref a_44, .int v_45, .ref a_46, .ref a_47, .ref a_48, .ref a_49, .ref a_50, .ref a_51, .ref a_52, .ref a_53, .ref a_54, .int v_55, .int v_56, .ref a_57]) := by rw [hkc_68 o0 (by rw [ko0]; decide) (by rw [ko0]; decide) (by rw [ko0]; decide) (by rw [ko0]; decide) (by rw [ko0]; decide) (by rw [ko0]; decide)]; exact hfo_62
  have hfo_71 : f_67 a_2 = .inl (cI, 1560, .inl g_64) := by rw [hkc_68 a_2 (by rw [ka_2]; decide) (by rw [ka_2]; decide) (by rw [ka_2]; decide) (by rw [ka_2]; decide) (by rw [ka_2]; decide) (by rw [ka_2]; decide)]; exact hfo_63
  have hfr0 : ∀ b, kd b ≠ 579 → kd b ≠ 581 → kd b ≠ 583 → kd b ≠ 585 → kd b ≠ 587 → kd b ≠ 588 → f_67 b = f b := fun b q579 q581 q583 q585 q587 q588 => (hkc_68 b q579 q581 q583 q585 q587 q588).trans (hfr0 b q579 q581 q583 q585 q587 q588)
  exact W.zret (v := x_66) (ty := .boolean) hx hb hr (zb_n (by constructor <;> omega)) (fun t ht hW => ⟨⟨x_66, f_67, rfl, ⟨hG, (by constructor <;> omega), hfr0⟩, by rw [ht]; exact hP, va_K.moved hW.alike hK, pl_in hD⟩, hS.F ht⟩) hS.2.2 dX12_isSaid_19
set_option maxHeartbeats 8000000 in
set_option maxRecDepth 100000 in
theorem s_X12_understand_k12 (l : Launch) (D : va_G) (cI cL cZ cR cG cH : ClassId) (Z : zT) (kd : Nat → Nat) (L : List Nat) (f : Nat → va_E) (hG : GI (okc cI cL cZ cR cG cH L kd) kd L f) (o0 : Nat) (mo0 : o0 ∈ L) (ko0 : kd o0 = 12) : mPI l D cI cL cZ cR cG cH Z yX12_understand cX12_understand 4 (some .int) 21 585 [.ref o0] L f (fun (r : Int32) (f9 : Nat → va_E) => GI (okc cI cL cZ cR cG cH L kd) kd L f9 ∧ ((-2147483648) ≤ r.toInt ∧ r.toInt ≤ 2147483647) ∧ (∀ b, kd b ≠ 12 → kd b ≠ 579 → kd b ≠ 581 → kd b ≠ 583 → kd b ≠ 585 → kd b ≠ 587 → kd b ≠ 588 → kd b ≠ 589 → kd b ≠ 594 → kd b ≠ 595 → kd b ≠ 596 → f9 b = f b) ∧ (∀ b, kd b = 12 → ∀ j, fldR (f9 b) j = fldR (f b) j) ∧ (∀ b, kd b = 12 → ∀ j, j ≠ 5 → j ≠ 23 → j ≠ 35 → j ≠ 38 → fldI (f9 b) j = fldI (f b) j) ∧ (∀ (w5 z5 : Int32), fldI (f o0) 5 = some w5 → fldI (f9 o0) 5 = some z5 → z5.toInt = 0)) := by
  obtain ⟨dC, dI⟩ := D
  refine Met.ofW (cc := cX12_understand) (maxL := 4) (ret := (some .int)) (by decide) rfl ?_
  intro p e s m args below meth c s₁ B hml hv
  obtain ⟨rfl, hP, hK, hD0, hN, hZ⟩ := hv
  have hx := B.exec
  have hb := B.bytes
  have hr := B.returns
  have hU : ∀ w ∈ wsU, w.before _ s = true := fun w h => atoms_spec (ws := wU yX12_understand cX12_understand 4 (some .int)) B.pre w (List.mem_cons_of_mem _ h)
  have hown : s.vm.findClass RX12 = some m.cls := findClass_of_methodNamed B.named
  have hlocks := B.notSynchronized
  have hD := pl_in hD0
  have hS : va_S (fun q => q ∈ L) s.heap s.heap [] := va_S.rf
  have hl := lv_entry ([.ref o0]) (n := 4) (Nat.le_of_ble_eq_true rfl)
  rw [lg_entry_eq]
  generalize (lg_sl ([.ref o0]) ++ List.replicate (4 - (lg_sl ([.ref o0])).length) Slot.unset).toArray = ls at hl ⊢
  have hl : lv_has ls 4 [(0, .ref o0)] := hl
  have hfr0 : ∀ b, kd b ≠ 12 → kd b ≠ 579 → kd b ≠ 581 → kd b ≠ 583 → kd b ≠ 585 → kd b ≠ 587 → kd b ≠ 588 → kd b ≠ 589 → kd b ≠ 594 → kd b ≠ 595 → kd b ≠ 596 → f b = f b := fun _ _ _ _ _ _ _ _ _ _ _ _ => rfl
  have hrA12 : ∀ b, kd b = 12 → ∀ j, fldR (f b) j = fldR (f b) j := fun _ _ _ => rfl
  have hfA12 : ∀ b, kd b = 12 → ∀ j, j ≠ 5 → j ≠ 23 → j ≠ 35 → j ≠ 38 → fldI (f b) j = fldI (f b) j := fun _ _ _ _ _ _ _ => rfl
  obtain ⟨a_2, a_3, a_4, v_5, a_6, v_7, v_8, v_9, v_10, v_11, v_12, v_13, v_14, v_15, v_16, a_17, a_18, a_19, a_20, a_21, a_22, a_23, a_24, v_25, v_26, v_27, v_28, v_29, a_30, v_31, a_32, a_33, v_34, v_35, a_36, v_37, a_38, a_39, v_40, v_41, a_42, a_43, a_44, v_45, a_46, a_47, a_48, a_49, a_50, a_51, a_52, a_53, a_54, v_55, v_56, a_57, hfo_1, ⟨ma_2, ka_2⟩, ⟨ma_3, ka_3⟩, ⟨ma_4, ka_4⟩, bv_5, ⟨ma_6, ka_6⟩, bv_7, bv_8, bv_13, bv_14, bv_15, ⟨ma_17, ka_17⟩, ⟨ma_18, ka_18⟩, ⟨ma_19, ka_19⟩, ⟨ma_20, ka_20⟩, ⟨ma_21, ka_21⟩, ⟨ma_22, ka_22⟩, ⟨ma_23, ka_23⟩, ⟨ma_24, ka_24⟩, bv_25, bv_27, bv_29, ⟨ma_30, ka_30⟩, bv_31, ⟨ma_32, ka_32⟩, ⟨ma_33, ka_33⟩, bv_34, ⟨ma_36, ka_36⟩, bv_37, ⟨ma_38, ka_38⟩, ⟨ma_39, ka_39⟩, bv_40, ⟨ma_42, ka_42⟩, ⟨ma_43, ka_43⟩, ⟨ma_44, ka_44⟩, bv_45, ⟨ma_46, ka_46⟩, ⟨ma_47, ka_47⟩, ⟨ma_48, ka_48⟩, ⟨ma_49, ka_49⟩, ⟨ma_50, ka_50⟩, ⟨ma_51, ka_51⟩, ⟨ma_52, ka_52⟩, ⟨ma_53, ka_53⟩, ⟨ma_54, ka_54⟩, bv_55, ⟨ma_57, ka_57⟩⟩ := un_12 (hG _ mo0) ko0
  have bv_9 : ((-2147483648) ≤ v_9.toInt ∧ v_9.toInt ≤ 2147483647) := ⟨i32_lo _, i32_hi _⟩
  have bv_10 : ((-2147483648) ≤ v_10.toInt ∧ v_10.toInt ≤ 2147483647) := ⟨i32_lo _, i32_hi _⟩
  have bv_11 : ((-2147483648) ≤ v_11.toInt ∧ v_11.toInt ≤ 2147483647) := ⟨i32_lo _, i32_hi _⟩
  have bv_12 : ((-2147483648) ≤ v_12.toInt ∧ v_12.toInt ≤ 2147483647) := ⟨i32_lo _, i32_hi _⟩
  have bv_16 : ((-2147483648) ≤ v_16.toInt ∧ v_16.toInt ≤ 2147483647) := ⟨i32_lo _, i32_hi _⟩
  have bv_26 : ((-2147483648) ≤ v_26.toInt ∧ v_26.toInt ≤ 2147483647) := ⟨i32_lo _, i32_hi _⟩
  have bv_28 : ((-2147483648) ≤ v_28.toInt ∧ v_28.toInt ≤ 2147483647) := ⟨i32_lo _, i32_hi _⟩
  have bv_35 : ((-2147483648) ≤ v_35.toInt ∧ v_35.toInt ≤ 2147483647) := ⟨i32_lo _, i32_hi _⟩
  have bv_41 : ((-2147483648) ≤ v_41.toInt ∧ v_41.toInt ≤ 2147483647) := ⟨i32_lo _, i32_hi _⟩
  have bv_56 : ((-2147483648) ≤ v_56.toInt ∧ v_56.toInt ≤ 2147483647) := ⟨i32_lo _, i32_hi _⟩
  refine lv_aload_n hx hb dX12_understand_0 rfl (lv_at hl 0 rfl) ?_
  refine lv_iconst (v := 0) hx hb dX12_understand_1 (by decide) ?_
  refine tk_putP (D := (dC, dI)) (ci := 12) (v := .int 0) (ty := .int) (C := RX12) (T := TX12) (N := 56) hx hb hU inlX12 tyX12 tyX12_ok nmX12 hown hK hP hD hS mo0 hfo_1 rfl 38 (by decide) (hU _ wd_571) (fun _ h9 => h9) rfl (by decide +kernel) rfl rfl (Nat.le_of_ble_eq_true rfl) dX12_understand_2 (fun H locs hP hD hS => ?_)
  obtain ⟨f_59, ef_59⟩ : ∃ y : Nat → va_E, y = va_up f o0 (.inr (12, [.ref a_2, .ref a_3, .ref a_4, .int v_5, .ref a_6, .int v_7, .int v_8, .int v_9, .int v_10, .int v_11, .int v_12, .int v_13, .int v_14, .int v_15, .int v_16, .ref a_17, .ref a_18, .ref a_19, .ref a_20, .ref a_21, .ref a_22, .ref a_23, .ref a_24, .int v_25, .int v_26, .int v_27, .int v_28, .int v_29, .ref a_30, .int v_31, .ref a_32, .ref a_33, .int v_34, .int v_35, .ref a_36, .int v_37, .ref a_38, .ref a_39, .int 0, .int v_41, .ref a_42, .ref a_43, .ref a_44, .int v_45, .ref a_46, .ref a_47, .ref a_48, .ref a_49, .ref a_50, .ref a_51, .ref a_52, .ref a_53, .ref a_54, .int v_55, .int v_56, .ref a_57])) := ⟨_, rfl⟩
  have hP : va_P (dC, dI) vwCl (va_pl L f_59) H := by rw [ef_59]; exact hP
  have hD : va_D (fun q => q ∈ L) (va_pl L f_59) := by rw [ef_59]; exact hD
  have hG : GI (okc cI cL cZ cR cG cH L kd) kd L f_59 := by rw [ef_59]; exact hG.set o0 (mk_12 ko0 ⟨a_2, a_3, a_4, v_5, a_6, v_7, v_8, v_9, v_10, v_11, v_12, v_13, v_14, v_15, v_16, a_17, a_18, a_19, a_20, a_21, a_22, a_23, a_24, v_25, v_26, v_27, v_28, v_29, a_30, v_31, a_32, a_33, v_34, v_35, a_36, v_37, a_38, a_39, 0, v_41, a_42, a_43, a_44, v_45, a_46, a_47, a_48, a_49, a_50, a_51, a_52, a_53, a_54, v_55, v_56, a_57, rfl, ⟨ma_2, ka_2⟩, ⟨ma_3, ka_3⟩, ⟨ma_4, ka_4⟩, (by constructor <;> omega), ⟨ma_6, ka_6⟩, (by constructor <;> omega), (by constructor <;> omega), (by constructor <;> omega), (by constructor <;> omega), (by constructor <;> omega), ⟨ma_17, ka_17⟩, ⟨ma_18, ka_18⟩, ⟨ma_19, ka_19⟩, ⟨ma_20, ka_20⟩, ⟨ma_21, ka_21⟩, ⟨ma_22, ka_22⟩, ⟨ma_23, ka_23⟩, ⟨ma_24, ka_24⟩, (by constructor <;> omega), (by constructor <;> omega), (by constructor <;> omega), ⟨ma_30, ka_30⟩, (by constructor <;> omega), ⟨ma_32, ka_32⟩, ⟨ma_33, ka_33⟩, (by constructor <;> omega), ⟨ma_36, ka_36⟩, (by constructor <;> omega), ⟨ma_38, ka_38⟩, ⟨ma_39, ka_39⟩, (by decide), ⟨ma_42, ka_42⟩, ⟨ma_43, ka_43⟩, ⟨ma_44, ka_44⟩, (by constructor <;> omega), ⟨ma_46, ka_46⟩, ⟨ma_47, ka_47⟩, ⟨ma_48, ka_48⟩, ⟨ma_49, ka_49⟩, ⟨ma_50, ka_50⟩, ⟨ma_51, ka_51⟩, ⟨ma_52, ka_52⟩, ⟨ma_53, ka_53⟩, ⟨ma_54, ka_54⟩, (by constructor <;> omega), ⟨ma_57, ka_57⟩⟩)
  have hfr0 : ∀ b, kd b ≠ 12 → kd b ≠ 579 → kd b ≠ 581 → kd b ≠ 583 → kd b ≠ 585 → kd b ≠ 587 → kd b ≠ 588 → kd b ≠ 589 → kd b ≠ 594 → kd b ≠ 595 → kd b ≠ 596 → f_59 b = f b := fun b q12 q579 q581 q583 q585 q587 q588 q589 q594 q595 q596 => (congrFun ef_59 b).trans ((up_ne (fun e9 => q12 (by rw [e9]; exact ko0))).trans (hfr0 b q12 q579 q581 q583 q585 q587 q588 q589 q594 q595 q596))
  have hrA12 : ∀ b, kd b = 12 → ∀ j, fldR (f_59 b) j = fldR (f b) j := fun b kb j => ((congrArg (fun x => fldR x j) (congrFun ef_59 b)).trans (fra_up (fun j => by rw [hfo_1]; exact fr_set (k := 38) rfl rfl j) j b)).trans (hrA12 b kb j)
  have hfA12 : ∀ b, kd b = 12 → ∀ j, j ≠ 5 → j ≠ 23 → j ≠ 35 → j ≠ 38 → fldI (f_59 b) j = fldI (f b) j := fun b kb j n5 n23 n35 n38 => ((congrArg (fun x => fldI x j) (congrFun ef_59 b)).trans (fia_up (fun h9 => by rw [hfo_1]; exact fi_set (k := 38) rfl h9) n38 b)).trans (hfA12 b kb j n5 n23 n35 n38)
  have hfo_60 : f_59 o0 = .inr (12, [.ref a_2, .ref a_3, .ref a_4, .int v_5, .ref a_6, .int v_7, .int v_8, .int v_9, .int v_10, .int v_11, .int v_12, .int v_13, .int v_14, .int v_15, .int v_16, .ref a_17, .ref a_18, .ref a_19, .ref a_20, .ref a_21, .ref a_22, .ref a_23, .ref a_24, .int v_25, .int v_26, .int v_27, .int v_28, .int v_29, .ref a_30, .int v_31, .ref a_32, .ref a_33, .int v_34, .int v_35, .ref a_36, .int v_37, .ref a_38, .ref a_39, .int 0, .int v_41, .ref a_42, .ref a_43, .ref a_44, .int v_45, .ref a_46, .ref a_47, .ref a_48, .ref a_49, .ref a_50, .ref a_51, .ref a_52, .ref a_53, .ref a_54, .int v_55, .int v_56, .ref a_57]) := by rw [ef_59]; exact up_self
  refine lv_aload_n hx hb dX12_understand_5 rfl (lv_at hl 0 rfl) ?_
  refine lv_iconst (v := 1) hx hb dX12_understand_6 (by decide) ?_
  refine lv_bipush (v := 8) hx hb dX12_understand_7 (by decide) ?_
  refine tk_ViP (As := [.int 1, .int 8]) (rest := []) (n := 2) hx hb hml hown hU hN hZ (s_X12_takesWord_k12_c1_c8 l (dC, dI) cI cL cZ cR cG cH Z kd L f_59 hG o0 mo0 ko0) wd_863 wd_864 wd_865 wd_5 wd_866 (by decide +kernel) ⟨Nat.le_of_ble_eq_true rfl, Nat.le_of_ble_eq_true rfl⟩ hK hP hD hS mo0 hfo_60 12 rfl rfl rfl hl.1 rfl (Nat.le_of_ble_eq_true rfl) dX12_understand_9 ⟨Nat.le_of_ble_eq_true rfl, Nat.le_of_ble_eq_true rfl⟩ (fun x_61 f_62 H locs hw hP hD hS => ?_)
  obtain ⟨hG, bx_61, hkc_63, hra_64, hfa_65, hpost_66⟩ := hw
  have hfr0 : ∀ b, kd b ≠ 12 → kd b ≠ 579 → kd b ≠ 581 → kd b ≠ 583 → kd b ≠ 585 → kd b ≠ 587 → kd b ≠ 588 → kd b ≠ 589 → kd b ≠ 594 → kd b ≠ 595 → kd b ≠ 596 → f_62 b = f b := fun b q12 q579 q581 q583 q585 q587 q588 q589 q594 q595 q596 => (hkc_63 b q12 q589).trans (hfr0 b q12 q579 q581 q583 q585 q587 q588 q589 q594 q595 q596)
  have hrA12 : ∀ b, kd b = 12 → ∀ j, fldR (f_62 b) j = fldR (f b) j := fun b kb j => (hra_64 b kb j).trans (hrA12 b kb j)
  have hfA12 : ∀ b, kd b = 12 → ∀ j, j ≠ 5 → j ≠ 23 → j ≠ 35 → j ≠ 38 → fldI (f_62 b) j = fldI (f b) j := fun b kb j n5 n23 n35 n38 => (hfa_65 b kb j n5 n23).trans (hfA12 b kb j n5 n23 n35 n38)
  obtain ⟨a_69, a_70, a_71, v_72, a_73, v_74, v_75, v_76, v_77, v_78, v_79, v_80, v_81, v_82, v_83, a_84, a_85, a_86, a_87, a_88, a_89, a_90, a_91, v_92, v_93, v_94, v_95, v_96, a_97, v_98, a_99, a_100, v_101, v_102, a_103, v_104, a_105, a_106, v_107, v_108, a_109, a_110, a_111, v_112, a_113, a_114, a_115, a_116, a_117, a_118, a_119, a_120, a_121, v_122, v_123, a_124, hfo_68, ⟨ma_69, ka_69⟩, ⟨ma_70, ka_70⟩, ⟨ma_71, ka_71⟩, bv_72, ⟨ma_73, ka_73⟩, bv_74, bv_75, bv_80, bv_81, bv_82, ⟨ma_84, ka_84⟩, ⟨ma_85, ka_85⟩, ⟨ma_86, ka_86⟩, ⟨ma_87, ka_87⟩, ⟨ma_88, ka_88⟩, ⟨ma_89, ka_89⟩, ⟨ma_90, ka_90⟩, ⟨ma_91, ka_91⟩, bv_92, bv_94, bv_96, ⟨ma_97, ka_97⟩, bv_98, ⟨ma_99, ka_99⟩, ⟨ma_100, ka_100⟩, bv_101, ⟨ma_103, ka_103⟩, bv_104, ⟨ma_105, ka_105⟩, ⟨ma_106, ka_106⟩, bv_107, ⟨ma_109, ka_109⟩, ⟨ma_110, ka_110⟩, ⟨ma_111, ka_111⟩, bv_112, ⟨ma_113, ka_113⟩, ⟨ma_114, ka_114⟩, ⟨ma_115, ka_115⟩, ⟨ma_116, ka_116⟩, ⟨ma_117, ka_117⟩, ⟨ma_118, ka_118⟩, ⟨ma_119, ka_119⟩, ⟨ma_120, ka_120⟩, ⟨ma_121, ka_121⟩, bv_122, ⟨ma_124, ka_124⟩⟩ := un_12 (hG _ mo0) ko0
  have bv_76 : ((-2147483648) ≤ v_76.toInt ∧ v_76.toInt ≤ 2147483647) := ⟨i32_lo _, i32_hi _⟩
  have bv_77 : ((-2147483648) ≤ v_77.toInt ∧ v_77.toInt ≤ 2147483647) := ⟨i32_lo _, i32_hi _⟩
  have bv_78 : ((-2147483648) ≤ v_78.toInt ∧ v_78.toInt ≤ 2147483647) := ⟨i32_lo _, i32_hi _⟩
  have bv_79 : ((-2147483648) ≤ v_79.toInt ∧ v_79.toInt ≤ 2147483647) := ⟨i32_lo _, i32_hi _⟩
  have bv_83 : ((-2147483648) ≤ v_83.toInt ∧ v_83.toInt ≤ 2147483647) := ⟨i32_lo _, i32_hi _⟩
  have bv_93 : ((-2147483648) ≤ v_93.toInt ∧ v_93.toInt ≤ 2147483647) := ⟨i32_lo _, i32_hi _⟩
  have bv_95 : ((-2147483648) ≤ v_95.toInt ∧ v_95.toInt ≤ 2147483647) := ⟨i32_lo _, i32_hi _⟩
  have bv_102 : ((-2147483648) ≤ v_102.toInt ∧ v_102.toInt ≤ 2147483647) := ⟨i32_lo _, i32_hi _⟩
  have bv_108 : ((-2147483648) ≤ v_108.toInt ∧ v_108.toInt ≤ 2147483647) := ⟨i32_lo _, i32_hi _⟩
  have bv_123 : ((-2147483648) ≤ v_123.toInt ∧ v_123.toInt ≤ 2147483647) := ⟨i32_lo _, i32_hi _⟩
  obtain ⟨rfl, rfl, rfl, rfl, rfl, rfl, rfl, rfl, rfl, rfl, rfl, rfl, rfl, rfl, rfl, rfl, rfl, rfl, rfl, rfl, rfl, rfl, rfl, rfl, rfl, rfl, rfl, rfl, rfl, rfl, rfl⟩ := re_12 hfo_1 hfo_68 (hrA12 o0 ko0)
  obtain rfl := ri_12_3 hfo_1 hfo_68 (hfA12 o0 ko0 3 (by decide) (by decide) (by decide) (by decide))
  obtain rfl := ri_12_6 hfo_1 hfo_68 (hfA12 o0 ko0 6 (by decide) (by decide) (by decide) (by decide))
  obtain rfl := ri_12_11 hfo_1 hfo_68 (hfA12 o0 ko0 11 (by decide) (by decide) (by decide) (by decide))
  obtain rfl := ri_12_12 hfo_1 hfo_68 (hfA12 o0 ko0 12 (by decide) (by decide) (by decide) (by decide))
  obtain rfl := ri_12_13 hfo_1 hfo_68 (hfA12 o0 ko0 13 (by decide) (by decide) (by decide) (by decide))
  obtain rfl := ri_12_14 hfo_1 hfo_68 (hfA12 o0 ko0 14 (by decide) (by decide) (by decide) (by decide))
  obtain rfl := ri_12_25 hfo_1 hfo_68 (hfA12 o0 ko0 25 (by decide) (by decide) (by decide) (by decide))
  obtain rfl := ri_12_27 hfo_1 hfo_68 (hfA12 o0 ko0 27 (by decide) (by decide) (by decide) (by decide))
  obtain rfl := ri_12_29 hfo_1 hfo_68 (hfA12 o0 ko0 29 (by decide) (by decide) (by decide) (by decide))
  obtain rfl := ri_12_32 hfo_1 hfo_68 (hfA12 o0 ko0 32 (by decide) (by decide) (by decide) (by decide))
  obtain rfl := ri_12_33 hfo_1 hfo_68 (hfA12 o0 ko0 33 (by decide) (by decide) (by decide) (by decide))
  obtain rfl := ri_12_43 hfo_1 hfo_68 (hfA12 o0 ko0 43 (by decide) (by decide) (by decide) (by decide))
  obtain rfl := ri_12_53 hfo_1 hfo_68 (hfA12 o0 ko0 53 (by decide) (by decide) (by decide) (by decide))
  obtain rfl := ri_12_35 hfo_60 hfo_68 (hfa_65 o0 ko0 35 (by decide) (by decide))
  obtain rfl := ri_12_38 hfo_60 hfo_68 (hfa_65 o0 ko0 38 (by decide) (by decide))
  have hqhpost_66 := hpost_66 v_7 v_74 v_25 v_92 (by rw [hfo_60]; rfl) (by rw [hfo_60]; rfl) (by rw [hfo_68]; rfl) (by rw [hfo_68]; rfl)
  try rw [ti_1] at hqhpost_66
  try rw [ti_8] at hqhpost_66
  refine lv_if_ne (tgt := 17) hx hb dX12_understand_12 (by decide) (fun c_125 => ?_) (fun c_125 => ?_)
  · skip
    rw [← Int32.toInt_inj, ti_0] at c_125
    have hclc_126 : (0 ≤ v_92.toInt ∧ v_92.toInt ≤ 8) := by constructor <;> omega
    refine lv_aload_n hx hb dX12_understand_17 rfl (lv_at hl 0 rfl) ?_
    refine lv_aload_n hx hb dX12_understand_18 rfl (lv_at hl 0 rfl) ?_
    refine tk_getP (D := (dC, dI)) (ci := 12) (v := .int v_92) (C := RX12) (T := TX12) (N := 56) hx hb hU inlX12 hown hK hP mo0 hfo_68 rfl 23 (by decide) (hU _ wd_867) (fun _ h9 => h9) rfl dX12_understand_19 ?_
    refine tk_putP (D := (dC, dI)) (ci := 12) (v := .int v_92) (ty := .int) (C := RX12) (T := TX12) (N := 56) hx hb hU inlX12 tyX12 tyX12_ok nmX12 hown hK hP hD hS mo0 hfo_68 rfl 35 (by decide) (hU _ wd_1049) (fun _ h9 => h9) rfl (by decide +kernel) rfl rfl (Nat.le_of_ble_eq_true rfl) dX12_understand_22 (fun H locs hP hD hS => ?_)
    obtain ⟨f_128, ef_128⟩ : ∃ y : Nat → va_E, y = va_up f_62 o0 (.inr (12, [.ref a_2, .ref a_3, .ref a_4, .int v_5, .ref a_6, .int v_74, .int v_8, .int v_76, .int v_77, .int v_78, .int v_79, .int v_13, .int v_14, .int v_15, .int v_16, .ref a_17, .ref a_18, .ref a_19, .ref a_20, .ref a_21, .ref a_22, .ref a_23, .ref a_24, .int v_92, .int v_93, .int v_27, .int v_95, .int v_29, .ref a_30, .int v_31, .ref a_32, .ref a_33, .int v_34, .int v_35, .ref a_36, .int v_92, .ref a_38, .ref a_39, .int 0, .int v_108, .ref a_42, .ref a_43, .ref a_44, .int v_45, .ref a_46, .ref a_47, .ref a_48, .ref a_49, .ref a_50, .ref a_51, .ref a_52, .ref a_53, .ref a_54, .int v_55, .int v_123, .ref a_57])) := ⟨_, rfl⟩
    have hP : va_P (dC, dI) vwCl (va_pl L f_128) H := by rw [ef_128]; exact hP
    have hD : va_D (fun q => q ∈ L) (va_pl L f_128) := by rw [ef_128]; exact hD
    have hG : GI (okc cI cL cZ cR cG cH L kd) kd L f_128 := by rw [ef_128]; exact hG.set o0 (mk_12 ko0 ⟨a_2, a_3, a_4, v_5, a_6, v_74, v_8, v_76, v_77, v_78, v_79, v_13, v_14, v_15, v_16, a_17, a_18, a_19, a_20, a_21, a_22, a_23, a_24, v_92, v_93, v_27, v_95, v_29, a_30, v_31, a_32, a_33, v_34, v_35, a_36, v_92, a_38, a_39, 0, v_108, a_42, a_43, a_44, v_45, a_46, a_47, a_48, a_49, a_50, a_51, a_52, a_53, a_54, v_55, v_123, a_57, rfl, ⟨ma_2, ka_2⟩, ⟨ma_3, ka_3⟩, ⟨ma_4, ka_4⟩, (by constructor <;> omega), ⟨ma_6, ka_6⟩, (by constructor <;> omega), (by constructor <;> omega), (by constructor <;> omega), (by constructor <;> omega), (by constructor <;> omega), ⟨ma_17, ka_17⟩, ⟨ma_18, ka_18⟩, ⟨ma_19, ka_19⟩, ⟨ma_20, ka_20⟩, ⟨ma_21, ka_21⟩, ⟨ma_22, ka_22⟩, ⟨ma_23, ka_23⟩, ⟨ma_24, ka_24⟩, (by constructor <;> omega), (by constructor <;> omega), (by constructor <;> omega), ⟨ma_30, ka_30⟩, (by constructor <;> omega), ⟨ma_32, ka_32⟩, ⟨ma_33, ka_33⟩, (by constructor <;> omega), ⟨ma_36, ka_36⟩, (by constructor <;> omega), ⟨ma_38, ka_38⟩, ⟨ma_39, ka_39⟩, (by decide), ⟨ma_42, ka_42⟩, ⟨ma_43, ka_43⟩, ⟨ma_44, ka_44⟩, (by constructor <;> omega), ⟨ma_46, ka_46⟩, ⟨ma_47, ka_47⟩, ⟨ma_48, ka_48⟩, ⟨ma_49, ka_49⟩, ⟨ma_50, ka_50⟩, ⟨ma_51, ka_51⟩, ⟨ma_52, ka_52⟩, ⟨ma_53, ka_53⟩, ⟨ma_54, ka_54⟩, (by constructor <;> omega), ⟨ma_57, ka_57⟩⟩)
    have hfr0 : ∀ b, kd b ≠ 12 → kd b ≠ 579 → kd b ≠ 581 → kd b ≠ 583 → kd b ≠ 585 → kd b ≠ 587 → kd b ≠ 588 → kd b ≠ 589 → kd b ≠ 594 → kd b ≠ 595 → kd b ≠ 596 → f_128 b = f b := fun b q12 q579 q581 q583 q585 q587 q588 q589 q594 q595 q596 => (congrFun ef_128 b).trans ((up_ne (fun e9 => q12 (by rw [e9]; exact ko0))).trans (hfr0 b q12 q579 q581 q583 q585 q587 q588 q589 q594 q595 q596))
    have hrA12 : ∀ b, kd b = 12 → ∀ j, fldR (f_128 b) j = fldR (f b) j := fun b kb j => ((congrArg (fun x => fldR x j) (congrFun ef_128 b)).trans (fra_up (fun j => by rw [hfo_68]; exact fr_set (k := 35) rfl rfl j) j b)).trans (hrA12 b kb j)
    have hfA12 : ∀ b, kd b = 12 → ∀ j, j ≠ 5 → j ≠ 23 → j ≠ 35 → j ≠ 38 → fldI (f_128 b) j = fldI (f b) j := fun b kb j n5 n23 n35 n38 => ((congrArg (fun x => fldI x j) (congrFun ef_128 b)).trans (fia_up (fun h9 => by rw [hfo_68]; exact fi_set (k := 35) rfl h9) n35 b)).trans (hfA12 b kb j n5 n23 n35 n38)
    have hfo_129 : f_128 o0 = .inr (12, [.ref a_2, .ref a_3, .ref a_4, .int v_5, .ref a_6, .int v_74, .int v_8, .int v_76, .int v_77, .int v_78, .int v_79, .int v_13, .int v_14, .int v_15, .int v_16, .ref a_17, .ref a_18, .ref a_19, .ref a_20, .ref a_21, .ref a_22, .ref a_23, .ref a_24, .int v_92, .int v_93, .int v_27, .int v_95, .int v_29, .ref a_30, .int v_31, .ref a_32, .ref a_33, .int v_34, .int v_35, .ref a_36, .int v_92, .ref a_38, .ref a_39, .int 0, .int v_108, .ref a_42, .ref a_43, .ref a_44, .int v_45, .ref a_46, .ref a_47, .ref a_48, .ref a_49, .ref a_50, .ref a_51, .ref a_52, .ref a_53, .ref a_54, .int v_55, .int v_123, .ref a_57]) := by rw [ef_128]; exact up_self
    refine lv_iconst (v := 0) hx hb dX12_understand_25 (by decide) ?_
    refine lv_istore_n (lv' := [(1, .int 0), (0, .ref o0)]) hx hb dX12_understand_26 rfl hl (by decide) rfl (fun ls hl => ?_)
    have hloop_145 : ∀ (n : Nat), ∀ (y_146 : Int32), (0 ≤ y_146.toInt ∧ y_146.toInt ≤ 8) → ∀ (f_148 : Nat → va_E), GI (okc cI cL cZ cR cG cH L kd) kd L f_148 → ∀ (H : Heap) (locs : List Loc), va_P (dC, dI) vwCl (va_pl L f_148) H → va_S (fun q => q ∈ L) s.heap H locs → va_D (fun q => q ∈ L) (va_pl L f_148) → (∀ b, kd b ≠ 12 → kd b ≠ 579 → kd b ≠ 581 → kd b ≠ 583 → kd b ≠ 585 → kd b ≠ 587 → kd b ≠ 588 → kd b ≠ 589 → kd b ≠ 594 → kd b ≠ 595 → kd b ≠ 596 → f_148 b = f b) → (∀ b, kd b = 12 → ∀ j, fldR (f_148 b) j = fldR (f b) j) → (∀ b, kd b = 12 → ∀ j, j ≠ 5 → j ≠ 23 → j ≠ 35 → j ≠ 38 → fldI (f_148 b) j = fldI (f b) j) → (f_148 o0 = .inr (12, [.ref a_2, .ref a_3, .ref a_4, .int v_5, .ref a_6, .int v_74, .int v_8, .int v_76, .int v_77, .int v_78, .int v_79, .int v_13, .int v_14, .int v_15, .int v_16, .ref a_17, .ref a_18, .ref a_19, .ref a_20, .ref a_21, .ref a_22, .ref a_23, .ref a_24, .int v_92, .int v_93, .int v_27, .int v_95, .int v_29, .ref a_30, .int v_31, .ref a_32, .ref a_33, .int v_34, .int v_35, .ref a_36, .int v_92, .ref a_38, .ref a_39, .int 0, .int v_108, .ref a_42, .ref a_43, .ref a_44, .int v_45, .ref a_46, .ref a_47, .ref a_48, .ref a_49, .ref a_50, .ref a_51, .ref a_52, .ref a_53, .ref a_54, .int v_55, .int v_123, .ref a_57])) → 8 - y_146.toInt < (n : Int) → ∀ (ls : Array Slot), lv_has ls 4 [(1, .int y_146), (0, .ref o0)] → W p l e (headSpec (wU yX12_understand cX12_understand 4 (some .int)) { frames := 21, cells := 0, slots := 0, locals := 585 }).room s m [.ref o0].toArray below meth c H locs 0 0 (MQ below (va_Qi (fun (r : Int32) (f9 : Nat → va_E) => GI (okc cI cL cZ cR cG cH L kd) kd L f9 ∧ ((-2147483648) ≤ r.toInt ∧ r.toInt ≤ 2147483647) ∧ (∀ b, kd b ≠ 12 → kd b ≠ 579 → kd b ≠ 581 → kd b ≠ 583 → kd b ≠ 585 → kd b ≠ 587 → kd b ≠ 588 → kd b ≠ 589 → kd b ≠ 594 → kd b ≠ 595 → kd b ≠ 596 → f9 b = f b) ∧ (∀ b, kd b = 12 → ∀ j, fldR (f9 b) j = fldR (f b) j) ∧ (∀ b, kd b = 12 → ∀ j, j ≠ 5 → j ≠ 23 → j ≠ 35 → j ≠ 38 → fldI (f9 b) j = fldI (f b) j) ∧ (∀ (w5 z5 : Int32), fldI (f o0) 5 = some w5 → fldI (f9 o0) 5 = some z5 → z5.toInt = 0)) (qP (dC, dI) cI cL cZ cR cG cH L) (fun q => q ∈ L)) [.ref o0].toArray s 0 0 (fun q => q ∈ L)) (F0 m 27 ls []) := by
      intro n
      induction n with
      | zero => intro y_146 by_146 f_148 hG H locs hP hS hD hfr0 hrA12 hfA12 hfo_149 hmuhloop_145 ls hl; exfalso; omega
      | succ n ih_hloop_145 =>
        intro y_146 by_146 f_148 hG H locs hP hS hD hfr0 hrA12 hfA12 hfo_149 hmuhloop_145 ls hl
        refine lv_iload_n hx hb dX12_understand_27 rfl (lv_at hl 0 rfl) ?_
        refine lv_aload_n hx hb dX12_understand_28 rfl (lv_at hl 1 rfl) ?_
        refine tk_getP (D := (dC, dI)) (ci := 12) (v := .int v_92) (C := RX12) (T := TX12) (N := 56) hx hb hU inlX12 hown hK hP mo0 hfo_149 rfl 35 (by decide) (hU _ wd_1049) (fun _ h9 => h9) rfl dX12_understand_29 ?_
        refine lv_icmp_ge (tgt := 53) hx hb dX12_understand_32 (by decide) (fun c_150 => ?_) (fun c_150 => ?_)
        · skip
          rw [Int32.le_iff_toInt_le] at c_150
          refine lv_iconst (v := 0) hx hb dX12_understand_53 (by decide) ?_
          refine lv_istore_n (lv' := [(1, .int 0), (0, .ref o0)]) hx hb dX12_understand_54 rfl hl (by decide) rfl (fun ls hl => ?_)
          have hloop_212 : ∀ (n : Nat), ∀ (y_213 : Int32), (0 ≤ y_213.toInt ∧ y_213.toInt ≤ 12) → ∀ (f_215 : Nat → va_E), GI (okc cI cL cZ cR cG cH L kd) kd L f_215 → ∀ (H : Heap) (locs : List Loc), va_P (dC, dI) vwCl (va_pl L f_215) H → va_S (fun q => q ∈ L) s.heap H locs → va_D (fun q => q ∈ L) (va_pl L f_215) → (∀ b, kd b ≠ 12 → kd b ≠ 579 → kd b ≠ 581 → kd b ≠ 583 → kd b ≠ 585 → kd b ≠ 587 → kd b ≠ 588 → kd b ≠ 589 → kd b ≠ 594 → kd b ≠ 595 → kd b ≠ 596 → f_215 b = f b) → (∀ b, kd b = 12 → ∀ j, fldR (f_215 b) j = fldR (f b) j) → (∀ b, kd b = 12 → ∀ j, j ≠ 5 → j ≠ 23 → j ≠ 35 → j ≠ 38 → fldI (f_215 b) j = fldI (f b) j) → ∀ (whloop_212_0_38 : Int32), fldI (f_215 o0) 38 = some whloop_212_0_38 → ∀ (whloop_212_0_5 : Int32), fldI (f_215 o0) 5 = some whloop_212_0_5 → (whloop_212_0_38.toInt ≤ 8 * y_213.toInt) → (0 ≤ whloop_212_0_38.toInt ∧ whloop_212_0_38.toInt ≤ 96) → (0 ≤ whloop_212_0_5.toInt ∧ whloop_212_0_5.toInt ≤ 0) → 12 - y_213.toInt < (n : Int) → ∀ (ls : Array Slot), lv_has ls 4 [(1, .int y_213), (0, .ref o0)] → W p l e (headSpec (wU yX12_understand cX12_understand 4 (some .int)) { frames := 21, cells := 0, slots := 0, locals := 585 }).room s m [.ref o0].toArray below meth c H locs 0 0 (MQ below (va_Qi (fun (r : Int32) (f9 : Nat → va_E) => GI (okc cI cL cZ cR cG cH L kd) kd L f9 ∧ ((-2147483648) ≤ r.toInt ∧ r.toInt ≤ 2147483647) ∧ (∀ b, kd b ≠ 12 → kd b ≠ 579 → kd b ≠ 581 → kd b ≠ 583 → kd b ≠ 585 → kd b ≠ 587 → kd b ≠ 588 → kd b ≠ 589 → kd b ≠ 594 → kd b ≠ 595 → kd b ≠ 596 → f9 b = f b) ∧ (∀ b, kd b = 12 → ∀ j, fldR (f9 b) j = fldR (f b) j) ∧ (∀ b, kd b = 12 → ∀ j, j ≠ 5 → j ≠ 23 → j ≠ 35 → j ≠ 38 → fldI (f9 b) j = fldI (f b) j) ∧ (∀ (w5 z5 : Int32), fldI (f o0) 5 = some w5 → fldI (f9 o0) 5 = some z5 → z5.toInt = 0)) (qP (dC, dI) cI cL cZ cR cG cH L) (fun q => q ∈ L)) [.ref o0].toArray s 0 0 (fun q => q ∈ L)) (F0 m 55 ls []) := by
            intro n
            induction n with
            | zero => intro y_213 by_213 f_215 hG H locs hP hS hD hfr0 hrA12 hfA12 whloop_212_0_38 hghloop_212_0_38 whloop_212_0_5 hghloop_212_0_5 hrelhloop_212_0 hrelhloop_212_1 hrelhloop_212_2 hmuhloop_212 ls hl; exfalso; omega
            | succ n ih_hloop_212 =>
              intro y_213 by_213 f_215 hG H locs hP hS hD hfr0 hrA12 hfA12 whloop_212_0_38 hghloop_212_0_38 whloop_212_0_5 hghloop_212_0_5 hrelhloop_212_0 hrelhloop_212_1 hrelhloop_212_2 hmuhloop_212 ls hl
              obtain ⟨a_217, a_218, a_219, v_220, a_221, v_222, v_223, v_224, v_225, v_226, v_227, v_228, v_229, v_230, v_231, a_232, a_233, a_234, a_235, a_236, a_237, a_238, a_239, v_240, v_241, v_242, v_243, v_244, a_245, v_246, a_247, a_248, v_249, v_250, a_251, v_252, a_253, a_254, v_255, v_256, a_257, a_258, a_259, v_260, a_261, a_262, a_263, a_264, a_265, a_266, a_267, a_268, a_269, v_270, v_271, a_272, hfo_216, ⟨ma_217, ka_217⟩, ⟨ma_218, ka_218⟩, ⟨ma_219, ka_219⟩, bv_220, ⟨ma_221, ka_221⟩, bv_222, bv_223, bv_228, bv_229, bv_230, ⟨ma_232, ka_232⟩, ⟨ma_233, ka_233⟩, ⟨ma_234, ka_234⟩, ⟨ma_235, ka_235⟩, ⟨ma_236, ka_236⟩, ⟨ma_237, ka_237⟩, ⟨ma_238, ka_238⟩, ⟨ma_239, ka_239⟩, bv_240, bv_242, bv_244, ⟨ma_245, ka_245⟩, bv_246, ⟨ma_247, ka_247⟩, ⟨ma_248, ka_248⟩, bv_249, ⟨ma_251, ka_251⟩, bv_252, ⟨ma_253, ka_253⟩, ⟨ma_254, ka_254⟩, bv_255, ⟨ma_257, ka_257⟩, ⟨ma_258, ka_258⟩, ⟨ma_259, ka_259⟩, bv_260, ⟨ma_261, ka_261⟩, ⟨ma_262, ka_262⟩, ⟨ma_263, ka_263⟩, ⟨ma_264, ka_264⟩, ⟨ma_265, ka_265⟩, ⟨ma_266, ka_266⟩, ⟨ma_267, ka_267⟩, ⟨ma_268, ka_268⟩, ⟨ma_269, ka_269⟩, bv_270, ⟨ma_272, ka_272⟩⟩ := un_12 (hG _ mo0) ko0
              have bv_224 : ((-2147483648) ≤ v_224.toInt ∧ v_224.toInt ≤ 2147483647) := ⟨i32_lo _, i32_hi _⟩
              have bv_225 : ((-2147483648) ≤ v_225.toInt ∧ v_225.toInt ≤ 2147483647) := ⟨i32_lo _, i32_hi _⟩
              have bv_226 : ((-2147483648) ≤ v_226.toInt ∧ v_226.toInt ≤ 2147483647) := ⟨i32_lo _, i32_hi _⟩
              have bv_227 : ((-2147483648) ≤ v_227.toInt ∧ v_227.toInt ≤ 2147483647) := ⟨i32_lo _, i32_hi _⟩
              have bv_231 : ((-2147483648) ≤ v_231.toInt ∧ v_231.toInt ≤ 2147483647) := ⟨i32_lo _, i32_hi _⟩
              have bv_241 : ((-2147483648) ≤ v_241.toInt ∧ v_241.toInt ≤ 2147483647) := ⟨i32_lo _, i32_hi _⟩
              have bv_243 : ((-2147483648) ≤ v_243.toInt ∧ v_243.toInt ≤ 2147483647) := ⟨i32_lo _, i32_hi _⟩
              have bv_250 : ((-2147483648) ≤ v_250.toInt ∧ v_250.toInt ≤ 2147483647) := ⟨i32_lo _, i32_hi _⟩
              have bv_256 : ((-2147483648) ≤ v_256.toInt ∧ v_256.toInt ≤ 2147483647) := ⟨i32_lo _, i32_hi _⟩
              have bv_271 : ((-2147483648) ≤ v_271.toInt ∧ v_271.toInt ≤ 2147483647) := ⟨i32_lo _, i32_hi _⟩
              obtain ⟨rfl, rfl, rfl, rfl, rfl, rfl, rfl, rfl, rfl, rfl, rfl, rfl, rfl, rfl, rfl, rfl, rfl, rfl, rfl, rfl, rfl, rfl, rfl, rfl, rfl, rfl, rfl, rfl, rfl, rfl, rfl⟩ := re_12 hfo_1 hfo_216 (hrA12 o0 ko0)
              obtain rfl := ri_12_3 hfo_1 hfo_216 (hfA12 o0 ko0 3 (by decide) (by decide) (by decide) (by decide))
              obtain rfl := ri_12_6 hfo_1 hfo_216 (hfA12 o0 ko0 6 (by decide) (by decide) (by decide) (by decide))
              obtain rfl := ri_12_11 hfo_1 hfo_216 (hfA12 o0 ko0 11 (by decide) (by decide) (by decide) (by decide))
              obtain rfl := ri_12_12 hfo_1 hfo_216 (hfA12 o0 ko0 12 (by decide) (by decide) (by decide) (by decide))
              obtain rfl := ri_12_13 hfo_1 hfo_216 (hfA12 o0 ko0 13 (by decide) (by decide) (by decide) (by decide))
              obtain rfl := ri_12_14 hfo_1 hfo_216 (hfA12 o0 ko0 14 (by decide) (by decide) (by decide) (by decide))
              obtain rfl := ri_12_25 hfo_1 hfo_216 (hfA12 o0 ko0 25 (by decide) (by decide) (by decide) (by decide))
              obtain rfl := ri_12_27 hfo_1 hfo_216 (hfA12 o0 ko0 27 (by decide) (by decide) (by decide) (by decide))
              obtain rfl := ri_12_29 hfo_1 hfo_216 (hfA12 o0 ko0 29 (by decide) (by decide) (by decide) (by decide))
              obtain rfl := ri_12_32 hfo_1 hfo_216 (hfA12 o0 ko0 32 (by decide) (by decide) (by decide) (by decide))
              obtain rfl := ri_12_33 hfo_1 hfo_216 (hfA12 o0 ko0 33 (by decide) (by decide) (by decide) (by decide))
              obtain rfl := ri_12_43 hfo_1 hfo_216 (hfA12 o0 ko0 43 (by decide) (by decide) (by decide) (by decide))
              obtain rfl := ri_12_53 hfo_1 hfo_216 (hfA12 o0 ko0 53 (by decide) (by decide) (by decide) (by decide))
              obtain rfl : v_255 = whloop_212_0_38 := by rw [hfo_216] at hghloop_212_0_38; exact Option.some.inj hghloop_212_0_38
              obtain rfl : v_222 = whloop_212_0_5 := by rw [hfo_216] at hghloop_212_0_5; exact Option.some.inj hghloop_212_0_5
              refine lv_iload_n hx hb dX12_understand_55 rfl (lv_at hl 0 rfl) ?_
              refine lv_aload_n hx hb dX12_understand_56 rfl (lv_at hl 1 rfl) ?_
              refine tk_getP (D := (dC, dI)) (ci := 12) (v := .ref a_2) (C := RX12) (T := TX12) (N := 56) hx hb hU inlX12 hown hK hP mo0 hfo_216 rfl 0 (by decide) (hU _ wd_169) (fun _ h9 => h9) rfl dX12_understand_57 ?_
              refine lv_bipush (v := 18) hx hb dX12_understand_60 (by decide) ?_
              obtain ⟨g_274, hfo_273, hbg_274⟩ := un_575 (hG _ ma_2) ka_2
              refine tk_ildP hx hb hK hP 0 ma_2 hfo_273 rfl (vp_in_nI (n := 18) (by decide) (by decide)) dX12_understand_62 ?_
              refine lv_topi (fun x_275 ex_275 => ?_)
              have bx_275 : (0 ≤ x_275.toInt ∧ x_275.toInt ≤ 12) := by rw [ex_275]; exact hbg_274.2.2.2.1 _ (by decide) (by decide) (by decide)
              refine lv_icmp_ge (tgt := 263) hx hb dX12_understand_63 (by decide) (fun c_276 => ?_) (fun c_276 => ?_)
              · skip
                rw [Int32.le_iff_toInt_le] at c_276
                refine lv_aload_n hx hb dX12_understand_263 rfl (lv_at hl 1 rfl) ?_
                refine tk_getP (D := (dC, dI)) (ci := 12) (v := .int v_255) (C := RX12) (T := TX12) (N := 56) hx hb hU inlX12 hown hK hP mo0 hfo_216 rfl 38 (by decide) (hU _ wd_571) (fun _ h9 => h9) rfl dX12_understand_264 ?_
                exact W.iret (v := v_255) hx hb hr (fun t ht hW => ⟨⟨v_255, f_215, rfl, ⟨hG, (by constructor <;> omega), hfr0, hrA12, hfA12, (by intro w5 z5 e5 d5; rw [hfo_1] at e5; rw [hfo_216] at d5; obtain rfl := Option.some.inj e5; obtain rfl := Option.some.inj d5; omega)⟩, by rw [ht]; exact hP, va_K.moved hW.alike hK, pl_in hD⟩, hS.F ht⟩) hS.2.2 dX12_understand_267
              · skip
                rw [Int32.le_iff_toInt_le] at c_276
                refine lv_iconst (v := 0) hx hb dX12_understand_66 (by decide) ?_
                refine lv_istore_n (lv' := [(2, .int 0), (1, .int y_213), (0, .ref o0)]) hx hb dX12_understand_67 rfl hl (by decide) rfl (fun ls hl => ?_)
                have hloop_339 : ∀ (n : Nat), ∀ (y_340 : Int32), (0 ≤ y_340.toInt ∧ y_340.toInt ≤ 8) → ∀ (f_342 : Nat → va_E), GI (okc cI cL cZ cR cG cH L kd) kd L f_342 → ∀ (H : Heap) (locs : List Loc), va_P (dC, dI) vwCl (va_pl L f_342) H → va_S (fun q => q ∈ L) s.heap H locs → va_D (fun q => q ∈ L) (va_pl L f_342) → (∀ b, kd b ≠ 12 → kd b ≠ 579 → kd b ≠ 581 → kd b ≠ 583 → kd b ≠ 585 → kd b ≠ 587 → kd b ≠ 588 → kd b ≠ 589 → kd b ≠ 594 → kd b ≠ 595 → kd b ≠ 596 → f_342 b = f b) → (∀ b, kd b = 12 → ∀ j, fldR (f_342 b) j = fldR (f b) j) → (∀ b, kd b = 12 → ∀ j, j ≠ 5 → j ≠ 23 → j ≠ 35 → j ≠ 38 → fldI (f_342 b) j = fldI (f b) j) → (f_342 a_2 = .inl (cI, 1560, .inl g_274)) → ∀ (whloop_339_0_38 : Int32), fldI (f_342 o0) 38 = some whloop_339_0_38 → ∀ (whloop_339_0_5 : Int32), fldI (f_342 o0) 5 = some whloop_339_0_5 → (whloop_339_0_38.toInt ≤ 8 * y_213.toInt + y_340.toInt) → (0 ≤ whloop_339_0_38.toInt ∧ whloop_339_0_38.toInt ≤ 96) → (0 ≤ whloop_339_0_5.toInt ∧ whloop_339_0_5.toInt ≤ 0) → 8 - y_340.toInt < (n : Int) → ∀ (ls : Array Slot), lv_has ls 4 [(2, .int y_340), (1, .int y_213), (0, .ref o0)] → W p l e (headSpec (wU yX12_understand cX12_understand 4 (some .int)) { frames := 21, cells := 0, slots := 0, locals := 585 }).room s m [.ref o0].toArray below meth c H locs 0 0 (MQ below (va_Qi (fun (r : Int32) (f9 : Nat → va_E) => GI (okc cI cL cZ cR cG cH L kd) kd L f9 ∧ ((-2147483648) ≤ r.toInt ∧ r.toInt ≤ 2147483647) ∧ (∀ b, kd b ≠ 12 → kd b ≠ 579 → kd b ≠ 581 → kd b ≠ 583 → kd b ≠ 585 → kd b ≠ 587 → kd b ≠ 588 → kd b ≠ 589 → kd b ≠ 594 → kd b ≠ 595 → kd b ≠ 596 → f9 b = f b) ∧ (∀ b, kd b = 12 → ∀ j, fldR (f9 b) j = fldR (f b) j) ∧ (∀ b, kd b = 12 → ∀ j, j ≠ 5 → j ≠ 23 → j ≠ 35 → j ≠ 38 → fldI (f9 b) j = fldI (f b) j) ∧ (∀ (w5 z5 : Int32), fldI (f o0) 5 = some w5 → fldI (f9 o0) 5 = some z5 → z5.toInt = 0)) (qP (dC, dI) cI cL cZ cR cG cH L) (fun q => q ∈ L)) [.ref o0].toArray s 0 0 (fun q => q ∈ L)) (F0 m 68 ls []) := by
                  intro n
                  induction n with
                  | zero => intro y_340 by_340 f_342 hG H locs hP hS hD hfr0 hrA12 hfA12 hfo_343 whloop_339_0_38 hghloop_339_0_38 whloop_339_0_5 hghloop_339_0_5 hrelhloop_339_0 hrelhloop_339_1 hrelhloop_339_2 hmuhloop_339 ls hl; exfalso; omega
                  | succ n ih_hloop_339 =>
                    intro y_340 by_340 f_342 hG H locs hP hS hD hfr0 hrA12 hfA12 hfo_343 whloop_339_0_38 hghloop_339_0_38 whloop_339_0_5 hghloop_339_0_5 hrelhloop_339_0 hrelhloop_339_1 hrelhloop_339_2 hmuhloop_339 ls hl
                    obtain ⟨a_345, a_346, a_347, v_348, a_349, v_350, v_351, v_352, v_353, v_354, v_355, v_356, v_357, v_358, v_359, a_360, a_361, a_362, a_363, a_364, a_365, a_366, a_367, v_368, v_369, v_370, v_371, v_372, a_373, v_374, a_375, a_376, v_377, v_378, a_379, v_380, a_381, a_382, v_383, v_384, a_385, a_386, a_387, v_388, a_389, a_390, a_391, a_392, a_393, a_394, a_395, a_396, a_397, v_398, v_399, a_400, hfo_344, ⟨ma_345, ka_345⟩, ⟨ma_346, ka_346⟩, ⟨ma_347, ka_347⟩, bv_348, ⟨ma_349, ka_349⟩, bv_350, bv_351, bv_356, bv_357, bv_358, ⟨ma_360, ka_360⟩, ⟨ma_361, ka_361⟩, ⟨ma_362, ka_362⟩, ⟨ma_363, ka_363⟩, ⟨ma_364, ka_364⟩, ⟨ma_365, ka_365⟩, ⟨ma_366, ka_366⟩, ⟨ma_367, ka_367⟩, bv_368, bv_370, bv_372, ⟨ma_373, ka_373⟩, bv_374, ⟨ma_375, ka_375⟩, ⟨ma_376, ka_376⟩, bv_377, ⟨ma_379, ka_379⟩, bv_380, ⟨ma_381, ka_381⟩, ⟨ma_382, ka_382⟩, bv_383, ⟨ma_385, ka_385⟩, ⟨ma_386, ka_386⟩, ⟨ma_387, ka_387⟩, bv_388, ⟨ma_389, ka_389⟩, ⟨ma_390, ka_390⟩, ⟨ma_391, ka_391⟩, ⟨ma_392, ka_392⟩, ⟨ma_393, ka_393⟩, ⟨ma_394, ka_394⟩, ⟨ma_395, ka_395⟩, ⟨ma_396, ka_396⟩, ⟨ma_397, ka_397⟩, bv_398, ⟨ma_400, ka_400⟩⟩ := un_12 (hG _ mo0) ko0
                    have bv_352 : ((-2147483648) ≤ v_352.toInt ∧ v_352.toInt ≤ 2147483647) := ⟨i32_lo _, i32_hi _⟩
                    have bv_353 : ((-2147483648) ≤ v_353.toInt ∧ v_353.toInt ≤ 2147483647) := ⟨i32_lo _, i32_hi _⟩
                    have bv_354 : ((-2147483648) ≤ v_354.toInt ∧ v_354.toInt ≤ 2147483647) := ⟨i32_lo _, i32_hi _⟩
                    have bv_355 : ((-2147483648) ≤ v_355.toInt ∧ v_355.toInt ≤ 2147483647) := ⟨i32_lo _, i32_hi _⟩
                    have bv_359 : ((-2147483648) ≤ v_359.toInt ∧ v_359.toInt ≤ 2147483647) := ⟨i32_lo _, i32_hi _⟩
                    have bv_369 : ((-2147483648) ≤ v_369.toInt ∧ v_369.toInt ≤ 2147483647) := ⟨i32_lo _, i32_hi _⟩
                    have bv_371 : ((-2147483648) ≤ v_371.toInt ∧ v_371.toInt ≤ 2147483647) := ⟨i32_lo _, i32_hi _⟩
                    have bv_378 : ((-2147483648) ≤ v_378.toInt ∧ v_378.toInt ≤ 2147483647) := ⟨i32_lo _, i32_hi _⟩
                    have bv_384 : ((-2147483648) ≤ v_384.toInt ∧ v_384.toInt ≤ 2147483647) := ⟨i32_lo _, i32_hi _⟩
                    have bv_399 : ((-2147483648) ≤ v_399.toInt ∧ v_399.toInt ≤ 2147483647) := ⟨i32_lo _, i32_hi _⟩
                    obtain ⟨rfl, rfl, rfl, rfl, rfl, rfl, rfl, rfl, rfl, rfl, rfl, rfl, rfl, rfl, rfl, rfl, rfl, rfl, rfl, rfl, rfl, rfl, rfl, rfl, rfl, rfl, rfl, rfl, rfl, rfl, rfl⟩ := re_12 hfo_1 hfo_344 (hrA12 o0 ko0)
                    obtain rfl := ri_12_3 hfo_1 hfo_344 (hfA12 o0 ko0 3 (by decide) (by decide) (by decide) (by decide))
                    obtain rfl := ri_12_6 hfo_1 hfo_344 (hfA12 o0 ko0 6 (by decide) (by decide) (by decide) (by decide))
                    obtain rfl := ri_12_11 hfo_1 hfo_344 (hfA12 o0 ko0 11 (by decide) (by decide) (by decide) (by decide))
                    obtain rfl := ri_12_12 hfo_1 hfo_344 (hfA12 o0 ko0 12 (by decide) (by decide) (by decide) (by decide))
                    obtain rfl := ri_12_13 hfo_1 hfo_344 (hfA12 o0 ko0 13 (by decide) (by decide) (by decide) (by decide))
                    obtain rfl := ri_12_14 hfo_1 hfo_344 (hfA12 o0 ko0 14 (by decide) (by decide) (by decide) (by decide))
                    obtain rfl := ri_12_25 hfo_1 hfo_344 (hfA12 o0 ko0 25 (by decide) (by decide) (by decide) (by decide))
                    obtain rfl := ri_12_27 hfo_1 hfo_344 (hfA12 o0 ko0 27 (by decide) (by decide) (by decide) (by decide))
                    obtain rfl := ri_12_29 hfo_1 hfo_344 (hfA12 o0 ko0 29 (by decide) (by decide) (by decide) (by decide))
                    obtain rfl := ri_12_32 hfo_1 hfo_344 (hfA12 o0 ko0 32 (by decide) (by decide) (by decide) (by decide))
                    obtain rfl := ri_12_33 hfo_1 hfo_344 (hfA12 o0 ko0 33 (by decide) (by decide) (by decide) (by decide))
                    obtain rfl := ri_12_43 hfo_1 hfo_344 (hfA12 o0 ko0 43 (by decide) (by decide) (by decide) (by decide))
                    obtain rfl := ri_12_53 hfo_1 hfo_344 (hfA12 o0 ko0 53 (by decide) (by decide) (by decide) (by decide))
                    obtain rfl : v_383 = whloop_339_0_38 := by rw [hfo_344] at hghloop_339_0_38; exact Option.some.inj hghloop_339_0_38
                    obtain rfl : v_350 = whloop_339_0_5 := by rw [hfo_344] at hghloop_339_0_5; exact Option.some.inj hghloop_339_0_5
                    refine lv_iload_n hx hb dX12_understand_68 rfl (lv_at hl 0 rfl) ?_
                    refine lv_aload_n hx hb dX12_understand_69 rfl (lv_at hl 2 rfl) ?_
                    refine tk_getP (D := (dC, dI)) (ci := 12) (v := .ref a_2) (C := RX12) (T := TX12) (N := 56) hx hb hU inlX12 hown hK hP mo0 hfo_344 rfl 0 (by decide) (hU _ wd_169) (fun _ h9 => h9) rfl dX12_understand_70 ?_
                    refine lv_bipush (v := 19) hx hb dX12_understand_73 (by decide) ?_
                    refine tk_ildP hx hb hK hP 0 ma_2 hfo_343 rfl (vp_in_nI (n := 19) (by decide) (by decide)) dX12_understand_75 ?_
                    refine lv_topi (fun x_401 ex_401 => ?_)
                    have bx_401 : (0 ≤ x_401.toInt ∧ x_401.toInt ≤ 8) := by rw [ex_401]; exact hbg_274.2.2.2.2.1 _ (by decide) (by decide) (by decide)
                    refine lv_icmp_ge (tgt := 257) hx hb dX12_understand_76 (by decide) (fun c_402 => ?_) (fun c_402 => ?_)
                    · skip
                      rw [Int32.le_iff_toInt_le] at c_402
                      obtain ⟨x_403, ex_403⟩ : ∃ y : Int32, y_213 + 1 = y := ⟨_, rfl⟩
                      have hx_403 : x_403.toInt = y_213.toInt + 1 := by rw [← ex_403, ad_I (by rw [ti_1]; omega) (by rw [ti_1]; omega), ti_1]
                      have bx_403 : (1 ≤ x_403.toInt ∧ x_403.toInt ≤ 12) := by constructor <;> omega
                      refine lv_iinc (v := x_403) (lv' := [(1, .int x_403), (2, .int y_340), (0, .ref o0)]) hx hb dX12_understand_257 hl (k := 1) rfl ex_403 (by decide) rfl (fun ls hl => ?_)
                      refine lv_goto (tgt := 55) hx hb dX12_understand_260 (by decide) ?_
                      exact ih_hloop_212 x_403 (by constructor <;> omega) f_342 hG _ _ hP hS hD hfr0 hrA12 hfA12 v_383 (by rw [hfo_344]; rfl) v_350 (by rw [hfo_344]; rfl) (by omega) (by omega) (by omega) (by omega) ls (lv_sub hl [0, 2] rfl)
                    · skip
                      rw [Int32.le_iff_toInt_le] at c_402
                      refine lv_aload_n hx hb dX12_understand_79 rfl (lv_at hl 2 rfl) ?_
                      refine lv_iconst (v := 0) hx hb dX12_understand_80 (by decide) ?_
                      refine tk_putP (D := (dC, dI)) (ci := 12) (v := .int 0) (ty := .int) (C := RX12) (T := TX12) (N := 56) hx hb hU inlX12 tyX12 tyX12_ok nmX12 hown hK hP hD hS mo0 hfo_344 rfl 23 (by decide) (hU _ wd_867) (fun _ h9 => h9) rfl (by decide +kernel) rfl rfl (Nat.le_of_ble_eq_true rfl) dX12_understand_81 (fun H locs hP hD hS => ?_)
                      obtain ⟨f_405, ef_405⟩ : ∃ y : Nat → va_E, y = va_up f_342 o0 (.inr (12, [.ref a_2, .ref a_3, .ref a_4, .int v_5, .ref a_6, .int v_350, .int v_8, .int v_352, .int v_353, .int v_354, .int v_355, .int v_13, .int v_14, .int v_15, .int v_16, .ref a_17, .ref a_18, .ref a_19, .ref a_20, .ref a_21, .ref a_22, .ref a_23, .ref a_24, .int 0, .int v_369, .int v_27, .int v_371, .int v_29, .ref a_30, .int v_31, .ref a_32, .ref a_33, .int v_34, .int v_35, .ref a_36, .int v_380, .ref a_38, .ref a_39, .int v_383, .int v_384, .ref a_42, .ref a_43, .ref a_44, .int v_45, .ref a_46, .ref a_47, .ref a_48, .ref a_49, .ref a_50, .ref a_51, .ref a_52, .ref a_53, .ref a_54, .int v_55, .int v_399, .ref a_57])) := ⟨_, rfl⟩
                      have hP : va_P (dC, dI) vwCl (va_pl L f_405) H := by rw [ef_405]; exact hP
                      have hD : va_D (fun q => q ∈ L) (va_pl L f_405) := by rw [ef_405]; exact hD
                      have hG : GI (okc cI cL cZ cR cG cH L kd) kd L f_405 := by rw [ef_405]; exact hG.set o0 (mk_12 ko0 ⟨a_2, a_3, a_4, v_5, a_6, v_350, v_8, v_352, v_353, v_354, v_355, v_13, v_14, v_15, v_16, a_17, a_18, a_19, a_20, a_21, a_22, a_23, a_24, 0, v_369, v_27, v_371, v_29, a_30, v_31, a_32, a_33, v_34, v_35, a_36, v_380, a_38, a_39, v_383, v_384, a_42, a_43, a_44, v_45, a_46, a_47, a_48, a_49, a_50, a_51, a_52, a_53, a_54, v_55, v_399, a_57, rfl, ⟨ma_2, ka_2⟩, ⟨ma_3, ka_3⟩, ⟨ma_4, ka_4⟩, (by constructor <;> omega), ⟨ma_6, ka_6⟩, (by constructor <;> omega), (by constructor <;> omega), (by constructor <;> omega), (by constructor <;> omega), (by constructor <;> omega), ⟨ma_17, ka_17⟩, ⟨ma_18, ka_18⟩, ⟨ma_19, ka_19⟩, ⟨ma_20, ka_20⟩, ⟨ma_21, ka_21⟩, ⟨ma_22, ka_22⟩, ⟨ma_23, ka_23⟩, ⟨ma_24, ka_24⟩, (by decide), (by constructor <;> omega), (by constructor <;> omega), ⟨ma_30, ka_30⟩, (by constructor <;> omega), ⟨ma_32, ka_32⟩, ⟨ma_33, ka_33⟩, (by constructor <;> omega), ⟨ma_36, ka_36⟩, (by constructor <;> omega), ⟨ma_38, ka_38⟩, ⟨ma_39, ka_39⟩, (by constructor <;> omega), ⟨ma_42, ka_42⟩, ⟨ma_43, ka_43⟩, ⟨ma_44, ka_44⟩, (by constructor <;> omega), ⟨ma_46, ka_46⟩, ⟨ma_47, ka_47⟩, ⟨ma_48, ka_48⟩, ⟨ma_49, ka_49⟩, ⟨ma_50, ka_50⟩, ⟨ma_51, ka_51⟩, ⟨ma_52, ka_52⟩, ⟨ma_53, ka_53⟩, ⟨ma_54, ka_54⟩, (by constructor <;> omega), ⟨ma_57, ka_57⟩⟩)
                      have hfo_406 : f_405 a_2 = .inl (cI, 1560, .inl g_274) := by rw [ef_405, up_ne (kd_ne ko0 ka_2 (by decide))]; exact hfo_343
                      have hfr0 : ∀ b, kd b ≠ 12 → kd b ≠ 579 → kd b ≠ 581 → kd b ≠ 583 → kd b ≠ 585 → kd b ≠ 587 → kd b ≠ 588 → kd b ≠ 589 → kd b ≠ 594 → kd b ≠ 595 → kd b ≠ 596 → f_405 b = f b := fun b q12 q579 q581 q583 q585 q587 q588 q589 q594 q595 q596 => (congrFun ef_405 b).trans ((up_ne (fun e9 => q12 (by rw [e9]; exact ko0))).trans (hfr0 b q12 q579 q581 q583 q585 q587 q588 q589 q594 q595 q596))
                      have hrA12 : ∀ b, kd b = 12 → ∀ j, fldR (f_405 b) j = fldR (f b) j := fun b kb j => ((congrArg (fun x => fldR x j) (congrFun ef_405 b)).trans (fra_up (fun j => by rw [hfo_344]; exact fr_set (k := 23) rfl rfl j) j b)).trans (hrA12 b kb j)
                      have hfA12 : ∀ b, kd b = 12 → ∀ j, j ≠ 5 → j ≠ 23 → j ≠ 35 → j ≠ 38 → fldI (f_405 b) j = fldI (f b) j := fun b kb j n5 n23 n35 n38 => ((congrArg (fun x => fldI x j) (congrFun ef_405 b)).trans (fia_up (fun h9 => by rw [hfo_344]; exact fi_set (k := 23) rfl h9) n23 b)).trans (hfA12 b kb j n5 n23 n35 n38)
                      have hfo_407 : f_405 o0 = .inr (12, [.ref a_2, .ref a_3, .ref a_4, .int v_5, .ref a_6, .int v_350, .int v_8, .int v_352, .int v_353, .int v_354, .int v_355, .int v_13, .int v_14, .int v_15, .int v_16, .ref a_17, .ref a_18, .ref a_19, .ref a_20, .ref a_21, .ref a_22, .ref a_23, .ref a_24, .int 0, .int v_369, .int v_27, .int v_371, .int v_29, .ref a_30, .int v_31, .ref a_32, .ref a_33, .int v_34, .int v_35, .ref a_36, .int v_380, .ref a_38, .ref a_39, .int v_383, .int v_384, .ref a_42, .ref a_43, .ref a_44, .int v_45, .ref a_46, .ref a_47, .ref a_48, .ref a_49, .ref a_50, .ref a_51, .ref a_52, .ref a_53, .ref a_54, .int v_55, .int v_399, .ref a_57]) := by rw [ef_405]; exact up_self
                      refine lv_iconst (v := 0) hx hb dX12_understand_84 (by decide) ?_
                      refine lv_istore_n (lv' := [(3, .int 0), (2, .int y_340), (1, .int y_213), (0, .ref o0)]) hx hb dX12_understand_85 rfl hl (by decide) rfl (fun ls hl => ?_)
                      have hloop_470 : ∀ (n : Nat), ∀ (y_471 : Int32), (0 ≤ y_471.toInt ∧ y_471.toInt ≤ 6) → ∀ (f_473 : Nat → va_E), GI (okc cI cL cZ cR cG cH L kd) kd L f_473 → ∀ (H : Heap) (locs : List Loc), va_P (dC, dI) vwCl (va_pl L f_473) H → va_S (fun q => q ∈ L) s.heap H locs → va_D (fun q => q ∈ L) (va_pl L f_473) → (∀ b, kd b ≠ 12 → kd b ≠ 579 → kd b ≠ 581 → kd b ≠ 583 → kd b ≠ 585 → kd b ≠ 587 → kd b ≠ 588 → kd b ≠ 589 → kd b ≠ 594 → kd b ≠ 595 → kd b ≠ 596 → f_473 b = f b) → (∀ b, kd b = 12 → ∀ j, fldR (f_473 b) j = fldR (f b) j) → (∀ b, kd b = 12 → ∀ j, j ≠ 5 → j ≠ 23 → j ≠ 35 → j ≠ 38 → fldI (f_473 b) j = fldI (f b) j) → (f_473 a_2 = .inl (cI, 1560, .inl g_274)) → ∀ (whloop_470_0_23 : Int32), fldI (f_473 o0) 23 = some whloop_470_0_23 → ∀ (whloop_470_0_38 : Int32), fldI (f_473 o0) 38 = some whloop_470_0_38 → ∀ (whloop_470_0_5 : Int32), fldI (f_473 o0) 5 = some whloop_470_0_5 → (whloop_470_0_23.toInt ≤ y_471.toInt) → (whloop_470_0_38.toInt ≤ 8 * y_213.toInt + y_340.toInt) → (0 ≤ whloop_470_0_23.toInt ∧ whloop_470_0_23.toInt ≤ 6) → (0 ≤ whloop_470_0_38.toInt ∧ whloop_470_0_38.toInt ≤ 96) → (0 ≤ whloop_470_0_5.toInt ∧ whloop_470_0_5.toInt ≤ 0) → 6 - y_471.toInt < (n : Int) → ∀ (ls : Array Slot), lv_has ls 4 [(3, .int y_471), (2, .int y_340), (1, .int y_213), (0, .ref o0)] → W p l e (headSpec (wU yX12_understand cX12_understand 4 (some .int)) { frames := 21, cells := 0, slots := 0, locals := 585 }).room s m [.ref o0].toArray below meth c H locs 0 0 (MQ below (va_Qi (fun (r : Int32) (f9 : Nat → va_E) => GI (okc cI cL cZ cR cG cH L kd) kd L f9 ∧ ((-2147483648) ≤ r.toInt ∧ r.toInt ≤ 2147483647) ∧ (∀ b, kd b ≠ 12 → kd b ≠ 579 → kd b ≠ 581 → kd b ≠ 583 → kd b ≠ 585 → kd b ≠ 587 → kd b ≠ 588 → kd b ≠ 589 → kd b ≠ 594 → kd b ≠ 595 → kd b ≠ 596 → f9 b = f b) ∧ (∀ b, kd b = 12 → ∀ j, fldR (f9 b) j = fldR (f b) j) ∧ (∀ b, kd b = 12 → ∀ j, j ≠ 5 → j ≠ 23 → j ≠ 35 → j ≠ 38 → fldI (f9 b) j = fldI (f b) j) ∧ (∀ (w5 z5 : Int32), fldI (f o0) 5 = some w5 → fldI (f9 o0) 5 = some z5 → z5.toInt = 0)) (qP (dC, dI) cI cL cZ cR cG cH L) (fun q => q ∈ L)) [.ref o0].toArray s 0 0 (fun q => q ∈ L)) (F0 m 86 ls []) := by
                        intro n
                        induction n with
                        | zero => intro y_471 by_471 f_473 hG H locs hP hS hD hfr0 hrA12 hfA12 hfo_474 whloop_470_0_23 hghloop_470_0_23 whloop_470_0_38 hghloop_470_0_38 whloop_470_0_5 hghloop_470_0_5 hrelhloop_470_0 hrelhloop_470_1 hrelhloop_470_2 hrelhloop_470_3 hrelhloop_470_4 hmuhloop_470 ls hl; exfalso; omega
                        | succ n ih_hloop_470 =>
                          intro y_471 by_471 f_473 hG H locs hP hS hD hfr0 hrA12 hfA12 hfo_474 whloop_470_0_23 hghloop_470_0_23 whloop_470_0_38 hghloop_470_0_38 whloop_470_0_5 hghloop_470_0_5 hrelhloop_470_0 hrelhloop_470_1 hrelhloop_470_2 hrelhloop_470_3 hrelhloop_470_4 hmuhloop_470 ls hl
                          obtain ⟨a_476, a_477, a_478, v_479, a_480, v_481, v_482, v_483, v_484, v_485, v_486, v_487, v_488, v_489, v_490, a_491, a_492, a_493, a_494, a_495, a_496, a_497, a_498, v_499, v_500, v_501, v_502, v_503, a_504, v_505, a_506, a_507, v_508, v_509, a_510, v_511, a_512, a_513, v_514, v_515, a_516, a_517, a_518, v_519, a_520, a_521, a_522, a_523, a_524, a_525, a_526, a_527, a_528, v_529, v_530, a_531, hfo_475, ⟨ma_476, ka_476⟩, ⟨ma_477, ka_477⟩, ⟨ma_478, ka_478⟩, bv_479, ⟨ma_480, ka_480⟩, bv_481, bv_482, bv_487, bv_488, bv_489, ⟨ma_491, ka_491⟩, ⟨ma_492, ka_492⟩, ⟨ma_493, ka_493⟩, ⟨ma_494, ka_494⟩, ⟨ma_495, ka_495⟩, ⟨ma_496, ka_496⟩, ⟨ma_497, ka_497⟩, ⟨ma_498, ka_498⟩, bv_499, bv_501, bv_503, ⟨ma_504, ka_504⟩, bv_505, ⟨ma_506, ka_506⟩, ⟨ma_507, ka_507⟩, bv_508, ⟨ma_510, ka_510⟩, bv_511, ⟨ma_512, ka_512⟩, ⟨ma_513, ka_513⟩, bv_514, ⟨ma_516, ka_516⟩, ⟨ma_517, ka_517⟩, ⟨ma_518, ka_518⟩, bv_519, ⟨ma_520, ka_520⟩, ⟨ma_521, ka_521⟩, ⟨ma_522, ka_522⟩, ⟨ma_523, ka_523⟩, ⟨ma_524, ka_524⟩, ⟨ma_525, ka_525⟩, ⟨ma_526, ka_526⟩, ⟨ma_527, ka_527⟩, ⟨ma_528, ka_528⟩, bv_529, ⟨ma_531, ka_531⟩⟩ := un_12 (hG _ mo0) ko0
                          have bv_483 : ((-2147483648) ≤ v_483.toInt ∧ v_483.toInt ≤ 2147483647) := ⟨i32_lo _, i32_hi _⟩
                          have bv_484 : ((-2147483648) ≤ v_484.toInt ∧ v_484.toInt ≤ 2147483647) := ⟨i32_lo _, i32_hi _⟩
                          have bv_485 : ((-2147483648) ≤ v_485.toInt ∧ v_485.toInt ≤ 2147483647) := ⟨i32_lo _, i32_hi _⟩
                          have bv_486 : ((-2147483648) ≤ v_486.toInt ∧ v_486.toInt ≤ 2147483647) := ⟨i32_lo _, i32_hi _⟩
                          have bv_490 : ((-2147483648) ≤ v_490.toInt ∧ v_490.toInt ≤ 2147483647) := ⟨i32_lo _, i32_hi _⟩
                          have bv_500 : ((-2147483648) ≤ v_500.toInt ∧ v_500.toInt ≤ 2147483647) := ⟨i32_lo _, i32_hi _⟩
                          have bv_502 : ((-2147483648) ≤ v_502.toInt ∧ v_502.toInt ≤ 2147483647) := ⟨i32_lo _, i32_hi _⟩
                          have bv_509 : ((-2147483648) ≤ v_509.toInt ∧ v_509.toInt ≤ 2147483647) := ⟨i32_lo _, i32_hi _⟩
                          have bv_515 : ((-2147483648) ≤ v_515.toInt ∧ v_515.toInt ≤ 2147483647) := ⟨i32_lo _, i32_hi _⟩
                          have bv_530 : ((-2147483648) ≤ v_530.toInt ∧ v_530.toInt ≤ 2147483647) := ⟨i32_lo _, i32_hi _⟩
                          obtain ⟨rfl, rfl, rfl, rfl, rfl, rfl, rfl, rfl, rfl, rfl, rfl, rfl, rfl, rfl, rfl, rfl, rfl, rfl, rfl, rfl, rfl, rfl, rfl, rfl, rfl, rfl, rfl, rfl, rfl, rfl, rfl⟩ := re_12 hfo_1 hfo_475 (hrA12 o0 ko0)
                          obtain rfl := ri_12_3 hfo_1 hfo_475 (hfA12 o0 ko0 3 (by decide) (by decide) (by decide) (by decide))
                          obtain rfl := ri_12_6 hfo_1 hfo_475 (hfA12 o0 ko0 6 (by decide) (by decide) (by decide) (by decide))
                          obtain rfl := ri_12_11 hfo_1 hfo_475 (hfA12 o0 ko0 11 (by decide) (by decide) (by decide) (by decide))
                          obtain rfl := ri_12_12 hfo_1 hfo_475 (hfA12 o0 ko0 12 (by decide) (by decide) (by decide) (by decide))
                          obtain rfl := ri_12_13 hfo_1 hfo_475 (hfA12 o0 ko0 13 (by decide) (by decide) (by decide) (by decide))
                          obtain rfl := ri_12_14 hfo_1 hfo_475 (hfA12 o0 ko0 14 (by decide) (by decide) (by decide) (by decide))
                          obtain rfl := ri_12_25 hfo_1 hfo_475 (hfA12 o0 ko0 25 (by decide) (by decide) (by decide) (by decide))
                          obtain rfl := ri_12_27 hfo_1 hfo_475 (hfA12 o0 ko0 27 (by decide) (by decide) (by decide) (by decide))
                          obtain rfl := ri_12_29 hfo_1 hfo_475 (hfA12 o0 ko0 29 (by decide) (by decide) (by decide) (by decide))
                          obtain rfl := ri_12_32 hfo_1 hfo_475 (hfA12 o0 ko0 32 (by decide) (by decide) (by decide) (by decide))
                          obtain rfl := ri_12_33 hfo_1 hfo_475 (hfA12 o0 ko0 33 (by decide) (by decide) (by decide) (by decide))
                          obtain rfl := ri_12_43 hfo_1 hfo_475 (hfA12 o0 ko0 43 (by decide) (by decide) (by decide) (by decide))
                          obtain rfl := ri_12_53 hfo_1 hfo_475 (hfA12 o0 ko0 53 (by decide) (by decide) (by decide) (by decide))
                          obtain rfl : v_499 = whloop_470_0_23 := by rw [hfo_475] at hghloop_470_0_23; exact Option.some.inj hghloop_470_0_23
                          obtain rfl : v_514 = whloop_470_0_38 := by rw [hfo_475] at hghloop_470_0_38; exact Option.some.inj hghloop_470_0_38
                          obtain rfl : v_481 = whloop_470_0_5 := by rw [hfo_475] at hghloop_470_0_5; exact Option.some.inj hghloop_470_0_5
                          refine lv_iload_n hx hb dX12_understand_86 rfl (lv_at hl 0 rfl) ?_
                          refine lv_aload_n hx hb dX12_understand_87 rfl (lv_at hl 3 rfl) ?_
                          refine tk_getP (D := (dC, dI)) (ci := 12) (v := .ref a_2) (C := RX12) (T := TX12) (N := 56) hx hb hU inlX12 hown hK hP mo0 hfo_475 rfl 0 (by decide) (hU _ wd_169) (fun _ h9 => h9) rfl dX12_understand_88 ?_
                          refine lv_bipush (v := 60) hx hb dX12_understand_91 (by decide) ?_
                          refine lv_bipush (v := 8) hx hb dX12_understand_93 (by decide) ?_
                          refine lv_iload_n hx hb dX12_understand_95 rfl (lv_at hl 2 rfl) ?_
                          refine lv_imul hx hb dX12_understand_96 ?_
                          refine lv_topi (fun x_532 ex_532 => ?_)
                          have hx_532 : x_532.toInt = 8 * y_213.toInt := by rw [ex_532, ml_I (by rw [ti_8]; omega) (by rw [ti_8]; omega), ti_8]
                          have bx_532 : (0 ≤ x_532.toInt ∧ x_532.toInt ≤ 88) := by constructor <;> omega
                          refine lv_iadd hx hb dX12_understand_97 ?_
                          refine lv_topi (fun x_533 ex_533 => ?_)
                          have hx_533 : x_533.toInt = 60 + x_532.toInt := by rw [ex_533, ad_I (by rw [ti_60]; omega) (by rw [ti_60]; omega), ti_60]
                          have bx_533 : (60 ≤ x_533.toInt ∧ x_533.toInt ≤ 148) := by constructor <;> omega
                          refine tk_ildP hx hb hK hP 0 ma_2 hfo_474 rfl (vp_in_iff.mpr (by constructor <;> omega)) dX12_understand_98 ?_
                          refine lv_topi (fun x_534 ex_534 => ?_)
                          have bx_534 : (0 ≤ x_534.toInt ∧ x_534.toInt ≤ 6) := by have hc9 := cl_I (i := x_533) (by omega); rw [ex_534]; exact hbg_274.2.2.2.2.2.2.2.2.2.2.2.1 _ (by omega) (by omega) (by omega)
                          refine lv_icmp_ge (tgt := 143) hx hb dX12_understand_99 (by decide) (fun c_535 => ?_) (fun c_535 => ?_)
                          · skip
                            rw [Int32.le_iff_toInt_le] at c_535
                            refine lv_iconst (v := 0) hx hb dX12_understand_143 (by decide) ?_
                            refine lv_istore_n (lv' := [(3, .int 0), (2, .int y_340), (1, .int y_213), (0, .ref o0)]) hx hb dX12_understand_144 rfl hl (by decide) rfl (fun ls hl => ?_)
                            have hloop_598 : ∀ (n : Nat), ∀ (y_599 : Int32), (0 ≤ y_599.toInt ∧ y_599.toInt ≤ 6) → ∀ (f_601 : Nat → va_E), GI (okc cI cL cZ cR cG cH L kd) kd L f_601 → ∀ (H : Heap) (locs : List Loc), va_P (dC, dI) vwCl (va_pl L f_601) H → va_S (fun q => q ∈ L) s.heap H locs → va_D (fun q => q ∈ L) (va_pl L f_601) → (∀ b, kd b ≠ 12 → kd b ≠ 579 → kd b ≠ 581 → kd b ≠ 583 → kd b ≠ 585 → kd b ≠ 587 → kd b ≠ 588 → kd b ≠ 589 → kd b ≠ 594 → kd b ≠ 595 → kd b ≠ 596 → f_601 b = f b) → (∀ b, kd b = 12 → ∀ j, fldR (f_601 b) j = fldR (f b) j) → (∀ b, kd b = 12 → ∀ j, j ≠ 5 → j ≠ 23 → j ≠ 35 → j ≠ 38 → fldI (f_601 b) j = fldI (f b) j) → (f_601 a_2 = .inl (cI, 1560, .inl g_274)) → ∀ (whloop_598_0_23 : Int32), fldI (f_601 o0) 23 = some whloop_598_0_23 → ∀ (whloop_598_0_38 : Int32), fldI (f_601 o0) 38 = some whloop_598_0_38 → ∀ (whloop_598_0_5 : Int32), fldI (f_601 o0) 5 = some whloop_598_0_5 → (whloop_598_0_23.toInt ≤ 6 + y_599.toInt) → (whloop_598_0_38.toInt ≤ 8 * y_213.toInt + y_340.toInt) → (0 ≤ whloop_598_0_23.toInt ∧ whloop_598_0_23.toInt ≤ 12) → (0 ≤ whloop_598_0_38.toInt ∧ whloop_598_0_38.toInt ≤ 96) → (0 ≤ whloop_598_0_5.toInt ∧ whloop_598_0_5.toInt ≤ 0) → 6 - y_599.toInt < (n : Int) → ∀ (ls : Array Slot), lv_has ls 4 [(3, .int y_599), (2, .int y_340), (1, .int y_213), (0, .ref o0)] → W p l e (headSpec (wU yX12_understand cX12_understand 4 (some .int)) { frames := 21, cells := 0, slots := 0, locals := 585 }).room s m [.ref o0].toArray below meth c H locs 0 0 (MQ below (va_Qi (fun (r : Int32) (f9 : Nat → va_E) => GI (okc cI cL cZ cR cG cH L kd) kd L f9 ∧ ((-2147483648) ≤ r.toInt ∧ r.toInt ≤ 2147483647) ∧ (∀ b, kd b ≠ 12 → kd b ≠ 579 → kd b ≠ 581 → kd b ≠ 583 → kd b ≠ 585 → kd b ≠ 587 → kd b ≠ 588 → kd b ≠ 589 → kd b ≠ 594 → kd b ≠ 595 → kd b ≠ 596 → f9 b = f b) ∧ (∀ b, kd b = 12 → ∀ j, fldR (f9 b) j = fldR (f b) j) ∧ (∀ b, kd b = 12 → ∀ j, j ≠ 5 → j ≠ 23 → j ≠ 35 → j ≠ 38 → fldI (f9 b) j = fldI (f b) j) ∧ (∀ (w5 z5 : Int32), fldI (f o0) 5 = some w5 → fldI (f9 o0) 5 = some z5 → z5.toInt = 0)) (qP (dC, dI) cI cL cZ cR cG cH L) (fun q => q ∈ L)) [.ref o0].toArray s 0 0 (fun q => q ∈ L)) (F0 m 145 ls []) := by
                              intro n
                              induction n with
                              | zero => intro y_599 by_599 f_601 hG H locs hP hS hD hfr0 hrA12 hfA12 hfo_602 whloop_598_0_23 hghloop_598_0_23 whloop_598_0_38 hghloop_598_0_38 whloop_598_0_5 hghloop_598_0_5 hrelhloop_598_0 hrelhloop_598_1 hrelhloop_598_2 hrelhloop_598_3 hrelhloop_598_4 hmuhloop_598 ls hl; exfalso; omega
                              | succ n ih_hloop_598 =>
                                intro y_599 by_599 f_601 hG H locs hP hS hD hfr0 hrA12 hfA12 hfo_602 whloop_598_0_23 hghloop_598_0_23 whloop_598_0_38 hghloop_598_0_38 whloop_598_0_5 hghloop_598_0_5 hrelhloop_598_0 hrelhloop_598_1 hrelhloop_598_2 hrelhloop_598_3 hrelhloop_598_4 hmuhloop_598 ls hl
                                obtain ⟨a_604, a_605, a_606, v_607, a_608, v_609, v_610, v_611, v_612, v_613, v_614, v_615, v_616, v_617, v_618, a_619, a_620, a_621, a_622, a_623, a_624, a_625, a_626, v_627, v_628, v_629, v_630, v_631, a_632, v_633, a_634, a_635, v_636, v_637, a_638, v_639, a_640, a_641, v_642, v_643, a_644, a_645, a_646, v_647, a_648, a_649, a_650, a_651, a_652, a_653, a_654, a_655, a_656, v_657, v_658, a_659, hfo_603, ⟨ma_604, ka_604⟩, ⟨ma_605, ka_605⟩, ⟨ma_606, ka_606⟩, bv_607, ⟨ma_608, ka_608⟩, bv_609, bv_610, bv_615, bv_616, bv_617, ⟨ma_619, ka_619⟩, ⟨ma_620, ka_620⟩, ⟨ma_621, ka_621⟩, ⟨ma_622, ka_622⟩, ⟨ma_623, ka_623⟩, ⟨ma_624, ka_624⟩, ⟨ma_625, ka_625⟩, ⟨ma_626, ka_626⟩, bv_627, bv_629, bv_631, ⟨ma_632, ka_632⟩, bv_633, ⟨ma_634, ka_634⟩, ⟨ma_635, ka_635⟩, bv_636, ⟨ma_638, ka_638⟩, bv_639, ⟨ma_640, ka_640⟩, ⟨ma_641, ka_641⟩, bv_642, ⟨ma_644, ka_644⟩, ⟨ma_645, ka_645⟩, ⟨ma_646, ka_646⟩, bv_647, ⟨ma_648, ka_648⟩, ⟨ma_649, ka_649⟩, ⟨ma_650, ka_650⟩, ⟨ma_651, ka_651⟩, ⟨ma_652, ka_652⟩, ⟨ma_653, ka_653⟩, ⟨ma_654, ka_654⟩, ⟨ma_655, ka_655⟩, ⟨ma_656, ka_656⟩, bv_657, ⟨ma_659, ka_659⟩⟩ := un_12 (hG _ mo0) ko0
                                have bv_611 : ((-2147483648) ≤ v_611.toInt ∧ v_611.toInt ≤ 2147483647) := ⟨i32_lo _, i32_hi _⟩
                                have bv_612 : ((-2147483648) ≤ v_612.toInt ∧ v_612.toInt ≤ 2147483647) := ⟨i32_lo _, i32_hi _⟩
                                have bv_613 : ((-2147483648) ≤ v_613.toInt ∧ v_613.toInt ≤ 2147483647) := ⟨i32_lo _, i32_hi _⟩
                                have bv_614 : ((-2147483648) ≤ v_614.toInt ∧ v_614.toInt ≤ 2147483647) := ⟨i32_lo _, i32_hi _⟩
                                have bv_618 : ((-2147483648) ≤ v_618.toInt ∧ v_618.toInt ≤ 2147483647) := ⟨i32_lo _, i32_hi _⟩
                                have bv_628 : ((-2147483648) ≤ v_628.toInt ∧ v_628.toInt ≤ 2147483647) := ⟨i32_lo _, i32_hi _⟩
                                have bv_630 : ((-2147483648) ≤ v_630.toInt ∧ v_630.toInt ≤ 2147483647) := ⟨i32_lo _, i32_hi _⟩
                                have bv_637 : ((-2147483648) ≤ v_637.toInt ∧ v_637.toInt ≤ 2147483647) := ⟨i32_lo _, i32_hi _⟩
                                have bv_643 : ((-2147483648) ≤ v_643.toInt ∧ v_643.toInt ≤ 2147483647) := ⟨i32_lo _, i32_hi _⟩
                                have bv_658 : ((-2147483648) ≤ v_658.toInt ∧ v_658.toInt ≤ 2147483647) := ⟨i32_lo _, i32_hi _⟩
                                obtain ⟨rfl, rfl, rfl, rfl, rfl, rfl, rfl, rfl, rfl, rfl, rfl, rfl, rfl, rfl, rfl, rfl, rfl, rfl, rfl, rfl, rfl, rfl, rfl, rfl, rfl, rfl, rfl, rfl, rfl, rfl, rfl⟩ := re_12 hfo_1 hfo_603 (hrA12 o0 ko0)
                                obtain rfl := ri_12_3 hfo_1 hfo_603 (hfA12 o0 ko0 3 (by decide) (by decide) (by decide) (by decide))
                                obtain rfl := ri_12_6 hfo_1 hfo_603 (hfA12 o0 ko0 6 (by decide) (by decide) (by decide) (by decide))
                                obtain rfl := ri_12_11 hfo_1 hfo_603 (hfA12 o0 ko0 11 (by decide) (by decide) (by decide) (by decide))
                                obtain rfl := ri_12_12 hfo_1 hfo_603 (hfA12 o0 ko0 12 (by decide) (by decide) (by decide) (by decide))
                                obtain rfl := ri_12_13 hfo_1 hfo_603 (hfA12 o0 ko0 13 (by decide) (by decide) (by decide) (by decide))
                                obtain rfl := ri_12_14 hfo_1 hfo_603 (hfA12 o0 ko0 14 (by decide) (by decide) (by decide) (by decide))
                                obtain rfl := ri_12_25 hfo_1 hfo_603 (hfA12 o0 ko0 25 (by decide) (by decide) (by decide) (by decide))
                                obtain rfl := ri_12_27 hfo_1 hfo_603 (hfA12 o0 ko0 27 (by decide) (by decide) (by decide) (by decide))
                                obtain rfl := ri_12_29 hfo_1 hfo_603 (hfA12 o0 ko0 29 (by decide) (by decide) (by decide) (by decide))
                                obtain rfl := ri_12_32 hfo_1 hfo_603 (hfA12 o0 ko0 32 (by decide) (by decide) (by decide) (by decide))
                                obtain rfl := ri_12_33 hfo_1 hfo_603 (hfA12 o0 ko0 33 (by decide) (by decide) (by decide) (by decide))
                                obtain rfl := ri_12_43 hfo_1 hfo_603 (hfA12 o0 ko0 43 (by decide) (by decide) (by decide) (by decide))
                                obtain rfl := ri_12_53 hfo_1 hfo_603 (hfA12 o0 ko0 53 (by decide) (by decide) (by decide) (by decide))
                                obtain rfl : v_627 = whloop_598_0_23 := by rw [hfo_603] at hghloop_598_0_23; exact Option.some.inj hghloop_598_0_23
                                obtain rfl : v_642 = whloop_598_0_38 := by rw [hfo_603] at hghloop_598_0_38; exact Option.some.inj hghloop_598_0_38
                                obtain rfl : v_609 = whloop_598_0_5 := by rw [hfo_603] at hghloop_598_0_5; exact Option.some.inj hghloop_598_0_5
                                refine lv_iload_n hx hb dX12_understand_145 rfl (lv_at hl 0 rfl) ?_
                                refine lv_aload_n hx hb dX12_understand_146 rfl (lv_at hl 3 rfl) ?_
                                refine tk_getP (D := (dC, dI)) (ci := 12) (v := .ref a_2) (C := RX12) (T := TX12) (N := 56) hx hb hU inlX12 hown hK hP mo0 hfo_603 rfl 0 (by decide) (hU _ wd_169) (fun _ h9 => h9) rfl dX12_understand_147 ?_
                                refine lv_sipush (v := 156) hx hb dX12_understand_150 (by decide) ?_
                                refine lv_bipush (v := 8) hx hb dX12_understand_153 (by decide) ?_
                                refine lv_iload_n hx hb dX12_understand_155 rfl (lv_at hl 1 rfl) ?_
                                refine lv_imul hx hb dX12_understand_156 ?_
                                refine lv_topi (fun x_660 ex_660 => ?_)
                                have hx_660 : x_660.toInt = 8 * y_340.toInt := by rw [ex_660, ml_I (by rw [ti_8]; omega) (by rw [ti_8]; omega), ti_8]
                                have bx_660 : (0 ≤ x_660.toInt ∧ x_660.toInt ≤ 56) := by constructor <;> omega
                                refine lv_iadd hx hb dX12_understand_157 ?_
                                refine lv_topi (fun x_661 ex_661 => ?_)
                                have hx_661 : x_661.toInt = 156 + x_660.toInt := by rw [ex_661, ad_I (by rw [ti_156]; omega) (by rw [ti_156]; omega), ti_156]
                                have bx_661 : (156 ≤ x_661.toInt ∧ x_661.toInt ≤ 212) := by constructor <;> omega
                                refine tk_ildP hx hb hK hP 0 ma_2 hfo_602 rfl (vp_in_iff.mpr (by constructor <;> omega)) dX12_understand_158 ?_
                                refine lv_topi (fun x_662 ex_662 => ?_)
                                have bx_662 : (0 ≤ x_662.toInt ∧ x_662.toInt ≤ 6) := by have hc9 := cl_I (i := x_661) (by omega); rw [ex_662]; exact hbg_274.2.2.2.2.2.2.2.2.2.2.2.1 _ (by omega) (by omega) (by omega)
                                refine lv_icmp_ge (tgt := 204) hx hb dX12_understand_159 (by decide) (fun c_663 => ?_) (fun c_663 => ?_)
                                · skip
                                  rw [Int32.le_iff_toInt_le] at c_663
                                  refine lv_aload_n hx hb dX12_understand_204 rfl (lv_at hl 3 rfl) ?_
                                  refine lv_aload_n hx hb dX12_understand_205 rfl (lv_at hl 3 rfl) ?_
                                  refine tk_getP (D := (dC, dI)) (ci := 12) (v := .ref a_2) (C := RX12) (T := TX12) (N := 56) hx hb hU inlX12 hown hK hP mo0 hfo_603 rfl 0 (by decide) (hU _ wd_169) (fun _ h9 => h9) rfl dX12_understand_206 ?_
                                  refine lv_bipush (v := 40) hx hb dX12_understand_209 (by decide) ?_
                                  refine tk_ildP hx hb hK hP 0 ma_2 hfo_602 rfl (vp_in_nI (n := 40) (by decide) (by decide)) dX12_understand_211 ?_
                                  refine lv_topi (fun x_664 ex_664 => ?_)
                                  have bx_664 : (0 ≤ x_664.toInt ∧ x_664.toInt ≤ 255) := by rw [ex_664]; exact hbg_274.2.2.2.2.2.2.1 _ (by decide) (by decide) (by decide)
                                  refine tk_ViP (As := [.int x_664]) (rest := []) (n := 1) hx hb hml hown hU hN hZ (s_X12_isSaid_k12 l (dC, dI) cI cL cZ cR cG cH Z kd L f_601 hG o0 mo0 ko0 x_664) wd_1050 wd_1051 wd_1052 wd_5 wd_1053 (by decide +kernel) ⟨Nat.le_of_ble_eq_true rfl, Nat.le_of_ble_eq_true rfl⟩ hK hP hD hS mo0 hfo_603 12 rfl rfl rfl hl.1 rfl (Nat.le_of_ble_eq_true rfl) dX12_understand_212 ⟨Nat.le_of_ble_eq_true rfl, Nat.le_of_ble_eq_true rfl⟩ (fun x_665 f_666 H locs hw hP hD hS => ?_)
                                  obtain ⟨hG, bx_665, hkc_667⟩ := hw
                                  have hfo_669 : f_666 a_2 = .inl (cI, 1560, .inl g_274) := by rw [hkc_667 a_2 (by rw [ka_2]; decide) (by rw [ka_2]; decide) (by rw [ka_2]; decide) (by rw [ka_2]; decide) (by rw [ka_2]; decide) (by rw [ka_2]; decide)]; exact hfo_602
                                  have hfo_670 : f_666 o0 = .inr (12, [.ref a_2, .ref a_3, .ref a_4, .int v_5, .ref a_6, .int v_609, .int v_8, .int v_611, .int v_612, .int v_613, .int v_614, .int v_13, .int v_14, .int v_15, .int v_16, .ref a_17, .ref a_18, .ref a_19, .ref a_20, .ref a_21, .ref a_22, .ref a_23, .ref a_24, .int v_627, .int v_628, .int v_27, .int v_630, .int v_29, .ref a_30, .int v_31, .ref a_32, .ref a_33, .int v_34, .int v_35, .ref a_36, .int v_639, .ref a_38, .ref a_39, .int v_642, .int v_643, .ref a_42, .ref a_43, .ref a_44, .int v_45, .ref a_46, .ref a_47, .ref a_48, .ref a_49, .ref a_50, .ref a_51, .ref a_52, .ref a_53, .ref a_54, .int v_55, .int v_658, .ref a_57]) := by rw [hkc_667 o0 (by rw [ko0]; decide) (by rw [ko0]; decide) (by rw [ko0]; decide) (by rw [ko0]; decide) (by rw [ko0]; decide) (by rw [ko0]; decide)]; exact hfo_603
                                  have hfr0 : ∀ b, kd b ≠ 12 → kd b ≠ 579 → kd b ≠ 581 → kd b ≠ 583 → kd b ≠ 585 → kd b ≠ 587 → kd b ≠ 588 → kd b ≠ 589 → kd b ≠ 594 → kd b ≠ 595 → kd b ≠ 596 → f_666 b = f b := fun b q12 q579 q581 q583 q585 q587 q588 q589 q594 q595 q596 => (hkc_667 b q579 q581 q583 q585 q587 q588).trans (hfr0 b q12 q579 q581 q583 q585 q587 q588 q589 q594 q595 q596)
                                  have hrA12 : ∀ b, kd b = 12 → ∀ j, fldR (f_666 b) j = fldR (f b) j := fun b kb j => (congrArg (fun x => fldR x j) (hkc_667 b (by rw [kb]; decide) (by rw [kb]; decide) (by rw [kb]; decide) (by rw [kb]; decide) (by rw [kb]; decide) (by rw [kb]; decide))).trans (hrA12 b kb j)
                                  have hfA12 : ∀ b, kd b = 12 → ∀ j, j ≠ 5 → j ≠ 23 → j ≠ 35 → j ≠ 38 → fldI (f_666 b) j = fldI (f b) j := fun b kb j n5 n23 n35 n38 => (congrArg (fun x => fldI x j) (hkc_667 b (by rw [kb]; decide) (by rw [kb]; decide) (by rw [kb]; decide) (by rw [kb]; decide) (by rw [kb]; decide) (by rw [kb]; decide))).trans (hfA12 b kb j n5 n23 n35 n38)
                                  refine lv_if_ne (tgt := 221) hx hb dX12_understand_215 (by decide) (fun c_671 => ?_) (fun c_671 => ?_)
                                  · skip
                                    rw [← Int32.toInt_inj, ti_0] at c_671
                                    have hclc_672 : (0 ≤ v_642.toInt ∧ v_642.toInt ≤ 95) := by constructor <;> omega
                                    refine lv_aload_n hx hb dX12_understand_221 rfl (lv_at hl 3 rfl) ?_
                                    refine tk_getP (D := (dC, dI)) (ci := 12) (v := .ref a_38) (C := RX12) (T := TX12) (N := 56) hx hb hU inlX12 hown hK hP mo0 hfo_670 rfl 36 (by decide) (hU _ wd_187) (fun _ h9 => h9) rfl dX12_understand_222 ?_
                                    refine lv_aload_n hx hb dX12_understand_225 rfl (lv_at hl 3 rfl) ?_
                                    refine tk_getP (D := (dC, dI)) (ci := 12) (v := .int v_642) (C := RX12) (T := TX12) (N := 56) hx hb hU inlX12 hown hK hP mo0 hfo_670 rfl 38 (by decide) (hU _ wd_571) (fun _ h9 => h9) rfl dX12_understand_226 ?_
                                    refine lv_iload_n hx hb dX12_understand_229 rfl (lv_at hl 2 rfl) ?_
                                    obtain ⟨g_674, hfo_673, hbg_674⟩ := un_595 (hG _ ma_38) ka_38
                                    refine tk_istP hx hb hK hP hD hS 0 ma_38 hfo_673 rfl (vp_in_iff.mpr (by constructor <;> omega)) dX12_understand_230 (fun H locs hP hD hS => ?_)
                                    obtain ⟨f_676, ef_676⟩ : ∃ y : Nat → va_E, y = va_up f_666 a_38 (.inl (cI, 96, .inl (upd g_674 (Int32.toNatClampNeg v_642) y_213))) := ⟨_, rfl⟩
                                    have hP : va_P (dC, dI) vwCl (va_pl L f_676) H := by rw [ef_676]; exact hP
                                    have hD : va_D (fun q => q ∈ L) (va_pl L f_676) := by rw [ef_676]; exact hD
                                    have hG : GI (okc cI cL cZ cR cG cH L kd) kd L f_676 := by rw [ef_676]; exact hG.set a_38 (mk_595 ka_38 ⟨_, rfl, okI_up hbg_674 ⟨i32_lo _, i32_hi _⟩ _⟩)
                                    have hfo_677 : f_676 a_2 = .inl (cI, 1560, .inl g_274) := by rw [ef_676, up_ne (kd_ne ka_38 ka_2 (by decide))]; exact hfo_669
                                    have hfo_678 : f_676 o0 = .inr (12, [.ref a_2, .ref a_3, .ref a_4, .int v_5, .ref a_6, .int v_609, .int v_8, .int v_611, .int v_612, .int v_613, .int v_614, .int v_13, .int v_14, .int v_15, .int v_16, .ref a_17, .ref a_18, .ref a_19, .ref a_20, .ref a_21, .ref a_22, .ref a_23, .ref a_24, .int v_627, .int v_628, .int v_27, .int v_630, .int v_29, .ref a_30, .int v_31, .ref a_32, .ref a_33, .int v_34, .int v_35, .ref a_36, .int v_639, .ref a_38, .ref a_39, .int v_642, .int v_643, .ref a_42, .ref a_43, .ref a_44, .int v_45, .ref a_46, .ref a_47, .ref a_48, .ref a_49, .ref a_50, .ref a_51, .ref a_52, .ref a_53, .ref a_54, .int v_55, .int v_658, .ref a_57]) := by rw [ef_676, up_ne (kd_ne ka_38 ko0 (by decide))]; exact hfo_670
                                    have hfr0 : ∀ b, kd b ≠ 12 → kd b ≠ 579 → kd b ≠ 581 → kd b ≠ 583 → kd b ≠ 585 → kd b ≠ 587 → kd b ≠ 588 → kd b ≠ 589 → kd b ≠ 594 → kd b ≠ 595 → kd b ≠ 596 → f_676 b = f b := fun b q12 q579 q581 q583 q585 q587 q588 q589 q594 q595 q596 => (congrFun ef_676 b).trans ((up_ne (fun e9 => q595 (by rw [e9]; exact ka_38))).trans (hfr0 b q12 q579 q581 q583 q585 q587 q588 q589 q594 q595 q596))
                                    have hrA12 : ∀ b, kd b = 12 → ∀ j, fldR (f_676 b) j = fldR (f b) j := fun b kb j => (congrArg (fun x => fldR x j) ((congrFun ef_676 b).trans (up_ne (kd_ne ka_38 kb (by decide))))).trans (hrA12 b kb j)
                                    have hfA12 : ∀ b, kd b = 12 → ∀ j, j ≠ 5 → j ≠ 23 → j ≠ 35 → j ≠ 38 → fldI (f_676 b) j = fldI (f b) j := fun b kb j n5 n23 n35 n38 => (congrArg (fun x => fldI x j) ((congrFun ef_676 b).trans (up_ne (kd_ne ka_38 kb (by decide))))).trans (hfA12 b kb j n5 n23 n35 n38)
                                    have hfo_679 : f_676 a_38 = .inl (cI, 96, .inl (upd g_674 (Int32.toNatClampNeg v_642) y_213)) := by rw [ef_676]; exact up_self
                                    refine lv_aload_n hx hb dX12_understand_231 rfl (lv_at hl 3 rfl) ?_
                                    refine tk_getP (D := (dC, dI)) (ci := 12) (v := .ref a_39) (C := RX12) (T := TX12) (N := 56) hx hb hU inlX12 hown hK hP mo0 hfo_678 rfl 37 (by decide) (hU _ wd_188) (fun _ h9 => h9) rfl dX12_understand_232 ?_
                                    refine lv_aload_n hx hb dX12_understand_235 rfl (lv_at hl 3 rfl) ?_
                                    refine tk_getP (D := (dC, dI)) (ci := 12) (v := .int v_642) (C := RX12) (T := TX12) (N := 56) hx hb hU inlX12 hown hK hP mo0 hfo_678 rfl 38 (by decide) (hU _ wd_571) (fun _ h9 => h9) rfl dX12_understand_236 ?_
                                    refine lv_iload_n hx hb dX12_understand_239 rfl (lv_at hl 1 rfl) ?_
                                    obtain ⟨g_681, hfo_680, hbg_681⟩ := un_596 (hG _ ma_39) ka_39
                                    refine tk_istP hx hb hK hP hD hS 0 ma_39 hfo_680 rfl (vp_in_iff.mpr (by constructor <;> omega)) dX12_understand_240 (fun H locs hP hD hS => ?_)
                                    obtain ⟨f_683, ef_683⟩ : ∃ y : Nat → va_E, y = va_up f_676 a_39 (.inl (cI, 96, .inl (upd g_681 (Int32.toNatClampNeg v_642) y_340))) := ⟨_, rfl⟩
                                    have hP : va_P (dC, dI) vwCl (va_pl L f_683) H := by rw [ef_683]; exact hP
                                    have hD : va_D (fun q => q ∈ L) (va_pl L f_683) := by rw [ef_683]; exact hD
                                    have hG : GI (okc cI cL cZ cR cG cH L kd) kd L f_683 := by rw [ef_683]; exact hG.set a_39 (mk_596 ka_39 ⟨_, rfl, okI_up hbg_681 ⟨i32_lo _, i32_hi _⟩ _⟩)
                                    have hfo_684 : f_683 a_2 = .inl (cI, 1560, .inl g_274) := by rw [ef_683, up_ne (kd_ne ka_39 ka_2 (by decide))]; exact hfo_677
                                    have hfo_685 : f_683 o0 = .inr (12, [.ref a_2, .ref a_3, .ref a_4, .int v_5, .ref a_6, .int v_609, .int v_8, .int v_611, .int v_612, .int v_613, .int v_614, .int v_13, .int v_14, .int v_15, .int v_16, .ref a_17, .ref a_18, .ref a_19, .ref a_20, .ref a_21, .ref a_22, .ref a_23, .ref a_24, .int v_627, .int v_628, .int v_27, .int v_630, .int v_29, .ref a_30, .int v_31, .ref a_32, .ref a_33, .int v_34, .int v_35, .ref a_36, .int v_639, .ref a_38, .ref a_39, .int v_642, .int v_643, .ref a_42, .ref a_43, .ref a_44, .int v_45, .ref a_46, .ref a_47, .ref a_48, .ref a_49, .ref a_50, .ref a_51, .ref a_52, .ref a_53, .ref a_54, .int v_55, .int v_658, .ref a_57]) := by rw [ef_683, up_ne (kd_ne ka_39 ko0 (by decide))]; exact hfo_678
                                    have hfr0 : ∀ b, kd b ≠ 12 → kd b ≠ 579 → kd b ≠ 581 → kd b ≠ 583 → kd b ≠ 585 → kd b ≠ 587 → kd b ≠ 588 → kd b ≠ 589 → kd b ≠ 594 → kd b ≠ 595 → kd b ≠ 596 → f_683 b = f b := fun b q12 q579 q581 q583 q585 q587 q588 q589 q594 q595 q596 => (congrFun ef_683 b).trans ((up_ne (fun e9 => q596 (by rw [e9]; exact ka_39))).trans (hfr0 b q12 q579 q581 q583 q585 q587 q588 q589 q594 q595 q596))
                                    have hrA12 : ∀ b, kd b = 12 → ∀ j, fldR (f_683 b) j = fldR (f b) j := fun b kb j => (congrArg (fun x => fldR x j) ((congrFun ef_683 b).trans (up_ne (kd_ne ka_39 kb (by decide))))).trans (hrA12 b kb j)
                                    have hfA12 : ∀ b, kd b = 12 → ∀ j, j ≠ 5 → j ≠ 23 → j ≠ 35 → j ≠ 38 → fldI (f_683 b) j = fldI (f b) j := fun b kb j n5 n23 n35 n38 => (congrArg (fun x => fldI x j) ((congrFun ef_683 b).trans (up_ne (kd_ne ka_39 kb (by decide))))).trans (hfA12 b kb j n5 n23 n35 n38)
                                    have hfo_686 : f_683 a_39 = .inl (cI, 96, .inl (upd g_681 (Int32.toNatClampNeg v_642) y_340)) := by rw [ef_683]; exact up_self
                                    refine lv_aload_n hx hb dX12_understand_241 rfl (lv_at hl 3 rfl) ?_
                                    refine lv_dup hx hb dX12_understand_242 rfl ?_
                                    refine tk_getP (D := (dC, dI)) (ci := 12) (v := .int v_642) (C := RX12) (T := TX12) (N := 56) hx hb hU inlX12 hown hK hP mo0 hfo_685 rfl 38 (by decide) (hU _ wd_571) (fun _ h9 => h9) rfl dX12_understand_243 ?_
                                    refine lv_iconst (v := 1) hx hb dX12_understand_246 (by decide) ?_
                                    refine lv_iadd hx hb dX12_understand_247 ?_
                                    refine lv_topi (fun x_687 ex_687 => ?_)
                                    have hx_687 : x_687.toInt = v_642.toInt + 1 := by rw [ex_687, ad_I (by rw [ti_1]; omega) (by rw [ti_1]; omega), ti_1]
                                    have bx_687 : (1 ≤ x_687.toInt ∧ x_687.toInt ≤ 96) := by constructor <;> omega
                                    refine tk_putP (D := (dC, dI)) (ci := 12) (v := .int x_687) (ty := .int) (C := RX12) (T := TX12) (N := 56) hx hb hU inlX12 tyX12 tyX12_ok nmX12 hown hK hP hD hS mo0 hfo_685 rfl 38 (by decide) (hU _ wd_571) (fun _ h9 => h9) rfl (by decide +kernel) rfl rfl (Nat.le_of_ble_eq_true rfl) dX12_understand_248 (fun H locs hP hD hS => ?_)
                                    obtain ⟨f_689, ef_689⟩ : ∃ y : Nat → va_E, y = va_up f_683 o0 (.inr (12, [.ref a_2, .ref a_3, .ref a_4, .int v_5, .ref a_6, .int v_609, .int v_8, .int v_611, .int v_612, .int v_613, .int v_614, .int v_13, .int v_14, .int v_15, .int v_16, .ref a_17, .ref a_18, .ref a_19, .ref a_20, .ref a_21, .ref a_22, .ref a_23, .ref a_24, .int v_627, .int v_628, .int v_27, .int v_630, .int v_29, .ref a_30, .int v_31, .ref a_32, .ref a_33, .int v_34, .int v_35, .ref a_36, .int v_639, .ref a_38, .ref a_39, .int x_687, .int v_643, .ref a_42, .ref a_43, .ref a_44, .int v_45, .ref a_46, .ref a_47, .ref a_48, .ref a_49, .ref a_50, .ref a_51, .ref a_52, .ref a_53, .ref a_54, .int v_55, .int v_658, .ref a_57])) := ⟨_, rfl⟩
                                    have hP : va_P (dC, dI) vwCl (va_pl L f_689) H := by rw [ef_689]; exact hP
                                    have hD : va_D (fun q => q ∈ L) (va_pl L f_689) := by rw [ef_689]; exact hD
                                    have hG : GI (okc cI cL cZ cR cG cH L kd) kd L f_689 := by rw [ef_689]; exact hG.set o0 (mk_12 ko0 ⟨a_2, a_3, a_4, v_5, a_6, v_609, v_8, v_611, v_612, v_613, v_614, v_13, v_14, v_15, v_16, a_17, a_18, a_19, a_20, a_21, a_22, a_23, a_24, v_627, v_628, v_27, v_630, v_29, a_30, v_31, a_32, a_33, v_34, v_35, a_36, v_639, a_38, a_39, x_687, v_643, a_42, a_43, a_44, v_45, a_46, a_47, a_48, a_49, a_50, a_51, a_52, a_53, a_54, v_55, v_658, a_57, rfl, ⟨ma_2, ka_2⟩, ⟨ma_3, ka_3⟩, ⟨ma_4, ka_4⟩, (by constructor <;> omega), ⟨ma_6, ka_6⟩, (by constructor <;> omega), (by constructor <;> omega), (by constructor <;> omega), (by constructor <;> omega), (by constructor <;> omega), ⟨ma_17, ka_17⟩, ⟨ma_18, ka_18⟩, ⟨ma_19, ka_19⟩, ⟨ma_20, ka_20⟩, ⟨ma_21, ka_21⟩, ⟨ma_22, ka_22⟩, ⟨ma_23, ka_23⟩, ⟨ma_24, ka_24⟩, (by constructor <;> omega), (by constructor <;> omega), (by constructor <;> omega), ⟨ma_30, ka_30⟩, (by constructor <;> omega), ⟨ma_32, ka_32⟩, ⟨ma_33, ka_33⟩, (by constructor <;> omega), ⟨ma_36, ka_36⟩, (by constructor <;> omega), ⟨ma_38, ka_38⟩, ⟨ma_39, ka_39⟩, (by constructor <;> omega), ⟨ma_42, ka_42⟩, ⟨ma_43, ka_43⟩, ⟨ma_44, ka_44⟩, (by constructor <;> omega), ⟨ma_46, ka_46⟩, ⟨ma_47, ka_47⟩, ⟨ma_48, ka_48⟩, ⟨ma_49, ka_49⟩, ⟨ma_50, ka_50⟩, ⟨ma_51, ka_51⟩, ⟨ma_52, ka_52⟩, ⟨ma_53, ka_53⟩, ⟨ma_54, ka_54⟩, (by constructor <;> omega), ⟨ma_57, ka_57⟩⟩)
                                    have hfo_690 : f_689 a_2 = .inl (cI, 1560, .inl g_274) := by rw [ef_689, up_ne (kd_ne ko0 ka_2 (by decide))]; exact hfo_684
                                    have hfr0 : ∀ b, kd b ≠ 12 → kd b ≠ 579 → kd b ≠ 581 → kd b ≠ 583 → kd b ≠ 585 → kd b ≠ 587 → kd b ≠ 588 → kd b ≠ 589 → kd b ≠ 594 → kd b ≠ 595 → kd b ≠ 596 → f_689 b = f b := fun b q12 q579 q581 q583 q585 q587 q588 q589 q594 q595 q596 => (congrFun ef_689 b).trans ((up_ne (fun e9 => q12 (by rw [e9]; exact ko0))).trans (hfr0 b q12 q579 q581 q583 q585 q587 q588 q589 q594 q595 q596))
                                    have hrA12 : ∀ b, kd b = 12 → ∀ j, fldR (f_689 b) j = fldR (f b) j := fun b kb j => ((congrArg (fun x => fldR x j) (congrFun ef_689 b)).trans (fra_up (fun j => by rw [hfo_685]; exact fr_set (k := 38) rfl rfl j) j b)).trans (hrA12 b kb j)
                                    have hfA12 : ∀ b, kd b = 12 → ∀ j, j ≠ 5 → j ≠ 23 → j ≠ 35 → j ≠ 38 → fldI (f_689 b) j = fldI (f b) j := fun b kb j n5 n23 n35 n38 => ((congrArg (fun x => fldI x j) (congrFun ef_689 b)).trans (fia_up (fun h9 => by rw [hfo_685]; exact fi_set (k := 38) rfl h9) n38 b)).trans (hfA12 b kb j n5 n23 n35 n38)
                                    have hfo_691 : f_689 o0 = .inr (12, [.ref a_2, .ref a_3, .ref a_4, .int v_5, .ref a_6, .int v_609, .int v_8, .int v_611, .int v_612, .int v_613, .int v_614, .int v_13, .int v_14, .int v_15, .int v_16, .ref a_17, .ref a_18, .ref a_19, .ref a_20, .ref a_21, .ref a_22, .ref a_23, .ref a_24, .int v_627, .int v_628, .int v_27, .int v_630, .int v_29, .ref a_30, .int v_31, .ref a_32, .ref a_33, .int v_34, .int v_35, .ref a_36, .int v_639, .ref a_38, .ref a_39, .int x_687, .int v_643, .ref a_42, .ref a_43, .ref a_44, .int v_45, .ref a_46, .ref a_47, .ref a_48, .ref a_49, .ref a_50, .ref a_51, .ref a_52, .ref a_53, .ref a_54, .int v_55, .int v_658, .ref a_57]) := by rw [ef_689]; exact up_self
                                    obtain ⟨x_692, ex_692⟩ : ∃ y : Int32, y_340 + 1 = y := ⟨_, rfl⟩
                                    have hx_692 : x_692.toInt = y_340.toInt + 1 := by rw [← ex_692, ad_I (by rw [ti_1]; omega) (by rw [ti_1]; omega), ti_1]
                                    have bx_692 : (1 ≤ x_692.toInt ∧ x_692.toInt ≤ 8) := by constructor <;> omega
                                    refine lv_iinc (v := x_692) (lv' := [(2, .int x_692), (3, .int y_599), (1, .int y_213), (0, .ref o0)]) hx hb dX12_understand_251 hl (k := 1) rfl ex_692 (by decide) rfl (fun ls hl => ?_)
                                    refine lv_goto (tgt := 68) hx hb dX12_understand_254 (by decide) ?_
                                    exact ih_hloop_339 x_692 (by constructor <;> omega) f_689 hG _ _ hP hS hD hfr0 hrA12 hfA12 hfo_690 x_687 (by rw [hfo_691]; rfl) v_609 (by rw [hfo_691]; rfl) (by omega) (by omega) (by omega) (by omega) ls (lv_sub hl [0, 2, 3] rfl)
                                  · skip
                                    rw [← Int32.toInt_inj, ti_0] at c_671
                                    refine lv_goto (tgt := 251) hx hb dX12_understand_218 (by decide) ?_
                                    obtain ⟨x_693, ex_693⟩ : ∃ y : Int32, y_340 + 1 = y := ⟨_, rfl⟩
                                    have hx_693 : x_693.toInt = y_340.toInt + 1 := by rw [← ex_693, ad_I (by rw [ti_1]; omega) (by rw [ti_1]; omega), ti_1]
                                    have bx_693 : (1 ≤ x_693.toInt ∧ x_693.toInt ≤ 8) := by constructor <;> omega
                                    refine lv_iinc (v := x_693) (lv' := [(2, .int x_693), (3, .int y_599), (1, .int y_213), (0, .ref o0)]) hx hb dX12_understand_251 hl (k := 1) rfl ex_693 (by decide) rfl (fun ls hl => ?_)
                                    refine lv_goto (tgt := 68) hx hb dX12_understand_254 (by decide) ?_
                                    exact ih_hloop_339 x_693 (by constructor <;> omega) f_666 hG _ _ hP hS hD hfr0 hrA12 hfA12 hfo_669 v_642 (by rw [hfo_670]; rfl) v_609 (by rw [hfo_670]; rfl) (by omega) (by omega) (by omega) (by omega) ls (lv_sub hl [0, 2, 3] rfl)
                                · skip
                                  rw [Int32.le_iff_toInt_le] at c_663
                                  have hclc_694 : (0 ≤ v_627.toInt ∧ v_627.toInt ≤ 11) := by constructor <;> omega
                                  refine lv_aload_n hx hb dX12_understand_162 rfl (lv_at hl 3 rfl) ?_
                                  refine tk_getP (D := (dC, dI)) (ci := 12) (v := .ref a_23) (C := RX12) (T := TX12) (N := 56) hx hb hU inlX12 hown hK hP mo0 hfo_603 rfl 21 (by decide) (hU _ wd_181) (fun _ h9 => h9) rfl dX12_understand_163 ?_
                                  refine lv_aload_n hx hb dX12_understand_166 rfl (lv_at hl 3 rfl) ?_
                                  refine tk_getP (D := (dC, dI)) (ci := 12) (v := .int v_627) (C := RX12) (T := TX12) (N := 56) hx hb hU inlX12 hown hK hP mo0 hfo_603 rfl 23 (by decide) (hU _ wd_867) (fun _ h9 => h9) rfl dX12_understand_167 ?_
                                  refine lv_aload_n hx hb dX12_understand_170 rfl (lv_at hl 3 rfl) ?_
                                  refine tk_getP (D := (dC, dI)) (ci := 12) (v := .ref a_2) (C := RX12) (T := TX12) (N := 56) hx hb hU inlX12 hown hK hP mo0 hfo_603 rfl 0 (by decide) (hU _ wd_169) (fun _ h9 => h9) rfl dX12_understand_171 ?_
                                  refine lv_sipush (v := 156) hx hb dX12_understand_174 (by decide) ?_
                                  refine lv_bipush (v := 8) hx hb dX12_understand_177 (by decide) ?_
                                  refine lv_iload_n hx hb dX12_understand_179 rfl (lv_at hl 1 rfl) ?_
                                  refine lv_imul hx hb dX12_understand_180 ?_
                                  refine lv_topi (fun x_695 ex_695 => ?_)
                                  have hx_695 : x_695.toInt = 8 * y_340.toInt := by rw [ex_695, ml_I (by rw [ti_8]; omega) (by rw [ti_8]; omega), ti_8]
                                  have bx_695 : (0 ≤ x_695.toInt ∧ x_695.toInt ≤ 56) := by constructor <;> omega
                                  refine lv_iadd hx hb dX12_understand_181 ?_
                                  refine lv_topi (fun x_696 ex_696 => ?_)
                                  have hx_696 : x_696.toInt = 156 + x_695.toInt := by rw [ex_696, ad_I (by rw [ti_156]; omega) (by rw [ti_156]; omega), ti_156]
                                  have bx_696 : (156 ≤ x_696.toInt ∧ x_696.toInt ≤ 212) := by constructor <;> omega
                                  refine lv_iconst (v := 1) hx hb dX12_understand_182 (by decide) ?_
                                  refine lv_iadd hx hb dX12_understand_183 ?_
                                  refine lv_topi (fun x_697 ex_697 => ?_)
                                  have hx_697 : x_697.toInt = x_696.toInt + 1 := by rw [ex_697, ad_I (by rw [ti_1]; omega) (by rw [ti_1]; omega), ti_1]
                                  have bx_697 : (157 ≤ x_697.toInt ∧ x_697.toInt ≤ 213) := by constructor <;> omega
                                  refine lv_iload_n hx hb dX12_understand_184 rfl (lv_at hl 0 rfl) ?_
                                  refine lv_iadd hx hb dX12_understand_185 ?_
                                  refine lv_topi (fun x_698 ex_698 => ?_)
                                  have hx_698 : x_698.toInt = x_697.toInt + y_599.toInt := by rw [ex_698, ad_I (by omega) (by omega)]
                                  have bx_698 : (157 ≤ x_698.toInt ∧ x_698.toInt ≤ 218) := by constructor <;> omega
                                  refine tk_ildP hx hb hK hP 0 ma_2 hfo_602 rfl (vp_in_iff.mpr (by constructor <;> omega)) dX12_understand_186 ?_
                                  refine lv_topi (fun x_699 ex_699 => ?_)
                                  have bx_699 : (0 ≤ x_699.toInt ∧ x_699.toInt ≤ 8) := by have hc9 := cl_I (i := x_698) (by omega); rw [ex_699]; exact hbg_274.2.2.2.2.2.2.2.2.2.2.1 _ (by omega) (by omega) (by omega)
                                  obtain ⟨g_701, hfo_700, hbg_701⟩ := un_589 (hG _ ma_23) ka_23
                                  refine tk_istP hx hb hK hP hD hS 0 ma_23 hfo_700 rfl (vp_in_iff.mpr (by constructor <;> omega)) dX12_understand_187 (fun H locs hP hD hS => ?_)
                                  obtain ⟨f_703, ef_703⟩ : ∃ y : Nat → va_E, y = va_up f_601 a_23 (.inl (cI, 16, .inl (upd g_701 (Int32.toNatClampNeg v_627) x_699))) := ⟨_, rfl⟩
                                  have hP : va_P (dC, dI) vwCl (va_pl L f_703) H := by rw [ef_703]; exact hP
                                  have hD : va_D (fun q => q ∈ L) (va_pl L f_703) := by rw [ef_703]; exact hD
                                  have hG : GI (okc cI cL cZ cR cG cH L kd) kd L f_703 := by rw [ef_703]; exact hG.set a_23 (mk_589 ka_23 ⟨_, rfl, okI_up hbg_701 (by constructor <;> omega) _⟩)
                                  have hfo_704 : f_703 a_2 = .inl (cI, 1560, .inl g_274) := by rw [ef_703, up_ne (kd_ne ka_23 ka_2 (by decide))]; exact hfo_602
                                  have hfo_705 : f_703 o0 = .inr (12, [.ref a_2, .ref a_3, .ref a_4, .int v_5, .ref a_6, .int v_609, .int v_8, .int v_611, .int v_612, .int v_613, .int v_614, .int v_13, .int v_14, .int v_15, .int v_16, .ref a_17, .ref a_18, .ref a_19, .ref a_20, .ref a_21, .ref a_22, .ref a_23, .ref a_24, .int v_627, .int v_628, .int v_27, .int v_630, .int v_29, .ref a_30, .int v_31, .ref a_32, .ref a_33, .int v_34, .int v_35, .ref a_36, .int v_639, .ref a_38, .ref a_39, .int v_642, .int v_643, .ref a_42, .ref a_43, .ref a_44, .int v_45, .ref a_46, .ref a_47, .ref a_48, .ref a_49, .ref a_50, .ref a_51, .ref a_52, .ref a_53, .ref a_54, .int v_55, .int v_658, .ref a_57]) := by rw [ef_703, up_ne (kd_ne ka_23 ko0 (by decide))]; exact hfo_603
                                  have hfr0 : ∀ b, kd b ≠ 12 → kd b ≠ 579 → kd b ≠ 581 → kd b ≠ 583 → kd b ≠ 585 → kd b ≠ 587 → kd b ≠ 588 → kd b ≠ 589 → kd b ≠ 594 → kd b ≠ 595 → kd b ≠ 596 → f_703 b = f b := fun b q12 q579 q581 q583 q585 q587 q588 q589 q594 q595 q596 => (congrFun ef_703 b).trans ((up_ne (fun e9 => q589 (by rw [e9]; exact ka_23))).trans (hfr0 b q12 q579 q581 q583 q585 q587 q588 q589 q594 q595 q596))
                                  have hrA12 : ∀ b, kd b = 12 → ∀ j, fldR (f_703 b) j = fldR (f b) j := fun b kb j => (congrArg (fun x => fldR x j) ((congrFun ef_703 b).trans (up_ne (kd_ne ka_23 kb (by decide))))).trans (hrA12 b kb j)
                                  have hfA12 : ∀ b, kd b = 12 → ∀ j, j ≠ 5 → j ≠ 23 → j ≠ 35 → j ≠ 38 → fldI (f_703 b) j = fldI (f b) j := fun b kb j n5 n23 n35 n38 => (congrArg (fun x => fldI x j) ((congrFun ef_703 b).trans (up_ne (kd_ne ka_23 kb (by decide))))).trans (hfA12 b kb j n5 n23 n35 n38)
                                  have hfo_706 : f_703 a_23 = .inl (cI, 16, .inl (upd g_701 (Int32.toNatClampNeg v_627) x_699)) := by rw [ef_703]; exact up_self
                                  refine lv_aload_n hx hb dX12_understand_188 rfl (lv_at hl 3 rfl) ?_
                                  refine lv_dup hx hb dX12_understand_189 rfl ?_
                                  refine tk_getP (D := (dC, dI)) (ci := 12) (v := .int v_627) (C := RX12) (T := TX12) (N := 56) hx hb hU inlX12 hown hK hP mo0 hfo_705 rfl 23 (by decide) (hU _ wd_867) (fun _ h9 => h9) rfl dX12_understand_190 ?_
                                  refine lv_iconst (v := 1) hx hb dX12_understand_193 (by decide) ?_
                                  refine lv_iadd hx hb dX12_understand_194 ?_
                                  refine lv_topi (fun x_707 ex_707 => ?_)
                                  have hx_707 : x_707.toInt = v_627.toInt + 1 := by rw [ex_707, ad_I (by rw [ti_1]; omega) (by rw [ti_1]; omega), ti_1]
                                  have bx_707 : (1 ≤ x_707.toInt ∧ x_707.toInt ≤ 12) := by constructor <;> omega
                                  refine tk_putP (D := (dC, dI)) (ci := 12) (v := .int x_707) (ty := .int) (C := RX12) (T := TX12) (N := 56) hx hb hU inlX12 tyX12 tyX12_ok nmX12 hown hK hP hD hS mo0 hfo_705 rfl 23 (by decide) (hU _ wd_867) (fun _ h9 => h9) rfl (by decide +kernel) rfl rfl (Nat.le_of_ble_eq_true rfl) dX12_understand_195 (fun H locs hP hD hS => ?_)
                                  obtain ⟨f_709, ef_709⟩ : ∃ y : Nat → va_E, y = va_up f_703 o0 (.inr (12, [.ref a_2, .ref a_3, .ref a_4, .int v_5, .ref a_6, .int v_609, .int v_8, .int v_611, .int v_612, .int v_613, .int v_614, .int v_13, .int v_14, .int v_15, .int v_16, .ref a_17, .ref a_18, .ref a_19, .ref a_20, .ref a_21, .ref a_22, .ref a_23, .ref a_24, .int x_707, .int v_628, .int v_27, .int v_630, .int v_29, .ref a_30, .int v_31, .ref a_32, .ref a_33, .int v_34, .int v_35, .ref a_36, .int v_639, .ref a_38, .ref a_39, .int v_642, .int v_643, .ref a_42, .ref a_43, .ref a_44, .int v_45, .ref a_46, .ref a_47, .ref a_48, .ref a_49, .ref a_50, .ref a_51, .ref a_52, .ref a_53, .ref a_54, .int v_55, .int v_658, .ref a_57])) := ⟨_, rfl⟩
                                  have hP : va_P (dC, dI) vwCl (va_pl L f_709) H := by rw [ef_709]; exact hP
                                  have hD : va_D (fun q => q ∈ L) (va_pl L f_709) := by rw [ef_709]; exact hD
                                  have hG : GI (okc cI cL cZ cR cG cH L kd) kd L f_709 := by rw [ef_709]; exact hG.set o0 (mk_12 ko0 ⟨a_2, a_3, a_4, v_5, a_6, v_609, v_8, v_611, v_612, v_613, v_614, v_13, v_14, v_15, v_16, a_17, a_18, a_19, a_20, a_21, a_22, a_23, a_24, x_707, v_628, v_27, v_630, v_29, a_30, v_31, a_32, a_33, v_34, v_35, a_36, v_639, a_38, a_39, v_642, v_643, a_42, a_43, a_44, v_45, a_46, a_47, a_48, a_49, a_50, a_51, a_52, a_53, a_54, v_55, v_658, a_57, rfl, ⟨ma_2, ka_2⟩, ⟨ma_3, ka_3⟩, ⟨ma_4, ka_4⟩, (by constructor <;> omega), ⟨ma_6, ka_6⟩, (by constructor <;> omega), (by constructor <;> omega), (by constructor <;> omega), (by constructor <;> omega), (by constructor <;> omega), ⟨ma_17, ka_17⟩, ⟨ma_18, ka_18⟩, ⟨ma_19, ka_19⟩, ⟨ma_20, ka_20⟩, ⟨ma_21, ka_21⟩, ⟨ma_22, ka_22⟩, ⟨ma_23, ka_23⟩, ⟨ma_24, ka_24⟩, (by constructor <;> omega), (by constructor <;> omega), (by constructor <;> omega), ⟨ma_30, ka_30⟩, (by constructor <;> omega), ⟨ma_32, ka_32⟩, ⟨ma_33, ka_33⟩, (by constructor <;> omega), ⟨ma_36, ka_36⟩, (by constructor <;> omega), ⟨ma_38, ka_38⟩, ⟨ma_39, ka_39⟩, (by constructor <;> omega), ⟨ma_42, ka_42⟩, ⟨ma_43, ka_43⟩, ⟨ma_44, ka_44⟩, (by constructor <;> omega), ⟨ma_46, ka_46⟩, ⟨ma_47, ka_47⟩, ⟨ma_48, ka_48⟩, ⟨ma_49, ka_49⟩, ⟨ma_50, ka_50⟩, ⟨ma_51, ka_51⟩, ⟨ma_52, ka_52⟩, ⟨ma_53, ka_53⟩, ⟨ma_54, ka_54⟩, (by constructor <;> omega), ⟨ma_57, ka_57⟩⟩)
                                  have hfo_710 : f_709 a_2 = .inl (cI, 1560, .inl g_274) := by rw [ef_709, up_ne (kd_ne ko0 ka_2 (by decide))]; exact hfo_704
                                  have hfr0 : ∀ b, kd b ≠ 12 → kd b ≠ 579 → kd b ≠ 581 → kd b ≠ 583 → kd b ≠ 585 → kd b ≠ 587 → kd b ≠ 588 → kd b ≠ 589 → kd b ≠ 594 → kd b ≠ 595 → kd b ≠ 596 → f_709 b = f b := fun b q12 q579 q581 q583 q585 q587 q588 q589 q594 q595 q596 => (congrFun ef_709 b).trans ((up_ne (fun e9 => q12 (by rw [e9]; exact ko0))).trans (hfr0 b q12 q579 q581 q583 q585 q587 q588 q589 q594 q595 q596))
                                  have hrA12 : ∀ b, kd b = 12 → ∀ j, fldR (f_709 b) j = fldR (f b) j := fun b kb j => ((congrArg (fun x => fldR x j) (congrFun ef_709 b)).trans (fra_up (fun j => by rw [hfo_705]; exact fr_set (k := 23) rfl rfl j) j b)).trans (hrA12 b kb j)
                                  have hfA12 : ∀ b, kd b = 12 → ∀ j, j ≠ 5 → j ≠ 23 → j ≠ 35 → j ≠ 38 → fldI (f_709 b) j = fldI (f b) j := fun b kb j n5 n23 n35 n38 => ((congrArg (fun x => fldI x j) (congrFun ef_709 b)).trans (fia_up (fun h9 => by rw [hfo_705]; exact fi_set (k := 23) rfl h9) n23 b)).trans (hfA12 b kb j n5 n23 n35 n38)
                                  have hfo_711 : f_709 o0 = .inr (12, [.ref a_2, .ref a_3, .ref a_4, .int v_5, .ref a_6, .int v_609, .int v_8, .int v_611, .int v_612, .int v_613, .int v_614, .int v_13, .int v_14, .int v_15, .int v_16, .ref a_17, .ref a_18, .ref a_19, .ref a_20, .ref a_21, .ref a_22, .ref a_23, .ref a_24, .int x_707, .int v_628, .int v_27, .int v_630, .int v_29, .ref a_30, .int v_31, .ref a_32, .ref a_33, .int v_34, .int v_35, .ref a_36, .int v_639, .ref a_38, .ref a_39, .int v_642, .int v_643, .ref a_42, .ref a_43, .ref a_44, .int v_45, .ref a_46, .ref a_47, .ref a_48, .ref a_49, .ref a_50, .ref a_51, .ref a_52, .ref a_53, .ref a_54, .int v_55, .int v_658, .ref a_57]) := by rw [ef_709]; exact up_self
                                  obtain ⟨x_712, ex_712⟩ : ∃ y : Int32, y_599 + 1 = y := ⟨_, rfl⟩
                                  have hx_712 : x_712.toInt = y_599.toInt + 1 := by rw [← ex_712, ad_I (by rw [ti_1]; omega) (by rw [ti_1]; omega), ti_1]
                                  have bx_712 : (1 ≤ x_712.toInt ∧ x_712.toInt ≤ 6) := by constructor <;> omega
                                  refine lv_iinc (v := x_712) (lv' := [(3, .int x_712), (2, .int y_340), (1, .int y_213), (0, .ref o0)]) hx hb dX12_understand_198 hl (k := 0) rfl ex_712 (by decide) rfl (fun ls hl => ?_)
                                  refine lv_goto (tgt := 145) hx hb dX12_understand_201 (by decide) ?_
                                  exact ih_hloop_598 x_712 (by constructor <;> omega) f_709 hG _ _ hP hS hD hfr0 hrA12 hfA12 hfo_710 x_707 (by rw [hfo_711]; rfl) v_642 (by rw [hfo_711]; rfl) v_609 (by rw [hfo_711]; rfl) (by omega) (by omega) (by omega) (by omega) (by omega) (by omega) ls (lv_sub hl [0, 1, 2, 3] rfl)
                            exact hloop_598 7 0 (by decide) f_473 hG _ _ hP hS hD hfr0 hrA12 hfA12 hfo_474 v_499 (by rw [hfo_475]; rfl) v_514 (by rw [hfo_475]; rfl) v_481 (by rw [hfo_475]; rfl) (by (try rw [ti_0]) <;> omega) (by (try rw [ti_0]) <;> omega) (by (try rw [ti_0]) <;> omega) (by (try rw [ti_0]) <;> omega) (by (try rw [ti_0]) <;> omega) (by (try rw [ti_0]) <;> omega) ls hl
                          · skip
                            rw [Int32.le_iff_toInt_le] at c_535
                            have hclc_713 : (0 ≤ v_499.toInt ∧ v_499.toInt ≤ 5) := by constructor <;> omega
                            refine lv_aload_n hx hb dX12_understand_102 rfl (lv_at hl 3 rfl) ?_
                            refine tk_getP (D := (dC, dI)) (ci := 12) (v := .ref a_23) (C := RX12) (T := TX12) (N := 56) hx hb hU inlX12 hown hK hP mo0 hfo_475 rfl 21 (by decide) (hU _ wd_181) (fun _ h9 => h9) rfl dX12_understand_103 ?_
                            refine lv_aload_n hx hb dX12_understand_106 rfl (lv_at hl 3 rfl) ?_
                            refine tk_getP (D := (dC, dI)) (ci := 12) (v := .int v_499) (C := RX12) (T := TX12) (N := 56) hx hb hU inlX12 hown hK hP mo0 hfo_475 rfl 23 (by decide) (hU _ wd_867) (fun _ h9 => h9) rfl dX12_understand_107 ?_
                            refine lv_aload_n hx hb dX12_understand_110 rfl (lv_at hl 3 rfl) ?_
                            refine tk_getP (D := (dC, dI)) (ci := 12) (v := .ref a_2) (C := RX12) (T := TX12) (N := 56) hx hb hU inlX12 hown hK hP mo0 hfo_475 rfl 0 (by decide) (hU _ wd_169) (fun _ h9 => h9) rfl dX12_understand_111 ?_
                            refine lv_bipush (v := 60) hx hb dX12_understand_114 (by decide) ?_
                            refine lv_bipush (v := 8) hx hb dX12_understand_116 (by decide) ?_
                            refine lv_iload_n hx hb dX12_understand_118 rfl (lv_at hl 2 rfl) ?_
                            refine lv_imul hx hb dX12_understand_119 ?_
                            refine lv_topi (fun x_714 ex_714 => ?_)
                            have hx_714 : x_714.toInt = 8 * y_213.toInt := by rw [ex_714, ml_I (by rw [ti_8]; omega) (by rw [ti_8]; omega), ti_8]
                            have bx_714 : (0 ≤ x_714.toInt ∧ x_714.toInt ≤ 88) := by constructor <;> omega
                            refine lv_iadd hx hb dX12_understand_120 ?_
                            refine lv_topi (fun x_715 ex_715 => ?_)
                            have hx_715 : x_715.toInt = 60 + x_714.toInt := by rw [ex_715, ad_I (by rw [ti_60]; omega) (by rw [ti_60]; omega), ti_60]
                            have bx_715 : (60 ≤ x_715.toInt ∧ x_715.toInt ≤ 148) := by constructor <;> omega
                            refine lv_iconst (v := 1) hx hb dX12_understand_121 (by decide) ?_
                            refine lv_iadd hx hb dX12_understand_122 ?_
                            refine lv_topi (fun x_716 ex_716 => ?_)
                            have hx_716 : x_716.toInt = x_715.toInt + 1 := by rw [ex_716, ad_I (by rw [ti_1]; omega) (by rw [ti_1]; omega), ti_1]
                            have bx_716 : (61 ≤ x_716.toInt ∧ x_716.toInt ≤ 149) := by constructor <;> omega
                            refine lv_iload_n hx hb dX12_understand_123 rfl (lv_at hl 0 rfl) ?_
                            refine lv_iadd hx hb dX12_understand_124 ?_
                            refine lv_topi (fun x_717 ex_717 => ?_)
                            have hx_717 : x_717.toInt = x_716.toInt + y_471.toInt := by rw [ex_717, ad_I (by omega) (by omega)]
                            have bx_717 : (61 ≤ x_717.toInt ∧ x_717.toInt ≤ 154) := by constructor <;> omega
                            refine tk_ildP hx hb hK hP 0 ma_2 hfo_474 rfl (vp_in_iff.mpr (by constructor <;> omega)) dX12_understand_125 ?_
                            refine lv_topi (fun x_718 ex_718 => ?_)
                            have bx_718 : (0 ≤ x_718.toInt ∧ x_718.toInt ≤ 8) := by have hc9 := cl_I (i := x_717) (by omega); rw [ex_718]; exact hbg_274.2.2.2.2.2.2.2.2.2.2.1 _ (by omega) (by omega) (by omega)
                            obtain ⟨g_720, hfo_719, hbg_720⟩ := un_589 (hG _ ma_23) ka_23
                            refine tk_istP hx hb hK hP hD hS 0 ma_23 hfo_719 rfl (vp_in_iff.mpr (by constructor <;> omega)) dX12_understand_126 (fun H locs hP hD hS => ?_)
                            obtain ⟨f_722, ef_722⟩ : ∃ y : Nat → va_E, y = va_up f_473 a_23 (.inl (cI, 16, .inl (upd g_720 (Int32.toNatClampNeg v_499) x_718))) := ⟨_, rfl⟩
                            have hP : va_P (dC, dI) vwCl (va_pl L f_722) H := by rw [ef_722]; exact hP
                            have hD : va_D (fun q => q ∈ L) (va_pl L f_722) := by rw [ef_722]; exact hD
                            have hG : GI (okc cI cL cZ cR cG cH L kd) kd L f_722 := by rw [ef_722]; exact hG.set a_23 (mk_589 ka_23 ⟨_, rfl, okI_up hbg_720 (by constructor <;> omega) _⟩)
                            have hfo_723 : f_722 a_2 = .inl (cI, 1560, .inl g_274) := by rw [ef_722, up_ne (kd_ne ka_23 ka_2 (by decide))]; exact hfo_474
                            have hfo_724 : f_722 o0 = .inr (12, [.ref a_2, .ref a_3, .ref a_4, .int v_5, .ref a_6, .int v_481, .int v_8, .int v_483, .int v_484, .int v_485, .int v_486, .int v_13, .int v_14, .int v_15, .int v_16, .ref a_17, .ref a_18, .ref a_19, .ref a_20, .ref a_21, .ref a_22, .ref a_23, .ref a_24, .int v_499, .int v_500, .int v_27, .int v_502, .int v_29, .ref a_30, .int v_31, .ref a_32, .ref a_33, .int v_34, .int v_35, .ref a_36, .int v_511, .ref a_38, .ref a_39, .int v_514, .int v_515, .ref a_42, .ref a_43, .ref a_44, .int v_45, .ref a_46, .ref a_47, .ref a_48, .ref a_49, .ref a_50, .ref a_51, .ref a_52, .ref a_53, .ref a_54, .int v_55, .int v_530, .ref a_57]) := by rw [ef_722, up_ne (kd_ne ka_23 ko0 (by decide))]; exact hfo_475
                            have hfr0 : ∀ b, kd b ≠ 12 → kd b ≠ 579 → kd b ≠ 581 → kd b ≠ 583 → kd b ≠ 585 → kd b ≠ 587 → kd b ≠ 588 → kd b ≠ 589 → kd b ≠ 594 → kd b ≠ 595 → kd b ≠ 596 → f_722 b = f b := fun b q12 q579 q581 q583 q585 q587 q588 q589 q594 q595 q596 => (congrFun ef_722 b).trans ((up_ne (fun e9 => q589 (by rw [e9]; exact ka_23))).trans (hfr0 b q12 q579 q581 q583 q585 q587 q588 q589 q594 q595 q596))
                            have hrA12 : ∀ b, kd b = 12 → ∀ j, fldR (f_722 b) j = fldR (f b) j := fun b kb j => (congrArg (fun x => fldR x j) ((congrFun ef_722 b).trans (up_ne (kd_ne ka_23 kb (by decide))))).trans (hrA12 b kb j)
                            have hfA12 : ∀ b, kd b = 12 → ∀ j, j ≠ 5 → j ≠ 23 → j ≠ 35 → j ≠ 38 → fldI (f_722 b) j = fldI (f b) j := fun b kb j n5 n23 n35 n38 => (congrArg (fun x => fldI x j) ((congrFun ef_722 b).trans (up_ne (kd_ne ka_23 kb (by decide))))).trans (hfA12 b kb j n5 n23 n35 n38)
                            have hfo_725 : f_722 a_23 = .inl (cI, 16, .inl (upd g_720 (Int32.toNatClampNeg v_499) x_718)) := by rw [ef_722]; exact up_self
                            refine lv_aload_n hx hb dX12_understand_127 rfl (lv_at hl 3 rfl) ?_
                            refine lv_dup hx hb dX12_understand_128 rfl ?_
                            refine tk_getP (D := (dC, dI)) (ci := 12) (v := .int v_499) (C := RX12) (T := TX12) (N := 56) hx hb hU inlX12 hown hK hP mo0 hfo_724 rfl 23 (by decide) (hU _ wd_867) (fun _ h9 => h9) rfl dX12_understand_129 ?_
                            refine lv_iconst (v := 1) hx hb dX12_understand_132 (by decide) ?_
                            refine lv_iadd hx hb dX12_understand_133 ?_
                            refine lv_topi (fun x_726 ex_726 => ?_)
                            have hx_726 : x_726.toInt = v_499.toInt + 1 := by rw [ex_726, ad_I (by rw [ti_1]; omega) (by rw [ti_1]; omega), ti_1]
                            have bx_726 : (1 ≤ x_726.toInt ∧ x_726.toInt ≤ 6) := by constructor <;> omega
                            refine tk_putP (D := (dC, dI)) (ci := 12) (v := .int x_726) (ty := .int) (C := RX12) (T := TX12) (N := 56) hx hb hU inlX12 tyX12 tyX12_ok nmX12 hown hK hP hD hS mo0 hfo_724 rfl 23 (by decide) (hU _ wd_867) (fun _ h9 => h9) rfl (by decide +kernel) rfl rfl (Nat.le_of_ble_eq_true rfl) dX12_understand_134 (fun H locs hP hD hS => ?_)
                            obtain ⟨f_728, ef_728⟩ : ∃ y : Nat → va_E, y = va_up f_722 o0 (.inr (12, [.ref a_2, .ref a_3, .ref a_4, .int v_5, .ref a_6, .int v_481, .int v_8, .int v_483, .int v_484, .int v_485, .int v_486, .int v_13, .int v_14, .int v_15, .int v_16, .ref a_17, .ref a_18, .ref a_19, .ref a_20, .ref a_21, .ref a_22, .ref a_23, .ref a_24, .int x_726, .int v_500, .int v_27, .int v_502, .int v_29, .ref a_30, .int v_31, .ref a_32, .ref a_33, .int v_34, .int v_35, .ref a_36, .int v_511, .ref a_38, .ref a_39, .int v_514, .int v_515, .ref a_42, .ref a_43, .ref a_44, .int v_45, .ref a_46, .ref a_47, .ref a_48, .ref a_49, .ref a_50, .ref a_51, .ref a_52, .ref a_53, .ref a_54, .int v_55, .int v_530, .ref a_57])) := ⟨_, rfl⟩
                            have hP : va_P (dC, dI) vwCl (va_pl L f_728) H := by rw [ef_728]; exact hP
                            have hD : va_D (fun q => q ∈ L) (va_pl L f_728) := by rw [ef_728]; exact hD
                            have hG : GI (okc cI cL cZ cR cG cH L kd) kd L f_728 := by rw [ef_728]; exact hG.set o0 (mk_12 ko0 ⟨a_2, a_3, a_4, v_5, a_6, v_481, v_8, v_483, v_484, v_485, v_486, v_13, v_14, v_15, v_16, a_17, a_18, a_19, a_20, a_21, a_22, a_23, a_24, x_726, v_500, v_27, v_502, v_29, a_30, v_31, a_32, a_33, v_34, v_35, a_36, v_511, a_38, a_39, v_514, v_515, a_42, a_43, a_44, v_45, a_46, a_47, a_48, a_49, a_50, a_51, a_52, a_53, a_54, v_55, v_530, a_57, rfl, ⟨ma_2, ka_2⟩, ⟨ma_3, ka_3⟩, ⟨ma_4, ka_4⟩, (by constructor <;> omega), ⟨ma_6, ka_6⟩, (by constructor <;> omega), (by constructor <;> omega), (by constructor <;> omega), (by constructor <;> omega), (by constructor <;> omega), ⟨ma_17, ka_17⟩, ⟨ma_18, ka_18⟩, ⟨ma_19, ka_19⟩, ⟨ma_20, ka_20⟩, ⟨ma_21, ka_21⟩, ⟨ma_22, ka_22⟩, ⟨ma_23, ka_23⟩, ⟨ma_24, ka_24⟩, (by constructor <;> omega), (by constructor <;> omega), (by constructor <;> omega), ⟨ma_30, ka_30⟩, (by constructor <;> omega), ⟨ma_32, ka_32⟩, ⟨ma_33, ka_33⟩, (by constructor <;> omega), ⟨ma_36, ka_36⟩, (by constructor <;> omega), ⟨ma_38, ka_38⟩, ⟨ma_39, ka_39⟩, (by constructor <;> omega), ⟨ma_42, ka_42⟩, ⟨ma_43, ka_43⟩, ⟨ma_44, ka_44⟩, (by constructor <;> omega), ⟨ma_46, ka_46⟩, ⟨ma_47, ka_47⟩, ⟨ma_48, ka_48⟩, ⟨ma_49, ka_49⟩, ⟨ma_50, ka_50⟩, ⟨ma_51, ka_51⟩, ⟨ma_52, ka_52⟩, ⟨ma_53, ka_53⟩, ⟨ma_54, ka_54⟩, (by constructor <;> omega), ⟨ma_57, ka_57⟩⟩)
                            have hfo_729 : f_728 a_2 = .inl (cI, 1560, .inl g_274) := by rw [ef_728, up_ne (kd_ne ko0 ka_2 (by decide))]; exact hfo_723
                            have hfr0 : ∀ b, kd b ≠ 12 → kd b ≠ 579 → kd b ≠ 581 → kd b ≠ 583 → kd b ≠ 585 → kd b ≠ 587 → kd b ≠ 588 → kd b ≠ 589 → kd b ≠ 594 → kd b ≠ 595 → kd b ≠ 596 → f_728 b = f b := fun b q12 q579 q581 q583 q585 q587 q588 q589 q594 q595 q596 => (congrFun ef_728 b).trans ((up_ne (fun e9 => q12 (by rw [e9]; exact ko0))).trans (hfr0 b q12 q579 q581 q583 q585 q587 q588 q589 q594 q595 q596))
                            have hrA12 : ∀ b, kd b = 12 → ∀ j, fldR (f_728 b) j = fldR (f b) j := fun b kb j => ((congrArg (fun x => fldR x j) (congrFun ef_728 b)).trans (fra_up (fun j => by rw [hfo_724]; exact fr_set (k := 23) rfl rfl j) j b)).trans (hrA12 b kb j)
                            have hfA12 : ∀ b, kd b = 12 → ∀ j, j ≠ 5 → j ≠ 23 → j ≠ 35 → j ≠ 38 → fldI (f_728 b) j = fldI (f b) j := fun b kb j n5 n23 n35 n38 => ((congrArg (fun x => fldI x j) (congrFun ef_728 b)).trans (fia_up (fun h9 => by rw [hfo_724]; exact fi_set (k := 23) rfl h9) n23 b)).trans (hfA12 b kb j n5 n23 n35 n38)
                            have hfo_730 : f_728 o0 = .inr (12, [.ref a_2, .ref a_3, .ref a_4, .int v_5, .ref a_6, .int v_481, .int v_8, .int v_483, .int v_484, .int v_485, .int v_486, .int v_13, .int v_14, .int v_15, .int v_16, .ref a_17, .ref a_18, .ref a_19, .ref a_20, .ref a_21, .ref a_22, .ref a_23, .ref a_24, .int x_726, .int v_500, .int v_27, .int v_502, .int v_29, .ref a_30, .int v_31, .ref a_32, .ref a_33, .int v_34, .int v_35, .ref a_36, .int v_511, .ref a_38, .ref a_39, .int v_514, .int v_515, .ref a_42, .ref a_43, .ref a_44, .int v_45, .ref a_46, .ref a_47, .ref a_48, .ref a_49, .ref a_50, .ref a_51, .ref a_52, .ref a_53, .ref a_54, .int v_55, .int v_530, .ref a_57]) := by rw [ef_728]; exact up_self
                            obtain ⟨x_731, ex_731⟩ : ∃ y : Int32, y_471 + 1 = y := ⟨_, rfl⟩
                            have hx_731 : x_731.toInt = y_471.toInt + 1 := by rw [← ex_731, ad_I (by rw [ti_1]; omega) (by rw [ti_1]; omega), ti_1]
                            have bx_731 : (1 ≤ x_731.toInt ∧ x_731.toInt ≤ 6) := by constructor <;> omega
                            refine lv_iinc (v := x_731) (lv' := [(3, .int x_731), (2, .int y_340), (1, .int y_213), (0, .ref o0)]) hx hb dX12_understand_137 hl (k := 0) rfl ex_731 (by decide) rfl (fun ls hl => ?_)
                            refine lv_goto (tgt := 86) hx hb dX12_understand_140 (by decide) ?_
                            exact ih_hloop_470 x_731 (by constructor <;> omega) f_728 hG _ _ hP hS hD hfr0 hrA12 hfA12 hfo_729 x_726 (by rw [hfo_730]; rfl) v_514 (by rw [hfo_730]; rfl) v_481 (by rw [hfo_730]; rfl) (by omega) (by omega) (by omega) (by omega) (by omega) (by omega) ls (lv_sub hl [0, 1, 2, 3] rfl)
                      exact hloop_470 7 0 (by decide) f_405 hG _ _ hP hS hD hfr0 hrA12 hfA12 hfo_406 0 (by rw [hfo_407]; rfl) v_383 (by rw [hfo_407]; rfl) v_350 (by rw [hfo_407]; rfl) (by (try rw [ti_0]) <;> omega) (by (try rw [ti_0]) <;> omega) (by (try rw [ti_0]) <;> omega) (by (try rw [ti_0]) <;> omega) (by (try rw [ti_0]) <;> omega) (by (try rw [ti_0]) <;> omega) ls hl
                exact hloop_339 9 0 (by decide) f_215 hG _ _ hP hS hD hfr0 hrA12 hfA12 hfo_273 v_255 (by rw [hfo_216]; rfl) v_222 (by rw [hfo_216]; rfl) (by (try rw [ti_0]) <;> omega) (by (try rw [ti_0]) <;> omega) (by (try rw [ti_0]) <;> omega) (by (try rw [ti_0]) <;> omega) ls hl
          exact hloop_212 13 0 (by decide) f_148 hG _ _ hP hS hD hfr0 hrA12 hfA12 0 (by rw [hfo_149]; rfl) v_74 (by rw [hfo_149]; rfl) (by (try rw [ti_0]) <;> omega) (by (try rw [ti_0]) <;> omega) (by (try rw [ti_0]) <;> omega) (by (try rw [ti_0]) <;> omega) ls hl
        · skip
          rw [Int32.le_iff_toInt_le] at c_150
          refine lv_aload_n hx hb dX12_understand_35 rfl (lv_at hl 1 rfl) ?_
          refine tk_getP (D := (dC, dI)) (ci := 12) (v := .ref a_36) (C := RX12) (T := TX12) (N := 56) hx hb hU inlX12 hown hK hP mo0 hfo_149 rfl 34 (by decide) (hU _ wd_186) (fun _ h9 => h9) rfl dX12_understand_36 ?_
          refine lv_iload_n hx hb dX12_understand_39 rfl (lv_at hl 0 rfl) ?_
          refine lv_aload_n hx hb dX12_understand_40 rfl (lv_at hl 1 rfl) ?_
          refine tk_getP (D := (dC, dI)) (ci := 12) (v := .ref a_23) (C := RX12) (T := TX12) (N := 56) hx hb hU inlX12 hown hK hP mo0 hfo_149 rfl 21 (by decide) (hU _ wd_181) (fun _ h9 => h9) rfl dX12_understand_41 ?_
          refine lv_iload_n hx hb dX12_understand_44 rfl (lv_at hl 0 rfl) ?_
          obtain ⟨g_733, hfo_732, hbg_733⟩ := un_589 (hG _ ma_23) ka_23
          refine tk_ildP hx hb hK hP 0 ma_23 hfo_732 rfl (vp_in_iff.mpr (by constructor <;> omega)) dX12_understand_45 ?_
          refine lv_topi (fun x_734 ex_734 => ?_)
          have bx_734 : (0 ≤ x_734.toInt ∧ x_734.toInt ≤ 8) := by rw [ex_734]; exact hbg_733 _
          obtain ⟨g_736, hfo_735, hbg_736⟩ := un_594 (hG _ ma_36) ka_36
          refine tk_istP hx hb hK hP hD hS 0 ma_36 hfo_735 rfl (vp_in_iff.mpr (by constructor <;> omega)) dX12_understand_46 (fun H locs hP hD hS => ?_)
          obtain ⟨f_738, ef_738⟩ : ∃ y : Nat → va_E, y = va_up f_148 a_36 (.inl (cI, 16, .inl (upd g_736 (Int32.toNatClampNeg y_146) x_734))) := ⟨_, rfl⟩
          have hP : va_P (dC, dI) vwCl (va_pl L f_738) H := by rw [ef_738]; exact hP
          have hD : va_D (fun q => q ∈ L) (va_pl L f_738) := by rw [ef_738]; exact hD
          have hG : GI (okc cI cL cZ cR cG cH L kd) kd L f_738 := by rw [ef_738]; exact hG.set a_36 (mk_594 ka_36 ⟨_, rfl, okI_up hbg_736 (by constructor <;> omega) _⟩)
          have hfo_739 : f_738 o0 = .inr (12, [.ref a_2, .ref a_3, .ref a_4, .int v_5, .ref a_6, .int v_74, .int v_8, .int v_76, .int v_77, .int v_78, .int v_79, .int v_13, .int v_14, .int v_15, .int v_16, .ref a_17, .ref a_18, .ref a_19, .ref a_20, .ref a_21, .ref a_22, .ref a_23, .ref a_24, .int v_92, .int v_93, .int v_27, .int v_95, .int v_29, .ref a_30, .int v_31, .ref a_32, .ref a_33, .int v_34, .int v_35, .ref a_36, .int v_92, .ref a_38, .ref a_39, .int 0, .int v_108, .ref a_42, .ref a_43, .ref a_44, .int v_45, .ref a_46, .ref a_47, .ref a_48, .ref a_49, .ref a_50, .ref a_51, .ref a_52, .ref a_53, .ref a_54, .int v_55, .int v_123, .ref a_57]) := by rw [ef_738, up_ne (kd_ne ka_36 ko0 (by decide))]; exact hfo_149
          have hfo_740 : f_738 a_23 = .inl (cI, 16, .inl g_733) := by rw [ef_738, up_ne (kd_ne ka_36 ka_23 (by decide))]; exact hfo_732
          have hfr0 : ∀ b, kd b ≠ 12 → kd b ≠ 579 → kd b ≠ 581 → kd b ≠ 583 → kd b ≠ 585 → kd b ≠ 587 → kd b ≠ 588 → kd b ≠ 589 → kd b ≠ 594 → kd b ≠ 595 → kd b ≠ 596 → f_738 b = f b := fun b q12 q579 q581 q583 q585 q587 q588 q589 q594 q595 q596 => (congrFun ef_738 b).trans ((up_ne (fun e9 => q594 (by rw [e9]; exact ka_36))).trans (hfr0 b q12 q579 q581 q583 q585 q587 q588 q589 q594 q595 q596))
          have hrA12 : ∀ b, kd b = 12 → ∀ j, fldR (f_738 b) j = fldR (f b) j := fun b kb j => (congrArg (fun x => fldR x j) ((congrFun ef_738 b).trans (up_ne (kd_ne ka_36 kb (by decide))))).trans (hrA12 b kb j)
          have hfA12 : ∀ b, kd b = 12 → ∀ j, j ≠ 5 → j ≠ 23 → j ≠ 35 → j ≠ 38 → fldI (f_738 b) j = fldI (f b) j := fun b kb j n5 n23 n35 n38 => (congrArg (fun x => fldI x j) ((congrFun ef_738 b).trans (up_ne (kd_ne ka_36 kb (by decide))))).trans (hfA12 b kb j n5 n23 n35 n38)
          have hfo_741 : f_738 a_36 = .inl (cI, 16, .inl (upd g_736 (Int32.toNatClampNeg y_146) x_734)) := by rw [ef_738]; exact up_self
          obtain ⟨x_742, ex_742⟩ : ∃ y : Int32, y_146 + 1 = y := ⟨_, rfl⟩
          have hx_742 : x_742.toInt = y_146.toInt + 1 := by rw [← ex_742, ad_I (by rw [ti_1]; omega) (by rw [ti_1]; omega), ti_1]
          have bx_742 : (1 ≤ x_742.toInt ∧ x_742.toInt ≤ 8) := by constructor <;> omega
          refine lv_iinc (v := x_742) (lv' := [(1, .int x_742), (0, .ref o0)]) hx hb dX12_understand_47 hl (k := 0) rfl ex_742 (by decide) rfl (fun ls hl => ?_)
          refine lv_goto (tgt := 27) hx hb dX12_understand_50 (by decide) ?_
          exact ih_hloop_145 x_742 (by constructor <;> omega) f_738 hG _ _ hP hS hD hfr0 hrA12 hfA12 hfo_739 (by omega) ls (lv_sub hl [0, 1] rfl)
    exact hloop_145 9 0 (by decide) f_128 hG _ _ hP hS hD hfr0 hrA12 hfA12 hfo_129 (by (try rw [ti_0]) <;> omega) ls hl
  · skip
    rw [← Int32.toInt_inj, ti_0] at c_125
    refine lv_iconst (v := (-1)) hx hb dX12_understand_15 (by decide) ?_
    exact W.iret (v := (-1)) hx hb hr (fun t ht hW => ⟨⟨(-1), f_62, rfl, ⟨hG, (by decide), hfr0, hrA12, hfA12, (by intro w5 z5 e5 d5; rw [hfo_1] at e5; rw [hfo_68] at d5; obtain rfl := Option.some.inj e5; obtain rfl := Option.some.inj d5; (try rw [ti_m1]) <;> omega)⟩, by rw [ht]; exact hP, va_K.moved hW.alike hK, pl_in hD⟩, hS.F ht⟩) hS.2.2 dX12_understand_16
