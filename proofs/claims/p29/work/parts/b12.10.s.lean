set_option maxHeartbeats 8000000 in
set_option maxRecDepth 100000 in
theorem s_X12_words_k12 (l : Launch) (D : va_G) (cI cL cZ cR cG cH : ClassId) (Z : zT) (kd : Nat → Nat) (L : List Nat) (f : Nat → va_E) (hG : GI (okc cI cL cZ cR cG cH L kd) kd L f) (o0 : Nat) (mo0 : o0 ∈ L) (ko0 : kd o0 = 12) (p1 : Int32) (bp1 : (0 ≤ p1.toInt ∧ p1.toInt ≤ 1)) (hxtr0 : srel kd 592 f o0) : mPI l D cI cL cZ cR cG cH Z yX12_words cX12_words 2 (some .int) 23 655 [.ref o0, .int p1] L f (fun (r : Int32) (f9 : Nat → va_E) => GI (okc cI cL cZ cR cG cH L kd) kd L f9 ∧ ((-2147483648) ≤ r.toInt ∧ r.toInt ≤ 2147483647) ∧ (∀ b, kd b ≠ 12 → kd b ≠ 579 → kd b ≠ 581 → kd b ≠ 583 → kd b ≠ 585 → kd b ≠ 587 → kd b ≠ 588 → kd b ≠ 589 → kd b ≠ 590 → kd b ≠ 591 → kd b ≠ 592 → kd b ≠ 593 → kd b ≠ 603 → f9 b = f b) ∧ (∀ b, kd b = 12 → ∀ j, fldR (f9 b) j = fldR (f b) j) ∧ (∀ b, kd b = 12 → ∀ j, j ≠ 5 → j ≠ 23 → j ≠ 25 → j ≠ 27 → j ≠ 29 → j ≠ 32 → fldI (f9 b) j = fldI (f b) j) ∧ (∀ (w5 z5 : Int32) (w29 z29 : Int32), fldI (f o0) 5 = some w5 → fldI (f o0) 29 = some w29 → fldI (f9 o0) 5 = some z5 → fldI (f9 o0) 29 = some z29 → z5.toInt = 0 ∧ z29.toInt ≤ 200) ∧ (srel kd 592 f9 o0)) := by
  obtain ⟨dC, dI⟩ := D
  refine Met.ofW (cc := cX12_words) (maxL := 2) (ret := (some .int)) (by decide) rfl ?_
  intro p e s m args below meth c s₁ B hml hv
  obtain ⟨rfl, hP, hK, hD0, hN, hZ⟩ := hv
  have hx := B.exec
  have hb := B.bytes
  have hr := B.returns
  have hU : ∀ w ∈ wsU, w.before _ s = true := fun w h => atoms_spec (ws := wU yX12_words cX12_words 2 (some .int)) B.pre w (List.mem_cons_of_mem _ h)
  have hown : s.vm.findClass RX12 = some m.cls := findClass_of_methodNamed B.named
  have hlocks := B.notSynchronized
  have hD := pl_in hD0
  have hS : va_S (fun q => q ∈ L) s.heap s.heap [] := va_S.rf
  have hl := lv_entry ([.ref o0, .int p1]) (n := 2) (Nat.le_of_ble_eq_true rfl)
  rw [lg_entry_eq]
  generalize (lg_sl ([.ref o0, .int p1]) ++ List.replicate (2 - (lg_sl ([.ref o0, .int p1])).length) Slot.unset).toArray = ls at hl ⊢
  have hl : lv_has ls 2 [(0, .ref o0), (1, .int p1)] := hl
  have hfr0 : ∀ b, kd b ≠ 12 → kd b ≠ 579 → kd b ≠ 581 → kd b ≠ 583 → kd b ≠ 585 → kd b ≠ 587 → kd b ≠ 588 → kd b ≠ 589 → kd b ≠ 590 → kd b ≠ 591 → kd b ≠ 592 → kd b ≠ 593 → kd b ≠ 603 → f b = f b := fun _ _ _ _ _ _ _ _ _ _ _ _ _ _ => rfl
  have hrA12 : ∀ b, kd b = 12 → ∀ j, fldR (f b) j = fldR (f b) j := fun _ _ _ => rfl
  have hfA12 : ∀ b, kd b = 12 → ∀ j, j ≠ 5 → j ≠ 23 → j ≠ 25 → j ≠ 27 → j ≠ 29 → j ≠ 32 → fldI (f b) j = fldI (f b) j := fun _ _ _ _ _ _ _ _ _ => rfl
  obtain ⟨a_1, a_2, a_3, v_4, a_5, v_6, v_7, v_8, v_9, v_10, v_11, v_12, v_13, v_14, v_15, a_16, a_17, a_18, a_19, a_20, a_21, a_22, a_23, v_24, v_25, v_26, v_27, v_28, a_29, v_30, a_31, a_32, v_33, v_34, a_35, v_36, a_37, a_38, v_39, v_40, a_41, a_42, a_43, v_44, a_45, a_46, a_47, a_48, a_49, a_50, a_51, a_52, a_53, v_54, v_55, a_56, hfo_57, fa_58⟩ := un12 (hG _ mo0) ko0
  obtain ⟨ma_1, ka_1⟩ := fa12_0 fa_58
  have bv_6 : (0 ≤ v_6.toInt ∧ v_6.toInt ≤ 600) := fa12_5 fa_58
  have bv_24 : (0 ≤ v_24.toInt ∧ v_24.toInt ≤ 12) := fa12_23 fa_58
  have bv_26 : (0 ≤ v_26.toInt ∧ v_26.toInt ≤ 4) := fa12_25 fa_58
  have bv_28 : (0 ≤ v_28.toInt ∧ v_28.toInt ≤ 1) := fa12_27 fa_58
  have hT0 := hxtr0
  refine lv_aload_n hx hb dX12_words_0 rfl (lv_at hl 0 rfl) ?_
  refine lv_iconst (v := 0) hx hb dX12_words_1 (by decide) ?_
  refine tk_putP (D := (dC, dI)) (ci := 12) (v := .int 0) (ty := .int) (C := RX12) (T := TX12) (N := 56) hx hb hU inlX12 tyX12 tyX12_ok nmX12 hown hK hP hD hS mo0 hfo_57 rfl 29 (by decide) (hU _ wd_570) (fun _ h9 => h9) rfl (by decide +kernel) rfl rfl (Nat.le_of_ble_eq_true rfl) dX12_words_2 (fun H locs hP hD hS => ?_)
  have fa_59 := fu12_29 (y := 0) fa_58 (by decide)
  obtain ⟨f_61, ef_61⟩ : ∃ y : Nat → va_E, y = va_up f o0 (.inr (12, [.ref a_1, .ref a_2, .ref a_3, .int v_4, .ref a_5, .int v_6, .int v_7, .int v_8, .int v_9, .int v_10, .int v_11, .int v_12, .int v_13, .int v_14, .int v_15, .ref a_16, .ref a_17, .ref a_18, .ref a_19, .ref a_20, .ref a_21, .ref a_22, .ref a_23, .int v_24, .int v_25, .int v_26, .int v_27, .int v_28, .ref a_29, .int 0, .ref a_31, .ref a_32, .int v_33, .int v_34, .ref a_35, .int v_36, .ref a_37, .ref a_38, .int v_39, .int v_40, .ref a_41, .ref a_42, .ref a_43, .int v_44, .ref a_45, .ref a_46, .ref a_47, .ref a_48, .ref a_49, .ref a_50, .ref a_51, .ref a_52, .ref a_53, .int v_54, .int v_55, .ref a_56])) := ⟨_, rfl⟩
  have hP : va_P (dC, dI) vwCl (va_pl L f_61) H := by rw [ef_61]; exact hP
  have hD : va_D (fun q => q ∈ L) (va_pl L f_61) := by rw [ef_61]; exact hD
  have hG : GI (okc cI cL cZ cR cG cH L kd) kd L f_61 := by rw [ef_61]; exact hG.set o0 (mk_12 ko0 (fo12 fa_59))
  have hfr0 : ∀ b, kd b ≠ 12 → kd b ≠ 579 → kd b ≠ 581 → kd b ≠ 583 → kd b ≠ 585 → kd b ≠ 587 → kd b ≠ 588 → kd b ≠ 589 → kd b ≠ 590 → kd b ≠ 591 → kd b ≠ 592 → kd b ≠ 593 → kd b ≠ 603 → f_61 b = f b := fun b q12 q579 q581 q583 q585 q587 q588 q589 q590 q591 q592 q593 q603 => (congrFun ef_61 b).trans ((up_ne (fun e9 => q12 (by rw [e9]; exact ko0))).trans (hfr0 b q12 q579 q581 q583 q585 q587 q588 q589 q590 q591 q592 q593 q603))
  have hrA12 : ∀ b, kd b = 12 → ∀ j, fldR (f_61 b) j = fldR (f b) j := fun b kb j => ((congrArg (fun x => fldR x j) (congrFun ef_61 b)).trans (fra_up (fun j => by rw [hfo_57]; exact fr_set (k := 29) rfl rfl) j b)).trans (hrA12 b kb j)
  have hfA12 : ∀ b, kd b = 12 → ∀ j, j ≠ 5 → j ≠ 23 → j ≠ 25 → j ≠ 27 → j ≠ 29 → j ≠ 32 → fldI (f_61 b) j = fldI (f b) j := fun b kb j n5 n23 n25 n27 n29 n32 => ((congrArg (fun x => fldI x j) (congrFun ef_61 b)).trans (fia_up (fun h9 => by rw [hfo_57]; exact fi_set (k := 29) rfl h9) n29 b)).trans (hfA12 b kb j n5 n23 n25 n27 n29 n32)
  have hT0 : srel kd 592 f_61 o0 := by rw [ef_61]; exact hT0.keep (fun b _ => fr_up (by rw [hfo_57]; rfl) b) (fun b _ => fk_up (by rw [hfo_57]; rfl) b) (fun b _ => fk_up (by rw [hfo_57]; rfl) b) (fun b q => up_ne (kd_ne ko0 q (by decide)))
  have hfo_62 : f_61 o0 = .inr (12, [.ref a_1, .ref a_2, .ref a_3, .int v_4, .ref a_5, .int v_6, .int v_7, .int v_8, .int v_9, .int v_10, .int v_11, .int v_12, .int v_13, .int v_14, .int v_15, .ref a_16, .ref a_17, .ref a_18, .ref a_19, .ref a_20, .ref a_21, .ref a_22, .ref a_23, .int v_24, .int v_25, .int v_26, .int v_27, .int v_28, .ref a_29, .int 0, .ref a_31, .ref a_32, .int v_33, .int v_34, .ref a_35, .int v_36, .ref a_37, .ref a_38, .int v_39, .int v_40, .ref a_41, .ref a_42, .ref a_43, .int v_44, .ref a_45, .ref a_46, .ref a_47, .ref a_48, .ref a_49, .ref a_50, .ref a_51, .ref a_52, .ref a_53, .int v_54, .int v_55, .ref a_56]) := by rw [ef_61]; exact up_self
  refine lv_aload_n hx hb dX12_words_5 rfl (lv_at hl 0 rfl) ?_
  refine lv_iconst (v := 1) hx hb dX12_words_6 (by decide) ?_
  refine lv_bipush (v := 8) hx hb dX12_words_7 (by decide) ?_
  refine tk_ViP (As := [.int 1, .int 8]) (rest := []) (n := 2) hx hb hml hown hU hN hZ (s_X12_takesWord_k12_c1_c8 l (dC, dI) cI cL cZ cR cG cH Z kd L f_61 hG o0 mo0 ko0) wd_863 wd_864 wd_865 wd_5 wd_866 (by decide +kernel) ⟨Nat.le_of_ble_eq_true rfl, Nat.le_of_ble_eq_true rfl⟩ hK hP hD hS mo0 hfo_62 12 rfl rfl rfl hl.1 rfl (Nat.le_of_ble_eq_true rfl) dX12_words_9 ⟨Nat.le_of_ble_eq_true rfl, Nat.le_of_ble_eq_true rfl⟩ (fun x_63 f_64 H locs hw hP hD hS => ?_)
  obtain ⟨hG, bx_63, hkc_65, hra_66, hfa_67, hpost_68⟩ := hw
  have hfr0 : ∀ b, kd b ≠ 12 → kd b ≠ 579 → kd b ≠ 581 → kd b ≠ 583 → kd b ≠ 585 → kd b ≠ 587 → kd b ≠ 588 → kd b ≠ 589 → kd b ≠ 590 → kd b ≠ 591 → kd b ≠ 592 → kd b ≠ 593 → kd b ≠ 603 → f_64 b = f b := fun b q12 q579 q581 q583 q585 q587 q588 q589 q590 q591 q592 q593 q603 => (hkc_65 b q12 q589).trans (hfr0 b q12 q579 q581 q583 q585 q587 q588 q589 q590 q591 q592 q593 q603)
  have hrA12 : ∀ b, kd b = 12 → ∀ j, fldR (f_64 b) j = fldR (f b) j := fun b kb j => (hra_66 b kb j).trans (hrA12 b kb j)
  have hfA12 : ∀ b, kd b = 12 → ∀ j, j ≠ 5 → j ≠ 23 → j ≠ 25 → j ≠ 27 → j ≠ 29 → j ≠ 32 → fldI (f_64 b) j = fldI (f b) j := fun b kb j n5 n23 n25 n27 n29 n32 => (hfa_67 b kb j n5 n23).trans (hfA12 b kb j n5 n23 n25 n27 n29 n32)
  have hT0 : srel kd 592 f_64 o0 := hT0.keep (fun b q => hra_66 b q 30) (fun b q => hfa_67 b q 32 (by decide) (by decide)) (fun b q => hfa_67 b q 33 (by decide) (by decide)) (fun b q => hkc_65 b (by rw [q]; decide) (by rw [q]; decide))
  obtain ⟨v_70, v_71, hfo_72, fa_73⟩ := op12_5_23 hfo_62 (hG _ mo0) ko0 (hra_66 o0 ko0) (hfa_67 o0 ko0)
  have bv_70 : (0 ≤ v_70.toInt ∧ v_70.toInt ≤ 600) := fa12_5 fa_73
  have bv_71 : (0 ≤ v_71.toInt ∧ v_71.toInt ≤ 12) := fa12_23 fa_73
  have hqhpost_68 := hpost_68 v_6 v_70 v_24 v_71 (by rw [hfo_62]; rfl) (by rw [hfo_62]; rfl) (by rw [hfo_72]; rfl) (by rw [hfo_72]; rfl)
  try rw [ti_1] at hqhpost_68
  try rw [ti_8] at hqhpost_68
  refine lv_if_ne (tgt := 17) hx hb dX12_words_12 (by decide) (fun c_74 => ?_) (fun c_74 => ?_)
  · skip
    rw [← Int32.toInt_inj, ti_0] at c_74
    have hclc_75 : (0 ≤ v_71.toInt ∧ v_71.toInt ≤ 8) := by constructor <;> omega
    refine lv_aload_n hx hb dX12_words_17 rfl (lv_at hl 0 rfl) ?_
    refine lv_iload_n hx hb dX12_words_18 rfl (lv_at hl 1 rfl) ?_
    refine tk_VvP (As := [.int p1]) (rest := []) (n := 1) hx hb hml hown hU hN hZ (s_X12_sets_k12 l (dC, dI) cI cL cZ cR cG cH Z kd L f_64 hG o0 mo0 ko0 p1 (by constructor <;> omega)) wd_868 wd_869 wd_870 wd_5 wd_871 (by decide +kernel) ⟨Nat.le_of_ble_eq_true rfl, Nat.le_of_ble_eq_true rfl⟩ hK hP hD hS mo0 hfo_72 12 rfl rfl rfl hl.1 rfl (Nat.le_of_ble_eq_true rfl) dX12_words_19 ⟨Nat.le_of_ble_eq_true rfl, Nat.le_of_ble_eq_true rfl⟩ (fun f_77 H locs hw hP hD hS => ?_)
    obtain ⟨hG, hkc_78, hra_79, hfa_80, hpost_81⟩ := hw
    have hfr0 : ∀ b, kd b ≠ 12 → kd b ≠ 579 → kd b ≠ 581 → kd b ≠ 583 → kd b ≠ 585 → kd b ≠ 587 → kd b ≠ 588 → kd b ≠ 589 → kd b ≠ 590 → kd b ≠ 591 → kd b ≠ 592 → kd b ≠ 593 → kd b ≠ 603 → f_77 b = f b := fun b q12 q579 q581 q583 q585 q587 q588 q589 q590 q591 q592 q593 q603 => (hkc_78 b q12 q579 q581 q587).trans (hfr0 b q12 q579 q581 q583 q585 q587 q588 q589 q590 q591 q592 q593 q603)
    have hrA12 : ∀ b, kd b = 12 → ∀ j, fldR (f_77 b) j = fldR (f b) j := fun b kb j => (hra_79 b kb j).trans (hrA12 b kb j)
    have hfA12 : ∀ b, kd b = 12 → ∀ j, j ≠ 5 → j ≠ 23 → j ≠ 25 → j ≠ 27 → j ≠ 29 → j ≠ 32 → fldI (f_77 b) j = fldI (f b) j := fun b kb j n5 n23 n25 n27 n29 n32 => (hfa_80 b kb j n25 n27).trans (hfA12 b kb j n5 n23 n25 n27 n29 n32)
    have hT0 : srel kd 592 f_77 o0 := hT0.keep (fun b q => hra_79 b q 30) (fun b q => hfa_80 b q 32 (by decide) (by decide)) (fun b q => hfa_80 b q 33 (by decide) (by decide)) (fun b q => hkc_78 b (by rw [q]; decide) (by rw [q]; decide) (by rw [q]; decide) (by rw [q]; decide))
    obtain ⟨v_83, v_84, hfo_85, fa_86⟩ := op12_25_27 hfo_72 (hG _ mo0) ko0 (hra_79 o0 ko0) (hfa_80 o0 ko0)
    have bv_83 : (0 ≤ v_83.toInt ∧ v_83.toInt ≤ 4) := fa12_25 fa_86
    have bv_84 : (0 ≤ v_84.toInt ∧ v_84.toInt ≤ 1) := fa12_27 fa_86
    have hqhpost_81 := hpost_81 v_26 v_83 v_28 v_84 (by rw [hfo_72]; rfl) (by rw [hfo_72]; rfl) (by rw [hfo_85]; rfl) (by rw [hfo_85]; rfl)
    refine lv_aload_n hx hb dX12_words_22 rfl (lv_at hl 0 rfl) ?_
    refine lv_iconst (v := 0) hx hb dX12_words_23 (by decide) ?_
    refine lv_aload_n hx hb dX12_words_24 rfl (lv_at hl 0 rfl) ?_
    refine tk_getP (D := (dC, dI)) (ci := 12) (v := .ref a_1) (C := RX12) (T := TX12) (N := 56) hx hb hU inlX12 hown hK hP mo0 hfo_85 rfl 0 (by decide) (hU _ wd_169) (fun _ h9 => h9) rfl dX12_words_25 ?_
    refine lv_bipush (v := 41) hx hb dX12_words_28 (by decide) ?_
    obtain ⟨g_88, hfo_87, hbg_88⟩ := un_575 (hG _ ma_1) ka_1
    refine tk_ildP hx hb hK hP 0 ma_1 hfo_87 rfl (vp_in_nI (n := 41) (by decide) (by decide)) dX12_words_30 ?_
    refine lv_topi (fun x_89 ex_89 => ?_)
    have bx_89 : (0 ≤ x_89.toInt ∧ x_89.toInt ≤ 1) := by rw [ex_89]; exact hbg_88.2.2.2.2.2.2.2.1 _ (by decide) (by decide) (by decide)
    refine lv_iconst (v := 0) hx hb dX12_words_31 (by decide) ?_
    refine lv_iconst (v := 0) hx hb dX12_words_32 (by decide) ?_
    refine lv_aload_n hx hb dX12_words_33 rfl (lv_at hl 0 rfl) ?_
    refine tk_getP (D := (dC, dI)) (ci := 12) (v := .ref a_1) (C := RX12) (T := TX12) (N := 56) hx hb hU inlX12 hown hK hP mo0 hfo_85 rfl 0 (by decide) (hU _ wd_169) (fun _ h9 => h9) rfl dX12_words_34 ?_
    refine lv_bipush (v := 40) hx hb dX12_words_37 (by decide) ?_
    refine tk_ildP hx hb hK hP 0 ma_1 hfo_87 rfl (vp_in_nI (n := 40) (by decide) (by decide)) dX12_words_39 ?_
    refine lv_topi (fun x_90 ex_90 => ?_)
    have bx_90 : (0 ≤ x_90.toInt ∧ x_90.toInt ≤ 255) := by rw [ex_90]; exact hbg_88.2.2.2.2.2.2.1 _ (by decide) (by decide) (by decide)
    refine tk_VvP (As := [.int 0, .int x_89, .int 0, .int 0, .int x_90]) (rest := []) (n := 5) hx hb hml hown hU hN hZ (s_X12_goes_k12 l (dC, dI) cI cL cZ cR cG cH Z kd L 14 f_77 hG o0 mo0 ko0 0 (by decide) x_89 (by constructor <;> omega) 0 (by decide) 0 (by decide) x_90 (by intro w23 w25 w27 w29 e23 e25 e27 e29; rw [hfo_85] at e23 e25 e27 e29; obtain rfl := Option.some.inj e23; obtain rfl := Option.some.inj e25; obtain rfl := Option.some.inj e27; obtain rfl := Option.some.inj e29; (try rw [ti_0]) <;> omega) (by (try rw [ti_0]) <;> omega) hT0 (by (try rw [ti_0]) <;> omega)) wd_886 wd_887 wd_888 wd_5 wd_889 (by decide +kernel) ⟨Nat.le_of_ble_eq_true rfl, Nat.le_of_ble_eq_true rfl⟩ hK hP hD hS mo0 hfo_85 12 rfl rfl rfl hl.1 rfl (Nat.le_of_ble_eq_true rfl) dX12_words_40 ⟨Nat.le_of_ble_eq_true rfl, Nat.le_of_ble_eq_true rfl⟩ (fun f_92 H locs hw hP hD hS => ?_)
    obtain ⟨hG, hkc_93, hra_94, hfa_95, hpost_96, hTc_97⟩ := hw
    have hfo_99 : f_92 a_1 = .inl (cI, 1560, .inl g_88) := by rw [hkc_93 a_1 (by rw [ka_1]; decide) (by rw [ka_1]; decide) (by rw [ka_1]; decide) (by rw [ka_1]; decide) (by rw [ka_1]; decide) (by rw [ka_1]; decide) (by rw [ka_1]; decide) (by rw [ka_1]; decide) (by rw [ka_1]; decide) (by rw [ka_1]; decide) (by rw [ka_1]; decide) (by rw [ka_1]; decide)]; exact hfo_87
    have hfr0 : ∀ b, kd b ≠ 12 → kd b ≠ 579 → kd b ≠ 581 → kd b ≠ 583 → kd b ≠ 585 → kd b ≠ 587 → kd b ≠ 588 → kd b ≠ 589 → kd b ≠ 590 → kd b ≠ 591 → kd b ≠ 592 → kd b ≠ 593 → kd b ≠ 603 → f_92 b = f b := fun b q12 q579 q581 q583 q585 q587 q588 q589 q590 q591 q592 q593 q603 => (hkc_93 b q12 q579 q581 q583 q585 q587 q588 q590 q591 q592 q593 q603).trans (hfr0 b q12 q579 q581 q583 q585 q587 q588 q589 q590 q591 q592 q593 q603)
    have hrA12 : ∀ b, kd b = 12 → ∀ j, fldR (f_92 b) j = fldR (f b) j := fun b kb j => (hra_94 b kb j).trans (hrA12 b kb j)
    have hfA12 : ∀ b, kd b = 12 → ∀ j, j ≠ 5 → j ≠ 23 → j ≠ 25 → j ≠ 27 → j ≠ 29 → j ≠ 32 → fldI (f_92 b) j = fldI (f b) j := fun b kb j n5 n23 n25 n27 n29 n32 => (hfa_95 b kb j n27 n29 n32).trans (hfA12 b kb j n5 n23 n25 n27 n29 n32)
    obtain ⟨v_100, v_101, v_102, hfo_103, fa_104⟩ := op12_27_29_32 hfo_85 (hG _ mo0) ko0 (hra_94 o0 ko0) (hfa_95 o0 ko0)
    have bv_100 : (0 ≤ v_100.toInt ∧ v_100.toInt ≤ 1) := fa12_27 fa_104
    have bv_101 : (0 ≤ v_101.toInt ∧ v_101.toInt ≤ 201) := fa12_29 fa_104
    have bv_102 : (0 ≤ v_102.toInt ∧ v_102.toInt ≤ 6561) := fa12_32 fa_104
    have hqhpost_96 := hpost_96 v_83 v_83 v_84 v_100 0 v_101 (by rw [hfo_85]; rfl) (by rw [hfo_85]; rfl) (by rw [hfo_85]; rfl) (by rw [hfo_103]; rfl) (by rw [hfo_103]; rfl) (by rw [hfo_103]; rfl)
    try rw [ti_0] at hqhpost_96
    refine lv_aload_n hx hb dX12_words_43 rfl (lv_at hl 0 rfl) ?_
    refine tk_getP (D := (dC, dI)) (ci := 12) (v := .int v_101) (C := RX12) (T := TX12) (N := 56) hx hb hU inlX12 hown hK hP mo0 hfo_103 rfl 29 (by decide) (hU _ wd_570) (fun _ h9 => h9) rfl dX12_words_44 ?_
    refine lv_sipush (v := 200) hx hb dX12_words_47 (by decide) ?_
    refine lv_icmp_gt (tgt := 58) hx hb dX12_words_50 (by decide) (fun c_105 => ?_) (fun c_105 => ?_)
    · skip
      rw [Int32.lt_iff_toInt_lt, ti_200] at c_105
      refine lv_aload_n hx hb dX12_words_58 rfl (lv_at hl 0 rfl) ?_
      refine lv_iconst (v := 0) hx hb dX12_words_59 (by decide) ?_
      refine tk_putP (D := (dC, dI)) (ci := 12) (v := .int 0) (ty := .int) (C := RX12) (T := TX12) (N := 56) hx hb hU inlX12 tyX12 tyX12_ok nmX12 hown hK hP hD hS mo0 hfo_103 rfl 29 (by decide) (hU _ wd_570) (fun _ h9 => h9) rfl (by decide +kernel) rfl rfl (Nat.le_of_ble_eq_true rfl) dX12_words_60 (fun H locs hP hD hS => ?_)
      have fa_106 := fu12_29 (y := 0) fa_104 (by decide)
      obtain ⟨f_108, ef_108⟩ : ∃ y : Nat → va_E, y = va_up f_92 o0 (.inr (12, [.ref a_1, .ref a_2, .ref a_3, .int v_4, .ref a_5, .int v_70, .int v_7, .int v_8, .int v_9, .int v_10, .int v_11, .int v_12, .int v_13, .int v_14, .int v_15, .ref a_16, .ref a_17, .ref a_18, .ref a_19, .ref a_20, .ref a_21, .ref a_22, .ref a_23, .int v_71, .int v_25, .int v_83, .int v_27, .int v_100, .ref a_29, .int 0, .ref a_31, .ref a_32, .int v_102, .int v_34, .ref a_35, .int v_36, .ref a_37, .ref a_38, .int v_39, .int v_40, .ref a_41, .ref a_42, .ref a_43, .int v_44, .ref a_45, .ref a_46, .ref a_47, .ref a_48, .ref a_49, .ref a_50, .ref a_51, .ref a_52, .ref a_53, .int v_54, .int v_55, .ref a_56])) := ⟨_, rfl⟩
      have hP : va_P (dC, dI) vwCl (va_pl L f_108) H := by rw [ef_108]; exact hP
      have hD : va_D (fun q => q ∈ L) (va_pl L f_108) := by rw [ef_108]; exact hD
      have hG : GI (okc cI cL cZ cR cG cH L kd) kd L f_108 := by rw [ef_108]; exact hG.set o0 (mk_12 ko0 (fo12 fa_106))
      have hfo_109 : f_108 a_1 = .inl (cI, 1560, .inl g_88) := by rw [ef_108, up_ne (kd_ne ko0 ka_1 (by decide))]; exact hfo_99
      have hfr0 : ∀ b, kd b ≠ 12 → kd b ≠ 579 → kd b ≠ 581 → kd b ≠ 583 → kd b ≠ 585 → kd b ≠ 587 → kd b ≠ 588 → kd b ≠ 589 → kd b ≠ 590 → kd b ≠ 591 → kd b ≠ 592 → kd b ≠ 593 → kd b ≠ 603 → f_108 b = f b := fun b q12 q579 q581 q583 q585 q587 q588 q589 q590 q591 q592 q593 q603 => (congrFun ef_108 b).trans ((up_ne (fun e9 => q12 (by rw [e9]; exact ko0))).trans (hfr0 b q12 q579 q581 q583 q585 q587 q588 q589 q590 q591 q592 q593 q603))
      have hrA12 : ∀ b, kd b = 12 → ∀ j, fldR (f_108 b) j = fldR (f b) j := fun b kb j => ((congrArg (fun x => fldR x j) (congrFun ef_108 b)).trans (fra_up (fun j => by rw [hfo_103]; exact fr_set (k := 29) rfl rfl) j b)).trans (hrA12 b kb j)
      have hfA12 : ∀ b, kd b = 12 → ∀ j, j ≠ 5 → j ≠ 23 → j ≠ 25 → j ≠ 27 → j ≠ 29 → j ≠ 32 → fldI (f_108 b) j = fldI (f b) j := fun b kb j n5 n23 n25 n27 n29 n32 => ((congrArg (fun x => fldI x j) (congrFun ef_108 b)).trans (fia_up (fun h9 => by rw [hfo_103]; exact fi_set (k := 29) rfl h9) n29 b)).trans (hfA12 b kb j n5 n23 n25 n27 n29 n32)
      have hTc_97 : srel kd 592 f_108 o0 := by rw [ef_108]; exact hTc_97.keep (fun b _ => fr_up (by rw [hfo_103]; rfl) b) (fun b _ => fk_up (by rw [hfo_103]; rfl) b) (fun b _ => fk_up (by rw [hfo_103]; rfl) b) (fun b q => up_ne (kd_ne ko0 q (by decide)))
      have hfo_110 : f_108 o0 = .inr (12, [.ref a_1, .ref a_2, .ref a_3, .int v_4, .ref a_5, .int v_70, .int v_7, .int v_8, .int v_9, .int v_10, .int v_11, .int v_12, .int v_13, .int v_14, .int v_15, .ref a_16, .ref a_17, .ref a_18, .ref a_19, .ref a_20, .ref a_21, .ref a_22, .ref a_23, .int v_71, .int v_25, .int v_83, .int v_27, .int v_100, .ref a_29, .int 0, .ref a_31, .ref a_32, .int v_102, .int v_34, .ref a_35, .int v_36, .ref a_37, .ref a_38, .int v_39, .int v_40, .ref a_41, .ref a_42, .ref a_43, .int v_44, .ref a_45, .ref a_46, .ref a_47, .ref a_48, .ref a_49, .ref a_50, .ref a_51, .ref a_52, .ref a_53, .int v_54, .int v_55, .ref a_56]) := by rw [ef_108]; exact up_self
      refine lv_bipush (v := (-2)) hx hb dX12_words_63 (by decide) ?_
      exact W.iret (v := (-2)) hx hb hr (fun t ht hW => ⟨⟨(-2), f_108, rfl, ⟨hG, (by decide), hfr0, hrA12, hfA12, (by intro w5 z5 w29 z29 e5 e29 d5 d29; rw [hfo_57] at e5 e29; rw [hfo_110] at d5 d29; obtain rfl := Option.some.inj e5; obtain rfl := Option.some.inj d5; obtain rfl := Option.some.inj e29; obtain rfl := Option.some.inj d29; (try rw [ti_0]) <;> (try rw [ti_m2]) <;> omega), hTc_97⟩, by rw [ht]; exact hP, va_K.moved hW.alike hK, pl_in hD⟩, hS.F ht⟩) hS.2.2 dX12_words_65
    · skip
      rw [Int32.lt_iff_toInt_lt, ti_200] at c_105
      refine lv_aload_n hx hb dX12_words_53 rfl (lv_at hl 0 rfl) ?_
      refine tk_getP (D := (dC, dI)) (ci := 12) (v := .int v_101) (C := RX12) (T := TX12) (N := 56) hx hb hU inlX12 hown hK hP mo0 hfo_103 rfl 29 (by decide) (hU _ wd_570) (fun _ h9 => h9) rfl dX12_words_54 ?_
      exact W.iret (v := v_101) hx hb hr (fun t ht hW => ⟨⟨v_101, f_92, rfl, ⟨hG, (by constructor <;> omega), hfr0, hrA12, hfA12, (by intro w5 z5 w29 z29 e5 e29 d5 d29; rw [hfo_57] at e5 e29; rw [hfo_103] at d5 d29; obtain rfl := Option.some.inj e5; obtain rfl := Option.some.inj d5; obtain rfl := Option.some.inj e29; obtain rfl := Option.some.inj d29; omega), hTc_97⟩, by rw [ht]; exact hP, va_K.moved hW.alike hK, pl_in hD⟩, hS.F ht⟩) hS.2.2 dX12_words_57
  · skip
    rw [← Int32.toInt_inj, ti_0] at c_74
    refine lv_iconst (v := (-1)) hx hb dX12_words_15 (by decide) ?_
    exact W.iret (v := (-1)) hx hb hr (fun t ht hW => ⟨⟨(-1), f_64, rfl, ⟨hG, (by decide), hfr0, hrA12, hfA12, (by intro w5 z5 w29 z29 e5 e29 d5 d29; rw [hfo_57] at e5 e29; rw [hfo_72] at d5 d29; obtain rfl := Option.some.inj e5; obtain rfl := Option.some.inj d5; obtain rfl := Option.some.inj e29; obtain rfl := Option.some.inj d29; (try rw [ti_0]) <;> (try rw [ti_m1]) <;> omega), hT0⟩, by rw [ht]; exact hP, va_K.moved hW.alike hK, pl_in hD⟩, hS.F ht⟩) hS.2.2 dX12_words_16
set_option maxHeartbeats 8000000 in
set_option maxRecDepth 100000 in
theorem s_X12_say_k12 (l : Launch) (D : va_G) (cI cL cZ cR cG cH : ClassId) (Z : zT) (kd : Nat → Nat) (L : List Nat) (f : Nat → va_E) (hG : GI (okc cI cL cZ cR cG cH L kd) kd L f) (o0 : Nat) (mo0 : o0 ∈ L) (ko0 : kd o0 = 12) (hxtr0 : srel kd 592 f o0) : mPI l D cI cL cZ cR cG cH Z yX12_say cX12_say 1 (some .int) 24 676 [.ref o0] L f (fun (r : Int32) (f9 : Nat → va_E) => GI (okc cI cL cZ cR cG cH L kd) kd L f9 ∧ ((-2147483648) ≤ r.toInt ∧ r.toInt ≤ 2147483647) ∧ (∀ b, kd b ≠ 12 → kd b ≠ 579 → kd b ≠ 581 → kd b ≠ 583 → kd b ≠ 585 → kd b ≠ 587 → kd b ≠ 588 → kd b ≠ 589 → kd b ≠ 590 → kd b ≠ 591 → kd b ≠ 592 → kd b ≠ 593 → kd b ≠ 603 → f9 b = f b) ∧ (∀ b, kd b = 12 → ∀ j, fldR (f9 b) j = fldR (f b) j) ∧ (∀ b, kd b = 12 → ∀ j, j ≠ 5 → j ≠ 23 → j ≠ 25 → j ≠ 27 → j ≠ 29 → j ≠ 32 → fldI (f9 b) j = fldI (f b) j) ∧ (∀ (w5 z5 : Int32) (w29 z29 : Int32), fldI (f o0) 5 = some w5 → fldI (f o0) 29 = some w29 → fldI (f9 o0) 5 = some z5 → fldI (f9 o0) 29 = some z29 → z5.toInt = 0 ∧ z29.toInt ≤ 200) ∧ (srel kd 592 f9 o0)) := by
  obtain ⟨dC, dI⟩ := D
  refine Met.ofW (cc := cX12_say) (maxL := 1) (ret := (some .int)) (by decide) rfl ?_
  intro p e s m args below meth c s₁ B hml hv
  obtain ⟨rfl, hP, hK, hD0, hN, hZ⟩ := hv
  have hx := B.exec
  have hb := B.bytes
  have hr := B.returns
  have hU : ∀ w ∈ wsU, w.before _ s = true := fun w h => atoms_spec (ws := wU yX12_say cX12_say 1 (some .int)) B.pre w (List.mem_cons_of_mem _ h)
  have hown : s.vm.findClass RX12 = some m.cls := findClass_of_methodNamed B.named
  have hlocks := B.notSynchronized
  have hD := pl_in hD0
  have hS : va_S (fun q => q ∈ L) s.heap s.heap [] := va_S.rf
  have hl := lv_entry ([.ref o0]) (n := 1) (Nat.le_of_ble_eq_true rfl)
  rw [lg_entry_eq]
  generalize (lg_sl ([.ref o0]) ++ List.replicate (1 - (lg_sl ([.ref o0])).length) Slot.unset).toArray = ls at hl ⊢
  have hl : lv_has ls 1 [(0, .ref o0)] := hl
  have hfr0 : ∀ b, kd b ≠ 12 → kd b ≠ 579 → kd b ≠ 581 → kd b ≠ 583 → kd b ≠ 585 → kd b ≠ 587 → kd b ≠ 588 → kd b ≠ 589 → kd b ≠ 590 → kd b ≠ 591 → kd b ≠ 592 → kd b ≠ 593 → kd b ≠ 603 → f b = f b := fun _ _ _ _ _ _ _ _ _ _ _ _ _ _ => rfl
  have hrA12 : ∀ b, kd b = 12 → ∀ j, fldR (f b) j = fldR (f b) j := fun _ _ _ => rfl
  have hfA12 : ∀ b, kd b = 12 → ∀ j, j ≠ 5 → j ≠ 23 → j ≠ 25 → j ≠ 27 → j ≠ 29 → j ≠ 32 → fldI (f b) j = fldI (f b) j := fun _ _ _ _ _ _ _ _ _ => rfl
  obtain ⟨a_1, a_2, a_3, v_4, a_5, v_6, v_7, v_8, v_9, v_10, v_11, v_12, v_13, v_14, v_15, a_16, a_17, a_18, a_19, a_20, a_21, a_22, a_23, v_24, v_25, v_26, v_27, v_28, a_29, v_30, a_31, a_32, v_33, v_34, a_35, v_36, a_37, a_38, v_39, v_40, a_41, a_42, a_43, v_44, a_45, a_46, a_47, a_48, a_49, a_50, a_51, a_52, a_53, v_54, v_55, a_56, hfo_57, fa_58⟩ := un12 (hG _ mo0) ko0
  have bv_6 : (0 ≤ v_6.toInt ∧ v_6.toInt ≤ 600) := fa12_5 fa_58
  have bv_30 : (0 ≤ v_30.toInt ∧ v_30.toInt ≤ 201) := fa12_29 fa_58
  have hT0 := hxtr0
  refine lv_aload_n hx hb dX12_say_0 rfl (lv_at hl 0 rfl) ?_
  refine lv_iconst (v := 0) hx hb dX12_say_1 (by decide) ?_
  refine tk_ViP (As := [.int 0]) (rest := []) (n := 1) hx hb hml hown hU hN hZ (s_X12_words_k12 l (dC, dI) cI cL cZ cR cG cH Z kd L f hG o0 mo0 ko0 0 (by decide) hT0) wd_859 wd_860 wd_861 wd_5 wd_862 (by decide +kernel) ⟨Nat.le_of_ble_eq_true rfl, Nat.le_of_ble_eq_true rfl⟩ hK hP hD hS mo0 hfo_57 12 rfl rfl rfl hl.1 rfl (Nat.le_of_ble_eq_true rfl) dX12_say_2 ⟨Nat.le_of_ble_eq_true rfl, Nat.le_of_ble_eq_true rfl⟩ (fun x_59 f_60 H locs hw hP hD hS => ?_)
  obtain ⟨hG, bx_59, hkc_61, hra_62, hfa_63, hpost_64, hTc_65⟩ := hw
  have hfr0 : ∀ b, kd b ≠ 12 → kd b ≠ 579 → kd b ≠ 581 → kd b ≠ 583 → kd b ≠ 585 → kd b ≠ 587 → kd b ≠ 588 → kd b ≠ 589 → kd b ≠ 590 → kd b ≠ 591 → kd b ≠ 592 → kd b ≠ 593 → kd b ≠ 603 → f_60 b = f b := fun b q12 q579 q581 q583 q585 q587 q588 q589 q590 q591 q592 q593 q603 => (hkc_61 b q12 q579 q581 q583 q585 q587 q588 q589 q590 q591 q592 q593 q603).trans (hfr0 b q12 q579 q581 q583 q585 q587 q588 q589 q590 q591 q592 q593 q603)
  have hrA12 : ∀ b, kd b = 12 → ∀ j, fldR (f_60 b) j = fldR (f b) j := fun b kb j => (hra_62 b kb j).trans (hrA12 b kb j)
  have hfA12 : ∀ b, kd b = 12 → ∀ j, j ≠ 5 → j ≠ 23 → j ≠ 25 → j ≠ 27 → j ≠ 29 → j ≠ 32 → fldI (f_60 b) j = fldI (f b) j := fun b kb j n5 n23 n25 n27 n29 n32 => (hfa_63 b kb j n5 n23 n25 n27 n29 n32).trans (hfA12 b kb j n5 n23 n25 n27 n29 n32)
  obtain ⟨v_67, v_68, v_69, v_70, v_71, v_72, hfo_73, fa_74⟩ := op12_5_23_25_27_29_32 hfo_57 (hG _ mo0) ko0 (hra_62 o0 ko0) (hfa_63 o0 ko0)
  have bv_67 : (0 ≤ v_67.toInt ∧ v_67.toInt ≤ 600) := fa12_5 fa_74
  have bv_68 : (0 ≤ v_68.toInt ∧ v_68.toInt ≤ 12) := fa12_23 fa_74
  have bv_69 : (0 ≤ v_69.toInt ∧ v_69.toInt ≤ 4) := fa12_25 fa_74
  have bv_70 : (0 ≤ v_70.toInt ∧ v_70.toInt ≤ 1) := fa12_27 fa_74
  have bv_71 : (0 ≤ v_71.toInt ∧ v_71.toInt ≤ 201) := fa12_29 fa_74
  have bv_72 : (0 ≤ v_72.toInt ∧ v_72.toInt ≤ 6561) := fa12_32 fa_74
  have hqhpost_64 := hpost_64 v_6 v_67 v_30 v_71 (by rw [hfo_57]; rfl) (by rw [hfo_57]; rfl) (by rw [hfo_73]; rfl) (by rw [hfo_73]; rfl)
  try rw [ti_0] at hqhpost_64
  exact W.iret (v := x_59) hx hb hr (fun t ht hW => ⟨⟨x_59, f_60, rfl, ⟨hG, (by constructor <;> omega), hfr0, hrA12, hfA12, (by intro w5 z5 w29 z29 e5 e29 d5 d29; rw [hfo_57] at e5 e29; rw [hfo_73] at d5 d29; obtain rfl := Option.some.inj e5; obtain rfl := Option.some.inj d5; obtain rfl := Option.some.inj e29; obtain rfl := Option.some.inj d29; omega), hTc_65⟩, by rw [ht]; exact hP, va_K.moved hW.alike hK, pl_in hD⟩, hS.F ht⟩) hS.2.2 dX12_say_5
set_option maxHeartbeats 8000000 in
set_option maxRecDepth 100000 in
theorem s_X12_hear_k12 (l : Launch) (D : va_G) (cI cL cZ cR cG cH : ClassId) (Z : zT) (kd : Nat → Nat) (L : List Nat) (f : Nat → va_E) (hG : GI (okc cI cL cZ cR cG cH L kd) kd L f) (o0 : Nat) (mo0 : o0 ∈ L) (ko0 : kd o0 = 12) (hxtr0 : srel kd 592 f o0) : mPI l D cI cL cZ cR cG cH Z yX12_hear cX12_hear 1 (some .int) 24 676 [.ref o0] L f (fun (r : Int32) (f9 : Nat → va_E) => GI (okc cI cL cZ cR cG cH L kd) kd L f9 ∧ ((-2147483648) ≤ r.toInt ∧ r.toInt ≤ 2147483647) ∧ (∀ b, kd b ≠ 12 → kd b ≠ 579 → kd b ≠ 581 → kd b ≠ 583 → kd b ≠ 585 → kd b ≠ 587 → kd b ≠ 588 → kd b ≠ 589 → kd b ≠ 590 → kd b ≠ 591 → kd b ≠ 592 → kd b ≠ 593 → kd b ≠ 603 → f9 b = f b) ∧ (∀ b, kd b = 12 → ∀ j, fldR (f9 b) j = fldR (f b) j) ∧ (∀ b, kd b = 12 → ∀ j, j ≠ 5 → j ≠ 23 → j ≠ 25 → j ≠ 27 → j ≠ 29 → j ≠ 32 → fldI (f9 b) j = fldI (f b) j) ∧ (∀ (w5 z5 : Int32) (w29 z29 : Int32), fldI (f o0) 5 = some w5 → fldI (f o0) 29 = some w29 → fldI (f9 o0) 5 = some z5 → fldI (f9 o0) 29 = some z29 → z5.toInt = 0 ∧ z29.toInt ≤ 200) ∧ (srel kd 592 f9 o0)) := by
  obtain ⟨dC, dI⟩ := D
  refine Met.ofW (cc := cX12_hear) (maxL := 1) (ret := (some .int)) (by decide) rfl ?_
  intro p e s m args below meth c s₁ B hml hv
  obtain ⟨rfl, hP, hK, hD0, hN, hZ⟩ := hv
  have hx := B.exec
  have hb := B.bytes
  have hr := B.returns
  have hU : ∀ w ∈ wsU, w.before _ s = true := fun w h => atoms_spec (ws := wU yX12_hear cX12_hear 1 (some .int)) B.pre w (List.mem_cons_of_mem _ h)
  have hown : s.vm.findClass RX12 = some m.cls := findClass_of_methodNamed B.named
  have hlocks := B.notSynchronized
  have hD := pl_in hD0
  have hS : va_S (fun q => q ∈ L) s.heap s.heap [] := va_S.rf
  have hl := lv_entry ([.ref o0]) (n := 1) (Nat.le_of_ble_eq_true rfl)
  rw [lg_entry_eq]
  generalize (lg_sl ([.ref o0]) ++ List.replicate (1 - (lg_sl ([.ref o0])).length) Slot.unset).toArray = ls at hl ⊢
  have hl : lv_has ls 1 [(0, .ref o0)] := hl
  have hfr0 : ∀ b, kd b ≠ 12 → kd b ≠ 579 → kd b ≠ 581 → kd b ≠ 583 → kd b ≠ 585 → kd b ≠ 587 → kd b ≠ 588 → kd b ≠ 589 → kd b ≠ 590 → kd b ≠ 591 → kd b ≠ 592 → kd b ≠ 593 → kd b ≠ 603 → f b = f b := fun _ _ _ _ _ _ _ _ _ _ _ _ _ _ => rfl
  have hrA12 : ∀ b, kd b = 12 → ∀ j, fldR (f b) j = fldR (f b) j := fun _ _ _ => rfl
  have hfA12 : ∀ b, kd b = 12 → ∀ j, j ≠ 5 → j ≠ 23 → j ≠ 25 → j ≠ 27 → j ≠ 29 → j ≠ 32 → fldI (f b) j = fldI (f b) j := fun _ _ _ _ _ _ _ _ _ => rfl
  obtain ⟨a_1, a_2, a_3, v_4, a_5, v_6, v_7, v_8, v_9, v_10, v_11, v_12, v_13, v_14, v_15, a_16, a_17, a_18, a_19, a_20, a_21, a_22, a_23, v_24, v_25, v_26, v_27, v_28, a_29, v_30, a_31, a_32, v_33, v_34, a_35, v_36, a_37, a_38, v_39, v_40, a_41, a_42, a_43, v_44, a_45, a_46, a_47, a_48, a_49, a_50, a_51, a_52, a_53, v_54, v_55, a_56, hfo_57, fa_58⟩ := un12 (hG _ mo0) ko0
  have bv_6 : (0 ≤ v_6.toInt ∧ v_6.toInt ≤ 600) := fa12_5 fa_58
  have bv_30 : (0 ≤ v_30.toInt ∧ v_30.toInt ≤ 201) := fa12_29 fa_58
  have hT0 := hxtr0
  refine lv_aload_n hx hb dX12_hear_0 rfl (lv_at hl 0 rfl) ?_
  refine lv_iconst (v := 1) hx hb dX12_hear_1 (by decide) ?_
  refine tk_ViP (As := [.int 1]) (rest := []) (n := 1) hx hb hml hown hU hN hZ (s_X12_words_k12 l (dC, dI) cI cL cZ cR cG cH Z kd L f hG o0 mo0 ko0 1 (by decide) hT0) wd_859 wd_860 wd_861 wd_5 wd_862 (by decide +kernel) ⟨Nat.le_of_ble_eq_true rfl, Nat.le_of_ble_eq_true rfl⟩ hK hP hD hS mo0 hfo_57 12 rfl rfl rfl hl.1 rfl (Nat.le_of_ble_eq_true rfl) dX12_hear_2 ⟨Nat.le_of_ble_eq_true rfl, Nat.le_of_ble_eq_true rfl⟩ (fun x_59 f_60 H locs hw hP hD hS => ?_)
  obtain ⟨hG, bx_59, hkc_61, hra_62, hfa_63, hpost_64, hTc_65⟩ := hw
  have hfr0 : ∀ b, kd b ≠ 12 → kd b ≠ 579 → kd b ≠ 581 → kd b ≠ 583 → kd b ≠ 585 → kd b ≠ 587 → kd b ≠ 588 → kd b ≠ 589 → kd b ≠ 590 → kd b ≠ 591 → kd b ≠ 592 → kd b ≠ 593 → kd b ≠ 603 → f_60 b = f b := fun b q12 q579 q581 q583 q585 q587 q588 q589 q590 q591 q592 q593 q603 => (hkc_61 b q12 q579 q581 q583 q585 q587 q588 q589 q590 q591 q592 q593 q603).trans (hfr0 b q12 q579 q581 q583 q585 q587 q588 q589 q590 q591 q592 q593 q603)
  have hrA12 : ∀ b, kd b = 12 → ∀ j, fldR (f_60 b) j = fldR (f b) j := fun b kb j => (hra_62 b kb j).trans (hrA12 b kb j)
  have hfA12 : ∀ b, kd b = 12 → ∀ j, j ≠ 5 → j ≠ 23 → j ≠ 25 → j ≠ 27 → j ≠ 29 → j ≠ 32 → fldI (f_60 b) j = fldI (f b) j := fun b kb j n5 n23 n25 n27 n29 n32 => (hfa_63 b kb j n5 n23 n25 n27 n29 n32).trans (hfA12 b kb j n5 n23 n25 n27 n29 n32)
  obtain ⟨v_67, v_68, v_69, v_70, v_71, v_72, hfo_73, fa_74⟩ := op12_5_23_25_27_29_32 hfo_57 (hG _ mo0) ko0 (hra_62 o0 ko0) (hfa_63 o0 ko0)
  have bv_67 : (0 ≤ v_67.toInt ∧ v_67.toInt ≤ 600) := fa12_5 fa_74
  have bv_68 : (0 ≤ v_68.toInt ∧ v_68.toInt ≤ 12) := fa12_23 fa_74
  have bv_69 : (0 ≤ v_69.toInt ∧ v_69.toInt ≤ 4) := fa12_25 fa_74
  have bv_70 : (0 ≤ v_70.toInt ∧ v_70.toInt ≤ 1) := fa12_27 fa_74
  have bv_71 : (0 ≤ v_71.toInt ∧ v_71.toInt ≤ 201) := fa12_29 fa_74
  have bv_72 : (0 ≤ v_72.toInt ∧ v_72.toInt ≤ 6561) := fa12_32 fa_74
  have hqhpost_64 := hpost_64 v_6 v_67 v_30 v_71 (by rw [hfo_57]; rfl) (by rw [hfo_57]; rfl) (by rw [hfo_73]; rfl) (by rw [hfo_73]; rfl)
  try rw [ti_1] at hqhpost_64
  exact W.iret (v := x_59) hx hb hr (fun t ht hW => ⟨⟨x_59, f_60, rfl, ⟨hG, (by constructor <;> omega), hfr0, hrA12, hfA12, (by intro w5 z5 w29 z29 e5 e29 d5 d29; rw [hfo_57] at e5 e29; rw [hfo_73] at d5 d29; obtain rfl := Option.some.inj e5; obtain rfl := Option.some.inj d5; obtain rfl := Option.some.inj e29; obtain rfl := Option.some.inj d29; omega), hTc_65⟩, by rw [ht]; exact hP, va_K.moved hW.alike hK, pl_in hD⟩, hS.F ht⟩) hS.2.2 dX12_hear_5
set_option maxHeartbeats 8000000 in
set_option maxRecDepth 100000 in
theorem s_X12_found_k12 (l : Launch) (D : va_G) (cI cL cZ cR cG cH : ClassId) (Z : zT) (kd : Nat → Nat) (L : List Nat) (f : Nat → va_E) (hG : GI (okc cI cL cZ cR cG cH L kd) kd L f) (o0 : Nat) (mo0 : o0 ∈ L) (ko0 : kd o0 = 12) (p1 : Int32) (p2 : Int32) : mPI l D cI cL cZ cR cG cH Z yX12_found cX12_found 9 (some .int) 1 22 [.ref o0, .int p1, .int p2] L f (fun (r : Int32) (f9 : Nat → va_E) => f = f9 ∧ ((-2147483648) ≤ r.toInt ∧ r.toInt ≤ 2147483647)) := by
  obtain ⟨dC, dI⟩ := D
  refine Met.ofW (cc := cX12_found) (maxL := 9) (ret := (some .int)) (by decide) rfl ?_
  intro p e s m args below meth c s₁ B hml hv
  obtain ⟨rfl, hP, hK, hD0, hN, hZ⟩ := hv
  have hx := B.exec
  have hb := B.bytes
  have hr := B.returns
  have hU : ∀ w ∈ wsU, w.before _ s = true := fun w h => atoms_spec (ws := wU yX12_found cX12_found 9 (some .int)) B.pre w (List.mem_cons_of_mem _ h)
  have hown : s.vm.findClass RX12 = some m.cls := findClass_of_methodNamed B.named
  have hlocks := B.notSynchronized
  have hD := pl_in hD0
  have hS : va_S (fun q => q ∈ L) s.heap s.heap [] := va_S.rf
  have hl := lv_entry ([.ref o0, .int p1, .int p2]) (n := 9) (Nat.le_of_ble_eq_true rfl)
  rw [lg_entry_eq]
  generalize (lg_sl ([.ref o0, .int p1, .int p2]) ++ List.replicate (9 - (lg_sl ([.ref o0, .int p1, .int p2])).length) Slot.unset).toArray = ls at hl ⊢
  have hl : lv_has ls 9 [(0, .ref o0), (1, .int p1), (2, .int p2)] := hl
  have bp1 : ((-2147483648) ≤ p1.toInt ∧ p1.toInt ≤ 2147483647) := ⟨i32_lo _, i32_hi _⟩
  have bp2 : ((-2147483648) ≤ p2.toInt ∧ p2.toInt ≤ 2147483647) := ⟨i32_lo _, i32_hi _⟩
  refine lv_iload_n hx hb dX12_found_0 rfl (lv_at hl 1 rfl) ?_
  refine lv_iconst (v := 0) hx hb dX12_found_1 (by decide) ?_
  refine lv_aload_n hx hb dX12_found_2 rfl (lv_at hl 0 rfl) ?_
  obtain ⟨a_1, a_2, a_3, v_4, a_5, v_6, v_7, v_8, v_9, v_10, v_11, v_12, v_13, v_14, v_15, a_16, a_17, a_18, a_19, a_20, a_21, a_22, a_23, v_24, v_25, v_26, v_27, v_28, a_29, v_30, a_31, a_32, v_33, v_34, a_35, v_36, a_37, a_38, v_39, v_40, a_41, a_42, a_43, v_44, a_45, a_46, a_47, a_48, a_49, a_50, a_51, a_52, a_53, v_54, v_55, a_56, hfo_57, fa_58⟩ := un12 (hG _ mo0) ko0
  obtain ⟨ma_29, ka_29⟩ := fa12_28 fa_58
  have bv_30 : (0 ≤ v_30.toInt ∧ v_30.toInt ≤ 201) := fa12_29 fa_58
  refine tk_getP (D := (dC, dI)) (ci := 12) (v := .int v_30) (C := RX12) (T := TX12) (N := 56) hx hb hU inlX12 hown hK hP mo0 hfo_57 rfl 29 (by decide) (hU _ wd_570) (fun _ h9 => h9) rfl dX12_found_3 ?_
  refine lv_iconst (v := 1) hx hb dX12_found_6 (by decide) ?_
  refine lv_isub hx hb dX12_found_7 ?_
  refine lv_topi (fun x_59 ex_59 => ?_)
  have hx_59 : x_59.toInt = v_30.toInt - 1 := by rw [ex_59, sb_I (by rw [ti_1]; omega) (by rw [ti_1]; omega), ti_1]
  have bx_59 : ((-1) ≤ x_59.toInt ∧ x_59.toInt ≤ 200) := by constructor <;> omega
  refine tk_SiP (As := [.int p1, .int 0, .int x_59]) (rest := []) (n := 3) hx hb hml hown hU hN hZ (s_X12_isIn l (dC, dI) cI cL cZ cR cG cH Z kd L f hG p1 0 x_59) wd_227 wd_228 wd_5 wd_229 (by decide +kernel) ⟨Nat.le_of_ble_eq_true rfl, Nat.le_of_ble_eq_true rfl⟩ hK hP hD hS rfl hl.1 rfl (Nat.le_of_ble_eq_true rfl) dX12_found_8 ⟨Nat.le_of_ble_eq_true rfl, Nat.le_of_ble_eq_true rfl⟩ (fun x_60 f_61 H locs hw hP hD hS => ?_)
  obtain ⟨rfl, bx_60, relx_60⟩ := hw
  try rw [ti_0] at relx_60
  refine lv_if_eq (tgt := 24) hx hb dX12_found_11 (by decide) (fun c_63 => ?_) (fun c_63 => ?_)
  · skip
    rw [← Int32.toInt_inj, ti_0] at c_63
    refine lv_iconst (v := (-1)) hx hb dX12_found_24 (by decide) ?_
    exact W.iret (v := (-1)) hx hb hr (fun t ht hW => ⟨⟨(-1), f, rfl, ⟨rfl, (by decide)⟩, by rw [ht]; exact hP, va_K.moved hW.alike hK, pl_in hD⟩, hS.F ht⟩) hS.2.2 dX12_found_25
  · skip
    rw [← Int32.toInt_inj, ti_0] at c_63
    refine lv_iload_n hx hb dX12_found_14 rfl (lv_at hl 2 rfl) ?_
    refine lv_iconst (v := (-1)) hx hb dX12_found_15 (by decide) ?_
    refine lv_bipush (v := 9) hx hb dX12_found_16 (by decide) ?_
    refine tk_SiP (As := [.int p2, .int (-1), .int 9]) (rest := []) (n := 3) hx hb hml hown hU hN hZ (s_X12_isIn l (dC, dI) cI cL cZ cR cG cH Z kd L f hG p2 (-1) 9) wd_227 wd_228 wd_5 wd_229 (by decide +kernel) ⟨Nat.le_of_ble_eq_true rfl, Nat.le_of_ble_eq_true rfl⟩ hK hP hD hS rfl hl.1 rfl (Nat.le_of_ble_eq_true rfl) dX12_found_18 ⟨Nat.le_of_ble_eq_true rfl, Nat.le_of_ble_eq_true rfl⟩ (fun x_64 f_65 H locs hw hP hD hS => ?_)
    obtain ⟨rfl, bx_64, relx_64⟩ := hw
    try rw [ti_m1] at relx_64
    try rw [ti_9] at relx_64
    refine lv_if_ne (tgt := 26) hx hb dX12_found_21 (by decide) (fun c_67 => ?_) (fun c_67 => ?_)
    · skip
      rw [← Int32.toInt_inj, ti_0] at c_67
      refine lv_aload_n hx hb dX12_found_26 rfl (lv_at hl 0 rfl) ?_
      refine tk_getP (D := (dC, dI)) (ci := 12) (v := .ref a_29) (C := RX12) (T := TX12) (N := 56) hx hb hU inlX12 hown hK hP mo0 hfo_57 rfl 28 (by decide) (hU _ wd_183) (fun _ h9 => h9) rfl dX12_found_27 ?_
      refine lv_iload_n hx hb dX12_found_30 rfl (lv_at hl 1 rfl) ?_
      obtain ⟨g_69, hfo_68⟩ := un_591 (hG _ ma_29) ka_29
      refine tk_lldP hx hb hK hP 1 ma_29 hfo_68 rfl (vp_in_iff.mpr (by constructor <;> omega)) dX12_found_31 ?_
      refine lv_topl (fun j_70 ej_70 => ?_)
      refine lv_lstore_n (lv' := [(3, .long j_70), (0, .ref o0), (1, .int p1), (2, .int p2)]) hx hb dX12_found_32 rfl hl (by decide) rfl (fun ls hl => ?_)
      refine lv_iconst (v := 0) hx hb dX12_found_33 (by decide) ?_
      refine lv_istore (lv' := [(5, .int 0), (3, .long j_70), (0, .ref o0), (1, .int p1), (2, .int p2)]) hx hb dX12_found_34 hl (by decide) rfl (fun ls hl => ?_)
      refine lv_iconst (v := (-1)) hx hb dX12_found_36 (by decide) ?_
      refine lv_istore (lv' := [(6, .int (-1)), (5, .int 0), (3, .long j_70), (0, .ref o0), (1, .int p1), (2, .int p2)]) hx hb dX12_found_37 hl (by decide) rfl (fun ls hl => ?_)
      refine lv_bipush (v := 9) hx hb dX12_found_39 (by decide) ?_
      refine lv_istore (lv' := [(7, .int 9), (6, .int (-1)), (5, .int 0), (3, .long j_70), (0, .ref o0), (1, .int p1), (2, .int p2)]) hx hb dX12_found_41 hl (by decide) rfl (fun ls hl => ?_)
      have hloop_86 : ∀ (n : Nat), ∀ (y_87 : Int32), ((-1) ≤ y_87.toInt ∧ y_87.toInt ≤ 9) → ∀ (y_88 : Int32), ((-2147483648) ≤ y_88.toInt ∧ y_88.toInt ≤ 2147483647) → ∀ (y_89 : Int32), ((-2147483648) ≤ y_89.toInt ∧ y_89.toInt ≤ 2147483647) → ∀ (y_90 : Int64), y_87.toInt - (-1) < (n : Int) → ∀ (ls : Array Slot), lv_has ls 9 [(7, .int y_87), (6, .int y_88), (5, .int y_89), (3, .long y_90), (0, .ref o0), (1, .int p1), (2, .int p2)] → W p l e (headSpec (wU yX12_found cX12_found 9 (some .int)) { frames := 1, cells := 0, slots := 0, locals := 22 }).room s m [.ref o0, .int p1, .int p2].toArray below meth c H locs 0 0 (MQ below (va_Qi (fun (r : Int32) (f9 : Nat → va_E) => f = f9 ∧ ((-2147483648) ≤ r.toInt ∧ r.toInt ≤ 2147483647)) (qP (dC, dI) cI cL cZ cR cG cH L) (fun q => q ∈ L)) [.ref o0, .int p1, .int p2].toArray s 0 0 (fun q => q ∈ L)) (F0 m 43 ls []) := by
        intro n
        induction n with
        | zero => intro y_87 by_87 y_88 by_88 y_89 by_89 y_90 hmuhloop_86 ls hl; exfalso; omega
        | succ n ih_hloop_86 =>
          intro y_87 by_87 y_88 by_88 y_89 by_89 y_90 hmuhloop_86 ls hl
          refine lv_iload hx hb dX12_found_43 (lv_at hl 0 rfl) ?_
          refine lv_if_lt (tgt := 100) hx hb dX12_found_45 (by decide) (fun c_91 => ?_) (fun c_91 => ?_)
          · skip
            rw [Int32.lt_iff_toInt_lt, ti_0] at c_91
            refine lv_iload_n hx hb dX12_found_100 rfl (lv_at hl 6 rfl) ?_
            refine lv_iconst (v := (-1)) hx hb dX12_found_101 (by decide) ?_
            refine lv_icmp_ne (tgt := 110) hx hb dX12_found_102 (by decide) (fun c_92 => ?_) (fun c_92 => ?_)
            · skip
              rw [← Int32.toInt_inj, ti_m1] at c_92
              refine lv_iload hx hb dX12_found_110 (lv_at hl 1 rfl) ?_
              exact W.iret (v := y_88) hx hb hr (fun t ht hW => ⟨⟨y_88, f, rfl, ⟨rfl, (by constructor <;> omega)⟩, by rw [ht]; exact hP, va_K.moved hW.alike hK, pl_in hD⟩, hS.F ht⟩) hS.2.2 dX12_found_112
            · skip
              rw [← Int32.toInt_inj, ti_m1] at c_92
              refine lv_iload hx hb dX12_found_105 (lv_at hl 2 rfl) ?_
              refine lv_goto (tgt := 112) hx hb dX12_found_107 (by decide) ?_
              exact W.iret (v := y_89) hx hb hr (fun t ht hW => ⟨⟨y_89, f, rfl, ⟨rfl, (by constructor <;> omega)⟩, by rw [ht]; exact hP, va_K.moved hW.alike hK, pl_in hD⟩, hS.F ht⟩) hS.2.2 dX12_found_112
          · skip
            rw [Int32.lt_iff_toInt_lt, ti_0] at c_91
            refine lv_lload_n hx hb dX12_found_48 rfl (lv_at hl 3 rfl) ?_
            refine lv_ldc2 (v := 9) hx hb hown (hU _ wd_915) dX12_found_49 ?_
            refine lv_lrem hx hb dX12_found_52 (by decide) ?_
            refine lv_topl (fun j_93 ej_93 => ?_)
            refine lv_l2i hx hb dX12_found_53 rfl ?_
            refine lv_topi (fun x_94 ex_94 => ?_)
            have bx_94 : ((-2147483648) ≤ x_94.toInt ∧ x_94.toInt ≤ 2147483647) := ⟨i32_lo _, i32_hi _⟩
            refine lv_istore (lv' := [(8, .int x_94), (7, .int y_87), (6, .int y_88), (5, .int y_89), (3, .long y_90), (0, .ref o0), (1, .int p1), (2, .int p2)]) hx hb dX12_found_54 hl (by decide) rfl (fun ls hl => ?_)
            refine lv_lload_n hx hb dX12_found_56 rfl (lv_at hl 4 rfl) ?_
            refine lv_ldc2 (v := 9) hx hb hown (hU _ wd_915) dX12_found_57 ?_
            refine lv_ldiv hx hb dX12_found_60 (by decide) ?_
            refine lv_topl (fun j_95 ej_95 => ?_)
            refine lv_lstore_n (lv' := [(3, .long j_95), (8, .int x_94), (7, .int y_87), (6, .int y_88), (5, .int y_89), (0, .ref o0), (1, .int p1), (2, .int p2)]) hx hb dX12_found_61 rfl hl (by decide) rfl (fun ls hl => ?_)
            refine lv_iload hx hb dX12_found_62 (lv_at hl 4 rfl) ?_
            refine lv_iload hx hb dX12_found_64 (lv_at hl 1 rfl) ?_
            have hcut_97 : ∀ (y_96 : Int32), (0 ≤ y_96.toInt ∧ y_96.toInt ≤ 1) → ∀ (ls : Array Slot), lv_has ls 9 [(3, .long j_95), (8, .int x_94), (7, .int y_87), (6, .int y_88), (5, .int y_89), (0, .ref o0), (1, .int p1), (2, .int p2)] → W p l e (headSpec (wU yX12_found cX12_found 9 (some .int)) { frames := 1, cells := 0, slots := 0, locals := 22 }).room s m [.ref o0, .int p1, .int p2].toArray below meth c H locs 0 0 (MQ below (va_Qi (fun (r : Int32) (f9 : Nat → va_E) => f = f9 ∧ ((-2147483648) ≤ r.toInt ∧ r.toInt ≤ 2147483647)) (qP (dC, dI) cI cL cZ cR cG cH L) (fun q => q ∈ L)) [.ref o0, .int p1, .int p2].toArray s 0 0 (fun q => q ∈ L)) (F0 m 74 ls [.int y_96, .int y_89]) := by
              intro y_96 by_96 ls hl
              refine lv_iadd hx hb dX12_found_74 ?_
              refine lv_topi (fun x_98 ex_98 => ?_)
              have bx_98 : ((-2147483648) ≤ x_98.toInt ∧ x_98.toInt ≤ 2147483647) := ⟨i32_lo _, i32_hi _⟩
              refine lv_istore (lv' := [(5, .int x_98), (3, .long j_95), (8, .int x_94), (7, .int y_87), (6, .int y_88), (0, .ref o0), (1, .int p1), (2, .int p2)]) hx hb dX12_found_75 hl (by decide) rfl (fun ls hl => ?_)
              refine lv_iload hx hb dX12_found_77 (lv_at hl 3 rfl) ?_
              refine lv_iload_n hx hb dX12_found_79 rfl (lv_at hl 7 rfl) ?_
              have hcut_100 : ∀ (y_99 : Int32), ((-2147483648) ≤ y_99.toInt ∧ y_99.toInt ≤ 2147483647) → ∀ (ls : Array Slot), lv_has ls 9 [(5, .int x_98), (3, .long j_95), (8, .int x_94), (7, .int y_87), (6, .int y_99), (0, .ref o0), (1, .int p1), (2, .int p2)] → W p l e (headSpec (wU yX12_found cX12_found 9 (some .int)) { frames := 1, cells := 0, slots := 0, locals := 22 }).room s m [.ref o0, .int p1, .int p2].toArray below meth c H locs 0 0 (MQ below (va_Qi (fun (r : Int32) (f9 : Nat → va_E) => f = f9 ∧ ((-2147483648) ≤ r.toInt ∧ r.toInt ≤ 2147483647)) (qP (dC, dI) cI cL cZ cR cG cH L) (fun q => q ∈ L)) [.ref o0, .int p1, .int p2].toArray s 0 0 (fun q => q ∈ L)) (F0 m 94 ls []) := by
                intro y_99 by_99 ls hl
                obtain ⟨x_101, ex_101⟩ : ∃ y : Int32, y_87 + (-1) = y := ⟨_, rfl⟩
                have hx_101 : x_101.toInt = y_87.toInt + (-1) := by rw [← ex_101, ad_I (by rw [ti_m1]; omega) (by rw [ti_m1]; omega), ti_m1]
                have bx_101 : ((-1) ≤ x_101.toInt ∧ x_101.toInt ≤ 8) := by constructor <;> omega
                refine lv_iinc (v := x_101) (lv' := [(7, .int x_101), (5, .int x_98), (3, .long j_95), (8, .int x_94), (6, .int y_99), (0, .ref o0), (1, .int p1), (2, .int p2)]) hx hb dX12_found_94 hl (k := 3) rfl ex_101 (by decide) rfl (fun ls hl => ?_)
                refine lv_goto (tgt := 43) hx hb dX12_found_97 (by decide) ?_
                exact ih_hloop_86 x_101 (by constructor <;> omega) y_99 (by constructor <;> omega) x_98 (by constructor <;> omega) (j_95) (by omega) ls (lv_sub hl [0, 4, 1, 2, 5, 6, 7] rfl)
              refine lv_icmp_ne (tgt := 94) hx hb dX12_found_80 (by decide) (fun c_102 => ?_) (fun c_102 => ?_)
              · skip
                rw [← Int32.toInt_inj] at c_102
                exact hcut_100 y_88 (by constructor <;> omega) ls (lv_sub hl [0, 1, 2, 3, 4, 5, 6, 7] rfl)
              · skip
                rw [← Int32.toInt_inj] at c_102
                refine lv_iload hx hb dX12_found_83 (lv_at hl 2 rfl) ?_
                refine lv_if_le (tgt := 94) hx hb dX12_found_85 (by decide) (fun c_103 => ?_) (fun c_103 => ?_)
                · skip
                  rw [Int32.le_iff_toInt_le, ti_0] at c_103
                  exact hcut_100 y_88 (by constructor <;> omega) ls (lv_sub hl [0, 1, 2, 3, 4, 5, 6, 7] rfl)
                · skip
                  rw [Int32.le_iff_toInt_le, ti_0] at c_103
                  refine lv_iload hx hb dX12_found_88 (lv_at hl 2 rfl) ?_
                  refine lv_iconst (v := 1) hx hb dX12_found_90 (by decide) ?_
                  refine lv_isub hx hb dX12_found_91 ?_
                  refine lv_topi (fun x_104 ex_104 => ?_)
                  have hx_104 : x_104.toInt = x_94.toInt - 1 := by rw [ex_104, sb_I (by rw [ti_1]; omega) (by rw [ti_1]; omega), ti_1]
                  have bx_104 : (0 ≤ x_104.toInt ∧ x_104.toInt ≤ 2147483646) := by constructor <;> omega
                  refine lv_istore (lv' := [(6, .int x_104), (5, .int x_98), (3, .long j_95), (8, .int x_94), (7, .int y_87), (0, .ref o0), (1, .int p1), (2, .int p2)]) hx hb dX12_found_92 hl (by decide) rfl (fun ls hl => ?_)
                  exact hcut_100 x_104 (by constructor <;> omega) ls (lv_sub hl [1, 2, 3, 4, 0, 5, 6, 7] rfl)
            refine lv_if_le (tgt := 73) hx hb dX12_found_66 (by decide) (fun c_105 => ?_) (fun c_105 => ?_)
            · skip
              rw [Int32.le_iff_toInt_le, ti_0] at c_105
              refine lv_iconst (v := 0) hx hb dX12_found_73 (by decide) ?_
              exact hcut_97 0 (by decide) ls (lv_sub hl [0, 1, 2, 3, 4, 5, 6, 7] rfl)
            · skip
              rw [Int32.le_iff_toInt_le, ti_0] at c_105
              refine lv_iconst (v := 1) hx hb dX12_found_69 (by decide) ?_
              refine lv_goto (tgt := 74) hx hb dX12_found_70 (by decide) ?_
              exact hcut_97 1 (by decide) ls (lv_sub hl [0, 1, 2, 3, 4, 5, 6, 7] rfl)
      exact hloop_86 11 9 (by decide) (-1) (by decide) 0 (by decide) (j_70) (by (try rw [ti_9]) <;> (try rw [ti_m1]) <;> (try rw [ti_0]) <;> omega) ls hl
    · skip
      rw [← Int32.toInt_inj, ti_0] at c_67
      refine lv_iconst (v := (-1)) hx hb dX12_found_24 (by decide) ?_
      exact W.iret (v := (-1)) hx hb hr (fun t ht hW => ⟨⟨(-1), f, rfl, ⟨rfl, (by decide)⟩, by rw [ht]; exact hP, va_K.moved hW.alike hK, pl_in hD⟩, hS.F ht⟩) hS.2.2 dX12_found_25
set_option maxHeartbeats 8000000 in
set_option maxRecDepth 100000 in
theorem s_X12_aligns_k12 (l : Launch) (D : va_G) (cI cL cZ cR cG cH : ClassId) (Z : zT) (kd : Nat → Nat) (L : List Nat) (n_ : Nat) (f : Nat → va_E) (hG : GI (okc cI cL cZ cR cG cH L kd) kd L f) (o0 : Nat) (mo0 : o0 ∈ L) (ko0 : kd o0 = 12) (p1 : Int32) (bp1 : (0 ≤ p1.toInt ∧ p1.toInt ≤ 12)) (p2 : Int32) (bp2 : (0 ≤ p2.toInt ∧ p2.toInt ≤ 8)) (p3 : Int32) (bp3 : (0 ≤ p3.toInt ∧ p3.toInt ≤ 1)) (p4 : Int32) (bp4 : (0 ≤ p4.toInt ∧ p4.toInt ≤ 13)) (p5 : Int32) (hpreo0 : ∀ (w23 : Int32) (w35 : Int32), fldI (f o0) 23 = some w23 → fldI (f o0) 35 = some w35 → p1.toInt ≤ w23.toInt ∧ p2.toInt ≤ w35.toInt) (hxrel : p4.toInt ≤ p1.toInt + 1 - p3.toInt) (hrk : 13 - p4.toInt < (n_ : Int)) : mPI l D cI cL cZ cR cG cH Z yX12_aligns cX12_aligns 10 (some .boolean) (5 + n_) (129 + n_ * 29) [.ref o0, .int p1, .int p2, .int p3, .int p4, .int p5] L f (fun (r : Int32) (f9 : Nat → va_E) => GI (okc cI cL cZ cR cG cH L kd) kd L f9 ∧ (0 ≤ r.toInt ∧ r.toInt ≤ 1) ∧ (∀ b, kd b ≠ 579 → kd b ≠ 581 → kd b ≠ 583 → kd b ≠ 585 → kd b ≠ 587 → kd b ≠ 588 → f9 b = f b)) := by
  obtain ⟨dC, dI⟩ := D
  induction n_ generalizing f o0 mo0 ko0 p1 bp1 p2 bp2 p3 bp3 p4 bp4 p5 hpreo0 hxrel with
  | zero => exfalso; omega
  | succ n_ ih_ =>
    have ih_rec := ih_
    clear ih_
    refine Met.ofW (cc := cX12_aligns) (maxL := 10) (ret := (some .boolean)) (by decide) rfl ?_
    intro p e s m args below meth c s₁ B hml hv
    obtain ⟨rfl, hP, hK, hD0, hN, hZ⟩ := hv
    have hx := B.exec
    have hb := B.bytes
    have hr := B.returns
    have hU : ∀ w ∈ wsU, w.before _ s = true := fun w h => atoms_spec (ws := wU yX12_aligns cX12_aligns 10 (some .boolean)) B.pre w (List.mem_cons_of_mem _ h)
    have hown : s.vm.findClass RX12 = some m.cls := findClass_of_methodNamed B.named
    have hlocks := B.notSynchronized
    have hD := pl_in hD0
    have hS : va_S (fun q => q ∈ L) s.heap s.heap [] := va_S.rf
    have hl := lv_entry ([.ref o0, .int p1, .int p2, .int p3, .int p4, .int p5]) (n := 10) (Nat.le_of_ble_eq_true rfl)
    rw [lg_entry_eq]
    generalize (lg_sl ([.ref o0, .int p1, .int p2, .int p3, .int p4, .int p5]) ++ List.replicate (10 - (lg_sl ([.ref o0, .int p1, .int p2, .int p3, .int p4, .int p5])).length) Slot.unset).toArray = ls at hl ⊢
    have hl : lv_has ls 10 [(0, .ref o0), (1, .int p1), (2, .int p2), (3, .int p3), (4, .int p4), (5, .int p5)] := hl
    have bp5 : ((-2147483648) ≤ p5.toInt ∧ p5.toInt ≤ 2147483647) := ⟨i32_lo _, i32_hi _⟩
    have hfr0 : ∀ b, kd b ≠ 579 → kd b ≠ 581 → kd b ≠ 583 → kd b ≠ 585 → kd b ≠ 587 → kd b ≠ 588 → f b = f b := fun _ _ _ _ _ _ _ => rfl
    obtain ⟨a_1, a_2, a_3, v_4, a_5, v_6, v_7, v_8, v_9, v_10, v_11, v_12, v_13, v_14, v_15, a_16, a_17, a_18, a_19, a_20, a_21, a_22, a_23, v_24, v_25, v_26, v_27, v_28, a_29, v_30, a_31, a_32, v_33, v_34, a_35, v_36, a_37, a_38, v_39, v_40, a_41, a_42, a_43, v_44, a_45, a_46, a_47, a_48, a_49, a_50, a_51, a_52, a_53, v_54, v_55, a_56, hfo_57, fa_58⟩ := un12 (hG _ mo0) ko0
    obtain ⟨ma_1, ka_1⟩ := fa12_0 fa_58
    obtain ⟨ma_22, ka_22⟩ := fa12_21 fa_58
    have bv_24 : (0 ≤ v_24.toInt ∧ v_24.toInt ≤ 12) := fa12_23 fa_58
    obtain ⟨ma_35, ka_35⟩ := fa12_34 fa_58
    have bv_36 : (0 ≤ v_36.toInt ∧ v_36.toInt ≤ 8) := fa12_35 fa_58
    have hpo0 := hpreo0 v_24 v_36 (by rw [hfo_57]; rfl) (by rw [hfo_57]; rfl)
    refine lv_iload_n hx hb dX12_aligns_0 rfl (lv_at hl 1 rfl) ?_
    refine lv_aload_n hx hb dX12_aligns_1 rfl (lv_at hl 0 rfl) ?_
    refine tk_getP (D := (dC, dI)) (ci := 12) (v := .int v_24) (C := RX12) (T := TX12) (N := 56) hx hb hU inlX12 hown hK hP mo0 hfo_57 rfl 23 (by decide) (hU _ wd_867) (fun _ h9 => h9) rfl dX12_aligns_2 ?_
    refine lv_icmp_ne (tgt := 29) hx hb dX12_aligns_5 (by decide) (fun c_59 => ?_) (fun c_59 => ?_)
    · skip
      rw [← Int32.toInt_inj] at c_59
      refine lv_iconst (v := 0) hx hb dX12_aligns_29 (by decide) ?_
      refine lv_istore (lv' := [(6, .int 0), (0, .ref o0), (1, .int p1), (2, .int p2), (3, .int p3), (4, .int p4), (5, .int p5)]) hx hb dX12_aligns_30 hl (by decide) rfl (fun ls hl => ?_)
      have hloop_65 : ∀ (n : Nat), ∀ (y_66 : Int32), (0 ≤ y_66.toInt ∧ y_66.toInt ≤ 20) → ∀ (f_68 : Nat → va_E), GI (okc cI cL cZ cR cG cH L kd) kd L f_68 → ∀ (H : Heap) (locs : List Loc), va_P (dC, dI) vwCl (va_pl L f_68) H → va_S (fun q => q ∈ L) s.heap H locs → va_D (fun q => q ∈ L) (va_pl L f_68) → (∀ b, kd b ≠ 579 → kd b ≠ 581 → kd b ≠ 583 → kd b ≠ 585 → kd b ≠ 587 → kd b ≠ 588 → f_68 b = f b) → (f_68 o0 = .inr (12, [.ref a_1, .ref a_2, .ref a_3, .int v_4, .ref a_5, .int v_6, .int v_7, .int v_8, .int v_9, .int v_10, .int v_11, .int v_12, .int v_13, .int v_14, .int v_15, .ref a_16, .ref a_17, .ref a_18, .ref a_19, .ref a_20, .ref a_21, .ref a_22, .ref a_23, .int v_24, .int v_25, .int v_26, .int v_27, .int v_28, .ref a_29, .int v_30, .ref a_31, .ref a_32, .int v_33, .int v_34, .ref a_35, .int v_36, .ref a_37, .ref a_38, .int v_39, .int v_40, .ref a_41, .ref a_42, .ref a_43, .int v_44, .ref a_45, .ref a_46, .ref a_47, .ref a_48, .ref a_49, .ref a_50, .ref a_51, .ref a_52, .ref a_53, .int v_54, .int v_55, .ref a_56])) → 20 - y_66.toInt < (n : Int) → ∀ (ls : Array Slot), lv_has ls 10 [(6, .int y_66), (0, .ref o0), (1, .int p1), (2, .int p2), (3, .int p3), (4, .int p4), (5, .int p5)] → W p l e (headSpec (wU yX12_aligns cX12_aligns 10 (some .boolean)) { frames := 5 + (n_ + 1), cells := 0, slots := 0, locals := 129 + (n_ + 1) * 29 }).room s m [.ref o0, .int p1, .int p2, .int p3, .int p4, .int p5].toArray below meth c H locs 0 0 (MQ below (va_Qi (fun (r : Int32) (f9 : Nat → va_E) => GI (okc cI cL cZ cR cG cH L kd) kd L f9 ∧ (0 ≤ r.toInt ∧ r.toInt ≤ 1) ∧ (∀ b, kd b ≠ 579 → kd b ≠ 581 → kd b ≠ 583 → kd b ≠ 585 → kd b ≠ 587 → kd b ≠ 588 → f9 b = f b)) (qP (dC, dI) cI cL cZ cR cG cH L) (fun q => q ∈ L)) [.ref o0, .int p1, .int p2, .int p3, .int p4, .int p5].toArray s 0 0 (fun q => q ∈ L)) (F0 m 32 ls []) := by
        intro n
        induction n with
        | zero => intro y_66 by_66 f_68 hG H locs hP hS hD hfr0 hfo_69 hmuhloop_65 ls hl; exfalso; omega
        | succ n ih_hloop_65 =>
          intro y_66 by_66 f_68 hG H locs hP hS hD hfr0 hfo_69 hmuhloop_65 ls hl
          refine lv_iload hx hb dX12_aligns_32 (lv_at hl 0 rfl) ?_
          refine lv_aload_n hx hb dX12_aligns_34 rfl (lv_at hl 1 rfl) ?_
          refine tk_getP (D := (dC, dI)) (ci := 12) (v := .ref a_1) (C := RX12) (T := TX12) (N := 56) hx hb hU inlX12 hown hK hP mo0 hfo_69 rfl 0 (by decide) (hU _ wd_169) (fun _ h9 => h9) rfl dX12_aligns_35 ?_
          refine lv_bipush (v := 16) hx hb dX12_aligns_38 (by decide) ?_
          obtain ⟨g_71, hfo_70, hbg_71⟩ := un_575 (hG _ ma_1) ka_1
          refine tk_ildP hx hb hK hP 0 ma_1 hfo_70 rfl (vp_in_nI (n := 16) (by decide) (by decide)) dX12_aligns_40 ?_
          refine lv_topi (fun x_72 ex_72 => ?_)
          have bx_72 : (0 ≤ x_72.toInt ∧ x_72.toInt ≤ 20) := by rw [ex_72]; exact hbg_71.2.1 _ (by decide) (by decide) (by decide)
          refine lv_icmp_ge (tgt := 229) hx hb dX12_aligns_41 (by decide) (fun c_73 => ?_) (fun c_73 => ?_)
          · skip
            rw [Int32.le_iff_toInt_le] at c_73
            refine lv_iconst (v := 0) hx hb dX12_aligns_229 (by decide) ?_
            exact W.zret (v := 0) (ty := .boolean) hx hb hr rfl (fun t ht hW => ⟨⟨0, f_68, rfl, ⟨hG, (by decide), hfr0⟩, by rw [ht]; exact hP, va_K.moved hW.alike hK, pl_in hD⟩, hS.F ht⟩) hS.2.2 dX12_aligns_230
          · skip
            rw [Int32.le_iff_toInt_le] at c_73
            refine lv_aload_n hx hb dX12_aligns_44 rfl (lv_at hl 1 rfl) ?_
            refine tk_getP (D := (dC, dI)) (ci := 12) (v := .ref a_1) (C := RX12) (T := TX12) (N := 56) hx hb hU inlX12 hown hK hP mo0 hfo_69 rfl 0 (by decide) (hU _ wd_169) (fun _ h9 => h9) rfl dX12_aligns_45 ?_
            refine lv_bipush (v := 20) hx hb dX12_aligns_48 (by decide) ?_
            refine lv_iload hx hb dX12_aligns_50 (lv_at hl 0 rfl) ?_
            refine lv_iadd hx hb dX12_aligns_52 ?_
            refine lv_topi (fun x_74 ex_74 => ?_)
            have hx_74 : x_74.toInt = 20 + y_66.toInt := by rw [ex_74, ad_I (by rw [ti_20]; omega) (by rw [ti_20]; omega), ti_20]
            have bx_74 : (20 ≤ x_74.toInt ∧ x_74.toInt ≤ 39) := by constructor <;> omega
            refine tk_ildP hx hb hK hP 0 ma_1 hfo_70 rfl (vp_in_iff.mpr (by constructor <;> omega)) dX12_aligns_53 ?_
            refine lv_topi (fun x_75 ex_75 => ?_)
            have bx_75 : (0 ≤ x_75.toInt ∧ x_75.toInt ≤ 80) := by have hc9 := cl_I (i := x_74) (by omega); rw [ex_75]; exact hbg_71.2.2.2.2.2.1 _ (by omega) (by omega) (by omega)
            refine lv_bipush (v := 9) hx hb dX12_aligns_54 (by decide) ?_
            refine lv_idiv hx hb dX12_aligns_56 (by decide) ?_
            refine lv_topi (fun x_76 ex_76 => ?_)
            have hx_76 : x_76.toInt = x_75.toInt / 9 := by rw [ex_76, dv_I (by omega) (by rw [ti_9]; omega), ti_9]
            have bx_76 : (0 ≤ x_76.toInt ∧ x_76.toInt ≤ 8) := by constructor <;> omega
            refine lv_istore (lv' := [(7, .int x_76), (6, .int y_66), (0, .ref o0), (1, .int p1), (2, .int p2), (3, .int p3), (4, .int p4), (5, .int p5)]) hx hb dX12_aligns_57 hl (by decide) rfl (fun ls hl => ?_)
            refine lv_aload_n hx hb dX12_aligns_59 rfl (lv_at hl 2 rfl) ?_
            refine tk_getP (D := (dC, dI)) (ci := 12) (v := .ref a_1) (C := RX12) (T := TX12) (N := 56) hx hb hU inlX12 hown hK hP mo0 hfo_69 rfl 0 (by decide) (hU _ wd_169) (fun _ h9 => h9) rfl dX12_aligns_60 ?_
            refine lv_bipush (v := 20) hx hb dX12_aligns_63 (by decide) ?_
            refine lv_iload hx hb dX12_aligns_65 (lv_at hl 1 rfl) ?_
            refine lv_iadd hx hb dX12_aligns_67 ?_
            refine lv_topi (fun x_77 ex_77 => ?_)
            have hx_77 : x_77.toInt = 20 + y_66.toInt := by rw [ex_77, ad_I (by rw [ti_20]; omega) (by rw [ti_20]; omega), ti_20]
            have bx_77 : (20 ≤ x_77.toInt ∧ x_77.toInt ≤ 39) := by constructor <;> omega
            refine tk_ildP hx hb hK hP 0 ma_1 hfo_70 rfl (vp_in_iff.mpr (by constructor <;> omega)) dX12_aligns_68 ?_
            refine lv_topi (fun x_78 ex_78 => ?_)
            have bx_78 : (0 ≤ x_78.toInt ∧ x_78.toInt ≤ 80) := by have hc9 := cl_I (i := x_77) (by omega); rw [ex_78]; exact hbg_71.2.2.2.2.2.1 _ (by omega) (by omega) (by omega)
            refine lv_bipush (v := 9) hx hb dX12_aligns_69 (by decide) ?_
            refine lv_irem hx hb dX12_aligns_71 (by decide) ?_
            refine lv_topi (fun x_79 ex_79 => ?_)
            have hx_79 : x_79.toInt = x_78.toInt % 9 := by rw [ex_79, rm_I (by omega) (by rw [ti_9]; omega), ti_9]
            have bx_79 : (0 ≤ x_79.toInt ∧ x_79.toInt ≤ 8) := by constructor <;> omega
            refine lv_istore (lv' := [(8, .int x_79), (7, .int x_76), (6, .int y_66), (0, .ref o0), (1, .int p1), (2, .int p2), (3, .int p3), (4, .int p4), (5, .int p5)]) hx hb dX12_aligns_72 hl (by decide) rfl (fun ls hl => ?_)
            refine lv_iload hx hb dX12_aligns_74 (lv_at hl 1 rfl) ?_
            have hcut_81 : ∀ (y_80 : Int32), (0 ≤ y_80.toInt ∧ y_80.toInt ≤ 1) → (y_80.toInt = 1 ∨ (y_80.toInt = 0 ∧ x_76.toInt ≠ 0 ∧ x_79.toInt ≠ 0)) → ∀ (ls : Array Slot), lv_has ls 10 [(8, .int x_79), (7, .int x_76), (6, .int y_66), (0, .ref o0), (1, .int p1), (2, .int p2), (3, .int p3), (4, .int p4), (5, .int p5)] → W p l e (headSpec (wU yX12_aligns cX12_aligns 10 (some .boolean)) { frames := 5 + (n_ + 1), cells := 0, slots := 0, locals := 129 + (n_ + 1) * 29 }).room s m [.ref o0, .int p1, .int p2, .int p3, .int p4, .int p5].toArray below meth c H locs 0 0 (MQ below (va_Qi (fun (r : Int32) (f9 : Nat → va_E) => GI (okc cI cL cZ cR cG cH L kd) kd L f9 ∧ (0 ≤ r.toInt ∧ r.toInt ≤ 1) ∧ (∀ b, kd b ≠ 579 → kd b ≠ 581 → kd b ≠ 583 → kd b ≠ 585 → kd b ≠ 587 → kd b ≠ 588 → f9 b = f b)) (qP (dC, dI) cI cL cZ cR cG cH L) (fun q => q ∈ L)) [.ref o0, .int p1, .int p2, .int p3, .int p4, .int p5].toArray s 0 0 (fun q => q ∈ L)) (F0 m 89 ls [.int y_80]) := by
              intro y_80 by_80 hjhcut_81_0 ls hl
              refine lv_istore (lv' := [(9, .int y_80), (8, .int x_79), (7, .int x_76), (6, .int y_66), (0, .ref o0), (1, .int p1), (2, .int p2), (3, .int p3), (4, .int p4), (5, .int p5)]) hx hb dX12_aligns_89 hl (by decide) rfl (fun ls hl => ?_)
              refine lv_iload hx hb dX12_aligns_91 (lv_at hl 0 rfl) ?_
              refine lv_if_eq (tgt := 100) hx hb dX12_aligns_93 (by decide) (fun c_82 => ?_) (fun c_82 => ?_)
              · skip
                rw [← Int32.toInt_inj, ti_0] at c_82
                refine lv_iload hx hb dX12_aligns_100 (lv_at hl 2 rfl) ?_
                refine lv_if_eq (tgt := 124) hx hb dX12_aligns_102 (by decide) (fun c_83 => ?_) (fun c_83 => ?_)
                · skip
                  rw [← Int32.toInt_inj, ti_0] at c_83
                  refine lv_iload hx hb dX12_aligns_124 (lv_at hl 1 rfl) ?_
                  refine lv_if_eq (tgt := 151) hx hb dX12_aligns_126 (by decide) (fun c_84 => ?_) (fun c_84 => ?_)
                  · skip
                    rw [← Int32.toInt_inj, ti_0] at c_84
                    refine lv_aload_n hx hb dX12_aligns_151 rfl (lv_at hl 4 rfl) ?_
                    refine lv_iload hx hb dX12_aligns_152 (lv_at hl 8 rfl) ?_
                    refine lv_aload_n hx hb dX12_aligns_154 rfl (lv_at hl 4 rfl) ?_
                    refine tk_getP (D := (dC, dI)) (ci := 12) (v := .ref a_1) (C := RX12) (T := TX12) (N := 56) hx hb hU inlX12 hown hK hP mo0 hfo_69 rfl 0 (by decide) (hU _ wd_169) (fun _ h9 => h9) rfl dX12_aligns_155 ?_
                    refine lv_bipush (v := 20) hx hb dX12_aligns_158 (by decide) ?_
                    refine lv_iload hx hb dX12_aligns_160 (lv_at hl 3 rfl) ?_
                    refine lv_iadd hx hb dX12_aligns_162 ?_
                    refine lv_topi (fun x_85 ex_85 => ?_)
                    have hx_85 : x_85.toInt = 20 + y_66.toInt := by rw [ex_85, ad_I (by rw [ti_20]; omega) (by rw [ti_20]; omega), ti_20]
                    have bx_85 : (20 ≤ x_85.toInt ∧ x_85.toInt ≤ 39) := by constructor <;> omega
                    refine tk_ildP hx hb hK hP 0 ma_1 hfo_70 rfl (vp_in_iff.mpr (by constructor <;> omega)) dX12_aligns_163 ?_
                    refine lv_topi (fun x_86 ex_86 => ?_)
                    have bx_86 : (0 ≤ x_86.toInt ∧ x_86.toInt ≤ 80) := by have hc9 := cl_I (i := x_85) (by omega); rw [ex_86]; exact hbg_71.2.2.2.2.2.1 _ (by omega) (by omega) (by omega)
                    refine lv_iload hx hb dX12_aligns_164 (lv_at hl 9 rfl) ?_
                    refine tk_ViP (As := [.int p4, .int x_86, .int p5]) (rest := []) (n := 3) hx hb hml hown hU hN hZ (s_X12_reads_k12 l (dC, dI) cI cL cZ cR cG cH Z kd L f_68 hG o0 mo0 ko0 p4 (by constructor <;> omega) x_86 p5) wd_950 wd_951 wd_952 wd_5 wd_953 (by decide +kernel) ⟨(show 4 + 1 ≤ 5 + (n_ + 1) by omega), (show 8 + (5 + 11) + 105 ≤ 129 + (n_ + 1) * 29 by omega)⟩ hK hP hD hS mo0 hfo_69 12 rfl rfl rfl hl.1 rfl (Nat.le_of_ble_eq_true rfl) dX12_aligns_166 ⟨Nat.le_of_ble_eq_true rfl, Nat.le_of_ble_eq_true rfl⟩ (fun x_87 f_88 H locs hw hP hD hS => ?_)
                    obtain ⟨hG, bx_87, hkc_89⟩ := hw
                    have hfo_91 : f_88 o0 = .inr (12, [.ref a_1, .ref a_2, .ref a_3, .int v_4, .ref a_5, .int v_6, .int v_7, .int v_8, .int v_9, .int v_10, .int v_11, .int v_12, .int v_13, .int v_14, .int v_15, .ref a_16, .ref a_17, .ref a_18, .ref a_19, .ref a_20, .ref a_21, .ref a_22, .ref a_23, .int v_24, .int v_25, .int v_26, .int v_27, .int v_28, .ref a_29, .int v_30, .ref a_31, .ref a_32, .int v_33, .int v_34, .ref a_35, .int v_36, .ref a_37, .ref a_38, .int v_39, .int v_40, .ref a_41, .ref a_42, .ref a_43, .int v_44, .ref a_45, .ref a_46, .ref a_47, .ref a_48, .ref a_49, .ref a_50, .ref a_51, .ref a_52, .ref a_53, .int v_54, .int v_55, .ref a_56]) := by rw [hkc_89 o0 (by rw [ko0]; decide) (by rw [ko0]; decide) (by rw [ko0]; decide) (by rw [ko0]; decide) (by rw [ko0]; decide) (by rw [ko0]; decide)]; exact hfo_69
                    have hfo_92 : f_88 a_1 = .inl (cI, 1560, .inl g_71) := by rw [hkc_89 a_1 (by rw [ka_1]; decide) (by rw [ka_1]; decide) (by rw [ka_1]; decide) (by rw [ka_1]; decide) (by rw [ka_1]; decide) (by rw [ka_1]; decide)]; exact hfo_70
                    have hfr0 : ∀ b, kd b ≠ 579 → kd b ≠ 581 → kd b ≠ 583 → kd b ≠ 585 → kd b ≠ 587 → kd b ≠ 588 → f_88 b = f b := fun b q579 q581 q583 q585 q587 q588 => (hkc_89 b q579 q581 q583 q585 q587 q588).trans (hfr0 b q579 q581 q583 q585 q587 q588)
                    refine lv_if_eq (tgt := 223) hx hb dX12_aligns_169 (by decide) (fun c_93 => ?_) (fun c_93 => ?_)
                    · skip
                      rw [← Int32.toInt_inj, ti_0] at c_93
                      obtain ⟨x_94, ex_94⟩ : ∃ y : Int32, y_66 + 1 = y := ⟨_, rfl⟩
                      have hx_94 : x_94.toInt = y_66.toInt + 1 := by rw [← ex_94, ad_I (by rw [ti_1]; omega) (by rw [ti_1]; omega), ti_1]
                      have bx_94 : (1 ≤ x_94.toInt ∧ x_94.toInt ≤ 20) := by constructor <;> omega
                      refine lv_iinc (v := x_94) (lv' := [(6, .int x_94), (9, .int y_80), (8, .int x_79), (7, .int x_76), (0, .ref o0), (1, .int p1), (2, .int p2), (3, .int p3), (4, .int p4), (5, .int p5)]) hx hb dX12_aligns_223 hl (k := 3) rfl ex_94 (by decide) rfl (fun ls hl => ?_)
                      refine lv_goto (tgt := 32) hx hb dX12_aligns_226 (by decide) ?_
                      exact ih_hloop_65 x_94 (by constructor <;> omega) f_88 hG _ _ hP hS hD hfr0 hfo_91 (by omega) ls (lv_sub hl [0, 4, 5, 6, 7, 8, 9] rfl)
                    · skip
                      rw [← Int32.toInt_inj, ti_0] at c_93
                      refine lv_aload_n hx hb dX12_aligns_172 rfl (lv_at hl 4 rfl) ?_
                      refine lv_iload hx hb dX12_aligns_173 (lv_at hl 2 rfl) ?_
                      refine lv_if_ne (tgt := 182) hx hb dX12_aligns_175 (by decide) (fun c_95 => ?_) (fun c_95 => ?_)
                      · skip
                        rw [← Int32.toInt_inj, ti_0] at c_95
                        exfalso
                        omega
                      · skip
                        rw [← Int32.toInt_inj, ti_0] at c_95
                        refine lv_iload_n hx hb dX12_aligns_178 rfl (lv_at hl 5 rfl) ?_
                        refine lv_goto (tgt := 185) hx hb dX12_aligns_179 (by decide) ?_
                        refine lv_iload hx hb dX12_aligns_185 (lv_at hl 1 rfl) ?_
                        refine lv_if_ne (tgt := 194) hx hb dX12_aligns_187 (by decide) (fun c_96 => ?_) (fun c_96 => ?_)
                        · skip
                          rw [← Int32.toInt_inj, ti_0] at c_96
                          exfalso
                          omega
                        · skip
                          rw [← Int32.toInt_inj, ti_0] at c_96
                          refine lv_iload_n hx hb dX12_aligns_190 rfl (lv_at hl 6 rfl) ?_
                          refine lv_goto (tgt := 197) hx hb dX12_aligns_191 (by decide) ?_
                          refine lv_iload hx hb dX12_aligns_197 (lv_at hl 0 rfl) ?_
                          refine lv_if_eq (tgt := 208) hx hb dX12_aligns_199 (by decide) (fun c_97 => ?_) (fun c_97 => ?_)
                          · skip
                            rw [← Int32.toInt_inj, ti_0] at c_97
                            refine lv_iload_n hx hb dX12_aligns_208 rfl (lv_at hl 7 rfl) ?_
                            refine lv_iload hx hb dX12_aligns_209 (lv_at hl 8 rfl) ?_
                            refine lv_iconst (v := 1) hx hb dX12_aligns_211 (by decide) ?_
                            refine lv_iadd hx hb dX12_aligns_212 ?_
                            refine lv_topi (fun x_98 ex_98 => ?_)
                            have hx_98 : x_98.toInt = p4.toInt + 1 := by rw [ex_98, ad_I (by rw [ti_1]; omega) (by rw [ti_1]; omega), ti_1]
                            have bx_98 : (1 ≤ x_98.toInt ∧ x_98.toInt ≤ 14) := by constructor <;> omega
                            have hclc_99 : (1 ≤ x_98.toInt ∧ x_98.toInt ≤ 13) := by constructor <;> omega
                            refine lv_iload hx hb dX12_aligns_213 (lv_at hl 9 rfl) ?_
                            refine tk_ViP (As := [.int p1, .int p2, .int p3, .int x_98, .int p5]) (rest := []) (n := 5) hx hb hml hown hU hN hZ (ih_rec f_88 hG o0 mo0 ko0 p1 (by constructor <;> omega) p2 (by constructor <;> omega) p3 (by constructor <;> omega) x_98 (by constructor <;> omega) p5 (by intro w23 w35 e23 e35; rw [hfo_91] at e23 e35; obtain rfl := Option.some.inj e23; obtain rfl := Option.some.inj e35; omega) (by omega) (by omega)) wd_1054 wd_1055 wd_1056 wd_5 wd_1057 (by decide +kernel) ⟨(show (5 + n_) + 1 ≤ 5 + (n_ + 1) by omega), (show 8 + (10 + 11) + (129 + n_ * 29) ≤ 129 + (n_ + 1) * 29 by omega)⟩ hK hP hD hS mo0 hfo_91 12 rfl rfl rfl hl.1 rfl (Nat.le_of_ble_eq_true rfl) dX12_aligns_215 ⟨Nat.le_of_ble_eq_true rfl, Nat.le_of_ble_eq_true rfl⟩ (fun x_100 f_101 H locs hw hP hD hS => ?_)
                            obtain ⟨hG, bx_100, hkc_102⟩ := hw
                            have hfo_104 : f_101 o0 = .inr (12, [.ref a_1, .ref a_2, .ref a_3, .int v_4, .ref a_5, .int v_6, .int v_7, .int v_8, .int v_9, .int v_10, .int v_11, .int v_12, .int v_13, .int v_14, .int v_15, .ref a_16, .ref a_17, .ref a_18, .ref a_19, .ref a_20, .ref a_21, .ref a_22, .ref a_23, .int v_24, .int v_25, .int v_26, .int v_27, .int v_28, .ref a_29, .int v_30, .ref a_31, .ref a_32, .int v_33, .int v_34, .ref a_35, .int v_36, .ref a_37, .ref a_38, .int v_39, .int v_40, .ref a_41, .ref a_42, .ref a_43, .int v_44, .ref a_45, .ref a_46, .ref a_47, .ref a_48, .ref a_49, .ref a_50, .ref a_51, .ref a_52, .ref a_53, .int v_54, .int v_55, .ref a_56]) := by rw [hkc_102 o0 (by rw [ko0]; decide) (by rw [ko0]; decide) (by rw [ko0]; decide) (by rw [ko0]; decide) (by rw [ko0]; decide) (by rw [ko0]; decide)]; exact hfo_91
                            have hfo_105 : f_101 a_1 = .inl (cI, 1560, .inl g_71) := by rw [hkc_102 a_1 (by rw [ka_1]; decide) (by rw [ka_1]; decide) (by rw [ka_1]; decide) (by rw [ka_1]; decide) (by rw [ka_1]; decide) (by rw [ka_1]; decide)]; exact hfo_92
                            have hfr0 : ∀ b, kd b ≠ 579 → kd b ≠ 581 → kd b ≠ 583 → kd b ≠ 585 → kd b ≠ 587 → kd b ≠ 588 → f_101 b = f b := fun b q579 q581 q583 q585 q587 q588 => (hkc_102 b q579 q581 q583 q585 q587 q588).trans (hfr0 b q579 q581 q583 q585 q587 q588)
                            refine lv_if_eq (tgt := 223) hx hb dX12_aligns_218 (by decide) (fun c_106 => ?_) (fun c_106 => ?_)
                            · skip
                              rw [← Int32.toInt_inj, ti_0] at c_106
                              obtain ⟨x_107, ex_107⟩ : ∃ y : Int32, y_66 + 1 = y := ⟨_, rfl⟩
                              have hx_107 : x_107.toInt = y_66.toInt + 1 := by rw [← ex_107, ad_I (by rw [ti_1]; omega) (by rw [ti_1]; omega), ti_1]
                              have bx_107 : (1 ≤ x_107.toInt ∧ x_107.toInt ≤ 20) := by constructor <;> omega
                              refine lv_iinc (v := x_107) (lv' := [(6, .int x_107), (9, .int y_80), (8, .int x_79), (7, .int x_76), (0, .ref o0), (1, .int p1), (2, .int p2), (3, .int p3), (4, .int p4), (5, .int p5)]) hx hb dX12_aligns_223 hl (k := 3) rfl ex_107 (by decide) rfl (fun ls hl => ?_)
                              refine lv_goto (tgt := 32) hx hb dX12_aligns_226 (by decide) ?_
                              exact ih_hloop_65 x_107 (by constructor <;> omega) f_101 hG _ _ hP hS hD hfr0 hfo_104 (by omega) ls (lv_sub hl [0, 4, 5, 6, 7, 8, 9] rfl)
                            · skip
                              rw [← Int32.toInt_inj, ti_0] at c_106
                              refine lv_iconst (v := 1) hx hb dX12_aligns_221 (by decide) ?_
                              exact W.zret (v := 1) (ty := .boolean) hx hb hr rfl (fun t ht hW => ⟨⟨1, f_101, rfl, ⟨hG, (by decide), hfr0⟩, by rw [ht]; exact hP, va_K.moved hW.alike hK, pl_in hD⟩, hS.F ht⟩) hS.2.2 dX12_aligns_222
                          · skip
                            rw [← Int32.toInt_inj, ti_0] at c_97
                            exfalso
                            omega
                  · skip
                    rw [← Int32.toInt_inj, ti_0] at c_84
                    refine lv_iload_n hx hb dX12_aligns_129 rfl (lv_at hl 6 rfl) ?_
                    refine lv_aload_n hx hb dX12_aligns_130 rfl (lv_at hl 4 rfl) ?_
                    refine tk_getP (D := (dC, dI)) (ci := 12) (v := .int v_36) (C := RX12) (T := TX12) (N := 56) hx hb hU inlX12 hown hK hP mo0 hfo_69 rfl 35 (by decide) (hU _ wd_1049) (fun _ h9 => h9) rfl dX12_aligns_131 ?_
                    refine lv_icmp_eq (tgt := 223) hx hb dX12_aligns_134 (by decide) (fun c_108 => ?_) (fun c_108 => ?_)
                    · skip
                      rw [← Int32.toInt_inj] at c_108
                      obtain ⟨x_109, ex_109⟩ : ∃ y : Int32, y_66 + 1 = y := ⟨_, rfl⟩
                      have hx_109 : x_109.toInt = y_66.toInt + 1 := by rw [← ex_109, ad_I (by rw [ti_1]; omega) (by rw [ti_1]; omega), ti_1]
                      have bx_109 : (1 ≤ x_109.toInt ∧ x_109.toInt ≤ 20) := by constructor <;> omega
                      refine lv_iinc (v := x_109) (lv' := [(6, .int x_109), (9, .int y_80), (8, .int x_79), (7, .int x_76), (0, .ref o0), (1, .int p1), (2, .int p2), (3, .int p3), (4, .int p4), (5, .int p5)]) hx hb dX12_aligns_223 hl (k := 3) rfl ex_109 (by decide) rfl (fun ls hl => ?_)
                      refine lv_goto (tgt := 32) hx hb dX12_aligns_226 (by decide) ?_
                      exact ih_hloop_65 x_109 (by constructor <;> omega) f_68 hG _ _ hP hS hD hfr0 hfo_69 (by omega) ls (lv_sub hl [0, 4, 5, 6, 7, 8, 9] rfl)
                    · skip
                      rw [← Int32.toInt_inj] at c_108
                      have hclc_110 : (0 ≤ p2.toInt ∧ p2.toInt ≤ 7) := by constructor <;> omega
                      refine lv_aload_n hx hb dX12_aligns_137 rfl (lv_at hl 4 rfl) ?_
                      refine tk_getP (D := (dC, dI)) (ci := 12) (v := .ref a_35) (C := RX12) (T := TX12) (N := 56) hx hb hU inlX12 hown hK hP mo0 hfo_69 rfl 34 (by decide) (hU _ wd_186) (fun _ h9 => h9) rfl dX12_aligns_138 ?_
                      refine lv_iload_n hx hb dX12_aligns_141 rfl (lv_at hl 6 rfl) ?_
                      obtain ⟨g_112, hfo_111, hbg_112⟩ := un_594 (hG _ ma_35) ka_35
                      refine tk_ildP hx hb hK hP 0 ma_35 hfo_111 rfl (vp_in_iff.mpr (by constructor <;> omega)) dX12_aligns_142 ?_
                      refine lv_topi (fun x_113 ex_113 => ?_)
                      have bx_113 : (0 ≤ x_113.toInt ∧ x_113.toInt ≤ 8) := by rw [ex_113]; exact hbg_112 _
                      refine lv_iload hx hb dX12_aligns_143 (lv_at hl 1 rfl) ?_
                      refine lv_icmp_eq (tgt := 151) hx hb dX12_aligns_145 (by decide) (fun c_114 => ?_) (fun c_114 => ?_)
                      · skip
                        rw [← Int32.toInt_inj] at c_114
                        refine lv_aload_n hx hb dX12_aligns_151 rfl (lv_at hl 4 rfl) ?_
                        refine lv_iload hx hb dX12_aligns_152 (lv_at hl 8 rfl) ?_
                        refine lv_aload_n hx hb dX12_aligns_154 rfl (lv_at hl 4 rfl) ?_
                        refine tk_getP (D := (dC, dI)) (ci := 12) (v := .ref a_1) (C := RX12) (T := TX12) (N := 56) hx hb hU inlX12 hown hK hP mo0 hfo_69 rfl 0 (by decide) (hU _ wd_169) (fun _ h9 => h9) rfl dX12_aligns_155 ?_
                        refine lv_bipush (v := 20) hx hb dX12_aligns_158 (by decide) ?_
                        refine lv_iload hx hb dX12_aligns_160 (lv_at hl 3 rfl) ?_
                        refine lv_iadd hx hb dX12_aligns_162 ?_
                        refine lv_topi (fun x_115 ex_115 => ?_)
                        have hx_115 : x_115.toInt = 20 + y_66.toInt := by rw [ex_115, ad_I (by rw [ti_20]; omega) (by rw [ti_20]; omega), ti_20]
                        have bx_115 : (20 ≤ x_115.toInt ∧ x_115.toInt ≤ 39) := by constructor <;> omega
                        refine tk_ildP hx hb hK hP 0 ma_1 hfo_70 rfl (vp_in_iff.mpr (by constructor <;> omega)) dX12_aligns_163 ?_
                        refine lv_topi (fun x_116 ex_116 => ?_)
                        have bx_116 : (0 ≤ x_116.toInt ∧ x_116.toInt ≤ 80) := by have hc9 := cl_I (i := x_115) (by omega); rw [ex_116]; exact hbg_71.2.2.2.2.2.1 _ (by omega) (by omega) (by omega)
                        refine lv_iload hx hb dX12_aligns_164 (lv_at hl 9 rfl) ?_
                        refine tk_ViP (As := [.int p4, .int x_116, .int p5]) (rest := []) (n := 3) hx hb hml hown hU hN hZ (s_X12_reads_k12 l (dC, dI) cI cL cZ cR cG cH Z kd L f_68 hG o0 mo0 ko0 p4 (by constructor <;> omega) x_116 p5) wd_950 wd_951 wd_952 wd_5 wd_953 (by decide +kernel) ⟨(show 4 + 1 ≤ 5 + (n_ + 1) by omega), (show 8 + (5 + 11) + 105 ≤ 129 + (n_ + 1) * 29 by omega)⟩ hK hP hD hS mo0 hfo_69 12 rfl rfl rfl hl.1 rfl (Nat.le_of_ble_eq_true rfl) dX12_aligns_166 ⟨Nat.le_of_ble_eq_true rfl, Nat.le_of_ble_eq_true rfl⟩ (fun x_117 f_118 H locs hw hP hD hS => ?_)
                        obtain ⟨hG, bx_117, hkc_119⟩ := hw
                        have hfo_121 : f_118 o0 = .inr (12, [.ref a_1, .ref a_2, .ref a_3, .int v_4, .ref a_5, .int v_6, .int v_7, .int v_8, .int v_9, .int v_10, .int v_11, .int v_12, .int v_13, .int v_14, .int v_15, .ref a_16, .ref a_17, .ref a_18, .ref a_19, .ref a_20, .ref a_21, .ref a_22, .ref a_23, .int v_24, .int v_25, .int v_26, .int v_27, .int v_28, .ref a_29, .int v_30, .ref a_31, .ref a_32, .int v_33, .int v_34, .ref a_35, .int v_36, .ref a_37, .ref a_38, .int v_39, .int v_40, .ref a_41, .ref a_42, .ref a_43, .int v_44, .ref a_45, .ref a_46, .ref a_47, .ref a_48, .ref a_49, .ref a_50, .ref a_51, .ref a_52, .ref a_53, .int v_54, .int v_55, .ref a_56]) := by rw [hkc_119 o0 (by rw [ko0]; decide) (by rw [ko0]; decide) (by rw [ko0]; decide) (by rw [ko0]; decide) (by rw [ko0]; decide) (by rw [ko0]; decide)]; exact hfo_69
                        have hfo_122 : f_118 a_1 = .inl (cI, 1560, .inl g_71) := by rw [hkc_119 a_1 (by rw [ka_1]; decide) (by rw [ka_1]; decide) (by rw [ka_1]; decide) (by rw [ka_1]; decide) (by rw [ka_1]; decide) (by rw [ka_1]; decide)]; exact hfo_70
                        have hfo_123 : f_118 a_35 = .inl (cI, 16, .inl g_112) := by rw [hkc_119 a_35 (by rw [ka_35]; decide) (by rw [ka_35]; decide) (by rw [ka_35]; decide) (by rw [ka_35]; decide) (by rw [ka_35]; decide) (by rw [ka_35]; decide)]; exact hfo_111
                        have hfr0 : ∀ b, kd b ≠ 579 → kd b ≠ 581 → kd b ≠ 583 → kd b ≠ 585 → kd b ≠ 587 → kd b ≠ 588 → f_118 b = f b := fun b q579 q581 q583 q585 q587 q588 => (hkc_119 b q579 q581 q583 q585 q587 q588).trans (hfr0 b q579 q581 q583 q585 q587 q588)
                        refine lv_if_eq (tgt := 223) hx hb dX12_aligns_169 (by decide) (fun c_124 => ?_) (fun c_124 => ?_)
                        · skip
                          rw [← Int32.toInt_inj, ti_0] at c_124
                          obtain ⟨x_125, ex_125⟩ : ∃ y : Int32, y_66 + 1 = y := ⟨_, rfl⟩
                          have hx_125 : x_125.toInt = y_66.toInt + 1 := by rw [← ex_125, ad_I (by rw [ti_1]; omega) (by rw [ti_1]; omega), ti_1]
                          have bx_125 : (1 ≤ x_125.toInt ∧ x_125.toInt ≤ 20) := by constructor <;> omega
                          refine lv_iinc (v := x_125) (lv' := [(6, .int x_125), (9, .int y_80), (8, .int x_79), (7, .int x_76), (0, .ref o0), (1, .int p1), (2, .int p2), (3, .int p3), (4, .int p4), (5, .int p5)]) hx hb dX12_aligns_223 hl (k := 3) rfl ex_125 (by decide) rfl (fun ls hl => ?_)
                          refine lv_goto (tgt := 32) hx hb dX12_aligns_226 (by decide) ?_
                          exact ih_hloop_65 x_125 (by constructor <;> omega) f_118 hG _ _ hP hS hD hfr0 hfo_121 (by omega) ls (lv_sub hl [0, 4, 5, 6, 7, 8, 9] rfl)
                        · skip
                          rw [← Int32.toInt_inj, ti_0] at c_124
                          refine lv_aload_n hx hb dX12_aligns_172 rfl (lv_at hl 4 rfl) ?_
                          refine lv_iload hx hb dX12_aligns_173 (lv_at hl 2 rfl) ?_
                          refine lv_if_ne (tgt := 182) hx hb dX12_aligns_175 (by decide) (fun c_126 => ?_) (fun c_126 => ?_)
                          · skip
                            rw [← Int32.toInt_inj, ti_0] at c_126
                            exfalso
                            omega
                          · skip
                            rw [← Int32.toInt_inj, ti_0] at c_126
                            refine lv_iload_n hx hb dX12_aligns_178 rfl (lv_at hl 5 rfl) ?_
                            refine lv_goto (tgt := 185) hx hb dX12_aligns_179 (by decide) ?_
                            refine lv_iload hx hb dX12_aligns_185 (lv_at hl 1 rfl) ?_
                            refine lv_if_ne (tgt := 194) hx hb dX12_aligns_187 (by decide) (fun c_127 => ?_) (fun c_127 => ?_)
                            · skip
                              rw [← Int32.toInt_inj, ti_0] at c_127
                              refine lv_iload_n hx hb dX12_aligns_194 rfl (lv_at hl 6 rfl) ?_
                              refine lv_iconst (v := 1) hx hb dX12_aligns_195 (by decide) ?_
                              refine lv_iadd hx hb dX12_aligns_196 ?_
                              refine lv_topi (fun x_128 ex_128 => ?_)
                              have hx_128 : x_128.toInt = p2.toInt + 1 := by rw [ex_128, ad_I (by rw [ti_1]; omega) (by rw [ti_1]; omega), ti_1]
                              have bx_128 : (1 ≤ x_128.toInt ∧ x_128.toInt ≤ 8) := by constructor <;> omega
                              refine lv_iload hx hb dX12_aligns_197 (lv_at hl 0 rfl) ?_
                              refine lv_if_eq (tgt := 208) hx hb dX12_aligns_199 (by decide) (fun c_129 => ?_) (fun c_129 => ?_)
                              · skip
                                rw [← Int32.toInt_inj, ti_0] at c_129
                                refine lv_iload_n hx hb dX12_aligns_208 rfl (lv_at hl 7 rfl) ?_
                                refine lv_iload hx hb dX12_aligns_209 (lv_at hl 8 rfl) ?_
                                refine lv_iconst (v := 1) hx hb dX12_aligns_211 (by decide) ?_
                                refine lv_iadd hx hb dX12_aligns_212 ?_
                                refine lv_topi (fun x_130 ex_130 => ?_)
                                have hx_130 : x_130.toInt = p4.toInt + 1 := by rw [ex_130, ad_I (by rw [ti_1]; omega) (by rw [ti_1]; omega), ti_1]
                                have bx_130 : (1 ≤ x_130.toInt ∧ x_130.toInt ≤ 14) := by constructor <;> omega
                                have hclc_131 : (1 ≤ x_130.toInt ∧ x_130.toInt ≤ 13) := by constructor <;> omega
                                refine lv_iload hx hb dX12_aligns_213 (lv_at hl 9 rfl) ?_
                                refine tk_ViP (As := [.int p1, .int x_128, .int p3, .int x_130, .int p5]) (rest := []) (n := 5) hx hb hml hown hU hN hZ (ih_rec f_118 hG o0 mo0 ko0 p1 (by constructor <;> omega) x_128 (by constructor <;> omega) p3 (by constructor <;> omega) x_130 (by constructor <;> omega) p5 (by intro w23 w35 e23 e35; rw [hfo_121] at e23 e35; obtain rfl := Option.some.inj e23; obtain rfl := Option.some.inj e35; omega) (by omega) (by omega)) wd_1054 wd_1055 wd_1056 wd_5 wd_1057 (by decide +kernel) ⟨(show (5 + n_) + 1 ≤ 5 + (n_ + 1) by omega), (show 8 + (10 + 11) + (129 + n_ * 29) ≤ 129 + (n_ + 1) * 29 by omega)⟩ hK hP hD hS mo0 hfo_121 12 rfl rfl rfl hl.1 rfl (Nat.le_of_ble_eq_true rfl) dX12_aligns_215 ⟨Nat.le_of_ble_eq_true rfl, Nat.le_of_ble_eq_true rfl⟩ (fun x_132 f_133 H locs hw hP hD hS => ?_)
                                obtain ⟨hG, bx_132, hkc_134⟩ := hw
                                have hfo_136 : f_133 o0 = .inr (12, [.ref a_1, .ref a_2, .ref a_3, .int v_4, .ref a_5, .int v_6, .int v_7, .int v_8, .int v_9, .int v_10, .int v_11, .int v_12, .int v_13, .int v_14, .int v_15, .ref a_16, .ref a_17, .ref a_18, .ref a_19, .ref a_20, .ref a_21, .ref a_22, .ref a_23, .int v_24, .int v_25, .int v_26, .int v_27, .int v_28, .ref a_29, .int v_30, .ref a_31, .ref a_32, .int v_33, .int v_34, .ref a_35, .int v_36, .ref a_37, .ref a_38, .int v_39, .int v_40, .ref a_41, .ref a_42, .ref a_43, .int v_44, .ref a_45, .ref a_46, .ref a_47, .ref a_48, .ref a_49, .ref a_50, .ref a_51, .ref a_52, .ref a_53, .int v_54, .int v_55, .ref a_56]) := by rw [hkc_134 o0 (by rw [ko0]; decide) (by rw [ko0]; decide) (by rw [ko0]; decide) (by rw [ko0]; decide) (by rw [ko0]; decide) (by rw [ko0]; decide)]; exact hfo_121
                                have hfo_137 : f_133 a_1 = .inl (cI, 1560, .inl g_71) := by rw [hkc_134 a_1 (by rw [ka_1]; decide) (by rw [ka_1]; decide) (by rw [ka_1]; decide) (by rw [ka_1]; decide) (by rw [ka_1]; decide) (by rw [ka_1]; decide)]; exact hfo_122
                                have hfo_138 : f_133 a_35 = .inl (cI, 16, .inl g_112) := by rw [hkc_134 a_35 (by rw [ka_35]; decide) (by rw [ka_35]; decide) (by rw [ka_35]; decide) (by rw [ka_35]; decide) (by rw [ka_35]; decide) (by rw [ka_35]; decide)]; exact hfo_123
                                have hfr0 : ∀ b, kd b ≠ 579 → kd b ≠ 581 → kd b ≠ 583 → kd b ≠ 585 → kd b ≠ 587 → kd b ≠ 588 → f_133 b = f b := fun b q579 q581 q583 q585 q587 q588 => (hkc_134 b q579 q581 q583 q585 q587 q588).trans (hfr0 b q579 q581 q583 q585 q587 q588)
                                refine lv_if_eq (tgt := 223) hx hb dX12_aligns_218 (by decide) (fun c_139 => ?_) (fun c_139 => ?_)
                                · skip
                                  rw [← Int32.toInt_inj, ti_0] at c_139
                                  obtain ⟨x_140, ex_140⟩ : ∃ y : Int32, y_66 + 1 = y := ⟨_, rfl⟩
                                  have hx_140 : x_140.toInt = y_66.toInt + 1 := by rw [← ex_140, ad_I (by rw [ti_1]; omega) (by rw [ti_1]; omega), ti_1]
                                  have bx_140 : (1 ≤ x_140.toInt ∧ x_140.toInt ≤ 20) := by constructor <;> omega
                                  refine lv_iinc (v := x_140) (lv' := [(6, .int x_140), (9, .int y_80), (8, .int x_79), (7, .int x_76), (0, .ref o0), (1, .int p1), (2, .int p2), (3, .int p3), (4, .int p4), (5, .int p5)]) hx hb dX12_aligns_223 hl (k := 3) rfl ex_140 (by decide) rfl (fun ls hl => ?_)
                                  refine lv_goto (tgt := 32) hx hb dX12_aligns_226 (by decide) ?_
                                  exact ih_hloop_65 x_140 (by constructor <;> omega) f_133 hG _ _ hP hS hD hfr0 hfo_136 (by omega) ls (lv_sub hl [0, 4, 5, 6, 7, 8, 9] rfl)
                                · skip
                                  rw [← Int32.toInt_inj, ti_0] at c_139
                                  refine lv_iconst (v := 1) hx hb dX12_aligns_221 (by decide) ?_
                                  exact W.zret (v := 1) (ty := .boolean) hx hb hr rfl (fun t ht hW => ⟨⟨1, f_133, rfl, ⟨hG, (by decide), hfr0⟩, by rw [ht]; exact hP, va_K.moved hW.alike hK, pl_in hD⟩, hS.F ht⟩) hS.2.2 dX12_aligns_222
                              · skip
                                rw [← Int32.toInt_inj, ti_0] at c_129
                                exfalso
                                omega
                            · skip
                              rw [← Int32.toInt_inj, ti_0] at c_127
                              exfalso
                              omega
                      · skip
                        rw [← Int32.toInt_inj] at c_114
                        refine lv_goto (tgt := 223) hx hb dX12_aligns_148 (by decide) ?_
                        obtain ⟨x_141, ex_141⟩ : ∃ y : Int32, y_66 + 1 = y := ⟨_, rfl⟩
                        have hx_141 : x_141.toInt = y_66.toInt + 1 := by rw [← ex_141, ad_I (by rw [ti_1]; omega) (by rw [ti_1]; omega), ti_1]
                        have bx_141 : (1 ≤ x_141.toInt ∧ x_141.toInt ≤ 20) := by constructor <;> omega
                        refine lv_iinc (v := x_141) (lv' := [(6, .int x_141), (9, .int y_80), (8, .int x_79), (7, .int x_76), (0, .ref o0), (1, .int p1), (2, .int p2), (3, .int p3), (4, .int p4), (5, .int p5)]) hx hb dX12_aligns_223 hl (k := 3) rfl ex_141 (by decide) rfl (fun ls hl => ?_)
                        refine lv_goto (tgt := 32) hx hb dX12_aligns_226 (by decide) ?_
                        exact ih_hloop_65 x_141 (by constructor <;> omega) f_68 hG _ _ hP hS hD hfr0 hfo_69 (by omega) ls (lv_sub hl [0, 4, 5, 6, 7, 8, 9] rfl)
                · skip
                  rw [← Int32.toInt_inj, ti_0] at c_83
                  refine lv_iload_n hx hb dX12_aligns_105 rfl (lv_at hl 5 rfl) ?_
                  refine lv_aload_n hx hb dX12_aligns_106 rfl (lv_at hl 4 rfl) ?_
                  refine tk_getP (D := (dC, dI)) (ci := 12) (v := .int v_24) (C := RX12) (T := TX12) (N := 56) hx hb hU inlX12 hown hK hP mo0 hfo_69 rfl 23 (by decide) (hU _ wd_867) (fun _ h9 => h9) rfl dX12_aligns_107 ?_
                  refine lv_icmp_eq (tgt := 223) hx hb dX12_aligns_110 (by decide) (fun c_142 => ?_) (fun c_142 => ?_)
                  · skip
                    rw [← Int32.toInt_inj] at c_142
                    obtain ⟨x_143, ex_143⟩ : ∃ y : Int32, y_66 + 1 = y := ⟨_, rfl⟩
                    have hx_143 : x_143.toInt = y_66.toInt + 1 := by rw [← ex_143, ad_I (by rw [ti_1]; omega) (by rw [ti_1]; omega), ti_1]
                    have bx_143 : (1 ≤ x_143.toInt ∧ x_143.toInt ≤ 20) := by constructor <;> omega
                    refine lv_iinc (v := x_143) (lv' := [(6, .int x_143), (9, .int y_80), (8, .int x_79), (7, .int x_76), (0, .ref o0), (1, .int p1), (2, .int p2), (3, .int p3), (4, .int p4), (5, .int p5)]) hx hb dX12_aligns_223 hl (k := 3) rfl ex_143 (by decide) rfl (fun ls hl => ?_)
                    refine lv_goto (tgt := 32) hx hb dX12_aligns_226 (by decide) ?_
                    exact ih_hloop_65 x_143 (by constructor <;> omega) f_68 hG _ _ hP hS hD hfr0 hfo_69 (by omega) ls (lv_sub hl [0, 4, 5, 6, 7, 8, 9] rfl)
                  · skip
                    rw [← Int32.toInt_inj] at c_142
                    have hclc_144 : (0 ≤ p1.toInt ∧ p1.toInt ≤ 11) := by constructor <;> omega
                    refine lv_aload_n hx hb dX12_aligns_113 rfl (lv_at hl 4 rfl) ?_
                    refine tk_getP (D := (dC, dI)) (ci := 12) (v := .ref a_22) (C := RX12) (T := TX12) (N := 56) hx hb hU inlX12 hown hK hP mo0 hfo_69 rfl 21 (by decide) (hU _ wd_181) (fun _ h9 => h9) rfl dX12_aligns_114 ?_
                    refine lv_iload_n hx hb dX12_aligns_117 rfl (lv_at hl 5 rfl) ?_
                    obtain ⟨g_146, hfo_145, hbg_146⟩ := un_589 (hG _ ma_22) ka_22
                    refine tk_ildP hx hb hK hP 0 ma_22 hfo_145 rfl (vp_in_iff.mpr (by constructor <;> omega)) dX12_aligns_118 ?_
                    refine lv_topi (fun x_147 ex_147 => ?_)
                    have bx_147 : (0 ≤ x_147.toInt ∧ x_147.toInt ≤ 8) := by rw [ex_147]; exact hbg_146 _
                    refine lv_iload hx hb dX12_aligns_119 (lv_at hl 2 rfl) ?_
                    refine lv_icmp_ne (tgt := 223) hx hb dX12_aligns_121 (by decide) (fun c_148 => ?_) (fun c_148 => ?_)
                    · skip
                      rw [← Int32.toInt_inj] at c_148
                      obtain ⟨x_149, ex_149⟩ : ∃ y : Int32, y_66 + 1 = y := ⟨_, rfl⟩
                      have hx_149 : x_149.toInt = y_66.toInt + 1 := by rw [← ex_149, ad_I (by rw [ti_1]; omega) (by rw [ti_1]; omega), ti_1]
                      have bx_149 : (1 ≤ x_149.toInt ∧ x_149.toInt ≤ 20) := by constructor <;> omega
                      refine lv_iinc (v := x_149) (lv' := [(6, .int x_149), (9, .int y_80), (8, .int x_79), (7, .int x_76), (0, .ref o0), (1, .int p1), (2, .int p2), (3, .int p3), (4, .int p4), (5, .int p5)]) hx hb dX12_aligns_223 hl (k := 3) rfl ex_149 (by decide) rfl (fun ls hl => ?_)
                      refine lv_goto (tgt := 32) hx hb dX12_aligns_226 (by decide) ?_
                      exact ih_hloop_65 x_149 (by constructor <;> omega) f_68 hG _ _ hP hS hD hfr0 hfo_69 (by omega) ls (lv_sub hl [0, 4, 5, 6, 7, 8, 9] rfl)
                    · skip
                      rw [← Int32.toInt_inj] at c_148
                      refine lv_iload hx hb dX12_aligns_124 (lv_at hl 1 rfl) ?_
                      refine lv_if_eq (tgt := 151) hx hb dX12_aligns_126 (by decide) (fun c_150 => ?_) (fun c_150 => ?_)
                      · skip
                        rw [← Int32.toInt_inj, ti_0] at c_150
                        refine lv_aload_n hx hb dX12_aligns_151 rfl (lv_at hl 4 rfl) ?_
                        refine lv_iload hx hb dX12_aligns_152 (lv_at hl 8 rfl) ?_
                        refine lv_aload_n hx hb dX12_aligns_154 rfl (lv_at hl 4 rfl) ?_
                        refine tk_getP (D := (dC, dI)) (ci := 12) (v := .ref a_1) (C := RX12) (T := TX12) (N := 56) hx hb hU inlX12 hown hK hP mo0 hfo_69 rfl 0 (by decide) (hU _ wd_169) (fun _ h9 => h9) rfl dX12_aligns_155 ?_
                        refine lv_bipush (v := 20) hx hb dX12_aligns_158 (by decide) ?_
                        refine lv_iload hx hb dX12_aligns_160 (lv_at hl 3 rfl) ?_
                        refine lv_iadd hx hb dX12_aligns_162 ?_
                        refine lv_topi (fun x_151 ex_151 => ?_)
                        have hx_151 : x_151.toInt = 20 + y_66.toInt := by rw [ex_151, ad_I (by rw [ti_20]; omega) (by rw [ti_20]; omega), ti_20]
                        have bx_151 : (20 ≤ x_151.toInt ∧ x_151.toInt ≤ 39) := by constructor <;> omega
                        refine tk_ildP hx hb hK hP 0 ma_1 hfo_70 rfl (vp_in_iff.mpr (by constructor <;> omega)) dX12_aligns_163 ?_
                        refine lv_topi (fun x_152 ex_152 => ?_)
                        have bx_152 : (0 ≤ x_152.toInt ∧ x_152.toInt ≤ 80) := by have hc9 := cl_I (i := x_151) (by omega); rw [ex_152]; exact hbg_71.2.2.2.2.2.1 _ (by omega) (by omega) (by omega)
                        refine lv_iload hx hb dX12_aligns_164 (lv_at hl 9 rfl) ?_
                        refine tk_ViP (As := [.int p4, .int x_152, .int p5]) (rest := []) (n := 3) hx hb hml hown hU hN hZ (s_X12_reads_k12 l (dC, dI) cI cL cZ cR cG cH Z kd L f_68 hG o0 mo0 ko0 p4 (by constructor <;> omega) x_152 p5) wd_950 wd_951 wd_952 wd_5 wd_953 (by decide +kernel) ⟨(show 4 + 1 ≤ 5 + (n_ + 1) by omega), (show 8 + (5 + 11) + 105 ≤ 129 + (n_ + 1) * 29 by omega)⟩ hK hP hD hS mo0 hfo_69 12 rfl rfl rfl hl.1 rfl (Nat.le_of_ble_eq_true rfl) dX12_aligns_166 ⟨Nat.le_of_ble_eq_true rfl, Nat.le_of_ble_eq_true rfl⟩ (fun x_153 f_154 H locs hw hP hD hS => ?_)
                        obtain ⟨hG, bx_153, hkc_155⟩ := hw
                        have hfo_157 : f_154 o0 = .inr (12, [.ref a_1, .ref a_2, .ref a_3, .int v_4, .ref a_5, .int v_6, .int v_7, .int v_8, .int v_9, .int v_10, .int v_11, .int v_12, .int v_13, .int v_14, .int v_15, .ref a_16, .ref a_17, .ref a_18, .ref a_19, .ref a_20, .ref a_21, .ref a_22, .ref a_23, .int v_24, .int v_25, .int v_26, .int v_27, .int v_28, .ref a_29, .int v_30, .ref a_31, .ref a_32, .int v_33, .int v_34, .ref a_35, .int v_36, .ref a_37, .ref a_38, .int v_39, .int v_40, .ref a_41, .ref a_42, .ref a_43, .int v_44, .ref a_45, .ref a_46, .ref a_47, .ref a_48, .ref a_49, .ref a_50, .ref a_51, .ref a_52, .ref a_53, .int v_54, .int v_55, .ref a_56]) := by rw [hkc_155 o0 (by rw [ko0]; decide) (by rw [ko0]; decide) (by rw [ko0]; decide) (by rw [ko0]; decide) (by rw [ko0]; decide) (by rw [ko0]; decide)]; exact hfo_69
                        have hfo_158 : f_154 a_1 = .inl (cI, 1560, .inl g_71) := by rw [hkc_155 a_1 (by rw [ka_1]; decide) (by rw [ka_1]; decide) (by rw [ka_1]; decide) (by rw [ka_1]; decide) (by rw [ka_1]; decide) (by rw [ka_1]; decide)]; exact hfo_70
                        have hfo_159 : f_154 a_22 = .inl (cI, 16, .inl g_146) := by rw [hkc_155 a_22 (by rw [ka_22]; decide) (by rw [ka_22]; decide) (by rw [ka_22]; decide) (by rw [ka_22]; decide) (by rw [ka_22]; decide) (by rw [ka_22]; decide)]; exact hfo_145
                        have hfr0 : ∀ b, kd b ≠ 579 → kd b ≠ 581 → kd b ≠ 583 → kd b ≠ 585 → kd b ≠ 587 → kd b ≠ 588 → f_154 b = f b := fun b q579 q581 q583 q585 q587 q588 => (hkc_155 b q579 q581 q583 q585 q587 q588).trans (hfr0 b q579 q581 q583 q585 q587 q588)
                        refine lv_if_eq (tgt := 223) hx hb dX12_aligns_169 (by decide) (fun c_160 => ?_) (fun c_160 => ?_)
                        · skip
                          rw [← Int32.toInt_inj, ti_0] at c_160
                          obtain ⟨x_161, ex_161⟩ : ∃ y : Int32, y_66 + 1 = y := ⟨_, rfl⟩
                          have hx_161 : x_161.toInt = y_66.toInt + 1 := by rw [← ex_161, ad_I (by rw [ti_1]; omega) (by rw [ti_1]; omega), ti_1]
                          have bx_161 : (1 ≤ x_161.toInt ∧ x_161.toInt ≤ 20) := by constructor <;> omega
                          refine lv_iinc (v := x_161) (lv' := [(6, .int x_161), (9, .int y_80), (8, .int x_79), (7, .int x_76), (0, .ref o0), (1, .int p1), (2, .int p2), (3, .int p3), (4, .int p4), (5, .int p5)]) hx hb dX12_aligns_223 hl (k := 3) rfl ex_161 (by decide) rfl (fun ls hl => ?_)
                          refine lv_goto (tgt := 32) hx hb dX12_aligns_226 (by decide) ?_
                          exact ih_hloop_65 x_161 (by constructor <;> omega) f_154 hG _ _ hP hS hD hfr0 hfo_157 (by omega) ls (lv_sub hl [0, 4, 5, 6, 7, 8, 9] rfl)
                        · skip
                          rw [← Int32.toInt_inj, ti_0] at c_160
                          refine lv_aload_n hx hb dX12_aligns_172 rfl (lv_at hl 4 rfl) ?_
                          refine lv_iload hx hb dX12_aligns_173 (lv_at hl 2 rfl) ?_
                          refine lv_if_ne (tgt := 182) hx hb dX12_aligns_175 (by decide) (fun c_162 => ?_) (fun c_162 => ?_)
                          · skip
                            rw [← Int32.toInt_inj, ti_0] at c_162
                            refine lv_iload_n hx hb dX12_aligns_182 rfl (lv_at hl 5 rfl) ?_
                            refine lv_iconst (v := 1) hx hb dX12_aligns_183 (by decide) ?_
                            refine lv_iadd hx hb dX12_aligns_184 ?_
                            refine lv_topi (fun x_163 ex_163 => ?_)
                            have hx_163 : x_163.toInt = p1.toInt + 1 := by rw [ex_163, ad_I (by rw [ti_1]; omega) (by rw [ti_1]; omega), ti_1]
                            have bx_163 : (1 ≤ x_163.toInt ∧ x_163.toInt ≤ 12) := by constructor <;> omega
                            refine lv_iload hx hb dX12_aligns_185 (lv_at hl 1 rfl) ?_
                            refine lv_if_ne (tgt := 194) hx hb dX12_aligns_187 (by decide) (fun c_164 => ?_) (fun c_164 => ?_)
                            · skip
                              rw [← Int32.toInt_inj, ti_0] at c_164
                              exfalso
                              omega
                            · skip
                              rw [← Int32.toInt_inj, ti_0] at c_164
                              refine lv_iload_n hx hb dX12_aligns_190 rfl (lv_at hl 6 rfl) ?_
                              refine lv_goto (tgt := 197) hx hb dX12_aligns_191 (by decide) ?_
                              refine lv_iload hx hb dX12_aligns_197 (lv_at hl 0 rfl) ?_
                              refine lv_if_eq (tgt := 208) hx hb dX12_aligns_199 (by decide) (fun c_165 => ?_) (fun c_165 => ?_)
                              · skip
                                rw [← Int32.toInt_inj, ti_0] at c_165
                                refine lv_iload_n hx hb dX12_aligns_208 rfl (lv_at hl 7 rfl) ?_
                                refine lv_iload hx hb dX12_aligns_209 (lv_at hl 8 rfl) ?_
                                refine lv_iconst (v := 1) hx hb dX12_aligns_211 (by decide) ?_
                                refine lv_iadd hx hb dX12_aligns_212 ?_
                                refine lv_topi (fun x_166 ex_166 => ?_)
                                have hx_166 : x_166.toInt = p4.toInt + 1 := by rw [ex_166, ad_I (by rw [ti_1]; omega) (by rw [ti_1]; omega), ti_1]
                                have bx_166 : (1 ≤ x_166.toInt ∧ x_166.toInt ≤ 14) := by constructor <;> omega
                                have hclc_167 : (1 ≤ x_166.toInt ∧ x_166.toInt ≤ 13) := by constructor <;> omega
                                refine lv_iload hx hb dX12_aligns_213 (lv_at hl 9 rfl) ?_
                                refine tk_ViP (As := [.int x_163, .int p2, .int p3, .int x_166, .int p5]) (rest := []) (n := 5) hx hb hml hown hU hN hZ (ih_rec f_154 hG o0 mo0 ko0 x_163 (by constructor <;> omega) p2 (by constructor <;> omega) p3 (by constructor <;> omega) x_166 (by constructor <;> omega) p5 (by intro w23 w35 e23 e35; rw [hfo_157] at e23 e35; obtain rfl := Option.some.inj e23; obtain rfl := Option.some.inj e35; omega) (by omega) (by omega)) wd_1054 wd_1055 wd_1056 wd_5 wd_1057 (by decide +kernel) ⟨(show (5 + n_) + 1 ≤ 5 + (n_ + 1) by omega), (show 8 + (10 + 11) + (129 + n_ * 29) ≤ 129 + (n_ + 1) * 29 by omega)⟩ hK hP hD hS mo0 hfo_157 12 rfl rfl rfl hl.1 rfl (Nat.le_of_ble_eq_true rfl) dX12_aligns_215 ⟨Nat.le_of_ble_eq_true rfl, Nat.le_of_ble_eq_true rfl⟩ (fun x_168 f_169 H locs hw hP hD hS => ?_)
                                obtain ⟨hG, bx_168, hkc_170⟩ := hw
                                have hfo_172 : f_169 o0 = .inr (12, [.ref a_1, .ref a_2, .ref a_3, .int v_4, .ref a_5, .int v_6, .int v_7, .int v_8, .int v_9, .int v_10, .int v_11, .int v_12, .int v_13, .int v_14, .int v_15, .ref a_16, .ref a_17, .ref a_18, .ref a_19, .ref a_20, .ref a_21, .ref a_22, .ref a_23, .int v_24, .int v_25, .int v_26, .int v_27, .int v_28, .ref a_29, .int v_30, .ref a_31, .ref a_32, .int v_33, .int v_34, .ref a_35, .int v_36, .ref a_37, .ref a_38, .int v_39, .int v_40, .ref a_41, .ref a_42, .ref a_43, .int v_44, .ref a_45, .ref a_46, .ref a_47, .ref a_48, .ref a_49, .ref a_50, .ref a_51, .ref a_52, .ref a_53, .int v_54, .int v_55, .ref a_56]) := by rw [hkc_170 o0 (by rw [ko0]; decide) (by rw [ko0]; decide) (by rw [ko0]; decide) (by rw [ko0]; decide) (by rw [ko0]; decide) (by rw [ko0]; decide)]; exact hfo_157
                                have hfo_173 : f_169 a_1 = .inl (cI, 1560, .inl g_71) := by rw [hkc_170 a_1 (by rw [ka_1]; decide) (by rw [ka_1]; decide) (by rw [ka_1]; decide) (by rw [ka_1]; decide) (by rw [ka_1]; decide) (by rw [ka_1]; decide)]; exact hfo_158
                                have hfo_174 : f_169 a_22 = .inl (cI, 16, .inl g_146) := by rw [hkc_170 a_22 (by rw [ka_22]; decide) (by rw [ka_22]; decide) (by rw [ka_22]; decide) (by rw [ka_22]; decide) (by rw [ka_22]; decide) (by rw [ka_22]; decide)]; exact hfo_159
                                have hfr0 : ∀ b, kd b ≠ 579 → kd b ≠ 581 → kd b ≠ 583 → kd b ≠ 585 → kd b ≠ 587 → kd b ≠ 588 → f_169 b = f b := fun b q579 q581 q583 q585 q587 q588 => (hkc_170 b q579 q581 q583 q585 q587 q588).trans (hfr0 b q579 q581 q583 q585 q587 q588)
                                refine lv_if_eq (tgt := 223) hx hb dX12_aligns_218 (by decide) (fun c_175 => ?_) (fun c_175 => ?_)
                                · skip
                                  rw [← Int32.toInt_inj, ti_0] at c_175
                                  obtain ⟨x_176, ex_176⟩ : ∃ y : Int32, y_66 + 1 = y := ⟨_, rfl⟩
                                  have hx_176 : x_176.toInt = y_66.toInt + 1 := by rw [← ex_176, ad_I (by rw [ti_1]; omega) (by rw [ti_1]; omega), ti_1]
                                  have bx_176 : (1 ≤ x_176.toInt ∧ x_176.toInt ≤ 20) := by constructor <;> omega
                                  refine lv_iinc (v := x_176) (lv' := [(6, .int x_176), (9, .int y_80), (8, .int x_79), (7, .int x_76), (0, .ref o0), (1, .int p1), (2, .int p2), (3, .int p3), (4, .int p4), (5, .int p5)]) hx hb dX12_aligns_223 hl (k := 3) rfl ex_176 (by decide) rfl (fun ls hl => ?_)
                                  refine lv_goto (tgt := 32) hx hb dX12_aligns_226 (by decide) ?_
                                  exact ih_hloop_65 x_176 (by constructor <;> omega) f_169 hG _ _ hP hS hD hfr0 hfo_172 (by omega) ls (lv_sub hl [0, 4, 5, 6, 7, 8, 9] rfl)
                                · skip
                                  rw [← Int32.toInt_inj, ti_0] at c_175
                                  refine lv_iconst (v := 1) hx hb dX12_aligns_221 (by decide) ?_
                                  exact W.zret (v := 1) (ty := .boolean) hx hb hr rfl (fun t ht hW => ⟨⟨1, f_169, rfl, ⟨hG, (by decide), hfr0⟩, by rw [ht]; exact hP, va_K.moved hW.alike hK, pl_in hD⟩, hS.F ht⟩) hS.2.2 dX12_aligns_222
                              · skip
                                rw [← Int32.toInt_inj, ti_0] at c_165
                                exfalso
                                omega
                          · skip
                            rw [← Int32.toInt_inj, ti_0] at c_162
                            exfalso
                            omega
                      · skip
                        rw [← Int32.toInt_inj, ti_0] at c_150
                        refine lv_iload_n hx hb dX12_aligns_129 rfl (lv_at hl 6 rfl) ?_
                        refine lv_aload_n hx hb dX12_aligns_130 rfl (lv_at hl 4 rfl) ?_
                        refine tk_getP (D := (dC, dI)) (ci := 12) (v := .int v_36) (C := RX12) (T := TX12) (N := 56) hx hb hU inlX12 hown hK hP mo0 hfo_69 rfl 35 (by decide) (hU _ wd_1049) (fun _ h9 => h9) rfl dX12_aligns_131 ?_
                        refine lv_icmp_eq (tgt := 223) hx hb dX12_aligns_134 (by decide) (fun c_177 => ?_) (fun c_177 => ?_)
                        · skip
                          rw [← Int32.toInt_inj] at c_177
                          obtain ⟨x_178, ex_178⟩ : ∃ y : Int32, y_66 + 1 = y := ⟨_, rfl⟩
                          have hx_178 : x_178.toInt = y_66.toInt + 1 := by rw [← ex_178, ad_I (by rw [ti_1]; omega) (by rw [ti_1]; omega), ti_1]
                          have bx_178 : (1 ≤ x_178.toInt ∧ x_178.toInt ≤ 20) := by constructor <;> omega
                          refine lv_iinc (v := x_178) (lv' := [(6, .int x_178), (9, .int y_80), (8, .int x_79), (7, .int x_76), (0, .ref o0), (1, .int p1), (2, .int p2), (3, .int p3), (4, .int p4), (5, .int p5)]) hx hb dX12_aligns_223 hl (k := 3) rfl ex_178 (by decide) rfl (fun ls hl => ?_)
                          refine lv_goto (tgt := 32) hx hb dX12_aligns_226 (by decide) ?_
                          exact ih_hloop_65 x_178 (by constructor <;> omega) f_68 hG _ _ hP hS hD hfr0 hfo_69 (by omega) ls (lv_sub hl [0, 4, 5, 6, 7, 8, 9] rfl)
                        · skip
                          rw [← Int32.toInt_inj] at c_177
                          have hclc_179 : (0 ≤ p2.toInt ∧ p2.toInt ≤ 7) := by constructor <;> omega
                          refine lv_aload_n hx hb dX12_aligns_137 rfl (lv_at hl 4 rfl) ?_
                          refine tk_getP (D := (dC, dI)) (ci := 12) (v := .ref a_35) (C := RX12) (T := TX12) (N := 56) hx hb hU inlX12 hown hK hP mo0 hfo_69 rfl 34 (by decide) (hU _ wd_186) (fun _ h9 => h9) rfl dX12_aligns_138 ?_
                          refine lv_iload_n hx hb dX12_aligns_141 rfl (lv_at hl 6 rfl) ?_
                          obtain ⟨g_181, hfo_180, hbg_181⟩ := un_594 (hG _ ma_35) ka_35
                          refine tk_ildP hx hb hK hP 0 ma_35 hfo_180 rfl (vp_in_iff.mpr (by constructor <;> omega)) dX12_aligns_142 ?_
                          refine lv_topi (fun x_182 ex_182 => ?_)
                          have bx_182 : (0 ≤ x_182.toInt ∧ x_182.toInt ≤ 8) := by rw [ex_182]; exact hbg_181 _
                          refine lv_iload hx hb dX12_aligns_143 (lv_at hl 1 rfl) ?_
                          refine lv_icmp_eq (tgt := 151) hx hb dX12_aligns_145 (by decide) (fun c_183 => ?_) (fun c_183 => ?_)
                          · skip
                            rw [← Int32.toInt_inj] at c_183
                            refine lv_aload_n hx hb dX12_aligns_151 rfl (lv_at hl 4 rfl) ?_
                            refine lv_iload hx hb dX12_aligns_152 (lv_at hl 8 rfl) ?_
                            refine lv_aload_n hx hb dX12_aligns_154 rfl (lv_at hl 4 rfl) ?_
                            refine tk_getP (D := (dC, dI)) (ci := 12) (v := .ref a_1) (C := RX12) (T := TX12) (N := 56) hx hb hU inlX12 hown hK hP mo0 hfo_69 rfl 0 (by decide) (hU _ wd_169) (fun _ h9 => h9) rfl dX12_aligns_155 ?_
                            refine lv_bipush (v := 20) hx hb dX12_aligns_158 (by decide) ?_
                            refine lv_iload hx hb dX12_aligns_160 (lv_at hl 3 rfl) ?_
                            refine lv_iadd hx hb dX12_aligns_162 ?_
                            refine lv_topi (fun x_184 ex_184 => ?_)
                            have hx_184 : x_184.toInt = 20 + y_66.toInt := by rw [ex_184, ad_I (by rw [ti_20]; omega) (by rw [ti_20]; omega), ti_20]
                            have bx_184 : (20 ≤ x_184.toInt ∧ x_184.toInt ≤ 39) := by constructor <;> omega
                            refine tk_ildP hx hb hK hP 0 ma_1 hfo_70 rfl (vp_in_iff.mpr (by constructor <;> omega)) dX12_aligns_163 ?_
                            refine lv_topi (fun x_185 ex_185 => ?_)
                            have bx_185 : (0 ≤ x_185.toInt ∧ x_185.toInt ≤ 80) := by have hc9 := cl_I (i := x_184) (by omega); rw [ex_185]; exact hbg_71.2.2.2.2.2.1 _ (by omega) (by omega) (by omega)
                            refine lv_iload hx hb dX12_aligns_164 (lv_at hl 9 rfl) ?_
                            refine tk_ViP (As := [.int p4, .int x_185, .int p5]) (rest := []) (n := 3) hx hb hml hown hU hN hZ (s_X12_reads_k12 l (dC, dI) cI cL cZ cR cG cH Z kd L f_68 hG o0 mo0 ko0 p4 (by constructor <;> omega) x_185 p5) wd_950 wd_951 wd_952 wd_5 wd_953 (by decide +kernel) ⟨(show 4 + 1 ≤ 5 + (n_ + 1) by omega), (show 8 + (5 + 11) + 105 ≤ 129 + (n_ + 1) * 29 by omega)⟩ hK hP hD hS mo0 hfo_69 12 rfl rfl rfl hl.1 rfl (Nat.le_of_ble_eq_true rfl) dX12_aligns_166 ⟨Nat.le_of_ble_eq_true rfl, Nat.le_of_ble_eq_true rfl⟩ (fun x_186 f_187 H locs hw hP hD hS => ?_)
                            obtain ⟨hG, bx_186, hkc_188⟩ := hw
                            have hfo_190 : f_187 o0 = .inr (12, [.ref a_1, .ref a_2, .ref a_3, .int v_4, .ref a_5, .int v_6, .int v_7, .int v_8, .int v_9, .int v_10, .int v_11, .int v_12, .int v_13, .int v_14, .int v_15, .ref a_16, .ref a_17, .ref a_18, .ref a_19, .ref a_20, .ref a_21, .ref a_22, .ref a_23, .int v_24, .int v_25, .int v_26, .int v_27, .int v_28, .ref a_29, .int v_30, .ref a_31, .ref a_32, .int v_33, .int v_34, .ref a_35, .int v_36, .ref a_37, .ref a_38, .int v_39, .int v_40, .ref a_41, .ref a_42, .ref a_43, .int v_44, .ref a_45, .ref a_46, .ref a_47, .ref a_48, .ref a_49, .ref a_50, .ref a_51, .ref a_52, .ref a_53, .int v_54, .int v_55, .ref a_56]) := by rw [hkc_188 o0 (by rw [ko0]; decide) (by rw [ko0]; decide) (by rw [ko0]; decide) (by rw [ko0]; decide) (by rw [ko0]; decide) (by rw [ko0]; decide)]; exact hfo_69
                            have hfo_191 : f_187 a_1 = .inl (cI, 1560, .inl g_71) := by rw [hkc_188 a_1 (by rw [ka_1]; decide) (by rw [ka_1]; decide) (by rw [ka_1]; decide) (by rw [ka_1]; decide) (by rw [ka_1]; decide) (by rw [ka_1]; decide)]; exact hfo_70
                            have hfo_192 : f_187 a_22 = .inl (cI, 16, .inl g_146) := by rw [hkc_188 a_22 (by rw [ka_22]; decide) (by rw [ka_22]; decide) (by rw [ka_22]; decide) (by rw [ka_22]; decide) (by rw [ka_22]; decide) (by rw [ka_22]; decide)]; exact hfo_145
                            have hfo_193 : f_187 a_35 = .inl (cI, 16, .inl g_181) := by rw [hkc_188 a_35 (by rw [ka_35]; decide) (by rw [ka_35]; decide) (by rw [ka_35]; decide) (by rw [ka_35]; decide) (by rw [ka_35]; decide) (by rw [ka_35]; decide)]; exact hfo_180
                            have hfr0 : ∀ b, kd b ≠ 579 → kd b ≠ 581 → kd b ≠ 583 → kd b ≠ 585 → kd b ≠ 587 → kd b ≠ 588 → f_187 b = f b := fun b q579 q581 q583 q585 q587 q588 => (hkc_188 b q579 q581 q583 q585 q587 q588).trans (hfr0 b q579 q581 q583 q585 q587 q588)
                            refine lv_if_eq (tgt := 223) hx hb dX12_aligns_169 (by decide) (fun c_194 => ?_) (fun c_194 => ?_)
                            · skip
                              rw [← Int32.toInt_inj, ti_0] at c_194
                              obtain ⟨x_195, ex_195⟩ : ∃ y : Int32, y_66 + 1 = y := ⟨_, rfl⟩
                              have hx_195 : x_195.toInt = y_66.toInt + 1 := by rw [← ex_195, ad_I (by rw [ti_1]; omega) (by rw [ti_1]; omega), ti_1]
                              have bx_195 : (1 ≤ x_195.toInt ∧ x_195.toInt ≤ 20) := by constructor <;> omega
                              refine lv_iinc (v := x_195) (lv' := [(6, .int x_195), (9, .int y_80), (8, .int x_79), (7, .int x_76), (0, .ref o0), (1, .int p1), (2, .int p2), (3, .int p3), (4, .int p4), (5, .int p5)]) hx hb dX12_aligns_223 hl (k := 3) rfl ex_195 (by decide) rfl (fun ls hl => ?_)
                              refine lv_goto (tgt := 32) hx hb dX12_aligns_226 (by decide) ?_
                              exact ih_hloop_65 x_195 (by constructor <;> omega) f_187 hG _ _ hP hS hD hfr0 hfo_190 (by omega) ls (lv_sub hl [0, 4, 5, 6, 7, 8, 9] rfl)
                            · skip
                              rw [← Int32.toInt_inj, ti_0] at c_194
                              refine lv_aload_n hx hb dX12_aligns_172 rfl (lv_at hl 4 rfl) ?_
                              refine lv_iload hx hb dX12_aligns_173 (lv_at hl 2 rfl) ?_
                              refine lv_if_ne (tgt := 182) hx hb dX12_aligns_175 (by decide) (fun c_196 => ?_) (fun c_196 => ?_)
                              · skip
                                rw [← Int32.toInt_inj, ti_0] at c_196
                                refine lv_iload_n hx hb dX12_aligns_182 rfl (lv_at hl 5 rfl) ?_
                                refine lv_iconst (v := 1) hx hb dX12_aligns_183 (by decide) ?_
                                refine lv_iadd hx hb dX12_aligns_184 ?_
                                refine lv_topi (fun x_197 ex_197 => ?_)
                                have hx_197 : x_197.toInt = p1.toInt + 1 := by rw [ex_197, ad_I (by rw [ti_1]; omega) (by rw [ti_1]; omega), ti_1]
                                have bx_197 : (1 ≤ x_197.toInt ∧ x_197.toInt ≤ 12) := by constructor <;> omega
                                refine lv_iload hx hb dX12_aligns_185 (lv_at hl 1 rfl) ?_
                                refine lv_if_ne (tgt := 194) hx hb dX12_aligns_187 (by decide) (fun c_198 => ?_) (fun c_198 => ?_)
                                · skip
                                  rw [← Int32.toInt_inj, ti_0] at c_198
                                  refine lv_iload_n hx hb dX12_aligns_194 rfl (lv_at hl 6 rfl) ?_
                                  refine lv_iconst (v := 1) hx hb dX12_aligns_195 (by decide) ?_
                                  refine lv_iadd hx hb dX12_aligns_196 ?_
                                  refine lv_topi (fun x_199 ex_199 => ?_)
                                  have hx_199 : x_199.toInt = p2.toInt + 1 := by rw [ex_199, ad_I (by rw [ti_1]; omega) (by rw [ti_1]; omega), ti_1]
                                  have bx_199 : (1 ≤ x_199.toInt ∧ x_199.toInt ≤ 8) := by constructor <;> omega
                                  refine lv_iload hx hb dX12_aligns_197 (lv_at hl 0 rfl) ?_
                                  refine lv_if_eq (tgt := 208) hx hb dX12_aligns_199 (by decide) (fun c_200 => ?_) (fun c_200 => ?_)
                                  · skip
                                    rw [← Int32.toInt_inj, ti_0] at c_200
                                    refine lv_iload_n hx hb dX12_aligns_208 rfl (lv_at hl 7 rfl) ?_
                                    refine lv_iload hx hb dX12_aligns_209 (lv_at hl 8 rfl) ?_
                                    refine lv_iconst (v := 1) hx hb dX12_aligns_211 (by decide) ?_
                                    refine lv_iadd hx hb dX12_aligns_212 ?_
                                    refine lv_topi (fun x_201 ex_201 => ?_)
                                    have hx_201 : x_201.toInt = p4.toInt + 1 := by rw [ex_201, ad_I (by rw [ti_1]; omega) (by rw [ti_1]; omega), ti_1]
                                    have bx_201 : (1 ≤ x_201.toInt ∧ x_201.toInt ≤ 14) := by constructor <;> omega
                                    have hclc_202 : (1 ≤ x_201.toInt ∧ x_201.toInt ≤ 13) := by constructor <;> omega
                                    refine lv_iload hx hb dX12_aligns_213 (lv_at hl 9 rfl) ?_
                                    refine tk_ViP (As := [.int x_197, .int x_199, .int p3, .int x_201, .int p5]) (rest := []) (n := 5) hx hb hml hown hU hN hZ (ih_rec f_187 hG o0 mo0 ko0 x_197 (by constructor <;> omega) x_199 (by constructor <;> omega) p3 (by constructor <;> omega) x_201 (by constructor <;> omega) p5 (by intro w23 w35 e23 e35; rw [hfo_190] at e23 e35; obtain rfl := Option.some.inj e23; obtain rfl := Option.some.inj e35; omega) (by omega) (by omega)) wd_1054 wd_1055 wd_1056 wd_5 wd_1057 (by decide +kernel) ⟨(show (5 + n_) + 1 ≤ 5 + (n_ + 1) by omega), (show 8 + (10 + 11) + (129 + n_ * 29) ≤ 129 + (n_ + 1) * 29 by omega)⟩ hK hP hD hS mo0 hfo_190 12 rfl rfl rfl hl.1 rfl (Nat.le_of_ble_eq_true rfl) dX12_aligns_215 ⟨Nat.le_of_ble_eq_true rfl, Nat.le_of_ble_eq_true rfl⟩ (fun x_203 f_204 H locs hw hP hD hS => ?_)
                                    obtain ⟨hG, bx_203, hkc_205⟩ := hw
                                    have hfo_207 : f_204 o0 = .inr (12, [.ref a_1, .ref a_2, .ref a_3, .int v_4, .ref a_5, .int v_6, .int v_7, .int v_8, .int v_9, .int v_10, .int v_11, .int v_12, .int v_13, .int v_14, .int v_15, .ref a_16, .ref a_17, .ref a_18, .ref a_19, .ref a_20, .ref a_21, .ref a_22, .ref a_23, .int v_24, .int v_25, .int v_26, .int v_27, .int v_28, .ref a_29, .int v_30, .ref a_31, .ref a_32, .int v_33, .int v_34, .ref a_35, .int v_36, .ref a_37, .ref a_38, .int v_39, .int v_40, .ref a_41, .ref a_42, .ref a_43, .int v_44, .ref a_45, .ref a_46, .ref a_47, .ref a_48, .ref a_49, .ref a_50, .ref a_51, .ref a_52, .ref a_53, .int v_54, .int v_55, .ref a_56]) := by rw [hkc_205 o0 (by rw [ko0]; decide) (by rw [ko0]; decide) (by rw [ko0]; decide) (by rw [ko0]; decide) (by rw [ko0]; decide) (by rw [ko0]; decide)]; exact hfo_190
                                    have hfo_208 : f_204 a_1 = .inl (cI, 1560, .inl g_71) := by rw [hkc_205 a_1 (by rw [ka_1]; decide) (by rw [ka_1]; decide) (by rw [ka_1]; decide) (by rw [ka_1]; decide) (by rw [ka_1]; decide) (by rw [ka_1]; decide)]; exact hfo_191
                                    have hfo_209 : f_204 a_22 = .inl (cI, 16, .inl g_146) := by rw [hkc_205 a_22 (by rw [ka_22]; decide) (by rw [ka_22]; decide) (by rw [ka_22]; decide) (by rw [ka_22]; decide) (by rw [ka_22]; decide) (by rw [ka_22]; decide)]; exact hfo_192
                                    have hfo_210 : f_204 a_35 = .inl (cI, 16, .inl g_181) := by rw [hkc_205 a_35 (by rw [ka_35]; decide) (by rw [ka_35]; decide) (by rw [ka_35]; decide) (by rw [ka_35]; decide) (by rw [ka_35]; decide) (by rw [ka_35]; decide)]; exact hfo_193
                                    have hfr0 : ∀ b, kd b ≠ 579 → kd b ≠ 581 → kd b ≠ 583 → kd b ≠ 585 → kd b ≠ 587 → kd b ≠ 588 → f_204 b = f b := fun b q579 q581 q583 q585 q587 q588 => (hkc_205 b q579 q581 q583 q585 q587 q588).trans (hfr0 b q579 q581 q583 q585 q587 q588)
                                    refine lv_if_eq (tgt := 223) hx hb dX12_aligns_218 (by decide) (fun c_211 => ?_) (fun c_211 => ?_)
                                    · skip
                                      rw [← Int32.toInt_inj, ti_0] at c_211
                                      obtain ⟨x_212, ex_212⟩ : ∃ y : Int32, y_66 + 1 = y := ⟨_, rfl⟩
                                      have hx_212 : x_212.toInt = y_66.toInt + 1 := by rw [← ex_212, ad_I (by rw [ti_1]; omega) (by rw [ti_1]; omega), ti_1]
                                      have bx_212 : (1 ≤ x_212.toInt ∧ x_212.toInt ≤ 20) := by constructor <;> omega
                                      refine lv_iinc (v := x_212) (lv' := [(6, .int x_212), (9, .int y_80), (8, .int x_79), (7, .int x_76), (0, .ref o0), (1, .int p1), (2, .int p2), (3, .int p3), (4, .int p4), (5, .int p5)]) hx hb dX12_aligns_223 hl (k := 3) rfl ex_212 (by decide) rfl (fun ls hl => ?_)
                                      refine lv_goto (tgt := 32) hx hb dX12_aligns_226 (by decide) ?_
                                      exact ih_hloop_65 x_212 (by constructor <;> omega) f_204 hG _ _ hP hS hD hfr0 hfo_207 (by omega) ls (lv_sub hl [0, 4, 5, 6, 7, 8, 9] rfl)
                                    · skip
                                      rw [← Int32.toInt_inj, ti_0] at c_211
                                      refine lv_iconst (v := 1) hx hb dX12_aligns_221 (by decide) ?_
                                      exact W.zret (v := 1) (ty := .boolean) hx hb hr rfl (fun t ht hW => ⟨⟨1, f_204, rfl, ⟨hG, (by decide), hfr0⟩, by rw [ht]; exact hP, va_K.moved hW.alike hK, pl_in hD⟩, hS.F ht⟩) hS.2.2 dX12_aligns_222
                                  · skip
                                    rw [← Int32.toInt_inj, ti_0] at c_200
                                    exfalso
                                    omega
                                · skip
                                  rw [← Int32.toInt_inj, ti_0] at c_198
                                  exfalso
                                  omega
                              · skip
                                rw [← Int32.toInt_inj, ti_0] at c_196
                                exfalso
                                omega
                          · skip
                            rw [← Int32.toInt_inj] at c_183
                            refine lv_goto (tgt := 223) hx hb dX12_aligns_148 (by decide) ?_
                            obtain ⟨x_213, ex_213⟩ : ∃ y : Int32, y_66 + 1 = y := ⟨_, rfl⟩
                            have hx_213 : x_213.toInt = y_66.toInt + 1 := by rw [← ex_213, ad_I (by rw [ti_1]; omega) (by rw [ti_1]; omega), ti_1]
                            have bx_213 : (1 ≤ x_213.toInt ∧ x_213.toInt ≤ 20) := by constructor <;> omega
                            refine lv_iinc (v := x_213) (lv' := [(6, .int x_213), (9, .int y_80), (8, .int x_79), (7, .int x_76), (0, .ref o0), (1, .int p1), (2, .int p2), (3, .int p3), (4, .int p4), (5, .int p5)]) hx hb dX12_aligns_223 hl (k := 3) rfl ex_213 (by decide) rfl (fun ls hl => ?_)
                            refine lv_goto (tgt := 32) hx hb dX12_aligns_226 (by decide) ?_
                            exact ih_hloop_65 x_213 (by constructor <;> omega) f_68 hG _ _ hP hS hD hfr0 hfo_69 (by omega) ls (lv_sub hl [0, 4, 5, 6, 7, 8, 9] rfl)
              · skip
                rw [← Int32.toInt_inj, ti_0] at c_82
                refine lv_iload_n hx hb dX12_aligns_96 rfl (lv_at hl 7 rfl) ?_
                refine lv_if_eq (tgt := 223) hx hb dX12_aligns_97 (by decide) (fun c_214 => ?_) (fun c_214 => ?_)
                · skip
                  rw [← Int32.toInt_inj, ti_0] at c_214
                  obtain ⟨x_215, ex_215⟩ : ∃ y : Int32, y_66 + 1 = y := ⟨_, rfl⟩
                  have hx_215 : x_215.toInt = y_66.toInt + 1 := by rw [← ex_215, ad_I (by rw [ti_1]; omega) (by rw [ti_1]; omega), ti_1]
                  have bx_215 : (1 ≤ x_215.toInt ∧ x_215.toInt ≤ 20) := by constructor <;> omega
                  refine lv_iinc (v := x_215) (lv' := [(6, .int x_215), (9, .int y_80), (8, .int x_79), (7, .int x_76), (0, .ref o0), (1, .int p1), (2, .int p2), (3, .int p3), (4, .int p4), (5, .int p5)]) hx hb dX12_aligns_223 hl (k := 3) rfl ex_215 (by decide) rfl (fun ls hl => ?_)
                  refine lv_goto (tgt := 32) hx hb dX12_aligns_226 (by decide) ?_
                  exact ih_hloop_65 x_215 (by constructor <;> omega) f_68 hG _ _ hP hS hD hfr0 hfo_69 (by omega) ls (lv_sub hl [0, 4, 5, 6, 7, 8, 9] rfl)
                · skip
                  rw [← Int32.toInt_inj, ti_0] at c_214
                  refine lv_iload hx hb dX12_aligns_100 (lv_at hl 2 rfl) ?_
                  refine lv_if_eq (tgt := 124) hx hb dX12_aligns_102 (by decide) (fun c_216 => ?_) (fun c_216 => ?_)
                  · skip
                    rw [← Int32.toInt_inj, ti_0] at c_216
                    refine lv_iload hx hb dX12_aligns_124 (lv_at hl 1 rfl) ?_
                    refine lv_if_eq (tgt := 151) hx hb dX12_aligns_126 (by decide) (fun c_217 => ?_) (fun c_217 => ?_)
                    · skip
                      rw [← Int32.toInt_inj, ti_0] at c_217
                      refine lv_aload_n hx hb dX12_aligns_151 rfl (lv_at hl 4 rfl) ?_
                      refine lv_iload hx hb dX12_aligns_152 (lv_at hl 8 rfl) ?_
                      refine lv_aload_n hx hb dX12_aligns_154 rfl (lv_at hl 4 rfl) ?_
                      refine tk_getP (D := (dC, dI)) (ci := 12) (v := .ref a_1) (C := RX12) (T := TX12) (N := 56) hx hb hU inlX12 hown hK hP mo0 hfo_69 rfl 0 (by decide) (hU _ wd_169) (fun _ h9 => h9) rfl dX12_aligns_155 ?_
                      refine lv_bipush (v := 20) hx hb dX12_aligns_158 (by decide) ?_
                      refine lv_iload hx hb dX12_aligns_160 (lv_at hl 3 rfl) ?_
                      refine lv_iadd hx hb dX12_aligns_162 ?_
                      refine lv_topi (fun x_218 ex_218 => ?_)
                      have hx_218 : x_218.toInt = 20 + y_66.toInt := by rw [ex_218, ad_I (by rw [ti_20]; omega) (by rw [ti_20]; omega), ti_20]
                      have bx_218 : (20 ≤ x_218.toInt ∧ x_218.toInt ≤ 39) := by constructor <;> omega
                      refine tk_ildP hx hb hK hP 0 ma_1 hfo_70 rfl (vp_in_iff.mpr (by constructor <;> omega)) dX12_aligns_163 ?_
                      refine lv_topi (fun x_219 ex_219 => ?_)
                      have bx_219 : (0 ≤ x_219.toInt ∧ x_219.toInt ≤ 80) := by have hc9 := cl_I (i := x_218) (by omega); rw [ex_219]; exact hbg_71.2.2.2.2.2.1 _ (by omega) (by omega) (by omega)
                      refine lv_iload hx hb dX12_aligns_164 (lv_at hl 9 rfl) ?_
                      refine tk_ViP (As := [.int p4, .int x_219, .int p5]) (rest := []) (n := 3) hx hb hml hown hU hN hZ (s_X12_reads_k12 l (dC, dI) cI cL cZ cR cG cH Z kd L f_68 hG o0 mo0 ko0 p4 (by constructor <;> omega) x_219 p5) wd_950 wd_951 wd_952 wd_5 wd_953 (by decide +kernel) ⟨(show 4 + 1 ≤ 5 + (n_ + 1) by omega), (show 8 + (5 + 11) + 105 ≤ 129 + (n_ + 1) * 29 by omega)⟩ hK hP hD hS mo0 hfo_69 12 rfl rfl rfl hl.1 rfl (Nat.le_of_ble_eq_true rfl) dX12_aligns_166 ⟨Nat.le_of_ble_eq_true rfl, Nat.le_of_ble_eq_true rfl⟩ (fun x_220 f_221 H locs hw hP hD hS => ?_)
                      obtain ⟨hG, bx_220, hkc_222⟩ := hw
                      have hfo_224 : f_221 o0 = .inr (12, [.ref a_1, .ref a_2, .ref a_3, .int v_4, .ref a_5, .int v_6, .int v_7, .int v_8, .int v_9, .int v_10, .int v_11, .int v_12, .int v_13, .int v_14, .int v_15, .ref a_16, .ref a_17, .ref a_18, .ref a_19, .ref a_20, .ref a_21, .ref a_22, .ref a_23, .int v_24, .int v_25, .int v_26, .int v_27, .int v_28, .ref a_29, .int v_30, .ref a_31, .ref a_32, .int v_33, .int v_34, .ref a_35, .int v_36, .ref a_37, .ref a_38, .int v_39, .int v_40, .ref a_41, .ref a_42, .ref a_43, .int v_44, .ref a_45, .ref a_46, .ref a_47, .ref a_48, .ref a_49, .ref a_50, .ref a_51, .ref a_52, .ref a_53, .int v_54, .int v_55, .ref a_56]) := by rw [hkc_222 o0 (by rw [ko0]; decide) (by rw [ko0]; decide) (by rw [ko0]; decide) (by rw [ko0]; decide) (by rw [ko0]; decide) (by rw [ko0]; decide)]; exact hfo_69
                      have hfo_225 : f_221 a_1 = .inl (cI, 1560, .inl g_71) := by rw [hkc_222 a_1 (by rw [ka_1]; decide) (by rw [ka_1]; decide) (by rw [ka_1]; decide) (by rw [ka_1]; decide) (by rw [ka_1]; decide) (by rw [ka_1]; decide)]; exact hfo_70
                      have hfr0 : ∀ b, kd b ≠ 579 → kd b ≠ 581 → kd b ≠ 583 → kd b ≠ 585 → kd b ≠ 587 → kd b ≠ 588 → f_221 b = f b := fun b q579 q581 q583 q585 q587 q588 => (hkc_222 b q579 q581 q583 q585 q587 q588).trans (hfr0 b q579 q581 q583 q585 q587 q588)
                      refine lv_if_eq (tgt := 223) hx hb dX12_aligns_169 (by decide) (fun c_226 => ?_) (fun c_226 => ?_)
                      · skip
                        rw [← Int32.toInt_inj, ti_0] at c_226
                        obtain ⟨x_227, ex_227⟩ : ∃ y : Int32, y_66 + 1 = y := ⟨_, rfl⟩
                        have hx_227 : x_227.toInt = y_66.toInt + 1 := by rw [← ex_227, ad_I (by rw [ti_1]; omega) (by rw [ti_1]; omega), ti_1]
                        have bx_227 : (1 ≤ x_227.toInt ∧ x_227.toInt ≤ 20) := by constructor <;> omega
                        refine lv_iinc (v := x_227) (lv' := [(6, .int x_227), (9, .int y_80), (8, .int x_79), (7, .int x_76), (0, .ref o0), (1, .int p1), (2, .int p2), (3, .int p3), (4, .int p4), (5, .int p5)]) hx hb dX12_aligns_223 hl (k := 3) rfl ex_227 (by decide) rfl (fun ls hl => ?_)
                        refine lv_goto (tgt := 32) hx hb dX12_aligns_226 (by decide) ?_
                        exact ih_hloop_65 x_227 (by constructor <;> omega) f_221 hG _ _ hP hS hD hfr0 hfo_224 (by omega) ls (lv_sub hl [0, 4, 5, 6, 7, 8, 9] rfl)
                      · skip
                        rw [← Int32.toInt_inj, ti_0] at c_226
                        refine lv_aload_n hx hb dX12_aligns_172 rfl (lv_at hl 4 rfl) ?_
                        refine lv_iload hx hb dX12_aligns_173 (lv_at hl 2 rfl) ?_
                        refine lv_if_ne (tgt := 182) hx hb dX12_aligns_175 (by decide) (fun c_228 => ?_) (fun c_228 => ?_)
                        · skip
                          rw [← Int32.toInt_inj, ti_0] at c_228
                          exfalso
                          omega
                        · skip
                          rw [← Int32.toInt_inj, ti_0] at c_228
                          refine lv_iload_n hx hb dX12_aligns_178 rfl (lv_at hl 5 rfl) ?_
                          refine lv_goto (tgt := 185) hx hb dX12_aligns_179 (by decide) ?_
                          refine lv_iload hx hb dX12_aligns_185 (lv_at hl 1 rfl) ?_
                          refine lv_if_ne (tgt := 194) hx hb dX12_aligns_187 (by decide) (fun c_229 => ?_) (fun c_229 => ?_)
                          · skip
                            rw [← Int32.toInt_inj, ti_0] at c_229
                            exfalso
                            omega
                          · skip
                            rw [← Int32.toInt_inj, ti_0] at c_229
                            refine lv_iload_n hx hb dX12_aligns_190 rfl (lv_at hl 6 rfl) ?_
                            refine lv_goto (tgt := 197) hx hb dX12_aligns_191 (by decide) ?_
                            refine lv_iload hx hb dX12_aligns_197 (lv_at hl 0 rfl) ?_
                            refine lv_if_eq (tgt := 208) hx hb dX12_aligns_199 (by decide) (fun c_230 => ?_) (fun c_230 => ?_)
                            · skip
                              rw [← Int32.toInt_inj, ti_0] at c_230
                              exfalso
                              omega
                            · skip
                              rw [← Int32.toInt_inj, ti_0] at c_230
                              refine lv_iload_n hx hb dX12_aligns_202 rfl (lv_at hl 7 rfl) ?_
                              refine lv_iconst (v := 1) hx hb dX12_aligns_203 (by decide) ?_
                              refine lv_isub hx hb dX12_aligns_204 ?_
                              refine lv_topi (fun x_231 ex_231 => ?_)
                              have hx_231 : x_231.toInt = p3.toInt - 1 := by rw [ex_231, sb_I (by rw [ti_1]; omega) (by rw [ti_1]; omega), ti_1]
                              have bx_231 : (0 ≤ x_231.toInt ∧ x_231.toInt ≤ 0) := by constructor <;> omega
                              refine lv_goto (tgt := 209) hx hb dX12_aligns_205 (by decide) ?_
                              refine lv_iload hx hb dX12_aligns_209 (lv_at hl 8 rfl) ?_
                              refine lv_iconst (v := 1) hx hb dX12_aligns_211 (by decide) ?_
                              refine lv_iadd hx hb dX12_aligns_212 ?_
                              refine lv_topi (fun x_232 ex_232 => ?_)
                              have hx_232 : x_232.toInt = p4.toInt + 1 := by rw [ex_232, ad_I (by rw [ti_1]; omega) (by rw [ti_1]; omega), ti_1]
                              have bx_232 : (1 ≤ x_232.toInt ∧ x_232.toInt ≤ 14) := by constructor <;> omega
                              have hclc_233 : (1 ≤ x_232.toInt ∧ x_232.toInt ≤ 13) := by constructor <;> omega
                              refine lv_iload hx hb dX12_aligns_213 (lv_at hl 9 rfl) ?_
                              refine tk_ViP (As := [.int p1, .int p2, .int x_231, .int x_232, .int p5]) (rest := []) (n := 5) hx hb hml hown hU hN hZ (ih_rec f_221 hG o0 mo0 ko0 p1 (by constructor <;> omega) p2 (by constructor <;> omega) x_231 (by constructor <;> omega) x_232 (by constructor <;> omega) p5 (by intro w23 w35 e23 e35; rw [hfo_224] at e23 e35; obtain rfl := Option.some.inj e23; obtain rfl := Option.some.inj e35; omega) (by omega) (by omega)) wd_1054 wd_1055 wd_1056 wd_5 wd_1057 (by decide +kernel) ⟨(show (5 + n_) + 1 ≤ 5 + (n_ + 1) by omega), (show 8 + (10 + 11) + (129 + n_ * 29) ≤ 129 + (n_ + 1) * 29 by omega)⟩ hK hP hD hS mo0 hfo_224 12 rfl rfl rfl hl.1 rfl (Nat.le_of_ble_eq_true rfl) dX12_aligns_215 ⟨Nat.le_of_ble_eq_true rfl, Nat.le_of_ble_eq_true rfl⟩ (fun x_234 f_235 H locs hw hP hD hS => ?_)
                              obtain ⟨hG, bx_234, hkc_236⟩ := hw
                              have hfo_238 : f_235 o0 = .inr (12, [.ref a_1, .ref a_2, .ref a_3, .int v_4, .ref a_5, .int v_6, .int v_7, .int v_8, .int v_9, .int v_10, .int v_11, .int v_12, .int v_13, .int v_14, .int v_15, .ref a_16, .ref a_17, .ref a_18, .ref a_19, .ref a_20, .ref a_21, .ref a_22, .ref a_23, .int v_24, .int v_25, .int v_26, .int v_27, .int v_28, .ref a_29, .int v_30, .ref a_31, .ref a_32, .int v_33, .int v_34, .ref a_35, .int v_36, .ref a_37, .ref a_38, .int v_39, .int v_40, .ref a_41, .ref a_42, .ref a_43, .int v_44, .ref a_45, .ref a_46, .ref a_47, .ref a_48, .ref a_49, .ref a_50, .ref a_51, .ref a_52, .ref a_53, .int v_54, .int v_55, .ref a_56]) := by rw [hkc_236 o0 (by rw [ko0]; decide) (by rw [ko0]; decide) (by rw [ko0]; decide) (by rw [ko0]; decide) (by rw [ko0]; decide) (by rw [ko0]; decide)]; exact hfo_224
                              have hfo_239 : f_235 a_1 = .inl (cI, 1560, .inl g_71) := by rw [hkc_236 a_1 (by rw [ka_1]; decide) (by rw [ka_1]; decide) (by rw [ka_1]; decide) (by rw [ka_1]; decide) (by rw [ka_1]; decide) (by rw [ka_1]; decide)]; exact hfo_225
                              have hfr0 : ∀ b, kd b ≠ 579 → kd b ≠ 581 → kd b ≠ 583 → kd b ≠ 585 → kd b ≠ 587 → kd b ≠ 588 → f_235 b = f b := fun b q579 q581 q583 q585 q587 q588 => (hkc_236 b q579 q581 q583 q585 q587 q588).trans (hfr0 b q579 q581 q583 q585 q587 q588)
                              refine lv_if_eq (tgt := 223) hx hb dX12_aligns_218 (by decide) (fun c_240 => ?_) (fun c_240 => ?_)
                              · skip
                                rw [← Int32.toInt_inj, ti_0] at c_240
                                obtain ⟨x_241, ex_241⟩ : ∃ y : Int32, y_66 + 1 = y := ⟨_, rfl⟩
                                have hx_241 : x_241.toInt = y_66.toInt + 1 := by rw [← ex_241, ad_I (by rw [ti_1]; omega) (by rw [ti_1]; omega), ti_1]
                                have bx_241 : (1 ≤ x_241.toInt ∧ x_241.toInt ≤ 20) := by constructor <;> omega
                                refine lv_iinc (v := x_241) (lv' := [(6, .int x_241), (9, .int y_80), (8, .int x_79), (7, .int x_76), (0, .ref o0), (1, .int p1), (2, .int p2), (3, .int p3), (4, .int p4), (5, .int p5)]) hx hb dX12_aligns_223 hl (k := 3) rfl ex_241 (by decide) rfl (fun ls hl => ?_)
                                refine lv_goto (tgt := 32) hx hb dX12_aligns_226 (by decide) ?_
                                exact ih_hloop_65 x_241 (by constructor <;> omega) f_235 hG _ _ hP hS hD hfr0 hfo_238 (by omega) ls (lv_sub hl [0, 4, 5, 6, 7, 8, 9] rfl)
                              · skip
                                rw [← Int32.toInt_inj, ti_0] at c_240
                                refine lv_iconst (v := 1) hx hb dX12_aligns_221 (by decide) ?_
                                exact W.zret (v := 1) (ty := .boolean) hx hb hr rfl (fun t ht hW => ⟨⟨1, f_235, rfl, ⟨hG, (by decide), hfr0⟩, by rw [ht]; exact hP, va_K.moved hW.alike hK, pl_in hD⟩, hS.F ht⟩) hS.2.2 dX12_aligns_222
                    · skip
                      rw [← Int32.toInt_inj, ti_0] at c_217
                      refine lv_iload_n hx hb dX12_aligns_129 rfl (lv_at hl 6 rfl) ?_
                      refine lv_aload_n hx hb dX12_aligns_130 rfl (lv_at hl 4 rfl) ?_
                      refine tk_getP (D := (dC, dI)) (ci := 12) (v := .int v_36) (C := RX12) (T := TX12) (N := 56) hx hb hU inlX12 hown hK hP mo0 hfo_69 rfl 35 (by decide) (hU _ wd_1049) (fun _ h9 => h9) rfl dX12_aligns_131 ?_
                      refine lv_icmp_eq (tgt := 223) hx hb dX12_aligns_134 (by decide) (fun c_242 => ?_) (fun c_242 => ?_)
                      · skip
                        rw [← Int32.toInt_inj] at c_242
                        obtain ⟨x_243, ex_243⟩ : ∃ y : Int32, y_66 + 1 = y := ⟨_, rfl⟩
                        have hx_243 : x_243.toInt = y_66.toInt + 1 := by rw [← ex_243, ad_I (by rw [ti_1]; omega) (by rw [ti_1]; omega), ti_1]
                        have bx_243 : (1 ≤ x_243.toInt ∧ x_243.toInt ≤ 20) := by constructor <;> omega
                        refine lv_iinc (v := x_243) (lv' := [(6, .int x_243), (9, .int y_80), (8, .int x_79), (7, .int x_76), (0, .ref o0), (1, .int p1), (2, .int p2), (3, .int p3), (4, .int p4), (5, .int p5)]) hx hb dX12_aligns_223 hl (k := 3) rfl ex_243 (by decide) rfl (fun ls hl => ?_)
                        refine lv_goto (tgt := 32) hx hb dX12_aligns_226 (by decide) ?_
                        exact ih_hloop_65 x_243 (by constructor <;> omega) f_68 hG _ _ hP hS hD hfr0 hfo_69 (by omega) ls (lv_sub hl [0, 4, 5, 6, 7, 8, 9] rfl)
                      · skip
                        rw [← Int32.toInt_inj] at c_242
                        have hclc_244 : (0 ≤ p2.toInt ∧ p2.toInt ≤ 7) := by constructor <;> omega
                        refine lv_aload_n hx hb dX12_aligns_137 rfl (lv_at hl 4 rfl) ?_
                        refine tk_getP (D := (dC, dI)) (ci := 12) (v := .ref a_35) (C := RX12) (T := TX12) (N := 56) hx hb hU inlX12 hown hK hP mo0 hfo_69 rfl 34 (by decide) (hU _ wd_186) (fun _ h9 => h9) rfl dX12_aligns_138 ?_
                        refine lv_iload_n hx hb dX12_aligns_141 rfl (lv_at hl 6 rfl) ?_
                        obtain ⟨g_246, hfo_245, hbg_246⟩ := un_594 (hG _ ma_35) ka_35
                        refine tk_ildP hx hb hK hP 0 ma_35 hfo_245 rfl (vp_in_iff.mpr (by constructor <;> omega)) dX12_aligns_142 ?_
                        refine lv_topi (fun x_247 ex_247 => ?_)
                        have bx_247 : (0 ≤ x_247.toInt ∧ x_247.toInt ≤ 8) := by rw [ex_247]; exact hbg_246 _
                        refine lv_iload hx hb dX12_aligns_143 (lv_at hl 1 rfl) ?_
                        refine lv_icmp_eq (tgt := 151) hx hb dX12_aligns_145 (by decide) (fun c_248 => ?_) (fun c_248 => ?_)
                        · skip
                          rw [← Int32.toInt_inj] at c_248
                          refine lv_aload_n hx hb dX12_aligns_151 rfl (lv_at hl 4 rfl) ?_
                          refine lv_iload hx hb dX12_aligns_152 (lv_at hl 8 rfl) ?_
                          refine lv_aload_n hx hb dX12_aligns_154 rfl (lv_at hl 4 rfl) ?_
                          refine tk_getP (D := (dC, dI)) (ci := 12) (v := .ref a_1) (C := RX12) (T := TX12) (N := 56) hx hb hU inlX12 hown hK hP mo0 hfo_69 rfl 0 (by decide) (hU _ wd_169) (fun _ h9 => h9) rfl dX12_aligns_155 ?_
                          refine lv_bipush (v := 20) hx hb dX12_aligns_158 (by decide) ?_
                          refine lv_iload hx hb dX12_aligns_160 (lv_at hl 3 rfl) ?_
                          refine lv_iadd hx hb dX12_aligns_162 ?_
                          refine lv_topi (fun x_249 ex_249 => ?_)
                          have hx_249 : x_249.toInt = 20 + y_66.toInt := by rw [ex_249, ad_I (by rw [ti_20]; omega) (by rw [ti_20]; omega), ti_20]
                          have bx_249 : (20 ≤ x_249.toInt ∧ x_249.toInt ≤ 39) := by constructor <;> omega
                          refine tk_ildP hx hb hK hP 0 ma_1 hfo_70 rfl (vp_in_iff.mpr (by constructor <;> omega)) dX12_aligns_163 ?_
                          refine lv_topi (fun x_250 ex_250 => ?_)
                          have bx_250 : (0 ≤ x_250.toInt ∧ x_250.toInt ≤ 80) := by have hc9 := cl_I (i := x_249) (by omega); rw [ex_250]; exact hbg_71.2.2.2.2.2.1 _ (by omega) (by omega) (by omega)
                          refine lv_iload hx hb dX12_aligns_164 (lv_at hl 9 rfl) ?_
                          refine tk_ViP (As := [.int p4, .int x_250, .int p5]) (rest := []) (n := 3) hx hb hml hown hU hN hZ (s_X12_reads_k12 l (dC, dI) cI cL cZ cR cG cH Z kd L f_68 hG o0 mo0 ko0 p4 (by constructor <;> omega) x_250 p5) wd_950 wd_951 wd_952 wd_5 wd_953 (by decide +kernel) ⟨(show 4 + 1 ≤ 5 + (n_ + 1) by omega), (show 8 + (5 + 11) + 105 ≤ 129 + (n_ + 1) * 29 by omega)⟩ hK hP hD hS mo0 hfo_69 12 rfl rfl rfl hl.1 rfl (Nat.le_of_ble_eq_true rfl) dX12_aligns_166 ⟨Nat.le_of_ble_eq_true rfl, Nat.le_of_ble_eq_true rfl⟩ (fun x_251 f_252 H locs hw hP hD hS => ?_)
                          obtain ⟨hG, bx_251, hkc_253⟩ := hw
                          have hfo_255 : f_252 o0 = .inr (12, [.ref a_1, .ref a_2, .ref a_3, .int v_4, .ref a_5, .int v_6, .int v_7, .int v_8, .int v_9, .int v_10, .int v_11, .int v_12, .int v_13, .int v_14, .int v_15, .ref a_16, .ref a_17, .ref a_18, .ref a_19, .ref a_20, .ref a_21, .ref a_22, .ref a_23, .int v_24, .int v_25, .int v_26, .int v_27, .int v_28, .ref a_29, .int v_30, .ref a_31, .ref a_32, .int v_33, .int v_34, .ref a_35, .int v_36, .ref a_37, .ref a_38, .int v_39, .int v_40, .ref a_41, .ref a_42, .ref a_43, .int v_44, .ref a_45, .ref a_46, .ref a_47, .ref a_48, .ref a_49, .ref a_50, .ref a_51, .ref a_52, .ref a_53, .int v_54, .int v_55, .ref a_56]) := by rw [hkc_253 o0 (by rw [ko0]; decide) (by rw [ko0]; decide) (by rw [ko0]; decide) (by rw [ko0]; decide) (by rw [ko0]; decide) (by rw [ko0]; decide)]; exact hfo_69
                          have hfo_256 : f_252 a_1 = .inl (cI, 1560, .inl g_71) := by rw [hkc_253 a_1 (by rw [ka_1]; decide) (by rw [ka_1]; decide) (by rw [ka_1]; decide) (by rw [ka_1]; decide) (by rw [ka_1]; decide) (by rw [ka_1]; decide)]; exact hfo_70
                          have hfo_257 : f_252 a_35 = .inl (cI, 16, .inl g_246) := by rw [hkc_253 a_35 (by rw [ka_35]; decide) (by rw [ka_35]; decide) (by rw [ka_35]; decide) (by rw [ka_35]; decide) (by rw [ka_35]; decide) (by rw [ka_35]; decide)]; exact hfo_245
                          have hfr0 : ∀ b, kd b ≠ 579 → kd b ≠ 581 → kd b ≠ 583 → kd b ≠ 585 → kd b ≠ 587 → kd b ≠ 588 → f_252 b = f b := fun b q579 q581 q583 q585 q587 q588 => (hkc_253 b q579 q581 q583 q585 q587 q588).trans (hfr0 b q579 q581 q583 q585 q587 q588)
                          refine lv_if_eq (tgt := 223) hx hb dX12_aligns_169 (by decide) (fun c_258 => ?_) (fun c_258 => ?_)
                          · skip
                            rw [← Int32.toInt_inj, ti_0] at c_258
                            obtain ⟨x_259, ex_259⟩ : ∃ y : Int32, y_66 + 1 = y := ⟨_, rfl⟩
                            have hx_259 : x_259.toInt = y_66.toInt + 1 := by rw [← ex_259, ad_I (by rw [ti_1]; omega) (by rw [ti_1]; omega), ti_1]
                            have bx_259 : (1 ≤ x_259.toInt ∧ x_259.toInt ≤ 20) := by constructor <;> omega
                            refine lv_iinc (v := x_259) (lv' := [(6, .int x_259), (9, .int y_80), (8, .int x_79), (7, .int x_76), (0, .ref o0), (1, .int p1), (2, .int p2), (3, .int p3), (4, .int p4), (5, .int p5)]) hx hb dX12_aligns_223 hl (k := 3) rfl ex_259 (by decide) rfl (fun ls hl => ?_)
                            refine lv_goto (tgt := 32) hx hb dX12_aligns_226 (by decide) ?_
                            exact ih_hloop_65 x_259 (by constructor <;> omega) f_252 hG _ _ hP hS hD hfr0 hfo_255 (by omega) ls (lv_sub hl [0, 4, 5, 6, 7, 8, 9] rfl)
                          · skip
                            rw [← Int32.toInt_inj, ti_0] at c_258
                            refine lv_aload_n hx hb dX12_aligns_172 rfl (lv_at hl 4 rfl) ?_
                            refine lv_iload hx hb dX12_aligns_173 (lv_at hl 2 rfl) ?_
                            refine lv_if_ne (tgt := 182) hx hb dX12_aligns_175 (by decide) (fun c_260 => ?_) (fun c_260 => ?_)
                            · skip
                              rw [← Int32.toInt_inj, ti_0] at c_260
                              exfalso
                              omega
                            · skip
                              rw [← Int32.toInt_inj, ti_0] at c_260
                              refine lv_iload_n hx hb dX12_aligns_178 rfl (lv_at hl 5 rfl) ?_
                              refine lv_goto (tgt := 185) hx hb dX12_aligns_179 (by decide) ?_
                              refine lv_iload hx hb dX12_aligns_185 (lv_at hl 1 rfl) ?_
                              refine lv_if_ne (tgt := 194) hx hb dX12_aligns_187 (by decide) (fun c_261 => ?_) (fun c_261 => ?_)
                              · skip
                                rw [← Int32.toInt_inj, ti_0] at c_261
                                refine lv_iload_n hx hb dX12_aligns_194 rfl (lv_at hl 6 rfl) ?_
                                refine lv_iconst (v := 1) hx hb dX12_aligns_195 (by decide) ?_
                                refine lv_iadd hx hb dX12_aligns_196 ?_
                                refine lv_topi (fun x_262 ex_262 => ?_)
                                have hx_262 : x_262.toInt = p2.toInt + 1 := by rw [ex_262, ad_I (by rw [ti_1]; omega) (by rw [ti_1]; omega), ti_1]
                                have bx_262 : (1 ≤ x_262.toInt ∧ x_262.toInt ≤ 8) := by constructor <;> omega
                                refine lv_iload hx hb dX12_aligns_197 (lv_at hl 0 rfl) ?_
                                refine lv_if_eq (tgt := 208) hx hb dX12_aligns_199 (by decide) (fun c_263 => ?_) (fun c_263 => ?_)
                                · skip
                                  rw [← Int32.toInt_inj, ti_0] at c_263
                                  exfalso
                                  omega
                                · skip
                                  rw [← Int32.toInt_inj, ti_0] at c_263
                                  refine lv_iload_n hx hb dX12_aligns_202 rfl (lv_at hl 7 rfl) ?_
                                  refine lv_iconst (v := 1) hx hb dX12_aligns_203 (by decide) ?_
                                  refine lv_isub hx hb dX12_aligns_204 ?_
                                  refine lv_topi (fun x_264 ex_264 => ?_)
                                  have hx_264 : x_264.toInt = p3.toInt - 1 := by rw [ex_264, sb_I (by rw [ti_1]; omega) (by rw [ti_1]; omega), ti_1]
                                  have bx_264 : (0 ≤ x_264.toInt ∧ x_264.toInt ≤ 0) := by constructor <;> omega
                                  refine lv_goto (tgt := 209) hx hb dX12_aligns_205 (by decide) ?_
                                  refine lv_iload hx hb dX12_aligns_209 (lv_at hl 8 rfl) ?_
                                  refine lv_iconst (v := 1) hx hb dX12_aligns_211 (by decide) ?_
                                  refine lv_iadd hx hb dX12_aligns_212 ?_
                                  refine lv_topi (fun x_265 ex_265 => ?_)
                                  have hx_265 : x_265.toInt = p4.toInt + 1 := by rw [ex_265, ad_I (by rw [ti_1]; omega) (by rw [ti_1]; omega), ti_1]
                                  have bx_265 : (1 ≤ x_265.toInt ∧ x_265.toInt ≤ 14) := by constructor <;> omega
                                  have hclc_266 : (1 ≤ x_265.toInt ∧ x_265.toInt ≤ 13) := by constructor <;> omega
                                  refine lv_iload hx hb dX12_aligns_213 (lv_at hl 9 rfl) ?_
                                  refine tk_ViP (As := [.int p1, .int x_262, .int x_264, .int x_265, .int p5]) (rest := []) (n := 5) hx hb hml hown hU hN hZ (ih_rec f_252 hG o0 mo0 ko0 p1 (by constructor <;> omega) x_262 (by constructor <;> omega) x_264 (by constructor <;> omega) x_265 (by constructor <;> omega) p5 (by intro w23 w35 e23 e35; rw [hfo_255] at e23 e35; obtain rfl := Option.some.inj e23; obtain rfl := Option.some.inj e35; omega) (by omega) (by omega)) wd_1054 wd_1055 wd_1056 wd_5 wd_1057 (by decide +kernel) ⟨(show (5 + n_) + 1 ≤ 5 + (n_ + 1) by omega), (show 8 + (10 + 11) + (129 + n_ * 29) ≤ 129 + (n_ + 1) * 29 by omega)⟩ hK hP hD hS mo0 hfo_255 12 rfl rfl rfl hl.1 rfl (Nat.le_of_ble_eq_true rfl) dX12_aligns_215 ⟨Nat.le_of_ble_eq_true rfl, Nat.le_of_ble_eq_true rfl⟩ (fun x_267 f_268 H locs hw hP hD hS => ?_)
                                  obtain ⟨hG, bx_267, hkc_269⟩ := hw
                                  have hfo_271 : f_268 o0 = .inr (12, [.ref a_1, .ref a_2, .ref a_3, .int v_4, .ref a_5, .int v_6, .int v_7, .int v_8, .int v_9, .int v_10, .int v_11, .int v_12, .int v_13, .int v_14, .int v_15, .ref a_16, .ref a_17, .ref a_18, .ref a_19, .ref a_20, .ref a_21, .ref a_22, .ref a_23, .int v_24, .int v_25, .int v_26, .int v_27, .int v_28, .ref a_29, .int v_30, .ref a_31, .ref a_32, .int v_33, .int v_34, .ref a_35, .int v_36, .ref a_37, .ref a_38, .int v_39, .int v_40, .ref a_41, .ref a_42, .ref a_43, .int v_44, .ref a_45, .ref a_46, .ref a_47, .ref a_48, .ref a_49, .ref a_50, .ref a_51, .ref a_52, .ref a_53, .int v_54, .int v_55, .ref a_56]) := by rw [hkc_269 o0 (by rw [ko0]; decide) (by rw [ko0]; decide) (by rw [ko0]; decide) (by rw [ko0]; decide) (by rw [ko0]; decide) (by rw [ko0]; decide)]; exact hfo_255
                                  have hfo_272 : f_268 a_1 = .inl (cI, 1560, .inl g_71) := by rw [hkc_269 a_1 (by rw [ka_1]; decide) (by rw [ka_1]; decide) (by rw [ka_1]; decide) (by rw [ka_1]; decide) (by rw [ka_1]; decide) (by rw [ka_1]; decide)]; exact hfo_256
                                  have hfo_273 : f_268 a_35 = .inl (cI, 16, .inl g_246) := by rw [hkc_269 a_35 (by rw [ka_35]; decide) (by rw [ka_35]; decide) (by rw [ka_35]; decide) (by rw [ka_35]; decide) (by rw [ka_35]; decide) (by rw [ka_35]; decide)]; exact hfo_257
                                  have hfr0 : ∀ b, kd b ≠ 579 → kd b ≠ 581 → kd b ≠ 583 → kd b ≠ 585 → kd b ≠ 587 → kd b ≠ 588 → f_268 b = f b := fun b q579 q581 q583 q585 q587 q588 => (hkc_269 b q579 q581 q583 q585 q587 q588).trans (hfr0 b q579 q581 q583 q585 q587 q588)
                                  refine lv_if_eq (tgt := 223) hx hb dX12_aligns_218 (by decide) (fun c_274 => ?_) (fun c_274 => ?_)
                                  · skip
                                    rw [← Int32.toInt_inj, ti_0] at c_274
                                    obtain ⟨x_275, ex_275⟩ : ∃ y : Int32, y_66 + 1 = y := ⟨_, rfl⟩
                                    have hx_275 : x_275.toInt = y_66.toInt + 1 := by rw [← ex_275, ad_I (by rw [ti_1]; omega) (by rw [ti_1]; omega), ti_1]
                                    have bx_275 : (1 ≤ x_275.toInt ∧ x_275.toInt ≤ 20) := by constructor <;> omega
                                    refine lv_iinc (v := x_275) (lv' := [(6, .int x_275), (9, .int y_80), (8, .int x_79), (7, .int x_76), (0, .ref o0), (1, .int p1), (2, .int p2), (3, .int p3), (4, .int p4), (5, .int p5)]) hx hb dX12_aligns_223 hl (k := 3) rfl ex_275 (by decide) rfl (fun ls hl => ?_)
                                    refine lv_goto (tgt := 32) hx hb dX12_aligns_226 (by decide) ?_
                                    exact ih_hloop_65 x_275 (by constructor <;> omega) f_268 hG _ _ hP hS hD hfr0 hfo_271 (by omega) ls (lv_sub hl [0, 4, 5, 6, 7, 8, 9] rfl)
                                  · skip
                                    rw [← Int32.toInt_inj, ti_0] at c_274
                                    refine lv_iconst (v := 1) hx hb dX12_aligns_221 (by decide) ?_
                                    exact W.zret (v := 1) (ty := .boolean) hx hb hr rfl (fun t ht hW => ⟨⟨1, f_268, rfl, ⟨hG, (by decide), hfr0⟩, by rw [ht]; exact hP, va_K.moved hW.alike hK, pl_in hD⟩, hS.F ht⟩) hS.2.2 dX12_aligns_222
                              · skip
                                rw [← Int32.toInt_inj, ti_0] at c_261
                                exfalso
                                omega
                        · skip
                          rw [← Int32.toInt_inj] at c_248
                          refine lv_goto (tgt := 223) hx hb dX12_aligns_148 (by decide) ?_
                          obtain ⟨x_276, ex_276⟩ : ∃ y : Int32, y_66 + 1 = y := ⟨_, rfl⟩
                          have hx_276 : x_276.toInt = y_66.toInt + 1 := by rw [← ex_276, ad_I (by rw [ti_1]; omega) (by rw [ti_1]; omega), ti_1]
                          have bx_276 : (1 ≤ x_276.toInt ∧ x_276.toInt ≤ 20) := by constructor <;> omega
                          refine lv_iinc (v := x_276) (lv' := [(6, .int x_276), (9, .int y_80), (8, .int x_79), (7, .int x_76), (0, .ref o0), (1, .int p1), (2, .int p2), (3, .int p3), (4, .int p4), (5, .int p5)]) hx hb dX12_aligns_223 hl (k := 3) rfl ex_276 (by decide) rfl (fun ls hl => ?_)
                          refine lv_goto (tgt := 32) hx hb dX12_aligns_226 (by decide) ?_
                          exact ih_hloop_65 x_276 (by constructor <;> omega) f_68 hG _ _ hP hS hD hfr0 hfo_69 (by omega) ls (lv_sub hl [0, 4, 5, 6, 7, 8, 9] rfl)
                  · skip
                    rw [← Int32.toInt_inj, ti_0] at c_216
                    refine lv_iload_n hx hb dX12_aligns_105 rfl (lv_at hl 5 rfl) ?_
                    refine lv_aload_n hx hb dX12_aligns_106 rfl (lv_at hl 4 rfl) ?_
                    refine tk_getP (D := (dC, dI)) (ci := 12) (v := .int v_24) (C := RX12) (T := TX12) (N := 56) hx hb hU inlX12 hown hK hP mo0 hfo_69 rfl 23 (by decide) (hU _ wd_867) (fun _ h9 => h9) rfl dX12_aligns_107 ?_
                    refine lv_icmp_eq (tgt := 223) hx hb dX12_aligns_110 (by decide) (fun c_277 => ?_) (fun c_277 => ?_)
                    · skip
                      rw [← Int32.toInt_inj] at c_277
                      obtain ⟨x_278, ex_278⟩ : ∃ y : Int32, y_66 + 1 = y := ⟨_, rfl⟩
                      have hx_278 : x_278.toInt = y_66.toInt + 1 := by rw [← ex_278, ad_I (by rw [ti_1]; omega) (by rw [ti_1]; omega), ti_1]
                      have bx_278 : (1 ≤ x_278.toInt ∧ x_278.toInt ≤ 20) := by constructor <;> omega
                      refine lv_iinc (v := x_278) (lv' := [(6, .int x_278), (9, .int y_80), (8, .int x_79), (7, .int x_76), (0, .ref o0), (1, .int p1), (2, .int p2), (3, .int p3), (4, .int p4), (5, .int p5)]) hx hb dX12_aligns_223 hl (k := 3) rfl ex_278 (by decide) rfl (fun ls hl => ?_)
                      refine lv_goto (tgt := 32) hx hb dX12_aligns_226 (by decide) ?_
                      exact ih_hloop_65 x_278 (by constructor <;> omega) f_68 hG _ _ hP hS hD hfr0 hfo_69 (by omega) ls (lv_sub hl [0, 4, 5, 6, 7, 8, 9] rfl)
                    · skip
                      rw [← Int32.toInt_inj] at c_277
                      have hclc_279 : (0 ≤ p1.toInt ∧ p1.toInt ≤ 11) := by constructor <;> omega
                      refine lv_aload_n hx hb dX12_aligns_113 rfl (lv_at hl 4 rfl) ?_
                      refine tk_getP (D := (dC, dI)) (ci := 12) (v := .ref a_22) (C := RX12) (T := TX12) (N := 56) hx hb hU inlX12 hown hK hP mo0 hfo_69 rfl 21 (by decide) (hU _ wd_181) (fun _ h9 => h9) rfl dX12_aligns_114 ?_
                      refine lv_iload_n hx hb dX12_aligns_117 rfl (lv_at hl 5 rfl) ?_
                      obtain ⟨g_281, hfo_280, hbg_281⟩ := un_589 (hG _ ma_22) ka_22
                      refine tk_ildP hx hb hK hP 0 ma_22 hfo_280 rfl (vp_in_iff.mpr (by constructor <;> omega)) dX12_aligns_118 ?_
                      refine lv_topi (fun x_282 ex_282 => ?_)
                      have bx_282 : (0 ≤ x_282.toInt ∧ x_282.toInt ≤ 8) := by rw [ex_282]; exact hbg_281 _
                      refine lv_iload hx hb dX12_aligns_119 (lv_at hl 2 rfl) ?_
                      refine lv_icmp_ne (tgt := 223) hx hb dX12_aligns_121 (by decide) (fun c_283 => ?_) (fun c_283 => ?_)
                      · skip
                        rw [← Int32.toInt_inj] at c_283
                        obtain ⟨x_284, ex_284⟩ : ∃ y : Int32, y_66 + 1 = y := ⟨_, rfl⟩
                        have hx_284 : x_284.toInt = y_66.toInt + 1 := by rw [← ex_284, ad_I (by rw [ti_1]; omega) (by rw [ti_1]; omega), ti_1]
                        have bx_284 : (1 ≤ x_284.toInt ∧ x_284.toInt ≤ 20) := by constructor <;> omega
                        refine lv_iinc (v := x_284) (lv' := [(6, .int x_284), (9, .int y_80), (8, .int x_79), (7, .int x_76), (0, .ref o0), (1, .int p1), (2, .int p2), (3, .int p3), (4, .int p4), (5, .int p5)]) hx hb dX12_aligns_223 hl (k := 3) rfl ex_284 (by decide) rfl (fun ls hl => ?_)
                        refine lv_goto (tgt := 32) hx hb dX12_aligns_226 (by decide) ?_
                        exact ih_hloop_65 x_284 (by constructor <;> omega) f_68 hG _ _ hP hS hD hfr0 hfo_69 (by omega) ls (lv_sub hl [0, 4, 5, 6, 7, 8, 9] rfl)
                      · skip
                        rw [← Int32.toInt_inj] at c_283
                        refine lv_iload hx hb dX12_aligns_124 (lv_at hl 1 rfl) ?_
                        refine lv_if_eq (tgt := 151) hx hb dX12_aligns_126 (by decide) (fun c_285 => ?_) (fun c_285 => ?_)
                        · skip
                          rw [← Int32.toInt_inj, ti_0] at c_285
                          refine lv_aload_n hx hb dX12_aligns_151 rfl (lv_at hl 4 rfl) ?_
                          refine lv_iload hx hb dX12_aligns_152 (lv_at hl 8 rfl) ?_
                          refine lv_aload_n hx hb dX12_aligns_154 rfl (lv_at hl 4 rfl) ?_
                          refine tk_getP (D := (dC, dI)) (ci := 12) (v := .ref a_1) (C := RX12) (T := TX12) (N := 56) hx hb hU inlX12 hown hK hP mo0 hfo_69 rfl 0 (by decide) (hU _ wd_169) (fun _ h9 => h9) rfl dX12_aligns_155 ?_
                          refine lv_bipush (v := 20) hx hb dX12_aligns_158 (by decide) ?_
                          refine lv_iload hx hb dX12_aligns_160 (lv_at hl 3 rfl) ?_
                          refine lv_iadd hx hb dX12_aligns_162 ?_
                          refine lv_topi (fun x_286 ex_286 => ?_)
                          have hx_286 : x_286.toInt = 20 + y_66.toInt := by rw [ex_286, ad_I (by rw [ti_20]; omega) (by rw [ti_20]; omega), ti_20]
                          have bx_286 : (20 ≤ x_286.toInt ∧ x_286.toInt ≤ 39) := by constructor <;> omega
                          refine tk_ildP hx hb hK hP 0 ma_1 hfo_70 rfl (vp_in_iff.mpr (by constructor <;> omega)) dX12_aligns_163 ?_
                          refine lv_topi (fun x_287 ex_287 => ?_)
                          have bx_287 : (0 ≤ x_287.toInt ∧ x_287.toInt ≤ 80) := by have hc9 := cl_I (i := x_286) (by omega); rw [ex_287]; exact hbg_71.2.2.2.2.2.1 _ (by omega) (by omega) (by omega)
                          refine lv_iload hx hb dX12_aligns_164 (lv_at hl 9 rfl) ?_
                          refine tk_ViP (As := [.int p4, .int x_287, .int p5]) (rest := []) (n := 3) hx hb hml hown hU hN hZ (s_X12_reads_k12 l (dC, dI) cI cL cZ cR cG cH Z kd L f_68 hG o0 mo0 ko0 p4 (by constructor <;> omega) x_287 p5) wd_950 wd_951 wd_952 wd_5 wd_953 (by decide +kernel) ⟨(show 4 + 1 ≤ 5 + (n_ + 1) by omega), (show 8 + (5 + 11) + 105 ≤ 129 + (n_ + 1) * 29 by omega)⟩ hK hP hD hS mo0 hfo_69 12 rfl rfl rfl hl.1 rfl (Nat.le_of_ble_eq_true rfl) dX12_aligns_166 ⟨Nat.le_of_ble_eq_true rfl, Nat.le_of_ble_eq_true rfl⟩ (fun x_288 f_289 H locs hw hP hD hS => ?_)
                          obtain ⟨hG, bx_288, hkc_290⟩ := hw
                          have hfo_292 : f_289 o0 = .inr (12, [.ref a_1, .ref a_2, .ref a_3, .int v_4, .ref a_5, .int v_6, .int v_7, .int v_8, .int v_9, .int v_10, .int v_11, .int v_12, .int v_13, .int v_14, .int v_15, .ref a_16, .ref a_17, .ref a_18, .ref a_19, .ref a_20, .ref a_21, .ref a_22, .ref a_23, .int v_24, .int v_25, .int v_26, .int v_27, .int v_28, .ref a_29, .int v_30, .ref a_31, .ref a_32, .int v_33, .int v_34, .ref a_35, .int v_36, .ref a_37, .ref a_38, .int v_39, .int v_40, .ref a_41, .ref a_42, .ref a_43, .int v_44, .ref a_45, .ref a_46, .ref a_47, .ref a_48, .ref a_49, .ref a_50, .ref a_51, .ref a_52, .ref a_53, .int v_54, .int v_55, .ref a_56]) := by rw [hkc_290 o0 (by rw [ko0]; decide) (by rw [ko0]; decide) (by rw [ko0]; decide) (by rw [ko0]; decide) (by rw [ko0]; decide) (by rw [ko0]; decide)]; exact hfo_69
                          have hfo_293 : f_289 a_1 = .inl (cI, 1560, .inl g_71) := by rw [hkc_290 a_1 (by rw [ka_1]; decide) (by rw [ka_1]; decide) (by rw [ka_1]; decide) (by rw [ka_1]; decide) (by rw [ka_1]; decide) (by rw [ka_1]; decide)]; exact hfo_70
                          have hfo_294 : f_289 a_22 = .inl (cI, 16, .inl g_281) := by rw [hkc_290 a_22 (by rw [ka_22]; decide) (by rw [ka_22]; decide) (by rw [ka_22]; decide) (by rw [ka_22]; decide) (by rw [ka_22]; decide) (by rw [ka_22]; decide)]; exact hfo_280
                          have hfr0 : ∀ b, kd b ≠ 579 → kd b ≠ 581 → kd b ≠ 583 → kd b ≠ 585 → kd b ≠ 587 → kd b ≠ 588 → f_289 b = f b := fun b q579 q581 q583 q585 q587 q588 => (hkc_290 b q579 q581 q583 q585 q587 q588).trans (hfr0 b q579 q581 q583 q585 q587 q588)
                          refine lv_if_eq (tgt := 223) hx hb dX12_aligns_169 (by decide) (fun c_295 => ?_) (fun c_295 => ?_)
                          · skip
                            rw [← Int32.toInt_inj, ti_0] at c_295
                            obtain ⟨x_296, ex_296⟩ : ∃ y : Int32, y_66 + 1 = y := ⟨_, rfl⟩
                            have hx_296 : x_296.toInt = y_66.toInt + 1 := by rw [← ex_296, ad_I (by rw [ti_1]; omega) (by rw [ti_1]; omega), ti_1]
                            have bx_296 : (1 ≤ x_296.toInt ∧ x_296.toInt ≤ 20) := by constructor <;> omega
                            refine lv_iinc (v := x_296) (lv' := [(6, .int x_296), (9, .int y_80), (8, .int x_79), (7, .int x_76), (0, .ref o0), (1, .int p1), (2, .int p2), (3, .int p3), (4, .int p4), (5, .int p5)]) hx hb dX12_aligns_223 hl (k := 3) rfl ex_296 (by decide) rfl (fun ls hl => ?_)
                            refine lv_goto (tgt := 32) hx hb dX12_aligns_226 (by decide) ?_
                            exact ih_hloop_65 x_296 (by constructor <;> omega) f_289 hG _ _ hP hS hD hfr0 hfo_292 (by omega) ls (lv_sub hl [0, 4, 5, 6, 7, 8, 9] rfl)
                          · skip
                            rw [← Int32.toInt_inj, ti_0] at c_295
                            refine lv_aload_n hx hb dX12_aligns_172 rfl (lv_at hl 4 rfl) ?_
                            refine lv_iload hx hb dX12_aligns_173 (lv_at hl 2 rfl) ?_
                            refine lv_if_ne (tgt := 182) hx hb dX12_aligns_175 (by decide) (fun c_297 => ?_) (fun c_297 => ?_)
                            · skip
                              rw [← Int32.toInt_inj, ti_0] at c_297
                              refine lv_iload_n hx hb dX12_aligns_182 rfl (lv_at hl 5 rfl) ?_
                              refine lv_iconst (v := 1) hx hb dX12_aligns_183 (by decide) ?_
                              refine lv_iadd hx hb dX12_aligns_184 ?_
                              refine lv_topi (fun x_298 ex_298 => ?_)
                              have hx_298 : x_298.toInt = p1.toInt + 1 := by rw [ex_298, ad_I (by rw [ti_1]; omega) (by rw [ti_1]; omega), ti_1]
                              have bx_298 : (1 ≤ x_298.toInt ∧ x_298.toInt ≤ 12) := by constructor <;> omega
                              refine lv_iload hx hb dX12_aligns_185 (lv_at hl 1 rfl) ?_
                              refine lv_if_ne (tgt := 194) hx hb dX12_aligns_187 (by decide) (fun c_299 => ?_) (fun c_299 => ?_)
                              · skip
                                rw [← Int32.toInt_inj, ti_0] at c_299
                                exfalso
                                omega
                              · skip
                                rw [← Int32.toInt_inj, ti_0] at c_299
                                refine lv_iload_n hx hb dX12_aligns_190 rfl (lv_at hl 6 rfl) ?_
                                refine lv_goto (tgt := 197) hx hb dX12_aligns_191 (by decide) ?_
                                refine lv_iload hx hb dX12_aligns_197 (lv_at hl 0 rfl) ?_
                                refine lv_if_eq (tgt := 208) hx hb dX12_aligns_199 (by decide) (fun c_300 => ?_) (fun c_300 => ?_)
                                · skip
                                  rw [← Int32.toInt_inj, ti_0] at c_300
                                  exfalso
                                  omega
                                · skip
                                  rw [← Int32.toInt_inj, ti_0] at c_300
                                  refine lv_iload_n hx hb dX12_aligns_202 rfl (lv_at hl 7 rfl) ?_
                                  refine lv_iconst (v := 1) hx hb dX12_aligns_203 (by decide) ?_
                                  refine lv_isub hx hb dX12_aligns_204 ?_
                                  refine lv_topi (fun x_301 ex_301 => ?_)
                                  have hx_301 : x_301.toInt = p3.toInt - 1 := by rw [ex_301, sb_I (by rw [ti_1]; omega) (by rw [ti_1]; omega), ti_1]
                                  have bx_301 : (0 ≤ x_301.toInt ∧ x_301.toInt ≤ 0) := by constructor <;> omega
                                  refine lv_goto (tgt := 209) hx hb dX12_aligns_205 (by decide) ?_
                                  refine lv_iload hx hb dX12_aligns_209 (lv_at hl 8 rfl) ?_
                                  refine lv_iconst (v := 1) hx hb dX12_aligns_211 (by decide) ?_
                                  refine lv_iadd hx hb dX12_aligns_212 ?_
                                  refine lv_topi (fun x_302 ex_302 => ?_)
                                  have hx_302 : x_302.toInt = p4.toInt + 1 := by rw [ex_302, ad_I (by rw [ti_1]; omega) (by rw [ti_1]; omega), ti_1]
                                  have bx_302 : (1 ≤ x_302.toInt ∧ x_302.toInt ≤ 14) := by constructor <;> omega
                                  have hclc_303 : (1 ≤ x_302.toInt ∧ x_302.toInt ≤ 13) := by constructor <;> omega
                                  refine lv_iload hx hb dX12_aligns_213 (lv_at hl 9 rfl) ?_
                                  refine tk_ViP (As := [.int x_298, .int p2, .int x_301, .int x_302, .int p5]) (rest := []) (n := 5) hx hb hml hown hU hN hZ (ih_rec f_289 hG o0 mo0 ko0 x_298 (by constructor <;> omega) p2 (by constructor <;> omega) x_301 (by constructor <;> omega) x_302 (by constructor <;> omega) p5 (by intro w23 w35 e23 e35; rw [hfo_292] at e23 e35; obtain rfl := Option.some.inj e23; obtain rfl := Option.some.inj e35; omega) (by omega) (by omega)) wd_1054 wd_1055 wd_1056 wd_5 wd_1057 (by decide +kernel) ⟨(show (5 + n_) + 1 ≤ 5 + (n_ + 1) by omega), (show 8 + (10 + 11) + (129 + n_ * 29) ≤ 129 + (n_ + 1) * 29 by omega)⟩ hK hP hD hS mo0 hfo_292 12 rfl rfl rfl hl.1 rfl (Nat.le_of_ble_eq_true rfl) dX12_aligns_215 ⟨Nat.le_of_ble_eq_true rfl, Nat.le_of_ble_eq_true rfl⟩ (fun x_304 f_305 H locs hw hP hD hS => ?_)
                                  obtain ⟨hG, bx_304, hkc_306⟩ := hw
                                  have hfo_308 : f_305 o0 = .inr (12, [.ref a_1, .ref a_2, .ref a_3, .int v_4, .ref a_5, .int v_6, .int v_7, .int v_8, .int v_9, .int v_10, .int v_11, .int v_12, .int v_13, .int v_14, .int v_15, .ref a_16, .ref a_17, .ref a_18, .ref a_19, .ref a_20, .ref a_21, .ref a_22, .ref a_23, .int v_24, .int v_25, .int v_26, .int v_27, .int v_28, .ref a_29, .int v_30, .ref a_31, .ref a_32, .int v_33, .int v_34, .ref a_35, .int v_36, .ref a_37, .ref a_38, .int v_39, .int v_40, .ref a_41, .ref a_42, .ref a_43, .int v_44, .ref a_45, .ref a_46, .ref a_47, .ref a_48, .ref a_49, .ref a_50, .ref a_51, .ref a_52, .ref a_53, .int v_54, .int v_55, .ref a_56]) := by rw [hkc_306 o0 (by rw [ko0]; decide) (by rw [ko0]; decide) (by rw [ko0]; decide) (by rw [ko0]; decide) (by rw [ko0]; decide) (by rw [ko0]; decide)]; exact hfo_292
                                  have hfo_309 : f_305 a_1 = .inl (cI, 1560, .inl g_71) := by rw [hkc_306 a_1 (by rw [ka_1]; decide) (by rw [ka_1]; decide) (by rw [ka_1]; decide) (by rw [ka_1]; decide) (by rw [ka_1]; decide) (by rw [ka_1]; decide)]; exact hfo_293
                                  have hfo_310 : f_305 a_22 = .inl (cI, 16, .inl g_281) := by rw [hkc_306 a_22 (by rw [ka_22]; decide) (by rw [ka_22]; decide) (by rw [ka_22]; decide) (by rw [ka_22]; decide) (by rw [ka_22]; decide) (by rw [ka_22]; decide)]; exact hfo_294
                                  have hfr0 : ∀ b, kd b ≠ 579 → kd b ≠ 581 → kd b ≠ 583 → kd b ≠ 585 → kd b ≠ 587 → kd b ≠ 588 → f_305 b = f b := fun b q579 q581 q583 q585 q587 q588 => (hkc_306 b q579 q581 q583 q585 q587 q588).trans (hfr0 b q579 q581 q583 q585 q587 q588)
                                  refine lv_if_eq (tgt := 223) hx hb dX12_aligns_218 (by decide) (fun c_311 => ?_) (fun c_311 => ?_)
                                  · skip
                                    rw [← Int32.toInt_inj, ti_0] at c_311
                                    obtain ⟨x_312, ex_312⟩ : ∃ y : Int32, y_66 + 1 = y := ⟨_, rfl⟩
                                    have hx_312 : x_312.toInt = y_66.toInt + 1 := by rw [← ex_312, ad_I (by rw [ti_1]; omega) (by rw [ti_1]; omega), ti_1]
                                    have bx_312 : (1 ≤ x_312.toInt ∧ x_312.toInt ≤ 20) := by constructor <;> omega
                                    refine lv_iinc (v := x_312) (lv' := [(6, .int x_312), (9, .int y_80), (8, .int x_79), (7, .int x_76), (0, .ref o0), (1, .int p1), (2, .int p2), (3, .int p3), (4, .int p4), (5, .int p5)]) hx hb dX12_aligns_223 hl (k := 3) rfl ex_312 (by decide) rfl (fun ls hl => ?_)
                                    refine lv_goto (tgt := 32) hx hb dX12_aligns_226 (by decide) ?_
                                    exact ih_hloop_65 x_312 (by constructor <;> omega) f_305 hG _ _ hP hS hD hfr0 hfo_308 (by omega) ls (lv_sub hl [0, 4, 5, 6, 7, 8, 9] rfl)
                                  · skip
                                    rw [← Int32.toInt_inj, ti_0] at c_311
                                    refine lv_iconst (v := 1) hx hb dX12_aligns_221 (by decide) ?_
                                    exact W.zret (v := 1) (ty := .boolean) hx hb hr rfl (fun t ht hW => ⟨⟨1, f_305, rfl, ⟨hG, (by decide), hfr0⟩, by rw [ht]; exact hP, va_K.moved hW.alike hK, pl_in hD⟩, hS.F ht⟩) hS.2.2 dX12_aligns_222
                            · skip
                              rw [← Int32.toInt_inj, ti_0] at c_297
                              exfalso
                              omega
                        · skip
                          rw [← Int32.toInt_inj, ti_0] at c_285
                          refine lv_iload_n hx hb dX12_aligns_129 rfl (lv_at hl 6 rfl) ?_
                          refine lv_aload_n hx hb dX12_aligns_130 rfl (lv_at hl 4 rfl) ?_
                          refine tk_getP (D := (dC, dI)) (ci := 12) (v := .int v_36) (C := RX12) (T := TX12) (N := 56) hx hb hU inlX12 hown hK hP mo0 hfo_69 rfl 35 (by decide) (hU _ wd_1049) (fun _ h9 => h9) rfl dX12_aligns_131 ?_
                          refine lv_icmp_eq (tgt := 223) hx hb dX12_aligns_134 (by decide) (fun c_313 => ?_) (fun c_313 => ?_)
                          · skip
                            rw [← Int32.toInt_inj] at c_313
                            obtain ⟨x_314, ex_314⟩ : ∃ y : Int32, y_66 + 1 = y := ⟨_, rfl⟩
                            have hx_314 : x_314.toInt = y_66.toInt + 1 := by rw [← ex_314, ad_I (by rw [ti_1]; omega) (by rw [ti_1]; omega), ti_1]
                            have bx_314 : (1 ≤ x_314.toInt ∧ x_314.toInt ≤ 20) := by constructor <;> omega
                            refine lv_iinc (v := x_314) (lv' := [(6, .int x_314), (9, .int y_80), (8, .int x_79), (7, .int x_76), (0, .ref o0), (1, .int p1), (2, .int p2), (3, .int p3), (4, .int p4), (5, .int p5)]) hx hb dX12_aligns_223 hl (k := 3) rfl ex_314 (by decide) rfl (fun ls hl => ?_)
                            refine lv_goto (tgt := 32) hx hb dX12_aligns_226 (by decide) ?_
                            exact ih_hloop_65 x_314 (by constructor <;> omega) f_68 hG _ _ hP hS hD hfr0 hfo_69 (by omega) ls (lv_sub hl [0, 4, 5, 6, 7, 8, 9] rfl)
                          · skip
                            rw [← Int32.toInt_inj] at c_313
                            have hclc_315 : (0 ≤ p2.toInt ∧ p2.toInt ≤ 7) := by constructor <;> omega
                            refine lv_aload_n hx hb dX12_aligns_137 rfl (lv_at hl 4 rfl) ?_
                            refine tk_getP (D := (dC, dI)) (ci := 12) (v := .ref a_35) (C := RX12) (T := TX12) (N := 56) hx hb hU inlX12 hown hK hP mo0 hfo_69 rfl 34 (by decide) (hU _ wd_186) (fun _ h9 => h9) rfl dX12_aligns_138 ?_
                            refine lv_iload_n hx hb dX12_aligns_141 rfl (lv_at hl 6 rfl) ?_
                            obtain ⟨g_317, hfo_316, hbg_317⟩ := un_594 (hG _ ma_35) ka_35
                            refine tk_ildP hx hb hK hP 0 ma_35 hfo_316 rfl (vp_in_iff.mpr (by constructor <;> omega)) dX12_aligns_142 ?_
                            refine lv_topi (fun x_318 ex_318 => ?_)
                            have bx_318 : (0 ≤ x_318.toInt ∧ x_318.toInt ≤ 8) := by rw [ex_318]; exact hbg_317 _
                            refine lv_iload hx hb dX12_aligns_143 (lv_at hl 1 rfl) ?_
                            refine lv_icmp_eq (tgt := 151) hx hb dX12_aligns_145 (by decide) (fun c_319 => ?_) (fun c_319 => ?_)
                            · skip
                              rw [← Int32.toInt_inj] at c_319
                              refine lv_aload_n hx hb dX12_aligns_151 rfl (lv_at hl 4 rfl) ?_
                              refine lv_iload hx hb dX12_aligns_152 (lv_at hl 8 rfl) ?_
                              refine lv_aload_n hx hb dX12_aligns_154 rfl (lv_at hl 4 rfl) ?_
                              refine tk_getP (D := (dC, dI)) (ci := 12) (v := .ref a_1) (C := RX12) (T := TX12) (N := 56) hx hb hU inlX12 hown hK hP mo0 hfo_69 rfl 0 (by decide) (hU _ wd_169) (fun _ h9 => h9) rfl dX12_aligns_155 ?_
                              refine lv_bipush (v := 20) hx hb dX12_aligns_158 (by decide) ?_
                              refine lv_iload hx hb dX12_aligns_160 (lv_at hl 3 rfl) ?_
                              refine lv_iadd hx hb dX12_aligns_162 ?_
                              refine lv_topi (fun x_320 ex_320 => ?_)
                              have hx_320 : x_320.toInt = 20 + y_66.toInt := by rw [ex_320, ad_I (by rw [ti_20]; omega) (by rw [ti_20]; omega), ti_20]
                              have bx_320 : (20 ≤ x_320.toInt ∧ x_320.toInt ≤ 39) := by constructor <;> omega
                              refine tk_ildP hx hb hK hP 0 ma_1 hfo_70 rfl (vp_in_iff.mpr (by constructor <;> omega)) dX12_aligns_163 ?_
                              refine lv_topi (fun x_321 ex_321 => ?_)
                              have bx_321 : (0 ≤ x_321.toInt ∧ x_321.toInt ≤ 80) := by have hc9 := cl_I (i := x_320) (by omega); rw [ex_321]; exact hbg_71.2.2.2.2.2.1 _ (by omega) (by omega) (by omega)
                              refine lv_iload hx hb dX12_aligns_164 (lv_at hl 9 rfl) ?_
                              refine tk_ViP (As := [.int p4, .int x_321, .int p5]) (rest := []) (n := 3) hx hb hml hown hU hN hZ (s_X12_reads_k12 l (dC, dI) cI cL cZ cR cG cH Z kd L f_68 hG o0 mo0 ko0 p4 (by constructor <;> omega) x_321 p5) wd_950 wd_951 wd_952 wd_5 wd_953 (by decide +kernel) ⟨(show 4 + 1 ≤ 5 + (n_ + 1) by omega), (show 8 + (5 + 11) + 105 ≤ 129 + (n_ + 1) * 29 by omega)⟩ hK hP hD hS mo0 hfo_69 12 rfl rfl rfl hl.1 rfl (Nat.le_of_ble_eq_true rfl) dX12_aligns_166 ⟨Nat.le_of_ble_eq_true rfl, Nat.le_of_ble_eq_true rfl⟩ (fun x_322 f_323 H locs hw hP hD hS => ?_)
                              obtain ⟨hG, bx_322, hkc_324⟩ := hw
                              have hfo_326 : f_323 o0 = .inr (12, [.ref a_1, .ref a_2, .ref a_3, .int v_4, .ref a_5, .int v_6, .int v_7, .int v_8, .int v_9, .int v_10, .int v_11, .int v_12, .int v_13, .int v_14, .int v_15, .ref a_16, .ref a_17, .ref a_18, .ref a_19, .ref a_20, .ref a_21, .ref a_22, .ref a_23, .int v_24, .int v_25, .int v_26, .int v_27, .int v_28, .ref a_29, .int v_30, .ref a_31, .ref a_32, .int v_33, .int v_34, .ref a_35, .int v_36, .ref a_37, .ref a_38, .int v_39, .int v_40, .ref a_41, .ref a_42, .ref a_43, .int v_44, .ref a_45, .ref a_46, .ref a_47, .ref a_48, .ref a_49, .ref a_50, .ref a_51, .ref a_52, .ref a_53, .int v_54, .int v_55, .ref a_56]) := by rw [hkc_324 o0 (by rw [ko0]; decide) (by rw [ko0]; decide) (by rw [ko0]; decide) (by rw [ko0]; decide) (by rw [ko0]; decide) (by rw [ko0]; decide)]; exact hfo_69
                              have hfo_327 : f_323 a_1 = .inl (cI, 1560, .inl g_71) := by rw [hkc_324 a_1 (by rw [ka_1]; decide) (by rw [ka_1]; decide) (by rw [ka_1]; decide) (by rw [ka_1]; decide) (by rw [ka_1]; decide) (by rw [ka_1]; decide)]; exact hfo_70
                              have hfo_328 : f_323 a_22 = .inl (cI, 16, .inl g_281) := by rw [hkc_324 a_22 (by rw [ka_22]; decide) (by rw [ka_22]; decide) (by rw [ka_22]; decide) (by rw [ka_22]; decide) (by rw [ka_22]; decide) (by rw [ka_22]; decide)]; exact hfo_280
                              have hfo_329 : f_323 a_35 = .inl (cI, 16, .inl g_317) := by rw [hkc_324 a_35 (by rw [ka_35]; decide) (by rw [ka_35]; decide) (by rw [ka_35]; decide) (by rw [ka_35]; decide) (by rw [ka_35]; decide) (by rw [ka_35]; decide)]; exact hfo_316
                              have hfr0 : ∀ b, kd b ≠ 579 → kd b ≠ 581 → kd b ≠ 583 → kd b ≠ 585 → kd b ≠ 587 → kd b ≠ 588 → f_323 b = f b := fun b q579 q581 q583 q585 q587 q588 => (hkc_324 b q579 q581 q583 q585 q587 q588).trans (hfr0 b q579 q581 q583 q585 q587 q588)
                              refine lv_if_eq (tgt := 223) hx hb dX12_aligns_169 (by decide) (fun c_330 => ?_) (fun c_330 => ?_)
                              · skip
                                rw [← Int32.toInt_inj, ti_0] at c_330
                                obtain ⟨x_331, ex_331⟩ : ∃ y : Int32, y_66 + 1 = y := ⟨_, rfl⟩
                                have hx_331 : x_331.toInt = y_66.toInt + 1 := by rw [← ex_331, ad_I (by rw [ti_1]; omega) (by rw [ti_1]; omega), ti_1]
                                have bx_331 : (1 ≤ x_331.toInt ∧ x_331.toInt ≤ 20) := by constructor <;> omega
                                refine lv_iinc (v := x_331) (lv' := [(6, .int x_331), (9, .int y_80), (8, .int x_79), (7, .int x_76), (0, .ref o0), (1, .int p1), (2, .int p2), (3, .int p3), (4, .int p4), (5, .int p5)]) hx hb dX12_aligns_223 hl (k := 3) rfl ex_331 (by decide) rfl (fun ls hl => ?_)
                                refine lv_goto (tgt := 32) hx hb dX12_aligns_226 (by decide) ?_
                                exact ih_hloop_65 x_331 (by constructor <;> omega) f_323 hG _ _ hP hS hD hfr0 hfo_326 (by omega) ls (lv_sub hl [0, 4, 5, 6, 7, 8, 9] rfl)
                              · skip
                                rw [← Int32.toInt_inj, ti_0] at c_330
                                refine lv_aload_n hx hb dX12_aligns_172 rfl (lv_at hl 4 rfl) ?_
                                refine lv_iload hx hb dX12_aligns_173 (lv_at hl 2 rfl) ?_
                                refine lv_if_ne (tgt := 182) hx hb dX12_aligns_175 (by decide) (fun c_332 => ?_) (fun c_332 => ?_)
                                · skip
                                  rw [← Int32.toInt_inj, ti_0] at c_332
                                  refine lv_iload_n hx hb dX12_aligns_182 rfl (lv_at hl 5 rfl) ?_
                                  refine lv_iconst (v := 1) hx hb dX12_aligns_183 (by decide) ?_
                                  refine lv_iadd hx hb dX12_aligns_184 ?_
                                  refine lv_topi (fun x_333 ex_333 => ?_)
                                  have hx_333 : x_333.toInt = p1.toInt + 1 := by rw [ex_333, ad_I (by rw [ti_1]; omega) (by rw [ti_1]; omega), ti_1]
                                  have bx_333 : (1 ≤ x_333.toInt ∧ x_333.toInt ≤ 12) := by constructor <;> omega
                                  refine lv_iload hx hb dX12_aligns_185 (lv_at hl 1 rfl) ?_
                                  refine lv_if_ne (tgt := 194) hx hb dX12_aligns_187 (by decide) (fun c_334 => ?_) (fun c_334 => ?_)
                                  · skip
                                    rw [← Int32.toInt_inj, ti_0] at c_334
                                    refine lv_iload_n hx hb dX12_aligns_194 rfl (lv_at hl 6 rfl) ?_
                                    refine lv_iconst (v := 1) hx hb dX12_aligns_195 (by decide) ?_
                                    refine lv_iadd hx hb dX12_aligns_196 ?_
                                    refine lv_topi (fun x_335 ex_335 => ?_)
                                    have hx_335 : x_335.toInt = p2.toInt + 1 := by rw [ex_335, ad_I (by rw [ti_1]; omega) (by rw [ti_1]; omega), ti_1]
                                    have bx_335 : (1 ≤ x_335.toInt ∧ x_335.toInt ≤ 8) := by constructor <;> omega
                                    refine lv_iload hx hb dX12_aligns_197 (lv_at hl 0 rfl) ?_
                                    refine lv_if_eq (tgt := 208) hx hb dX12_aligns_199 (by decide) (fun c_336 => ?_) (fun c_336 => ?_)
                                    · skip
                                      rw [← Int32.toInt_inj, ti_0] at c_336
                                      exfalso
                                      omega
                                    · skip
                                      rw [← Int32.toInt_inj, ti_0] at c_336
                                      refine lv_iload_n hx hb dX12_aligns_202 rfl (lv_at hl 7 rfl) ?_
                                      refine lv_iconst (v := 1) hx hb dX12_aligns_203 (by decide) ?_
                                      refine lv_isub hx hb dX12_aligns_204 ?_
                                      refine lv_topi (fun x_337 ex_337 => ?_)
                                      have hx_337 : x_337.toInt = p3.toInt - 1 := by rw [ex_337, sb_I (by rw [ti_1]; omega) (by rw [ti_1]; omega), ti_1]
                                      have bx_337 : (0 ≤ x_337.toInt ∧ x_337.toInt ≤ 0) := by constructor <;> omega
                                      refine lv_goto (tgt := 209) hx hb dX12_aligns_205 (by decide) ?_
                                      refine lv_iload hx hb dX12_aligns_209 (lv_at hl 8 rfl) ?_
                                      refine lv_iconst (v := 1) hx hb dX12_aligns_211 (by decide) ?_
                                      refine lv_iadd hx hb dX12_aligns_212 ?_
                                      refine lv_topi (fun x_338 ex_338 => ?_)
                                      have hx_338 : x_338.toInt = p4.toInt + 1 := by rw [ex_338, ad_I (by rw [ti_1]; omega) (by rw [ti_1]; omega), ti_1]
                                      have bx_338 : (1 ≤ x_338.toInt ∧ x_338.toInt ≤ 14) := by constructor <;> omega
                                      have hclc_339 : (1 ≤ x_338.toInt ∧ x_338.toInt ≤ 13) := by constructor <;> omega
                                      refine lv_iload hx hb dX12_aligns_213 (lv_at hl 9 rfl) ?_
                                      refine tk_ViP (As := [.int x_333, .int x_335, .int x_337, .int x_338, .int p5]) (rest := []) (n := 5) hx hb hml hown hU hN hZ (ih_rec f_323 hG o0 mo0 ko0 x_333 (by constructor <;> omega) x_335 (by constructor <;> omega) x_337 (by constructor <;> omega) x_338 (by constructor <;> omega) p5 (by intro w23 w35 e23 e35; rw [hfo_326] at e23 e35; obtain rfl := Option.some.inj e23; obtain rfl := Option.some.inj e35; omega) (by omega) (by omega)) wd_1054 wd_1055 wd_1056 wd_5 wd_1057 (by decide +kernel) ⟨(show (5 + n_) + 1 ≤ 5 + (n_ + 1) by omega), (show 8 + (10 + 11) + (129 + n_ * 29) ≤ 129 + (n_ + 1) * 29 by omega)⟩ hK hP hD hS mo0 hfo_326 12 rfl rfl rfl hl.1 rfl (Nat.le_of_ble_eq_true rfl) dX12_aligns_215 ⟨Nat.le_of_ble_eq_true rfl, Nat.le_of_ble_eq_true rfl⟩ (fun x_340 f_341 H locs hw hP hD hS => ?_)
                                      obtain ⟨hG, bx_340, hkc_342⟩ := hw
                                      have hfo_344 : f_341 o0 = .inr (12, [.ref a_1, .ref a_2, .ref a_3, .int v_4, .ref a_5, .int v_6, .int v_7, .int v_8, .int v_9, .int v_10, .int v_11, .int v_12, .int v_13, .int v_14, .int v_15, .ref a_16, .ref a_17, .ref a_18, .ref a_19, .ref a_20, .ref a_21, .ref a_22, .ref a_23, .int v_24, .int v_25, .int v_26, .int v_27, .int v_28, .ref a_29, .int v_30, .ref a_31, .ref a_32, .int v_33, .int v_34, .ref a_35, .int v_36, .ref a_37, .ref a_38, .int v_39, .int v_40, .ref a_41, .ref a_42, .ref a_43, .int v_44, .ref a_45, .ref a_46, .ref a_47, .ref a_48, .ref a_49, .ref a_50, .ref a_51, .ref a_52, .ref a_53, .int v_54, .int v_55, .ref a_56]) := by rw [hkc_342 o0 (by rw [ko0]; decide) (by rw [ko0]; decide) (by rw [ko0]; decide) (by rw [ko0]; decide) (by rw [ko0]; decide) (by rw [ko0]; decide)]; exact hfo_326
                                      have hfo_345 : f_341 a_1 = .inl (cI, 1560, .inl g_71) := by rw [hkc_342 a_1 (by rw [ka_1]; decide) (by rw [ka_1]; decide) (by rw [ka_1]; decide) (by rw [ka_1]; decide) (by rw [ka_1]; decide) (by rw [ka_1]; decide)]; exact hfo_327
                                      have hfo_346 : f_341 a_22 = .inl (cI, 16, .inl g_281) := by rw [hkc_342 a_22 (by rw [ka_22]; decide) (by rw [ka_22]; decide) (by rw [ka_22]; decide) (by rw [ka_22]; decide) (by rw [ka_22]; decide) (by rw [ka_22]; decide)]; exact hfo_328
                                      have hfo_347 : f_341 a_35 = .inl (cI, 16, .inl g_317) := by rw [hkc_342 a_35 (by rw [ka_35]; decide) (by rw [ka_35]; decide) (by rw [ka_35]; decide) (by rw [ka_35]; decide) (by rw [ka_35]; decide) (by rw [ka_35]; decide)]; exact hfo_329
                                      have hfr0 : ∀ b, kd b ≠ 579 → kd b ≠ 581 → kd b ≠ 583 → kd b ≠ 585 → kd b ≠ 587 → kd b ≠ 588 → f_341 b = f b := fun b q579 q581 q583 q585 q587 q588 => (hkc_342 b q579 q581 q583 q585 q587 q588).trans (hfr0 b q579 q581 q583 q585 q587 q588)
                                      refine lv_if_eq (tgt := 223) hx hb dX12_aligns_218 (by decide) (fun c_348 => ?_) (fun c_348 => ?_)
                                      · skip
                                        rw [← Int32.toInt_inj, ti_0] at c_348
                                        obtain ⟨x_349, ex_349⟩ : ∃ y : Int32, y_66 + 1 = y := ⟨_, rfl⟩
                                        have hx_349 : x_349.toInt = y_66.toInt + 1 := by rw [← ex_349, ad_I (by rw [ti_1]; omega) (by rw [ti_1]; omega), ti_1]
                                        have bx_349 : (1 ≤ x_349.toInt ∧ x_349.toInt ≤ 20) := by constructor <;> omega
                                        refine lv_iinc (v := x_349) (lv' := [(6, .int x_349), (9, .int y_80), (8, .int x_79), (7, .int x_76), (0, .ref o0), (1, .int p1), (2, .int p2), (3, .int p3), (4, .int p4), (5, .int p5)]) hx hb dX12_aligns_223 hl (k := 3) rfl ex_349 (by decide) rfl (fun ls hl => ?_)
                                        refine lv_goto (tgt := 32) hx hb dX12_aligns_226 (by decide) ?_
                                        exact ih_hloop_65 x_349 (by constructor <;> omega) f_341 hG _ _ hP hS hD hfr0 hfo_344 (by omega) ls (lv_sub hl [0, 4, 5, 6, 7, 8, 9] rfl)
                                      · skip
                                        rw [← Int32.toInt_inj, ti_0] at c_348
                                        refine lv_iconst (v := 1) hx hb dX12_aligns_221 (by decide) ?_
                                        exact W.zret (v := 1) (ty := .boolean) hx hb hr rfl (fun t ht hW => ⟨⟨1, f_341, rfl, ⟨hG, (by decide), hfr0⟩, by rw [ht]; exact hP, va_K.moved hW.alike hK, pl_in hD⟩, hS.F ht⟩) hS.2.2 dX12_aligns_222
                                  · skip
                                    rw [← Int32.toInt_inj, ti_0] at c_334
                                    exfalso
                                    omega
                                · skip
                                  rw [← Int32.toInt_inj, ti_0] at c_332
                                  exfalso
                                  omega
                            · skip
                              rw [← Int32.toInt_inj] at c_319
                              refine lv_goto (tgt := 223) hx hb dX12_aligns_148 (by decide) ?_
                              obtain ⟨x_350, ex_350⟩ : ∃ y : Int32, y_66 + 1 = y := ⟨_, rfl⟩
                              have hx_350 : x_350.toInt = y_66.toInt + 1 := by rw [← ex_350, ad_I (by rw [ti_1]; omega) (by rw [ti_1]; omega), ti_1]
                              have bx_350 : (1 ≤ x_350.toInt ∧ x_350.toInt ≤ 20) := by constructor <;> omega
                              refine lv_iinc (v := x_350) (lv' := [(6, .int x_350), (9, .int y_80), (8, .int x_79), (7, .int x_76), (0, .ref o0), (1, .int p1), (2, .int p2), (3, .int p3), (4, .int p4), (5, .int p5)]) hx hb dX12_aligns_223 hl (k := 3) rfl ex_350 (by decide) rfl (fun ls hl => ?_)
                              refine lv_goto (tgt := 32) hx hb dX12_aligns_226 (by decide) ?_
                              exact ih_hloop_65 x_350 (by constructor <;> omega) f_68 hG _ _ hP hS hD hfr0 hfo_69 (by omega) ls (lv_sub hl [0, 4, 5, 6, 7, 8, 9] rfl)
            refine lv_if_eq (tgt := 84) hx hb dX12_aligns_76 (by decide) (fun c_351 => ?_) (fun c_351 => ?_)
            · skip
              rw [← Int32.toInt_inj, ti_0] at c_351
              refine lv_iconst (v := 1) hx hb dX12_aligns_84 (by decide) ?_
              refine lv_goto (tgt := 89) hx hb dX12_aligns_85 (by decide) ?_
              exact hcut_81 1 (by decide) (by (try rw [ti_1]) <;> omega) ls (lv_sub hl [0, 1, 2, 3, 4, 5, 6, 7, 8] rfl)
            · skip
              rw [← Int32.toInt_inj, ti_0] at c_351
              refine lv_iload hx hb dX12_aligns_79 (lv_at hl 0 rfl) ?_
              refine lv_if_ne (tgt := 88) hx hb dX12_aligns_81 (by decide) (fun c_352 => ?_) (fun c_352 => ?_)
              · skip
                rw [← Int32.toInt_inj, ti_0] at c_352
                refine lv_iconst (v := 0) hx hb dX12_aligns_88 (by decide) ?_
                exact hcut_81 0 (by decide) (by (try rw [ti_0]) <;> omega) ls (lv_sub hl [0, 1, 2, 3, 4, 5, 6, 7, 8] rfl)
              · skip
                rw [← Int32.toInt_inj, ti_0] at c_352
                refine lv_iconst (v := 1) hx hb dX12_aligns_84 (by decide) ?_
                refine lv_goto (tgt := 89) hx hb dX12_aligns_85 (by decide) ?_
                exact hcut_81 1 (by decide) (by (try rw [ti_1]) <;> omega) ls (lv_sub hl [0, 1, 2, 3, 4, 5, 6, 7, 8] rfl)
      exact hloop_65 21 0 (by decide) f hG _ _ hP hS hD hfr0 hfo_57 (by (try rw [ti_0]) <;> omega) ls hl
    · skip
      rw [← Int32.toInt_inj] at c_59
      refine lv_iload_n hx hb dX12_aligns_8 rfl (lv_at hl 2 rfl) ?_
      refine lv_aload_n hx hb dX12_aligns_9 rfl (lv_at hl 0 rfl) ?_
      refine tk_getP (D := (dC, dI)) (ci := 12) (v := .int v_36) (C := RX12) (T := TX12) (N := 56) hx hb hU inlX12 hown hK hP mo0 hfo_57 rfl 35 (by decide) (hU _ wd_1049) (fun _ h9 => h9) rfl dX12_aligns_10 ?_
      refine lv_icmp_ne (tgt := 29) hx hb dX12_aligns_13 (by decide) (fun c_353 => ?_) (fun c_353 => ?_)
      · skip
        rw [← Int32.toInt_inj] at c_353
        refine lv_iconst (v := 0) hx hb dX12_aligns_29 (by decide) ?_
        refine lv_istore (lv' := [(6, .int 0), (0, .ref o0), (1, .int p1), (2, .int p2), (3, .int p3), (4, .int p4), (5, .int p5)]) hx hb dX12_aligns_30 hl (by decide) rfl (fun ls hl => ?_)
        have hloop_359 : ∀ (n : Nat), ∀ (y_360 : Int32), (0 ≤ y_360.toInt ∧ y_360.toInt ≤ 20) → ∀ (f_362 : Nat → va_E), GI (okc cI cL cZ cR cG cH L kd) kd L f_362 → ∀ (H : Heap) (locs : List Loc), va_P (dC, dI) vwCl (va_pl L f_362) H → va_S (fun q => q ∈ L) s.heap H locs → va_D (fun q => q ∈ L) (va_pl L f_362) → (∀ b, kd b ≠ 579 → kd b ≠ 581 → kd b ≠ 583 → kd b ≠ 585 → kd b ≠ 587 → kd b ≠ 588 → f_362 b = f b) → (f_362 o0 = .inr (12, [.ref a_1, .ref a_2, .ref a_3, .int v_4, .ref a_5, .int v_6, .int v_7, .int v_8, .int v_9, .int v_10, .int v_11, .int v_12, .int v_13, .int v_14, .int v_15, .ref a_16, .ref a_17, .ref a_18, .ref a_19, .ref a_20, .ref a_21, .ref a_22, .ref a_23, .int v_24, .int v_25, .int v_26, .int v_27, .int v_28, .ref a_29, .int v_30, .ref a_31, .ref a_32, .int v_33, .int v_34, .ref a_35, .int v_36, .ref a_37, .ref a_38, .int v_39, .int v_40, .ref a_41, .ref a_42, .ref a_43, .int v_44, .ref a_45, .ref a_46, .ref a_47, .ref a_48, .ref a_49, .ref a_50, .ref a_51, .ref a_52, .ref a_53, .int v_54, .int v_55, .ref a_56])) → 20 - y_360.toInt < (n : Int) → ∀ (ls : Array Slot), lv_has ls 10 [(6, .int y_360), (0, .ref o0), (1, .int p1), (2, .int p2), (3, .int p3), (4, .int p4), (5, .int p5)] → W p l e (headSpec (wU yX12_aligns cX12_aligns 10 (some .boolean)) { frames := 5 + (n_ + 1), cells := 0, slots := 0, locals := 129 + (n_ + 1) * 29 }).room s m [.ref o0, .int p1, .int p2, .int p3, .int p4, .int p5].toArray below meth c H locs 0 0 (MQ below (va_Qi (fun (r : Int32) (f9 : Nat → va_E) => GI (okc cI cL cZ cR cG cH L kd) kd L f9 ∧ (0 ≤ r.toInt ∧ r.toInt ≤ 1) ∧ (∀ b, kd b ≠ 579 → kd b ≠ 581 → kd b ≠ 583 → kd b ≠ 585 → kd b ≠ 587 → kd b ≠ 588 → f9 b = f b)) (qP (dC, dI) cI cL cZ cR cG cH L) (fun q => q ∈ L)) [.ref o0, .int p1, .int p2, .int p3, .int p4, .int p5].toArray s 0 0 (fun q => q ∈ L)) (F0 m 32 ls []) := by
          intro n
          induction n with
          | zero => intro y_360 by_360 f_362 hG H locs hP hS hD hfr0 hfo_363 hmuhloop_359 ls hl; exfalso; omega
          | succ n ih_hloop_359 =>
            intro y_360 by_360 f_362 hG H locs hP hS hD hfr0 hfo_363 hmuhloop_359 ls hl
            refine lv_iload hx hb dX12_aligns_32 (lv_at hl 0 rfl) ?_
            refine lv_aload_n hx hb dX12_aligns_34 rfl (lv_at hl 1 rfl) ?_
            refine tk_getP (D := (dC, dI)) (ci := 12) (v := .ref a_1) (C := RX12) (T := TX12) (N := 56) hx hb hU inlX12 hown hK hP mo0 hfo_363 rfl 0 (by decide) (hU _ wd_169) (fun _ h9 => h9) rfl dX12_aligns_35 ?_
            refine lv_bipush (v := 16) hx hb dX12_aligns_38 (by decide) ?_
            obtain ⟨g_365, hfo_364, hbg_365⟩ := un_575 (hG _ ma_1) ka_1
            refine tk_ildP hx hb hK hP 0 ma_1 hfo_364 rfl (vp_in_nI (n := 16) (by decide) (by decide)) dX12_aligns_40 ?_
            refine lv_topi (fun x_366 ex_366 => ?_)
            have bx_366 : (0 ≤ x_366.toInt ∧ x_366.toInt ≤ 20) := by rw [ex_366]; exact hbg_365.2.1 _ (by decide) (by decide) (by decide)
            refine lv_icmp_ge (tgt := 229) hx hb dX12_aligns_41 (by decide) (fun c_367 => ?_) (fun c_367 => ?_)
            · skip
              rw [Int32.le_iff_toInt_le] at c_367
              refine lv_iconst (v := 0) hx hb dX12_aligns_229 (by decide) ?_
              exact W.zret (v := 0) (ty := .boolean) hx hb hr rfl (fun t ht hW => ⟨⟨0, f_362, rfl, ⟨hG, (by decide), hfr0⟩, by rw [ht]; exact hP, va_K.moved hW.alike hK, pl_in hD⟩, hS.F ht⟩) hS.2.2 dX12_aligns_230
            · skip
              rw [Int32.le_iff_toInt_le] at c_367
              refine lv_aload_n hx hb dX12_aligns_44 rfl (lv_at hl 1 rfl) ?_
              refine tk_getP (D := (dC, dI)) (ci := 12) (v := .ref a_1) (C := RX12) (T := TX12) (N := 56) hx hb hU inlX12 hown hK hP mo0 hfo_363 rfl 0 (by decide) (hU _ wd_169) (fun _ h9 => h9) rfl dX12_aligns_45 ?_
              refine lv_bipush (v := 20) hx hb dX12_aligns_48 (by decide) ?_
              refine lv_iload hx hb dX12_aligns_50 (lv_at hl 0 rfl) ?_
              refine lv_iadd hx hb dX12_aligns_52 ?_
              refine lv_topi (fun x_368 ex_368 => ?_)
              have hx_368 : x_368.toInt = 20 + y_360.toInt := by rw [ex_368, ad_I (by rw [ti_20]; omega) (by rw [ti_20]; omega), ti_20]
              have bx_368 : (20 ≤ x_368.toInt ∧ x_368.toInt ≤ 39) := by constructor <;> omega
              refine tk_ildP hx hb hK hP 0 ma_1 hfo_364 rfl (vp_in_iff.mpr (by constructor <;> omega)) dX12_aligns_53 ?_
              refine lv_topi (fun x_369 ex_369 => ?_)
              have bx_369 : (0 ≤ x_369.toInt ∧ x_369.toInt ≤ 80) := by have hc9 := cl_I (i := x_368) (by omega); rw [ex_369]; exact hbg_365.2.2.2.2.2.1 _ (by omega) (by omega) (by omega)
              refine lv_bipush (v := 9) hx hb dX12_aligns_54 (by decide) ?_
              refine lv_idiv hx hb dX12_aligns_56 (by decide) ?_
              refine lv_topi (fun x_370 ex_370 => ?_)
              have hx_370 : x_370.toInt = x_369.toInt / 9 := by rw [ex_370, dv_I (by omega) (by rw [ti_9]; omega), ti_9]
              have bx_370 : (0 ≤ x_370.toInt ∧ x_370.toInt ≤ 8) := by constructor <;> omega
              refine lv_istore (lv' := [(7, .int x_370), (6, .int y_360), (0, .ref o0), (1, .int p1), (2, .int p2), (3, .int p3), (4, .int p4), (5, .int p5)]) hx hb dX12_aligns_57 hl (by decide) rfl (fun ls hl => ?_)
              refine lv_aload_n hx hb dX12_aligns_59 rfl (lv_at hl 2 rfl) ?_
              refine tk_getP (D := (dC, dI)) (ci := 12) (v := .ref a_1) (C := RX12) (T := TX12) (N := 56) hx hb hU inlX12 hown hK hP mo0 hfo_363 rfl 0 (by decide) (hU _ wd_169) (fun _ h9 => h9) rfl dX12_aligns_60 ?_
              refine lv_bipush (v := 20) hx hb dX12_aligns_63 (by decide) ?_
              refine lv_iload hx hb dX12_aligns_65 (lv_at hl 1 rfl) ?_
              refine lv_iadd hx hb dX12_aligns_67 ?_
              refine lv_topi (fun x_371 ex_371 => ?_)
              have hx_371 : x_371.toInt = 20 + y_360.toInt := by rw [ex_371, ad_I (by rw [ti_20]; omega) (by rw [ti_20]; omega), ti_20]
              have bx_371 : (20 ≤ x_371.toInt ∧ x_371.toInt ≤ 39) := by constructor <;> omega
              refine tk_ildP hx hb hK hP 0 ma_1 hfo_364 rfl (vp_in_iff.mpr (by constructor <;> omega)) dX12_aligns_68 ?_
              refine lv_topi (fun x_372 ex_372 => ?_)
              have bx_372 : (0 ≤ x_372.toInt ∧ x_372.toInt ≤ 80) := by have hc9 := cl_I (i := x_371) (by omega); rw [ex_372]; exact hbg_365.2.2.2.2.2.1 _ (by omega) (by omega) (by omega)
              refine lv_bipush (v := 9) hx hb dX12_aligns_69 (by decide) ?_
              refine lv_irem hx hb dX12_aligns_71 (by decide) ?_
              refine lv_topi (fun x_373 ex_373 => ?_)
              have hx_373 : x_373.toInt = x_372.toInt % 9 := by rw [ex_373, rm_I (by omega) (by rw [ti_9]; omega), ti_9]
              have bx_373 : (0 ≤ x_373.toInt ∧ x_373.toInt ≤ 8) := by constructor <;> omega
              refine lv_istore (lv' := [(8, .int x_373), (7, .int x_370), (6, .int y_360), (0, .ref o0), (1, .int p1), (2, .int p2), (3, .int p3), (4, .int p4), (5, .int p5)]) hx hb dX12_aligns_72 hl (by decide) rfl (fun ls hl => ?_)
              refine lv_iload hx hb dX12_aligns_74 (lv_at hl 1 rfl) ?_
              have hcut_375 : ∀ (y_374 : Int32), (0 ≤ y_374.toInt ∧ y_374.toInt ≤ 1) → (y_374.toInt = 1 ∨ (y_374.toInt = 0 ∧ x_370.toInt ≠ 0 ∧ x_373.toInt ≠ 0)) → ∀ (ls : Array Slot), lv_has ls 10 [(8, .int x_373), (7, .int x_370), (6, .int y_360), (0, .ref o0), (1, .int p1), (2, .int p2), (3, .int p3), (4, .int p4), (5, .int p5)] → W p l e (headSpec (wU yX12_aligns cX12_aligns 10 (some .boolean)) { frames := 5 + (n_ + 1), cells := 0, slots := 0, locals := 129 + (n_ + 1) * 29 }).room s m [.ref o0, .int p1, .int p2, .int p3, .int p4, .int p5].toArray below meth c H locs 0 0 (MQ below (va_Qi (fun (r : Int32) (f9 : Nat → va_E) => GI (okc cI cL cZ cR cG cH L kd) kd L f9 ∧ (0 ≤ r.toInt ∧ r.toInt ≤ 1) ∧ (∀ b, kd b ≠ 579 → kd b ≠ 581 → kd b ≠ 583 → kd b ≠ 585 → kd b ≠ 587 → kd b ≠ 588 → f9 b = f b)) (qP (dC, dI) cI cL cZ cR cG cH L) (fun q => q ∈ L)) [.ref o0, .int p1, .int p2, .int p3, .int p4, .int p5].toArray s 0 0 (fun q => q ∈ L)) (F0 m 89 ls [.int y_374]) := by
                intro y_374 by_374 hjhcut_375_0 ls hl
                refine lv_istore (lv' := [(9, .int y_374), (8, .int x_373), (7, .int x_370), (6, .int y_360), (0, .ref o0), (1, .int p1), (2, .int p2), (3, .int p3), (4, .int p4), (5, .int p5)]) hx hb dX12_aligns_89 hl (by decide) rfl (fun ls hl => ?_)
                refine lv_iload hx hb dX12_aligns_91 (lv_at hl 0 rfl) ?_
                refine lv_if_eq (tgt := 100) hx hb dX12_aligns_93 (by decide) (fun c_376 => ?_) (fun c_376 => ?_)
                · skip
                  rw [← Int32.toInt_inj, ti_0] at c_376
                  refine lv_iload hx hb dX12_aligns_100 (lv_at hl 2 rfl) ?_
                  refine lv_if_eq (tgt := 124) hx hb dX12_aligns_102 (by decide) (fun c_377 => ?_) (fun c_377 => ?_)
                  · skip
                    rw [← Int32.toInt_inj, ti_0] at c_377
                    refine lv_iload hx hb dX12_aligns_124 (lv_at hl 1 rfl) ?_
                    refine lv_if_eq (tgt := 151) hx hb dX12_aligns_126 (by decide) (fun c_378 => ?_) (fun c_378 => ?_)
                    · skip
                      rw [← Int32.toInt_inj, ti_0] at c_378
                      refine lv_aload_n hx hb dX12_aligns_151 rfl (lv_at hl 4 rfl) ?_
                      refine lv_iload hx hb dX12_aligns_152 (lv_at hl 8 rfl) ?_
                      refine lv_aload_n hx hb dX12_aligns_154 rfl (lv_at hl 4 rfl) ?_
                      refine tk_getP (D := (dC, dI)) (ci := 12) (v := .ref a_1) (C := RX12) (T := TX12) (N := 56) hx hb hU inlX12 hown hK hP mo0 hfo_363 rfl 0 (by decide) (hU _ wd_169) (fun _ h9 => h9) rfl dX12_aligns_155 ?_
                      refine lv_bipush (v := 20) hx hb dX12_aligns_158 (by decide) ?_
                      refine lv_iload hx hb dX12_aligns_160 (lv_at hl 3 rfl) ?_
                      refine lv_iadd hx hb dX12_aligns_162 ?_
                      refine lv_topi (fun x_379 ex_379 => ?_)
                      have hx_379 : x_379.toInt = 20 + y_360.toInt := by rw [ex_379, ad_I (by rw [ti_20]; omega) (by rw [ti_20]; omega), ti_20]
                      have bx_379 : (20 ≤ x_379.toInt ∧ x_379.toInt ≤ 39) := by constructor <;> omega
                      refine tk_ildP hx hb hK hP 0 ma_1 hfo_364 rfl (vp_in_iff.mpr (by constructor <;> omega)) dX12_aligns_163 ?_
                      refine lv_topi (fun x_380 ex_380 => ?_)
                      have bx_380 : (0 ≤ x_380.toInt ∧ x_380.toInt ≤ 80) := by have hc9 := cl_I (i := x_379) (by omega); rw [ex_380]; exact hbg_365.2.2.2.2.2.1 _ (by omega) (by omega) (by omega)
                      refine lv_iload hx hb dX12_aligns_164 (lv_at hl 9 rfl) ?_
                      refine tk_ViP (As := [.int p4, .int x_380, .int p5]) (rest := []) (n := 3) hx hb hml hown hU hN hZ (s_X12_reads_k12 l (dC, dI) cI cL cZ cR cG cH Z kd L f_362 hG o0 mo0 ko0 p4 (by constructor <;> omega) x_380 p5) wd_950 wd_951 wd_952 wd_5 wd_953 (by decide +kernel) ⟨(show 4 + 1 ≤ 5 + (n_ + 1) by omega), (show 8 + (5 + 11) + 105 ≤ 129 + (n_ + 1) * 29 by omega)⟩ hK hP hD hS mo0 hfo_363 12 rfl rfl rfl hl.1 rfl (Nat.le_of_ble_eq_true rfl) dX12_aligns_166 ⟨Nat.le_of_ble_eq_true rfl, Nat.le_of_ble_eq_true rfl⟩ (fun x_381 f_382 H locs hw hP hD hS => ?_)
                      obtain ⟨hG, bx_381, hkc_383⟩ := hw
                      have hfo_385 : f_382 o0 = .inr (12, [.ref a_1, .ref a_2, .ref a_3, .int v_4, .ref a_5, .int v_6, .int v_7, .int v_8, .int v_9, .int v_10, .int v_11, .int v_12, .int v_13, .int v_14, .int v_15, .ref a_16, .ref a_17, .ref a_18, .ref a_19, .ref a_20, .ref a_21, .ref a_22, .ref a_23, .int v_24, .int v_25, .int v_26, .int v_27, .int v_28, .ref a_29, .int v_30, .ref a_31, .ref a_32, .int v_33, .int v_34, .ref a_35, .int v_36, .ref a_37, .ref a_38, .int v_39, .int v_40, .ref a_41, .ref a_42, .ref a_43, .int v_44, .ref a_45, .ref a_46, .ref a_47, .ref a_48, .ref a_49, .ref a_50, .ref a_51, .ref a_52, .ref a_53, .int v_54, .int v_55, .ref a_56]) := by rw [hkc_383 o0 (by rw [ko0]; decide) (by rw [ko0]; decide) (by rw [ko0]; decide) (by rw [ko0]; decide) (by rw [ko0]; decide) (by rw [ko0]; decide)]; exact hfo_363
                      have hfo_386 : f_382 a_1 = .inl (cI, 1560, .inl g_365) := by rw [hkc_383 a_1 (by rw [ka_1]; decide) (by rw [ka_1]; decide) (by rw [ka_1]; decide) (by rw [ka_1]; decide) (by rw [ka_1]; decide) (by rw [ka_1]; decide)]; exact hfo_364
                      have hfr0 : ∀ b, kd b ≠ 579 → kd b ≠ 581 → kd b ≠ 583 → kd b ≠ 585 → kd b ≠ 587 → kd b ≠ 588 → f_382 b = f b := fun b q579 q581 q583 q585 q587 q588 => (hkc_383 b q579 q581 q583 q585 q587 q588).trans (hfr0 b q579 q581 q583 q585 q587 q588)
                      refine lv_if_eq (tgt := 223) hx hb dX12_aligns_169 (by decide) (fun c_387 => ?_) (fun c_387 => ?_)
                      · skip
                        rw [← Int32.toInt_inj, ti_0] at c_387
                        obtain ⟨x_388, ex_388⟩ : ∃ y : Int32, y_360 + 1 = y := ⟨_, rfl⟩
                        have hx_388 : x_388.toInt = y_360.toInt + 1 := by rw [← ex_388, ad_I (by rw [ti_1]; omega) (by rw [ti_1]; omega), ti_1]
                        have bx_388 : (1 ≤ x_388.toInt ∧ x_388.toInt ≤ 20) := by constructor <;> omega
                        refine lv_iinc (v := x_388) (lv' := [(6, .int x_388), (9, .int y_374), (8, .int x_373), (7, .int x_370), (0, .ref o0), (1, .int p1), (2, .int p2), (3, .int p3), (4, .int p4), (5, .int p5)]) hx hb dX12_aligns_223 hl (k := 3) rfl ex_388 (by decide) rfl (fun ls hl => ?_)
                        refine lv_goto (tgt := 32) hx hb dX12_aligns_226 (by decide) ?_
                        exact ih_hloop_359 x_388 (by constructor <;> omega) f_382 hG _ _ hP hS hD hfr0 hfo_385 (by omega) ls (lv_sub hl [0, 4, 5, 6, 7, 8, 9] rfl)
                      · skip
                        rw [← Int32.toInt_inj, ti_0] at c_387
                        refine lv_aload_n hx hb dX12_aligns_172 rfl (lv_at hl 4 rfl) ?_
                        refine lv_iload hx hb dX12_aligns_173 (lv_at hl 2 rfl) ?_
                        refine lv_if_ne (tgt := 182) hx hb dX12_aligns_175 (by decide) (fun c_389 => ?_) (fun c_389 => ?_)
                        · skip
                          rw [← Int32.toInt_inj, ti_0] at c_389
                          exfalso
                          omega
                        · skip
                          rw [← Int32.toInt_inj, ti_0] at c_389
                          refine lv_iload_n hx hb dX12_aligns_178 rfl (lv_at hl 5 rfl) ?_
                          refine lv_goto (tgt := 185) hx hb dX12_aligns_179 (by decide) ?_
                          refine lv_iload hx hb dX12_aligns_185 (lv_at hl 1 rfl) ?_
                          refine lv_if_ne (tgt := 194) hx hb dX12_aligns_187 (by decide) (fun c_390 => ?_) (fun c_390 => ?_)
                          · skip
                            rw [← Int32.toInt_inj, ti_0] at c_390
                            exfalso
                            omega
                          · skip
                            rw [← Int32.toInt_inj, ti_0] at c_390
                            refine lv_iload_n hx hb dX12_aligns_190 rfl (lv_at hl 6 rfl) ?_
                            refine lv_goto (tgt := 197) hx hb dX12_aligns_191 (by decide) ?_
                            refine lv_iload hx hb dX12_aligns_197 (lv_at hl 0 rfl) ?_
                            refine lv_if_eq (tgt := 208) hx hb dX12_aligns_199 (by decide) (fun c_391 => ?_) (fun c_391 => ?_)
                            · skip
                              rw [← Int32.toInt_inj, ti_0] at c_391
                              refine lv_iload_n hx hb dX12_aligns_208 rfl (lv_at hl 7 rfl) ?_
                              refine lv_iload hx hb dX12_aligns_209 (lv_at hl 8 rfl) ?_
                              refine lv_iconst (v := 1) hx hb dX12_aligns_211 (by decide) ?_
                              refine lv_iadd hx hb dX12_aligns_212 ?_
                              refine lv_topi (fun x_392 ex_392 => ?_)
                              have hx_392 : x_392.toInt = p4.toInt + 1 := by rw [ex_392, ad_I (by rw [ti_1]; omega) (by rw [ti_1]; omega), ti_1]
                              have bx_392 : (1 ≤ x_392.toInt ∧ x_392.toInt ≤ 14) := by constructor <;> omega
                              have hclc_393 : (1 ≤ x_392.toInt ∧ x_392.toInt ≤ 13) := by constructor <;> omega
                              refine lv_iload hx hb dX12_aligns_213 (lv_at hl 9 rfl) ?_
                              refine tk_ViP (As := [.int p1, .int p2, .int p3, .int x_392, .int p5]) (rest := []) (n := 5) hx hb hml hown hU hN hZ (ih_rec f_382 hG o0 mo0 ko0 p1 (by constructor <;> omega) p2 (by constructor <;> omega) p3 (by constructor <;> omega) x_392 (by constructor <;> omega) p5 (by intro w23 w35 e23 e35; rw [hfo_385] at e23 e35; obtain rfl := Option.some.inj e23; obtain rfl := Option.some.inj e35; omega) (by omega) (by omega)) wd_1054 wd_1055 wd_1056 wd_5 wd_1057 (by decide +kernel) ⟨(show (5 + n_) + 1 ≤ 5 + (n_ + 1) by omega), (show 8 + (10 + 11) + (129 + n_ * 29) ≤ 129 + (n_ + 1) * 29 by omega)⟩ hK hP hD hS mo0 hfo_385 12 rfl rfl rfl hl.1 rfl (Nat.le_of_ble_eq_true rfl) dX12_aligns_215 ⟨Nat.le_of_ble_eq_true rfl, Nat.le_of_ble_eq_true rfl⟩ (fun x_394 f_395 H locs hw hP hD hS => ?_)
                              obtain ⟨hG, bx_394, hkc_396⟩ := hw
                              have hfo_398 : f_395 o0 = .inr (12, [.ref a_1, .ref a_2, .ref a_3, .int v_4, .ref a_5, .int v_6, .int v_7, .int v_8, .int v_9, .int v_10, .int v_11, .int v_12, .int v_13, .int v_14, .int v_15, .ref a_16, .ref a_17, .ref a_18, .ref a_19, .ref a_20, .ref a_21, .ref a_22, .ref a_23, .int v_24, .int v_25, .int v_26, .int v_27, .int v_28, .ref a_29, .int v_30, .ref a_31, .ref a_32, .int v_33, .int v_34, .ref a_35, .int v_36, .ref a_37, .ref a_38, .int v_39, .int v_40, .ref a_41, .ref a_42, .ref a_43, .int v_44, .ref a_45, .ref a_46, .ref a_47, .ref a_48, .ref a_49, .ref a_50, .ref a_51, .ref a_52, .ref a_53, .int v_54, .int v_55, .ref a_56]) := by rw [hkc_396 o0 (by rw [ko0]; decide) (by rw [ko0]; decide) (by rw [ko0]; decide) (by rw [ko0]; decide) (by rw [ko0]; decide) (by rw [ko0]; decide)]; exact hfo_385
                              have hfo_399 : f_395 a_1 = .inl (cI, 1560, .inl g_365) := by rw [hkc_396 a_1 (by rw [ka_1]; decide) (by rw [ka_1]; decide) (by rw [ka_1]; decide) (by rw [ka_1]; decide) (by rw [ka_1]; decide) (by rw [ka_1]; decide)]; exact hfo_386
                              have hfr0 : ∀ b, kd b ≠ 579 → kd b ≠ 581 → kd b ≠ 583 → kd b ≠ 585 → kd b ≠ 587 → kd b ≠ 588 → f_395 b = f b := fun b q579 q581 q583 q585 q587 q588 => (hkc_396 b q579 q581 q583 q585 q587 q588).trans (hfr0 b q579 q581 q583 q585 q587 q588)
                              refine lv_if_eq (tgt := 223) hx hb dX12_aligns_218 (by decide) (fun c_400 => ?_) (fun c_400 => ?_)
                              · skip
                                rw [← Int32.toInt_inj, ti_0] at c_400
                                obtain ⟨x_401, ex_401⟩ : ∃ y : Int32, y_360 + 1 = y := ⟨_, rfl⟩
                                have hx_401 : x_401.toInt = y_360.toInt + 1 := by rw [← ex_401, ad_I (by rw [ti_1]; omega) (by rw [ti_1]; omega), ti_1]
                                have bx_401 : (1 ≤ x_401.toInt ∧ x_401.toInt ≤ 20) := by constructor <;> omega
                                refine lv_iinc (v := x_401) (lv' := [(6, .int x_401), (9, .int y_374), (8, .int x_373), (7, .int x_370), (0, .ref o0), (1, .int p1), (2, .int p2), (3, .int p3), (4, .int p4), (5, .int p5)]) hx hb dX12_aligns_223 hl (k := 3) rfl ex_401 (by decide) rfl (fun ls hl => ?_)
                                refine lv_goto (tgt := 32) hx hb dX12_aligns_226 (by decide) ?_
                                exact ih_hloop_359 x_401 (by constructor <;> omega) f_395 hG _ _ hP hS hD hfr0 hfo_398 (by omega) ls (lv_sub hl [0, 4, 5, 6, 7, 8, 9] rfl)
                              · skip
                                rw [← Int32.toInt_inj, ti_0] at c_400
                                refine lv_iconst (v := 1) hx hb dX12_aligns_221 (by decide) ?_
                                exact W.zret (v := 1) (ty := .boolean) hx hb hr rfl (fun t ht hW => ⟨⟨1, f_395, rfl, ⟨hG, (by decide), hfr0⟩, by rw [ht]; exact hP, va_K.moved hW.alike hK, pl_in hD⟩, hS.F ht⟩) hS.2.2 dX12_aligns_222
                            · skip
                              rw [← Int32.toInt_inj, ti_0] at c_391
                              exfalso
                              omega
                    · skip
                      rw [← Int32.toInt_inj, ti_0] at c_378
                      refine lv_iload_n hx hb dX12_aligns_129 rfl (lv_at hl 6 rfl) ?_
                      refine lv_aload_n hx hb dX12_aligns_130 rfl (lv_at hl 4 rfl) ?_
                      refine tk_getP (D := (dC, dI)) (ci := 12) (v := .int v_36) (C := RX12) (T := TX12) (N := 56) hx hb hU inlX12 hown hK hP mo0 hfo_363 rfl 35 (by decide) (hU _ wd_1049) (fun _ h9 => h9) rfl dX12_aligns_131 ?_
                      refine lv_icmp_eq (tgt := 223) hx hb dX12_aligns_134 (by decide) (fun c_402 => ?_) (fun c_402 => ?_)
                      · skip
                        rw [← Int32.toInt_inj] at c_402
                        obtain ⟨x_403, ex_403⟩ : ∃ y : Int32, y_360 + 1 = y := ⟨_, rfl⟩
                        have hx_403 : x_403.toInt = y_360.toInt + 1 := by rw [← ex_403, ad_I (by rw [ti_1]; omega) (by rw [ti_1]; omega), ti_1]
                        have bx_403 : (1 ≤ x_403.toInt ∧ x_403.toInt ≤ 20) := by constructor <;> omega
                        refine lv_iinc (v := x_403) (lv' := [(6, .int x_403), (9, .int y_374), (8, .int x_373), (7, .int x_370), (0, .ref o0), (1, .int p1), (2, .int p2), (3, .int p3), (4, .int p4), (5, .int p5)]) hx hb dX12_aligns_223 hl (k := 3) rfl ex_403 (by decide) rfl (fun ls hl => ?_)
                        refine lv_goto (tgt := 32) hx hb dX12_aligns_226 (by decide) ?_
                        exact ih_hloop_359 x_403 (by constructor <;> omega) f_362 hG _ _ hP hS hD hfr0 hfo_363 (by omega) ls (lv_sub hl [0, 4, 5, 6, 7, 8, 9] rfl)
                      · skip
                        rw [← Int32.toInt_inj] at c_402
                        have hclc_404 : (0 ≤ p2.toInt ∧ p2.toInt ≤ 7) := by constructor <;> omega
                        refine lv_aload_n hx hb dX12_aligns_137 rfl (lv_at hl 4 rfl) ?_
                        refine tk_getP (D := (dC, dI)) (ci := 12) (v := .ref a_35) (C := RX12) (T := TX12) (N := 56) hx hb hU inlX12 hown hK hP mo0 hfo_363 rfl 34 (by decide) (hU _ wd_186) (fun _ h9 => h9) rfl dX12_aligns_138 ?_
                        refine lv_iload_n hx hb dX12_aligns_141 rfl (lv_at hl 6 rfl) ?_
                        obtain ⟨g_406, hfo_405, hbg_406⟩ := un_594 (hG _ ma_35) ka_35
                        refine tk_ildP hx hb hK hP 0 ma_35 hfo_405 rfl (vp_in_iff.mpr (by constructor <;> omega)) dX12_aligns_142 ?_
                        refine lv_topi (fun x_407 ex_407 => ?_)
                        have bx_407 : (0 ≤ x_407.toInt ∧ x_407.toInt ≤ 8) := by rw [ex_407]; exact hbg_406 _
                        refine lv_iload hx hb dX12_aligns_143 (lv_at hl 1 rfl) ?_
                        refine lv_icmp_eq (tgt := 151) hx hb dX12_aligns_145 (by decide) (fun c_408 => ?_) (fun c_408 => ?_)
                        · skip
                          rw [← Int32.toInt_inj] at c_408
                          refine lv_aload_n hx hb dX12_aligns_151 rfl (lv_at hl 4 rfl) ?_
                          refine lv_iload hx hb dX12_aligns_152 (lv_at hl 8 rfl) ?_
                          refine lv_aload_n hx hb dX12_aligns_154 rfl (lv_at hl 4 rfl) ?_
                          refine tk_getP (D := (dC, dI)) (ci := 12) (v := .ref a_1) (C := RX12) (T := TX12) (N := 56) hx hb hU inlX12 hown hK hP mo0 hfo_363 rfl 0 (by decide) (hU _ wd_169) (fun _ h9 => h9) rfl dX12_aligns_155 ?_
                          refine lv_bipush (v := 20) hx hb dX12_aligns_158 (by decide) ?_
                          refine lv_iload hx hb dX12_aligns_160 (lv_at hl 3 rfl) ?_
                          refine lv_iadd hx hb dX12_aligns_162 ?_
                          refine lv_topi (fun x_409 ex_409 => ?_)
                          have hx_409 : x_409.toInt = 20 + y_360.toInt := by rw [ex_409, ad_I (by rw [ti_20]; omega) (by rw [ti_20]; omega), ti_20]
                          have bx_409 : (20 ≤ x_409.toInt ∧ x_409.toInt ≤ 39) := by constructor <;> omega
                          refine tk_ildP hx hb hK hP 0 ma_1 hfo_364 rfl (vp_in_iff.mpr (by constructor <;> omega)) dX12_aligns_163 ?_
                          refine lv_topi (fun x_410 ex_410 => ?_)
                          have bx_410 : (0 ≤ x_410.toInt ∧ x_410.toInt ≤ 80) := by have hc9 := cl_I (i := x_409) (by omega); rw [ex_410]; exact hbg_365.2.2.2.2.2.1 _ (by omega) (by omega) (by omega)
                          refine lv_iload hx hb dX12_aligns_164 (lv_at hl 9 rfl) ?_
                          refine tk_ViP (As := [.int p4, .int x_410, .int p5]) (rest := []) (n := 3) hx hb hml hown hU hN hZ (s_X12_reads_k12 l (dC, dI) cI cL cZ cR cG cH Z kd L f_362 hG o0 mo0 ko0 p4 (by constructor <;> omega) x_410 p5) wd_950 wd_951 wd_952 wd_5 wd_953 (by decide +kernel) ⟨(show 4 + 1 ≤ 5 + (n_ + 1) by omega), (show 8 + (5 + 11) + 105 ≤ 129 + (n_ + 1) * 29 by omega)⟩ hK hP hD hS mo0 hfo_363 12 rfl rfl rfl hl.1 rfl (Nat.le_of_ble_eq_true rfl) dX12_aligns_166 ⟨Nat.le_of_ble_eq_true rfl, Nat.le_of_ble_eq_true rfl⟩ (fun x_411 f_412 H locs hw hP hD hS => ?_)
                          obtain ⟨hG, bx_411, hkc_413⟩ := hw
                          have hfo_415 : f_412 o0 = .inr (12, [.ref a_1, .ref a_2, .ref a_3, .int v_4, .ref a_5, .int v_6, .int v_7, .int v_8, .int v_9, .int v_10, .int v_11, .int v_12, .int v_13, .int v_14, .int v_15, .ref a_16, .ref a_17, .ref a_18, .ref a_19, .ref a_20, .ref a_21, .ref a_22, .ref a_23, .int v_24, .int v_25, .int v_26, .int v_27, .int v_28, .ref a_29, .int v_30, .ref a_31, .ref a_32, .int v_33, .int v_34, .ref a_35, .int v_36, .ref a_37, .ref a_38, .int v_39, .int v_40, .ref a_41, .ref a_42, .ref a_43, .int v_44, .ref a_45, .ref a_46, .ref a_47, .ref a_48, .ref a_49, .ref a_50, .ref a_51, .ref a_52, .ref a_53, .int v_54, .int v_55, .ref a_56]) := by rw [hkc_413 o0 (by rw [ko0]; decide) (by rw [ko0]; decide) (by rw [ko0]; decide) (by rw [ko0]; decide) (by rw [ko0]; decide) (by rw [ko0]; decide)]; exact hfo_363
                          have hfo_416 : f_412 a_1 = .inl (cI, 1560, .inl g_365) := by rw [hkc_413 a_1 (by rw [ka_1]; decide) (by rw [ka_1]; decide) (by rw [ka_1]; decide) (by rw [ka_1]; decide) (by rw [ka_1]; decide) (by rw [ka_1]; decide)]; exact hfo_364
                          have hfo_417 : f_412 a_35 = .inl (cI, 16, .inl g_406) := by rw [hkc_413 a_35 (by rw [ka_35]; decide) (by rw [ka_35]; decide) (by rw [ka_35]; decide) (by rw [ka_35]; decide) (by rw [ka_35]; decide) (by rw [ka_35]; decide)]; exact hfo_405
                          have hfr0 : ∀ b, kd b ≠ 579 → kd b ≠ 581 → kd b ≠ 583 → kd b ≠ 585 → kd b ≠ 587 → kd b ≠ 588 → f_412 b = f b := fun b q579 q581 q583 q585 q587 q588 => (hkc_413 b q579 q581 q583 q585 q587 q588).trans (hfr0 b q579 q581 q583 q585 q587 q588)
                          refine lv_if_eq (tgt := 223) hx hb dX12_aligns_169 (by decide) (fun c_418 => ?_) (fun c_418 => ?_)
                          · skip
                            rw [← Int32.toInt_inj, ti_0] at c_418
                            obtain ⟨x_419, ex_419⟩ : ∃ y : Int32, y_360 + 1 = y := ⟨_, rfl⟩
                            have hx_419 : x_419.toInt = y_360.toInt + 1 := by rw [← ex_419, ad_I (by rw [ti_1]; omega) (by rw [ti_1]; omega), ti_1]
                            have bx_419 : (1 ≤ x_419.toInt ∧ x_419.toInt ≤ 20) := by constructor <;> omega
                            refine lv_iinc (v := x_419) (lv' := [(6, .int x_419), (9, .int y_374), (8, .int x_373), (7, .int x_370), (0, .ref o0), (1, .int p1), (2, .int p2), (3, .int p3), (4, .int p4), (5, .int p5)]) hx hb dX12_aligns_223 hl (k := 3) rfl ex_419 (by decide) rfl (fun ls hl => ?_)
                            refine lv_goto (tgt := 32) hx hb dX12_aligns_226 (by decide) ?_
                            exact ih_hloop_359 x_419 (by constructor <;> omega) f_412 hG _ _ hP hS hD hfr0 hfo_415 (by omega) ls (lv_sub hl [0, 4, 5, 6, 7, 8, 9] rfl)
                          · skip
                            rw [← Int32.toInt_inj, ti_0] at c_418
                            refine lv_aload_n hx hb dX12_aligns_172 rfl (lv_at hl 4 rfl) ?_
                            refine lv_iload hx hb dX12_aligns_173 (lv_at hl 2 rfl) ?_
                            refine lv_if_ne (tgt := 182) hx hb dX12_aligns_175 (by decide) (fun c_420 => ?_) (fun c_420 => ?_)
                            · skip
                              rw [← Int32.toInt_inj, ti_0] at c_420
                              exfalso
                              omega
                            · skip
                              rw [← Int32.toInt_inj, ti_0] at c_420
                              refine lv_iload_n hx hb dX12_aligns_178 rfl (lv_at hl 5 rfl) ?_
                              refine lv_goto (tgt := 185) hx hb dX12_aligns_179 (by decide) ?_
                              refine lv_iload hx hb dX12_aligns_185 (lv_at hl 1 rfl) ?_
                              refine lv_if_ne (tgt := 194) hx hb dX12_aligns_187 (by decide) (fun c_421 => ?_) (fun c_421 => ?_)
                              · skip
                                rw [← Int32.toInt_inj, ti_0] at c_421
                                refine lv_iload_n hx hb dX12_aligns_194 rfl (lv_at hl 6 rfl) ?_
                                refine lv_iconst (v := 1) hx hb dX12_aligns_195 (by decide) ?_
                                refine lv_iadd hx hb dX12_aligns_196 ?_
                                refine lv_topi (fun x_422 ex_422 => ?_)
                                have hx_422 : x_422.toInt = p2.toInt + 1 := by rw [ex_422, ad_I (by rw [ti_1]; omega) (by rw [ti_1]; omega), ti_1]
                                have bx_422 : (1 ≤ x_422.toInt ∧ x_422.toInt ≤ 8) := by constructor <;> omega
                                refine lv_iload hx hb dX12_aligns_197 (lv_at hl 0 rfl) ?_
                                refine lv_if_eq (tgt := 208) hx hb dX12_aligns_199 (by decide) (fun c_423 => ?_) (fun c_423 => ?_)
                                · skip
                                  rw [← Int32.toInt_inj, ti_0] at c_423
                                  refine lv_iload_n hx hb dX12_aligns_208 rfl (lv_at hl 7 rfl) ?_
                                  refine lv_iload hx hb dX12_aligns_209 (lv_at hl 8 rfl) ?_
                                  refine lv_iconst (v := 1) hx hb dX12_aligns_211 (by decide) ?_
                                  refine lv_iadd hx hb dX12_aligns_212 ?_
                                  refine lv_topi (fun x_424 ex_424 => ?_)
                                  have hx_424 : x_424.toInt = p4.toInt + 1 := by rw [ex_424, ad_I (by rw [ti_1]; omega) (by rw [ti_1]; omega), ti_1]
                                  have bx_424 : (1 ≤ x_424.toInt ∧ x_424.toInt ≤ 14) := by constructor <;> omega
                                  have hclc_425 : (1 ≤ x_424.toInt ∧ x_424.toInt ≤ 13) := by constructor <;> omega
                                  refine lv_iload hx hb dX12_aligns_213 (lv_at hl 9 rfl) ?_
                                  refine tk_ViP (As := [.int p1, .int x_422, .int p3, .int x_424, .int p5]) (rest := []) (n := 5) hx hb hml hown hU hN hZ (ih_rec f_412 hG o0 mo0 ko0 p1 (by constructor <;> omega) x_422 (by constructor <;> omega) p3 (by constructor <;> omega) x_424 (by constructor <;> omega) p5 (by intro w23 w35 e23 e35; rw [hfo_415] at e23 e35; obtain rfl := Option.some.inj e23; obtain rfl := Option.some.inj e35; omega) (by omega) (by omega)) wd_1054 wd_1055 wd_1056 wd_5 wd_1057 (by decide +kernel) ⟨(show (5 + n_) + 1 ≤ 5 + (n_ + 1) by omega), (show 8 + (10 + 11) + (129 + n_ * 29) ≤ 129 + (n_ + 1) * 29 by omega)⟩ hK hP hD hS mo0 hfo_415 12 rfl rfl rfl hl.1 rfl (Nat.le_of_ble_eq_true rfl) dX12_aligns_215 ⟨Nat.le_of_ble_eq_true rfl, Nat.le_of_ble_eq_true rfl⟩ (fun x_426 f_427 H locs hw hP hD hS => ?_)
                                  obtain ⟨hG, bx_426, hkc_428⟩ := hw
                                  have hfo_430 : f_427 o0 = .inr (12, [.ref a_1, .ref a_2, .ref a_3, .int v_4, .ref a_5, .int v_6, .int v_7, .int v_8, .int v_9, .int v_10, .int v_11, .int v_12, .int v_13, .int v_14, .int v_15, .ref a_16, .ref a_17, .ref a_18, .ref a_19, .ref a_20, .ref a_21, .ref a_22, .ref a_23, .int v_24, .int v_25, .int v_26, .int v_27, .int v_28, .ref a_29, .int v_30, .ref a_31, .ref a_32, .int v_33, .int v_34, .ref a_35, .int v_36, .ref a_37, .ref a_38, .int v_39, .int v_40, .ref a_41, .ref a_42, .ref a_43, .int v_44, .ref a_45, .ref a_46, .ref a_47, .ref a_48, .ref a_49, .ref a_50, .ref a_51, .ref a_52, .ref a_53, .int v_54, .int v_55, .ref a_56]) := by rw [hkc_428 o0 (by rw [ko0]; decide) (by rw [ko0]; decide) (by rw [ko0]; decide) (by rw [ko0]; decide) (by rw [ko0]; decide) (by rw [ko0]; decide)]; exact hfo_415
                                  have hfo_431 : f_427 a_1 = .inl (cI, 1560, .inl g_365) := by rw [hkc_428 a_1 (by rw [ka_1]; decide) (by rw [ka_1]; decide) (by rw [ka_1]; decide) (by rw [ka_1]; decide) (by rw [ka_1]; decide) (by rw [ka_1]; decide)]; exact hfo_416
                                  have hfo_432 : f_427 a_35 = .inl (cI, 16, .inl g_406) := by rw [hkc_428 a_35 (by rw [ka_35]; decide) (by rw [ka_35]; decide) (by rw [ka_35]; decide) (by rw [ka_35]; decide) (by rw [ka_35]; decide) (by rw [ka_35]; decide)]; exact hfo_417
                                  have hfr0 : ∀ b, kd b ≠ 579 → kd b ≠ 581 → kd b ≠ 583 → kd b ≠ 585 → kd b ≠ 587 → kd b ≠ 588 → f_427 b = f b := fun b q579 q581 q583 q585 q587 q588 => (hkc_428 b q579 q581 q583 q585 q587 q588).trans (hfr0 b q579 q581 q583 q585 q587 q588)
                                  refine lv_if_eq (tgt := 223) hx hb dX12_aligns_218 (by decide) (fun c_433 => ?_) (fun c_433 => ?_)
                                  · skip
                                    rw [← Int32.toInt_inj, ti_0] at c_433
                                    obtain ⟨x_434, ex_434⟩ : ∃ y : Int32, y_360 + 1 = y := ⟨_, rfl⟩
                                    have hx_434 : x_434.toInt = y_360.toInt + 1 := by rw [← ex_434, ad_I (by rw [ti_1]; omega) (by rw [ti_1]; omega), ti_1]
                                    have bx_434 : (1 ≤ x_434.toInt ∧ x_434.toInt ≤ 20) := by constructor <;> omega
                                    refine lv_iinc (v := x_434) (lv' := [(6, .int x_434), (9, .int y_374), (8, .int x_373), (7, .int x_370), (0, .ref o0), (1, .int p1), (2, .int p2), (3, .int p3), (4, .int p4), (5, .int p5)]) hx hb dX12_aligns_223 hl (k := 3) rfl ex_434 (by decide) rfl (fun ls hl => ?_)
                                    refine lv_goto (tgt := 32) hx hb dX12_aligns_226 (by decide) ?_
                                    exact ih_hloop_359 x_434 (by constructor <;> omega) f_427 hG _ _ hP hS hD hfr0 hfo_430 (by omega) ls (lv_sub hl [0, 4, 5, 6, 7, 8, 9] rfl)
                                  · skip
                                    rw [← Int32.toInt_inj, ti_0] at c_433
                                    refine lv_iconst (v := 1) hx hb dX12_aligns_221 (by decide) ?_
                                    exact W.zret (v := 1) (ty := .boolean) hx hb hr rfl (fun t ht hW => ⟨⟨1, f_427, rfl, ⟨hG, (by decide), hfr0⟩, by rw [ht]; exact hP, va_K.moved hW.alike hK, pl_in hD⟩, hS.F ht⟩) hS.2.2 dX12_aligns_222
                                · skip
                                  rw [← Int32.toInt_inj, ti_0] at c_423
                                  exfalso
                                  omega
                              · skip
                                rw [← Int32.toInt_inj, ti_0] at c_421
                                exfalso
                                omega
                        · skip
                          rw [← Int32.toInt_inj] at c_408
                          refine lv_goto (tgt := 223) hx hb dX12_aligns_148 (by decide) ?_
                          obtain ⟨x_435, ex_435⟩ : ∃ y : Int32, y_360 + 1 = y := ⟨_, rfl⟩
                          have hx_435 : x_435.toInt = y_360.toInt + 1 := by rw [← ex_435, ad_I (by rw [ti_1]; omega) (by rw [ti_1]; omega), ti_1]
                          have bx_435 : (1 ≤ x_435.toInt ∧ x_435.toInt ≤ 20) := by constructor <;> omega
                          refine lv_iinc (v := x_435) (lv' := [(6, .int x_435), (9, .int y_374), (8, .int x_373), (7, .int x_370), (0, .ref o0), (1, .int p1), (2, .int p2), (3, .int p3), (4, .int p4), (5, .int p5)]) hx hb dX12_aligns_223 hl (k := 3) rfl ex_435 (by decide) rfl (fun ls hl => ?_)
                          refine lv_goto (tgt := 32) hx hb dX12_aligns_226 (by decide) ?_
                          exact ih_hloop_359 x_435 (by constructor <;> omega) f_362 hG _ _ hP hS hD hfr0 hfo_363 (by omega) ls (lv_sub hl [0, 4, 5, 6, 7, 8, 9] rfl)
                  · skip
                    rw [← Int32.toInt_inj, ti_0] at c_377
                    refine lv_iload_n hx hb dX12_aligns_105 rfl (lv_at hl 5 rfl) ?_
                    refine lv_aload_n hx hb dX12_aligns_106 rfl (lv_at hl 4 rfl) ?_
                    refine tk_getP (D := (dC, dI)) (ci := 12) (v := .int v_24) (C := RX12) (T := TX12) (N := 56) hx hb hU inlX12 hown hK hP mo0 hfo_363 rfl 23 (by decide) (hU _ wd_867) (fun _ h9 => h9) rfl dX12_aligns_107 ?_
                    refine lv_icmp_eq (tgt := 223) hx hb dX12_aligns_110 (by decide) (fun c_436 => ?_) (fun c_436 => ?_)
                    · skip
                      rw [← Int32.toInt_inj] at c_436
                      obtain ⟨x_437, ex_437⟩ : ∃ y : Int32, y_360 + 1 = y := ⟨_, rfl⟩
                      have hx_437 : x_437.toInt = y_360.toInt + 1 := by rw [← ex_437, ad_I (by rw [ti_1]; omega) (by rw [ti_1]; omega), ti_1]
                      have bx_437 : (1 ≤ x_437.toInt ∧ x_437.toInt ≤ 20) := by constructor <;> omega
                      refine lv_iinc (v := x_437) (lv' := [(6, .int x_437), (9, .int y_374), (8, .int x_373), (7, .int x_370), (0, .ref o0), (1, .int p1), (2, .int p2), (3, .int p3), (4, .int p4), (5, .int p5)]) hx hb dX12_aligns_223 hl (k := 3) rfl ex_437 (by decide) rfl (fun ls hl => ?_)
                      refine lv_goto (tgt := 32) hx hb dX12_aligns_226 (by decide) ?_
                      exact ih_hloop_359 x_437 (by constructor <;> omega) f_362 hG _ _ hP hS hD hfr0 hfo_363 (by omega) ls (lv_sub hl [0, 4, 5, 6, 7, 8, 9] rfl)
                    · skip
                      rw [← Int32.toInt_inj] at c_436
                      have hclc_438 : (0 ≤ p1.toInt ∧ p1.toInt ≤ 11) := by constructor <;> omega
                      refine lv_aload_n hx hb dX12_aligns_113 rfl (lv_at hl 4 rfl) ?_
                      refine tk_getP (D := (dC, dI)) (ci := 12) (v := .ref a_22) (C := RX12) (T := TX12) (N := 56) hx hb hU inlX12 hown hK hP mo0 hfo_363 rfl 21 (by decide) (hU _ wd_181) (fun _ h9 => h9) rfl dX12_aligns_114 ?_
                      refine lv_iload_n hx hb dX12_aligns_117 rfl (lv_at hl 5 rfl) ?_
                      obtain ⟨g_440, hfo_439, hbg_440⟩ := un_589 (hG _ ma_22) ka_22
                      refine tk_ildP hx hb hK hP 0 ma_22 hfo_439 rfl (vp_in_iff.mpr (by constructor <;> omega)) dX12_aligns_118 ?_
                      refine lv_topi (fun x_441 ex_441 => ?_)
                      have bx_441 : (0 ≤ x_441.toInt ∧ x_441.toInt ≤ 8) := by rw [ex_441]; exact hbg_440 _
                      refine lv_iload hx hb dX12_aligns_119 (lv_at hl 2 rfl) ?_
                      refine lv_icmp_ne (tgt := 223) hx hb dX12_aligns_121 (by decide) (fun c_442 => ?_) (fun c_442 => ?_)
                      · skip
                        rw [← Int32.toInt_inj] at c_442
                        obtain ⟨x_443, ex_443⟩ : ∃ y : Int32, y_360 + 1 = y := ⟨_, rfl⟩
                        have hx_443 : x_443.toInt = y_360.toInt + 1 := by rw [← ex_443, ad_I (by rw [ti_1]; omega) (by rw [ti_1]; omega), ti_1]
                        have bx_443 : (1 ≤ x_443.toInt ∧ x_443.toInt ≤ 20) := by constructor <;> omega
                        refine lv_iinc (v := x_443) (lv' := [(6, .int x_443), (9, .int y_374), (8, .int x_373), (7, .int x_370), (0, .ref o0), (1, .int p1), (2, .int p2), (3, .int p3), (4, .int p4), (5, .int p5)]) hx hb dX12_aligns_223 hl (k := 3) rfl ex_443 (by decide) rfl (fun ls hl => ?_)
                        refine lv_goto (tgt := 32) hx hb dX12_aligns_226 (by decide) ?_
                        exact ih_hloop_359 x_443 (by constructor <;> omega) f_362 hG _ _ hP hS hD hfr0 hfo_363 (by omega) ls (lv_sub hl [0, 4, 5, 6, 7, 8, 9] rfl)
                      · skip
                        rw [← Int32.toInt_inj] at c_442
                        refine lv_iload hx hb dX12_aligns_124 (lv_at hl 1 rfl) ?_
                        refine lv_if_eq (tgt := 151) hx hb dX12_aligns_126 (by decide) (fun c_444 => ?_) (fun c_444 => ?_)
                        · skip
                          rw [← Int32.toInt_inj, ti_0] at c_444
                          refine lv_aload_n hx hb dX12_aligns_151 rfl (lv_at hl 4 rfl) ?_
                          refine lv_iload hx hb dX12_aligns_152 (lv_at hl 8 rfl) ?_
                          refine lv_aload_n hx hb dX12_aligns_154 rfl (lv_at hl 4 rfl) ?_
                          refine tk_getP (D := (dC, dI)) (ci := 12) (v := .ref a_1) (C := RX12) (T := TX12) (N := 56) hx hb hU inlX12 hown hK hP mo0 hfo_363 rfl 0 (by decide) (hU _ wd_169) (fun _ h9 => h9) rfl dX12_aligns_155 ?_
                          refine lv_bipush (v := 20) hx hb dX12_aligns_158 (by decide) ?_
                          refine lv_iload hx hb dX12_aligns_160 (lv_at hl 3 rfl) ?_
                          refine lv_iadd hx hb dX12_aligns_162 ?_
                          refine lv_topi (fun x_445 ex_445 => ?_)
                          have hx_445 : x_445.toInt = 20 + y_360.toInt := by rw [ex_445, ad_I (by rw [ti_20]; omega) (by rw [ti_20]; omega), ti_20]
                          have bx_445 : (20 ≤ x_445.toInt ∧ x_445.toInt ≤ 39) := by constructor <;> omega
                          refine tk_ildP hx hb hK hP 0 ma_1 hfo_364 rfl (vp_in_iff.mpr (by constructor <;> omega)) dX12_aligns_163 ?_
                          refine lv_topi (fun x_446 ex_446 => ?_)
                          have bx_446 : (0 ≤ x_446.toInt ∧ x_446.toInt ≤ 80) := by have hc9 := cl_I (i := x_445) (by omega); rw [ex_446]; exact hbg_365.2.2.2.2.2.1 _ (by omega) (by omega) (by omega)
                          refine lv_iload hx hb dX12_aligns_164 (lv_at hl 9 rfl) ?_
                          refine tk_ViP (As := [.int p4, .int x_446, .int p5]) (rest := []) (n := 3) hx hb hml hown hU hN hZ (s_X12_reads_k12 l (dC, dI) cI cL cZ cR cG cH Z kd L f_362 hG o0 mo0 ko0 p4 (by constructor <;> omega) x_446 p5) wd_950 wd_951 wd_952 wd_5 wd_953 (by decide +kernel) ⟨(show 4 + 1 ≤ 5 + (n_ + 1) by omega), (show 8 + (5 + 11) + 105 ≤ 129 + (n_ + 1) * 29 by omega)⟩ hK hP hD hS mo0 hfo_363 12 rfl rfl rfl hl.1 rfl (Nat.le_of_ble_eq_true rfl) dX12_aligns_166 ⟨Nat.le_of_ble_eq_true rfl, Nat.le_of_ble_eq_true rfl⟩ (fun x_447 f_448 H locs hw hP hD hS => ?_)
                          obtain ⟨hG, bx_447, hkc_449⟩ := hw
                          have hfo_451 : f_448 o0 = .inr (12, [.ref a_1, .ref a_2, .ref a_3, .int v_4, .ref a_5, .int v_6, .int v_7, .int v_8, .int v_9, .int v_10, .int v_11, .int v_12, .int v_13, .int v_14, .int v_15, .ref a_16, .ref a_17, .ref a_18, .ref a_19, .ref a_20, .ref a_21, .ref a_22, .ref a_23, .int v_24, .int v_25, .int v_26, .int v_27, .int v_28, .ref a_29, .int v_30, .ref a_31, .ref a_32, .int v_33, .int v_34, .ref a_35, .int v_36, .ref a_37, .ref a_38, .int v_39, .int v_40, .ref a_41, .ref a_42, .ref a_43, .int v_44, .ref a_45, .ref a_46, .ref a_47, .ref a_48, .ref a_49, .ref a_50, .ref a_51, .ref a_52, .ref a_53, .int v_54, .int v_55, .ref a_56]) := by rw [hkc_449 o0 (by rw [ko0]; decide) (by rw [ko0]; decide) (by rw [ko0]; decide) (by rw [ko0]; decide) (by rw [ko0]; decide) (by rw [ko0]; decide)]; exact hfo_363
                          have hfo_452 : f_448 a_1 = .inl (cI, 1560, .inl g_365) := by rw [hkc_449 a_1 (by rw [ka_1]; decide) (by rw [ka_1]; decide) (by rw [ka_1]; decide) (by rw [ka_1]; decide) (by rw [ka_1]; decide) (by rw [ka_1]; decide)]; exact hfo_364
                          have hfo_453 : f_448 a_22 = .inl (cI, 16, .inl g_440) := by rw [hkc_449 a_22 (by rw [ka_22]; decide) (by rw [ka_22]; decide) (by rw [ka_22]; decide) (by rw [ka_22]; decide) (by rw [ka_22]; decide) (by rw [ka_22]; decide)]; exact hfo_439
                          have hfr0 : ∀ b, kd b ≠ 579 → kd b ≠ 581 → kd b ≠ 583 → kd b ≠ 585 → kd b ≠ 587 → kd b ≠ 588 → f_448 b = f b := fun b q579 q581 q583 q585 q587 q588 => (hkc_449 b q579 q581 q583 q585 q587 q588).trans (hfr0 b q579 q581 q583 q585 q587 q588)
                          refine lv_if_eq (tgt := 223) hx hb dX12_aligns_169 (by decide) (fun c_454 => ?_) (fun c_454 => ?_)
                          · skip
                            rw [← Int32.toInt_inj, ti_0] at c_454
                            obtain ⟨x_455, ex_455⟩ : ∃ y : Int32, y_360 + 1 = y := ⟨_, rfl⟩
                            have hx_455 : x_455.toInt = y_360.toInt + 1 := by rw [← ex_455, ad_I (by rw [ti_1]; omega) (by rw [ti_1]; omega), ti_1]
                            have bx_455 : (1 ≤ x_455.toInt ∧ x_455.toInt ≤ 20) := by constructor <;> omega
                            refine lv_iinc (v := x_455) (lv' := [(6, .int x_455), (9, .int y_374), (8, .int x_373), (7, .int x_370), (0, .ref o0), (1, .int p1), (2, .int p2), (3, .int p3), (4, .int p4), (5, .int p5)]) hx hb dX12_aligns_223 hl (k := 3) rfl ex_455 (by decide) rfl (fun ls hl => ?_)
                            refine lv_goto (tgt := 32) hx hb dX12_aligns_226 (by decide) ?_
                            exact ih_hloop_359 x_455 (by constructor <;> omega) f_448 hG _ _ hP hS hD hfr0 hfo_451 (by omega) ls (lv_sub hl [0, 4, 5, 6, 7, 8, 9] rfl)
                          · skip
                            rw [← Int32.toInt_inj, ti_0] at c_454
                            refine lv_aload_n hx hb dX12_aligns_172 rfl (lv_at hl 4 rfl) ?_
                            refine lv_iload hx hb dX12_aligns_173 (lv_at hl 2 rfl) ?_
                            refine lv_if_ne (tgt := 182) hx hb dX12_aligns_175 (by decide) (fun c_456 => ?_) (fun c_456 => ?_)
                            · skip
                              rw [← Int32.toInt_inj, ti_0] at c_456
                              refine lv_iload_n hx hb dX12_aligns_182 rfl (lv_at hl 5 rfl) ?_
                              refine lv_iconst (v := 1) hx hb dX12_aligns_183 (by decide) ?_
                              refine lv_iadd hx hb dX12_aligns_184 ?_
                              refine lv_topi (fun x_457 ex_457 => ?_)
                              have hx_457 : x_457.toInt = p1.toInt + 1 := by rw [ex_457, ad_I (by rw [ti_1]; omega) (by rw [ti_1]; omega), ti_1]
                              have bx_457 : (1 ≤ x_457.toInt ∧ x_457.toInt ≤ 12) := by constructor <;> omega
                              refine lv_iload hx hb dX12_aligns_185 (lv_at hl 1 rfl) ?_
                              refine lv_if_ne (tgt := 194) hx hb dX12_aligns_187 (by decide) (fun c_458 => ?_) (fun c_458 => ?_)
                              · skip
                                rw [← Int32.toInt_inj, ti_0] at c_458
                                exfalso
                                omega
                              · skip
                                rw [← Int32.toInt_inj, ti_0] at c_458
                                refine lv_iload_n hx hb dX12_aligns_190 rfl (lv_at hl 6 rfl) ?_
                                refine lv_goto (tgt := 197) hx hb dX12_aligns_191 (by decide) ?_
                                refine lv_iload hx hb dX12_aligns_197 (lv_at hl 0 rfl) ?_
                                refine lv_if_eq (tgt := 208) hx hb dX12_aligns_199 (by decide) (fun c_459 => ?_) (fun c_459 => ?_)
                                · skip
                                  rw [← Int32.toInt_inj, ti_0] at c_459
                                  refine lv_iload_n hx hb dX12_aligns_208 rfl (lv_at hl 7 rfl) ?_
                                  refine lv_iload hx hb dX12_aligns_209 (lv_at hl 8 rfl) ?_
                                  refine lv_iconst (v := 1) hx hb dX12_aligns_211 (by decide) ?_
                                  refine lv_iadd hx hb dX12_aligns_212 ?_
                                  refine lv_topi (fun x_460 ex_460 => ?_)
                                  have hx_460 : x_460.toInt = p4.toInt + 1 := by rw [ex_460, ad_I (by rw [ti_1]; omega) (by rw [ti_1]; omega), ti_1]
                                  have bx_460 : (1 ≤ x_460.toInt ∧ x_460.toInt ≤ 14) := by constructor <;> omega
                                  have hclc_461 : (1 ≤ x_460.toInt ∧ x_460.toInt ≤ 13) := by constructor <;> omega
                                  refine lv_iload hx hb dX12_aligns_213 (lv_at hl 9 rfl) ?_
                                  refine tk_ViP (As := [.int x_457, .int p2, .int p3, .int x_460, .int p5]) (rest := []) (n := 5) hx hb hml hown hU hN hZ (ih_rec f_448 hG o0 mo0 ko0 x_457 (by constructor <;> omega) p2 (by constructor <;> omega) p3 (by constructor <;> omega) x_460 (by constructor <;> omega) p5 (by intro w23 w35 e23 e35; rw [hfo_451] at e23 e35; obtain rfl := Option.some.inj e23; obtain rfl := Option.some.inj e35; omega) (by omega) (by omega)) wd_1054 wd_1055 wd_1056 wd_5 wd_1057 (by decide +kernel) ⟨(show (5 + n_) + 1 ≤ 5 + (n_ + 1) by omega), (show 8 + (10 + 11) + (129 + n_ * 29) ≤ 129 + (n_ + 1) * 29 by omega)⟩ hK hP hD hS mo0 hfo_451 12 rfl rfl rfl hl.1 rfl (Nat.le_of_ble_eq_true rfl) dX12_aligns_215 ⟨Nat.le_of_ble_eq_true rfl, Nat.le_of_ble_eq_true rfl⟩ (fun x_462 f_463 H locs hw hP hD hS => ?_)
                                  obtain ⟨hG, bx_462, hkc_464⟩ := hw
                                  have hfo_466 : f_463 o0 = .inr (12, [.ref a_1, .ref a_2, .ref a_3, .int v_4, .ref a_5, .int v_6, .int v_7, .int v_8, .int v_9, .int v_10, .int v_11, .int v_12, .int v_13, .int v_14, .int v_15, .ref a_16, .ref a_17, .ref a_18, .ref a_19, .ref a_20, .ref a_21, .ref a_22, .ref a_23, .int v_24, .int v_25, .int v_26, .int v_27, .int v_28, .ref a_29, .int v_30, .ref a_31, .ref a_32, .int v_33, .int v_34, .ref a_35, .int v_36, .ref a_37, .ref a_38, .int v_39, .int v_40, .ref a_41, .ref a_42, .ref a_43, .int v_44, .ref a_45, .ref a_46, .ref a_47, .ref a_48, .ref a_49, .ref a_50, .ref a_51, .ref a_52, .ref a_53, .int v_54, .int v_55, .ref a_56]) := by rw [hkc_464 o0 (by rw [ko0]; decide) (by rw [ko0]; decide) (by rw [ko0]; decide) (by rw [ko0]; decide) (by rw [ko0]; decide) (by rw [ko0]; decide)]; exact hfo_451
                                  have hfo_467 : f_463 a_1 = .inl (cI, 1560, .inl g_365) := by rw [hkc_464 a_1 (by rw [ka_1]; decide) (by rw [ka_1]; decide) (by rw [ka_1]; decide) (by rw [ka_1]; decide) (by rw [ka_1]; decide) (by rw [ka_1]; decide)]; exact hfo_452
                                  have hfo_468 : f_463 a_22 = .inl (cI, 16, .inl g_440) := by rw [hkc_464 a_22 (by rw [ka_22]; decide) (by rw [ka_22]; decide) (by rw [ka_22]; decide) (by rw [ka_22]; decide) (by rw [ka_22]; decide) (by rw [ka_22]; decide)]; exact hfo_453
                                  have hfr0 : ∀ b, kd b ≠ 579 → kd b ≠ 581 → kd b ≠ 583 → kd b ≠ 585 → kd b ≠ 587 → kd b ≠ 588 → f_463 b = f b := fun b q579 q581 q583 q585 q587 q588 => (hkc_464 b q579 q581 q583 q585 q587 q588).trans (hfr0 b q579 q581 q583 q585 q587 q588)
                                  refine lv_if_eq (tgt := 223) hx hb dX12_aligns_218 (by decide) (fun c_469 => ?_) (fun c_469 => ?_)
                                  · skip
                                    rw [← Int32.toInt_inj, ti_0] at c_469
                                    obtain ⟨x_470, ex_470⟩ : ∃ y : Int32, y_360 + 1 = y := ⟨_, rfl⟩
                                    have hx_470 : x_470.toInt = y_360.toInt + 1 := by rw [← ex_470, ad_I (by rw [ti_1]; omega) (by rw [ti_1]; omega), ti_1]
                                    have bx_470 : (1 ≤ x_470.toInt ∧ x_470.toInt ≤ 20) := by constructor <;> omega
                                    refine lv_iinc (v := x_470) (lv' := [(6, .int x_470), (9, .int y_374), (8, .int x_373), (7, .int x_370), (0, .ref o0), (1, .int p1), (2, .int p2), (3, .int p3), (4, .int p4), (5, .int p5)]) hx hb dX12_aligns_223 hl (k := 3) rfl ex_470 (by decide) rfl (fun ls hl => ?_)
                                    refine lv_goto (tgt := 32) hx hb dX12_aligns_226 (by decide) ?_
                                    exact ih_hloop_359 x_470 (by constructor <;> omega) f_463 hG _ _ hP hS hD hfr0 hfo_466 (by omega) ls (lv_sub hl [0, 4, 5, 6, 7, 8, 9] rfl)
                                  · skip
                                    rw [← Int32.toInt_inj, ti_0] at c_469
                                    refine lv_iconst (v := 1) hx hb dX12_aligns_221 (by decide) ?_
                                    exact W.zret (v := 1) (ty := .boolean) hx hb hr rfl (fun t ht hW => ⟨⟨1, f_463, rfl, ⟨hG, (by decide), hfr0⟩, by rw [ht]; exact hP, va_K.moved hW.alike hK, pl_in hD⟩, hS.F ht⟩) hS.2.2 dX12_aligns_222
                                · skip
                                  rw [← Int32.toInt_inj, ti_0] at c_459
                                  exfalso
                                  omega
                            · skip
                              rw [← Int32.toInt_inj, ti_0] at c_456
                              exfalso
                              omega
                        · skip
                          rw [← Int32.toInt_inj, ti_0] at c_444
                          refine lv_iload_n hx hb dX12_aligns_129 rfl (lv_at hl 6 rfl) ?_
                          refine lv_aload_n hx hb dX12_aligns_130 rfl (lv_at hl 4 rfl) ?_
                          refine tk_getP (D := (dC, dI)) (ci := 12) (v := .int v_36) (C := RX12) (T := TX12) (N := 56) hx hb hU inlX12 hown hK hP mo0 hfo_363 rfl 35 (by decide) (hU _ wd_1049) (fun _ h9 => h9) rfl dX12_aligns_131 ?_
                          refine lv_icmp_eq (tgt := 223) hx hb dX12_aligns_134 (by decide) (fun c_471 => ?_) (fun c_471 => ?_)
                          · skip
                            rw [← Int32.toInt_inj] at c_471
                            obtain ⟨x_472, ex_472⟩ : ∃ y : Int32, y_360 + 1 = y := ⟨_, rfl⟩
                            have hx_472 : x_472.toInt = y_360.toInt + 1 := by rw [← ex_472, ad_I (by rw [ti_1]; omega) (by rw [ti_1]; omega), ti_1]
                            have bx_472 : (1 ≤ x_472.toInt ∧ x_472.toInt ≤ 20) := by constructor <;> omega
                            refine lv_iinc (v := x_472) (lv' := [(6, .int x_472), (9, .int y_374), (8, .int x_373), (7, .int x_370), (0, .ref o0), (1, .int p1), (2, .int p2), (3, .int p3), (4, .int p4), (5, .int p5)]) hx hb dX12_aligns_223 hl (k := 3) rfl ex_472 (by decide) rfl (fun ls hl => ?_)
                            refine lv_goto (tgt := 32) hx hb dX12_aligns_226 (by decide) ?_
                            exact ih_hloop_359 x_472 (by constructor <;> omega) f_362 hG _ _ hP hS hD hfr0 hfo_363 (by omega) ls (lv_sub hl [0, 4, 5, 6, 7, 8, 9] rfl)
                          · skip
                            rw [← Int32.toInt_inj] at c_471
                            have hclc_473 : (0 ≤ p2.toInt ∧ p2.toInt ≤ 7) := by constructor <;> omega
                            refine lv_aload_n hx hb dX12_aligns_137 rfl (lv_at hl 4 rfl) ?_
                            refine tk_getP (D := (dC, dI)) (ci := 12) (v := .ref a_35) (C := RX12) (T := TX12) (N := 56) hx hb hU inlX12 hown hK hP mo0 hfo_363 rfl 34 (by decide) (hU _ wd_186) (fun _ h9 => h9) rfl dX12_aligns_138 ?_
                            refine lv_iload_n hx hb dX12_aligns_141 rfl (lv_at hl 6 rfl) ?_
                            obtain ⟨g_475, hfo_474, hbg_475⟩ := un_594 (hG _ ma_35) ka_35
                            refine tk_ildP hx hb hK hP 0 ma_35 hfo_474 rfl (vp_in_iff.mpr (by constructor <;> omega)) dX12_aligns_142 ?_
                            refine lv_topi (fun x_476 ex_476 => ?_)
                            have bx_476 : (0 ≤ x_476.toInt ∧ x_476.toInt ≤ 8) := by rw [ex_476]; exact hbg_475 _
                            refine lv_iload hx hb dX12_aligns_143 (lv_at hl 1 rfl) ?_
                            refine lv_icmp_eq (tgt := 151) hx hb dX12_aligns_145 (by decide) (fun c_477 => ?_) (fun c_477 => ?_)
                            · skip
                              rw [← Int32.toInt_inj] at c_477
                              refine lv_aload_n hx hb dX12_aligns_151 rfl (lv_at hl 4 rfl) ?_
                              refine lv_iload hx hb dX12_aligns_152 (lv_at hl 8 rfl) ?_
                              refine lv_aload_n hx hb dX12_aligns_154 rfl (lv_at hl 4 rfl) ?_
                              refine tk_getP (D := (dC, dI)) (ci := 12) (v := .ref a_1) (C := RX12) (T := TX12) (N := 56) hx hb hU inlX12 hown hK hP mo0 hfo_363 rfl 0 (by decide) (hU _ wd_169) (fun _ h9 => h9) rfl dX12_aligns_155 ?_
                              refine lv_bipush (v := 20) hx hb dX12_aligns_158 (by decide) ?_
                              refine lv_iload hx hb dX12_aligns_160 (lv_at hl 3 rfl) ?_
                              refine lv_iadd hx hb dX12_aligns_162 ?_
                              refine lv_topi (fun x_478 ex_478 => ?_)
                              have hx_478 : x_478.toInt = 20 + y_360.toInt := by rw [ex_478, ad_I (by rw [ti_20]; omega) (by rw [ti_20]; omega), ti_20]
                              have bx_478 : (20 ≤ x_478.toInt ∧ x_478.toInt ≤ 39) := by constructor <;> omega
                              refine tk_ildP hx hb hK hP 0 ma_1 hfo_364 rfl (vp_in_iff.mpr (by constructor <;> omega)) dX12_aligns_163 ?_
                              refine lv_topi (fun x_479 ex_479 => ?_)
                              have bx_479 : (0 ≤ x_479.toInt ∧ x_479.toInt ≤ 80) := by have hc9 := cl_I (i := x_478) (by omega); rw [ex_479]; exact hbg_365.2.2.2.2.2.1 _ (by omega) (by omega) (by omega)
                              refine lv_iload hx hb dX12_aligns_164 (lv_at hl 9 rfl) ?_
                              refine tk_ViP (As := [.int p4, .int x_479, .int p5]) (rest := []) (n := 3) hx hb hml hown hU hN hZ (s_X12_reads_k12 l (dC, dI) cI cL cZ cR cG cH Z kd L f_362 hG o0 mo0 ko0 p4 (by constructor <;> omega) x_479 p5) wd_950 wd_951 wd_952 wd_5 wd_953 (by decide +kernel) ⟨(show 4 + 1 ≤ 5 + (n_ + 1) by omega), (show 8 + (5 + 11) + 105 ≤ 129 + (n_ + 1) * 29 by omega)⟩ hK hP hD hS mo0 hfo_363 12 rfl rfl rfl hl.1 rfl (Nat.le_of_ble_eq_true rfl) dX12_aligns_166 ⟨Nat.le_of_ble_eq_true rfl, Nat.le_of_ble_eq_true rfl⟩ (fun x_480 f_481 H locs hw hP hD hS => ?_)
                              obtain ⟨hG, bx_480, hkc_482⟩ := hw
                              have hfo_484 : f_481 o0 = .inr (12, [.ref a_1, .ref a_2, .ref a_3, .int v_4, .ref a_5, .int v_6, .int v_7, .int v_8, .int v_9, .int v_10, .int v_11, .int v_12, .int v_13, .int v_14, .int v_15, .ref a_16, .ref a_17, .ref a_18, .ref a_19, .ref a_20, .ref a_21, .ref a_22, .ref a_23, .int v_24, .int v_25, .int v_26, .int v_27, .int v_28, .ref a_29, .int v_30, .ref a_31, .ref a_32, .int v_33, .int v_34, .ref a_35, .int v_36, .ref a_37, .ref a_38, .int v_39, .int v_40, .ref a_41, .ref a_42, .ref a_43, .int v_44, .ref a_45, .ref a_46, .ref a_47, .ref a_48, .ref a_49, .ref a_50, .ref a_51, .ref a_52, .ref a_53, .int v_54, .int v_55, .ref a_56]) := by rw [hkc_482 o0 (by rw [ko0]; decide) (by rw [ko0]; decide) (by rw [ko0]; decide) (by rw [ko0]; decide) (by rw [ko0]; decide) (by rw [ko0]; decide)]; exact hfo_363
                              have hfo_485 : f_481 a_1 = .inl (cI, 1560, .inl g_365) := by rw [hkc_482 a_1 (by rw [ka_1]; decide) (by rw [ka_1]; decide) (by rw [ka_1]; decide) (by rw [ka_1]; decide) (by rw [ka_1]; decide) (by rw [ka_1]; decide)]; exact hfo_364
                              have hfo_486 : f_481 a_22 = .inl (cI, 16, .inl g_440) := by rw [hkc_482 a_22 (by rw [ka_22]; decide) (by rw [ka_22]; decide) (by rw [ka_22]; decide) (by rw [ka_22]; decide) (by rw [ka_22]; decide) (by rw [ka_22]; decide)]; exact hfo_439
                              have hfo_487 : f_481 a_35 = .inl (cI, 16, .inl g_475) := by rw [hkc_482 a_35 (by rw [ka_35]; decide) (by rw [ka_35]; decide) (by rw [ka_35]; decide) (by rw [ka_35]; decide) (by rw [ka_35]; decide) (by rw [ka_35]; decide)]; exact hfo_474
                              have hfr0 : ∀ b, kd b ≠ 579 → kd b ≠ 581 → kd b ≠ 583 → kd b ≠ 585 → kd b ≠ 587 → kd b ≠ 588 → f_481 b = f b := fun b q579 q581 q583 q585 q587 q588 => (hkc_482 b q579 q581 q583 q585 q587 q588).trans (hfr0 b q579 q581 q583 q585 q587 q588)
                              refine lv_if_eq (tgt := 223) hx hb dX12_aligns_169 (by decide) (fun c_488 => ?_) (fun c_488 => ?_)
                              · skip
                                rw [← Int32.toInt_inj, ti_0] at c_488
                                obtain ⟨x_489, ex_489⟩ : ∃ y : Int32, y_360 + 1 = y := ⟨_, rfl⟩
                                have hx_489 : x_489.toInt = y_360.toInt + 1 := by rw [← ex_489, ad_I (by rw [ti_1]; omega) (by rw [ti_1]; omega), ti_1]
                                have bx_489 : (1 ≤ x_489.toInt ∧ x_489.toInt ≤ 20) := by constructor <;> omega
                                refine lv_iinc (v := x_489) (lv' := [(6, .int x_489), (9, .int y_374), (8, .int x_373), (7, .int x_370), (0, .ref o0), (1, .int p1), (2, .int p2), (3, .int p3), (4, .int p4), (5, .int p5)]) hx hb dX12_aligns_223 hl (k := 3) rfl ex_489 (by decide) rfl (fun ls hl => ?_)
                                refine lv_goto (tgt := 32) hx hb dX12_aligns_226 (by decide) ?_
                                exact ih_hloop_359 x_489 (by constructor <;> omega) f_481 hG _ _ hP hS hD hfr0 hfo_484 (by omega) ls (lv_sub hl [0, 4, 5, 6, 7, 8, 9] rfl)
                              · skip
                                rw [← Int32.toInt_inj, ti_0] at c_488
                                refine lv_aload_n hx hb dX12_aligns_172 rfl (lv_at hl 4 rfl) ?_
                                refine lv_iload hx hb dX12_aligns_173 (lv_at hl 2 rfl) ?_
                                refine lv_if_ne (tgt := 182) hx hb dX12_aligns_175 (by decide) (fun c_490 => ?_) (fun c_490 => ?_)
                                · skip
                                  rw [← Int32.toInt_inj, ti_0] at c_490
                                  refine lv_iload_n hx hb dX12_aligns_182 rfl (lv_at hl 5 rfl) ?_
                                  refine lv_iconst (v := 1) hx hb dX12_aligns_183 (by decide) ?_
                                  refine lv_iadd hx hb dX12_aligns_184 ?_
                                  refine lv_topi (fun x_491 ex_491 => ?_)
                                  have hx_491 : x_491.toInt = p1.toInt + 1 := by rw [ex_491, ad_I (by rw [ti_1]; omega) (by rw [ti_1]; omega), ti_1]
                                  have bx_491 : (1 ≤ x_491.toInt ∧ x_491.toInt ≤ 12) := by constructor <;> omega
                                  refine lv_iload hx hb dX12_aligns_185 (lv_at hl 1 rfl) ?_
                                  refine lv_if_ne (tgt := 194) hx hb dX12_aligns_187 (by decide) (fun c_492 => ?_) (fun c_492 => ?_)
                                  · skip
                                    rw [← Int32.toInt_inj, ti_0] at c_492
                                    refine lv_iload_n hx hb dX12_aligns_194 rfl (lv_at hl 6 rfl) ?_
                                    refine lv_iconst (v := 1) hx hb dX12_aligns_195 (by decide) ?_
                                    refine lv_iadd hx hb dX12_aligns_196 ?_
                                    refine lv_topi (fun x_493 ex_493 => ?_)
                                    have hx_493 : x_493.toInt = p2.toInt + 1 := by rw [ex_493, ad_I (by rw [ti_1]; omega) (by rw [ti_1]; omega), ti_1]
                                    have bx_493 : (1 ≤ x_493.toInt ∧ x_493.toInt ≤ 8) := by constructor <;> omega
                                    refine lv_iload hx hb dX12_aligns_197 (lv_at hl 0 rfl) ?_
                                    refine lv_if_eq (tgt := 208) hx hb dX12_aligns_199 (by decide) (fun c_494 => ?_) (fun c_494 => ?_)
                                    · skip
                                      rw [← Int32.toInt_inj, ti_0] at c_494
                                      refine lv_iload_n hx hb dX12_aligns_208 rfl (lv_at hl 7 rfl) ?_
                                      refine lv_iload hx hb dX12_aligns_209 (lv_at hl 8 rfl) ?_
                                      refine lv_iconst (v := 1) hx hb dX12_aligns_211 (by decide) ?_
                                      refine lv_iadd hx hb dX12_aligns_212 ?_
                                      refine lv_topi (fun x_495 ex_495 => ?_)
                                      have hx_495 : x_495.toInt = p4.toInt + 1 := by rw [ex_495, ad_I (by rw [ti_1]; omega) (by rw [ti_1]; omega), ti_1]
                                      have bx_495 : (1 ≤ x_495.toInt ∧ x_495.toInt ≤ 14) := by constructor <;> omega
                                      have hclc_496 : (1 ≤ x_495.toInt ∧ x_495.toInt ≤ 13) := by constructor <;> omega
                                      refine lv_iload hx hb dX12_aligns_213 (lv_at hl 9 rfl) ?_
                                      refine tk_ViP (As := [.int x_491, .int x_493, .int p3, .int x_495, .int p5]) (rest := []) (n := 5) hx hb hml hown hU hN hZ (ih_rec f_481 hG o0 mo0 ko0 x_491 (by constructor <;> omega) x_493 (by constructor <;> omega) p3 (by constructor <;> omega) x_495 (by constructor <;> omega) p5 (by intro w23 w35 e23 e35; rw [hfo_484] at e23 e35; obtain rfl := Option.some.inj e23; obtain rfl := Option.some.inj e35; omega) (by omega) (by omega)) wd_1054 wd_1055 wd_1056 wd_5 wd_1057 (by decide +kernel) ⟨(show (5 + n_) + 1 ≤ 5 + (n_ + 1) by omega), (show 8 + (10 + 11) + (129 + n_ * 29) ≤ 129 + (n_ + 1) * 29 by omega)⟩ hK hP hD hS mo0 hfo_484 12 rfl rfl rfl hl.1 rfl (Nat.le_of_ble_eq_true rfl) dX12_aligns_215 ⟨Nat.le_of_ble_eq_true rfl, Nat.le_of_ble_eq_true rfl⟩ (fun x_497 f_498 H locs hw hP hD hS => ?_)
                                      obtain ⟨hG, bx_497, hkc_499⟩ := hw
                                      have hfo_501 : f_498 o0 = .inr (12, [.ref a_1, .ref a_2, .ref a_3, .int v_4, .ref a_5, .int v_6, .int v_7, .int v_8, .int v_9, .int v_10, .int v_11, .int v_12, .int v_13, .int v_14, .int v_15, .ref a_16, .ref a_17, .ref a_18, .ref a_19, .ref a_20, .ref a_21, .ref a_22, .ref a_23, .int v_24, .int v_25, .int v_26, .int v_27, .int v_28, .ref a_29, .int v_30, .ref a_31, .ref a_32, .int v_33, .int v_34, .ref a_35, .int v_36, .ref a_37, .ref a_38, .int v_39, .int v_40, .ref a_41, .ref a_42, .ref a_43, .int v_44, .ref a_45, .ref a_46, .ref a_47, .ref a_48, .ref a_49, .ref a_50, .ref a_51, .ref a_52, .ref a_53, .int v_54, .int v_55, .ref a_56]) := by rw [hkc_499 o0 (by rw [ko0]; decide) (by rw [ko0]; decide) (by rw [ko0]; decide) (by rw [ko0]; decide) (by rw [ko0]; decide) (by rw [ko0]; decide)]; exact hfo_484
                                      have hfo_502 : f_498 a_1 = .inl (cI, 1560, .inl g_365) := by rw [hkc_499 a_1 (by rw [ka_1]; decide) (by rw [ka_1]; decide) (by rw [ka_1]; decide) (by rw [ka_1]; decide) (by rw [ka_1]; decide) (by rw [ka_1]; decide)]; exact hfo_485
                                      have hfo_503 : f_498 a_22 = .inl (cI, 16, .inl g_440) := by rw [hkc_499 a_22 (by rw [ka_22]; decide) (by rw [ka_22]; decide) (by rw [ka_22]; decide) (by rw [ka_22]; decide) (by rw [ka_22]; decide) (by rw [ka_22]; decide)]; exact hfo_486
                                      have hfo_504 : f_498 a_35 = .inl (cI, 16, .inl g_475) := by rw [hkc_499 a_35 (by rw [ka_35]; decide) (by rw [ka_35]; decide) (by rw [ka_35]; decide) (by rw [ka_35]; decide) (by rw [ka_35]; decide) (by rw [ka_35]; decide)]; exact hfo_487
                                      have hfr0 : ∀ b, kd b ≠ 579 → kd b ≠ 581 → kd b ≠ 583 → kd b ≠ 585 → kd b ≠ 587 → kd b ≠ 588 → f_498 b = f b := fun b q579 q581 q583 q585 q587 q588 => (hkc_499 b q579 q581 q583 q585 q587 q588).trans (hfr0 b q579 q581 q583 q585 q587 q588)
                                      refine lv_if_eq (tgt := 223) hx hb dX12_aligns_218 (by decide) (fun c_505 => ?_) (fun c_505 => ?_)
                                      · skip
                                        rw [← Int32.toInt_inj, ti_0] at c_505
                                        obtain ⟨x_506, ex_506⟩ : ∃ y : Int32, y_360 + 1 = y := ⟨_, rfl⟩
                                        have hx_506 : x_506.toInt = y_360.toInt + 1 := by rw [← ex_506, ad_I (by rw [ti_1]; omega) (by rw [ti_1]; omega), ti_1]
                                        have bx_506 : (1 ≤ x_506.toInt ∧ x_506.toInt ≤ 20) := by constructor <;> omega
                                        refine lv_iinc (v := x_506) (lv' := [(6, .int x_506), (9, .int y_374), (8, .int x_373), (7, .int x_370), (0, .ref o0), (1, .int p1), (2, .int p2), (3, .int p3), (4, .int p4), (5, .int p5)]) hx hb dX12_aligns_223 hl (k := 3) rfl ex_506 (by decide) rfl (fun ls hl => ?_)
                                        refine lv_goto (tgt := 32) hx hb dX12_aligns_226 (by decide) ?_
                                        exact ih_hloop_359 x_506 (by constructor <;> omega) f_498 hG _ _ hP hS hD hfr0 hfo_501 (by omega) ls (lv_sub hl [0, 4, 5, 6, 7, 8, 9] rfl)
                                      · skip
                                        rw [← Int32.toInt_inj, ti_0] at c_505
                                        refine lv_iconst (v := 1) hx hb dX12_aligns_221 (by decide) ?_
                                        exact W.zret (v := 1) (ty := .boolean) hx hb hr rfl (fun t ht hW => ⟨⟨1, f_498, rfl, ⟨hG, (by decide), hfr0⟩, by rw [ht]; exact hP, va_K.moved hW.alike hK, pl_in hD⟩, hS.F ht⟩) hS.2.2 dX12_aligns_222
                                    · skip
                                      rw [← Int32.toInt_inj, ti_0] at c_494
                                      exfalso
                                      omega
                                  · skip
                                    rw [← Int32.toInt_inj, ti_0] at c_492
                                    exfalso
                                    omega
                                · skip
                                  rw [← Int32.toInt_inj, ti_0] at c_490
                                  exfalso
                                  omega
                            · skip
                              rw [← Int32.toInt_inj] at c_477
                              refine lv_goto (tgt := 223) hx hb dX12_aligns_148 (by decide) ?_
                              obtain ⟨x_507, ex_507⟩ : ∃ y : Int32, y_360 + 1 = y := ⟨_, rfl⟩
                              have hx_507 : x_507.toInt = y_360.toInt + 1 := by rw [← ex_507, ad_I (by rw [ti_1]; omega) (by rw [ti_1]; omega), ti_1]
                              have bx_507 : (1 ≤ x_507.toInt ∧ x_507.toInt ≤ 20) := by constructor <;> omega
                              refine lv_iinc (v := x_507) (lv' := [(6, .int x_507), (9, .int y_374), (8, .int x_373), (7, .int x_370), (0, .ref o0), (1, .int p1), (2, .int p2), (3, .int p3), (4, .int p4), (5, .int p5)]) hx hb dX12_aligns_223 hl (k := 3) rfl ex_507 (by decide) rfl (fun ls hl => ?_)
                              refine lv_goto (tgt := 32) hx hb dX12_aligns_226 (by decide) ?_
                              exact ih_hloop_359 x_507 (by constructor <;> omega) f_362 hG _ _ hP hS hD hfr0 hfo_363 (by omega) ls (lv_sub hl [0, 4, 5, 6, 7, 8, 9] rfl)
                · skip
                  rw [← Int32.toInt_inj, ti_0] at c_376
                  refine lv_iload_n hx hb dX12_aligns_96 rfl (lv_at hl 7 rfl) ?_
                  refine lv_if_eq (tgt := 223) hx hb dX12_aligns_97 (by decide) (fun c_508 => ?_) (fun c_508 => ?_)
                  · skip
                    rw [← Int32.toInt_inj, ti_0] at c_508
                    obtain ⟨x_509, ex_509⟩ : ∃ y : Int32, y_360 + 1 = y := ⟨_, rfl⟩
                    have hx_509 : x_509.toInt = y_360.toInt + 1 := by rw [← ex_509, ad_I (by rw [ti_1]; omega) (by rw [ti_1]; omega), ti_1]
                    have bx_509 : (1 ≤ x_509.toInt ∧ x_509.toInt ≤ 20) := by constructor <;> omega
                    refine lv_iinc (v := x_509) (lv' := [(6, .int x_509), (9, .int y_374), (8, .int x_373), (7, .int x_370), (0, .ref o0), (1, .int p1), (2, .int p2), (3, .int p3), (4, .int p4), (5, .int p5)]) hx hb dX12_aligns_223 hl (k := 3) rfl ex_509 (by decide) rfl (fun ls hl => ?_)
                    refine lv_goto (tgt := 32) hx hb dX12_aligns_226 (by decide) ?_
                    exact ih_hloop_359 x_509 (by constructor <;> omega) f_362 hG _ _ hP hS hD hfr0 hfo_363 (by omega) ls (lv_sub hl [0, 4, 5, 6, 7, 8, 9] rfl)
                  · skip
                    rw [← Int32.toInt_inj, ti_0] at c_508
                    refine lv_iload hx hb dX12_aligns_100 (lv_at hl 2 rfl) ?_
                    refine lv_if_eq (tgt := 124) hx hb dX12_aligns_102 (by decide) (fun c_510 => ?_) (fun c_510 => ?_)
                    · skip
                      rw [← Int32.toInt_inj, ti_0] at c_510
                      refine lv_iload hx hb dX12_aligns_124 (lv_at hl 1 rfl) ?_
                      refine lv_if_eq (tgt := 151) hx hb dX12_aligns_126 (by decide) (fun c_511 => ?_) (fun c_511 => ?_)
                      · skip
                        rw [← Int32.toInt_inj, ti_0] at c_511
                        refine lv_aload_n hx hb dX12_aligns_151 rfl (lv_at hl 4 rfl) ?_
                        refine lv_iload hx hb dX12_aligns_152 (lv_at hl 8 rfl) ?_
                        refine lv_aload_n hx hb dX12_aligns_154 rfl (lv_at hl 4 rfl) ?_
                        refine tk_getP (D := (dC, dI)) (ci := 12) (v := .ref a_1) (C := RX12) (T := TX12) (N := 56) hx hb hU inlX12 hown hK hP mo0 hfo_363 rfl 0 (by decide) (hU _ wd_169) (fun _ h9 => h9) rfl dX12_aligns_155 ?_
                        refine lv_bipush (v := 20) hx hb dX12_aligns_158 (by decide) ?_
                        refine lv_iload hx hb dX12_aligns_160 (lv_at hl 3 rfl) ?_
                        refine lv_iadd hx hb dX12_aligns_162 ?_
                        refine lv_topi (fun x_512 ex_512 => ?_)
                        have hx_512 : x_512.toInt = 20 + y_360.toInt := by rw [ex_512, ad_I (by rw [ti_20]; omega) (by rw [ti_20]; omega), ti_20]
                        have bx_512 : (20 ≤ x_512.toInt ∧ x_512.toInt ≤ 39) := by constructor <;> omega
                        refine tk_ildP hx hb hK hP 0 ma_1 hfo_364 rfl (vp_in_iff.mpr (by constructor <;> omega)) dX12_aligns_163 ?_
                        refine lv_topi (fun x_513 ex_513 => ?_)
                        have bx_513 : (0 ≤ x_513.toInt ∧ x_513.toInt ≤ 80) := by have hc9 := cl_I (i := x_512) (by omega); rw [ex_513]; exact hbg_365.2.2.2.2.2.1 _ (by omega) (by omega) (by omega)
                        refine lv_iload hx hb dX12_aligns_164 (lv_at hl 9 rfl) ?_
                        refine tk_ViP (As := [.int p4, .int x_513, .int p5]) (rest := []) (n := 3) hx hb hml hown hU hN hZ (s_X12_reads_k12 l (dC, dI) cI cL cZ cR cG cH Z kd L f_362 hG o0 mo0 ko0 p4 (by constructor <;> omega) x_513 p5) wd_950 wd_951 wd_952 wd_5 wd_953 (by decide +kernel) ⟨(show 4 + 1 ≤ 5 + (n_ + 1) by omega), (show 8 + (5 + 11) + 105 ≤ 129 + (n_ + 1) * 29 by omega)⟩ hK hP hD hS mo0 hfo_363 12 rfl rfl rfl hl.1 rfl (Nat.le_of_ble_eq_true rfl) dX12_aligns_166 ⟨Nat.le_of_ble_eq_true rfl, Nat.le_of_ble_eq_true rfl⟩ (fun x_514 f_515 H locs hw hP hD hS => ?_)
                        obtain ⟨hG, bx_514, hkc_516⟩ := hw
                        have hfo_518 : f_515 o0 = .inr (12, [.ref a_1, .ref a_2, .ref a_3, .int v_4, .ref a_5, .int v_6, .int v_7, .int v_8, .int v_9, .int v_10, .int v_11, .int v_12, .int v_13, .int v_14, .int v_15, .ref a_16, .ref a_17, .ref a_18, .ref a_19, .ref a_20, .ref a_21, .ref a_22, .ref a_23, .int v_24, .int v_25, .int v_26, .int v_27, .int v_28, .ref a_29, .int v_30, .ref a_31, .ref a_32, .int v_33, .int v_34, .ref a_35, .int v_36, .ref a_37, .ref a_38, .int v_39, .int v_40, .ref a_41, .ref a_42, .ref a_43, .int v_44, .ref a_45, .ref a_46, .ref a_47, .ref a_48, .ref a_49, .ref a_50, .ref a_51, .ref a_52, .ref a_53, .int v_54, .int v_55, .ref a_56]) := by rw [hkc_516 o0 (by rw [ko0]; decide) (by rw [ko0]; decide) (by rw [ko0]; decide) (by rw [ko0]; decide) (by rw [ko0]; decide) (by rw [ko0]; decide)]; exact hfo_363
                        have hfo_519 : f_515 a_1 = .inl (cI, 1560, .inl g_365) := by rw [hkc_516 a_1 (by rw [ka_1]; decide) (by rw [ka_1]; decide) (by rw [ka_1]; decide) (by rw [ka_1]; decide) (by rw [ka_1]; decide) (by rw [ka_1]; decide)]; exact hfo_364
                        have hfr0 : ∀ b, kd b ≠ 579 → kd b ≠ 581 → kd b ≠ 583 → kd b ≠ 585 → kd b ≠ 587 → kd b ≠ 588 → f_515 b = f b := fun b q579 q581 q583 q585 q587 q588 => (hkc_516 b q579 q581 q583 q585 q587 q588).trans (hfr0 b q579 q581 q583 q585 q587 q588)
                        refine lv_if_eq (tgt := 223) hx hb dX12_aligns_169 (by decide) (fun c_520 => ?_) (fun c_520 => ?_)
                        · skip
                          rw [← Int32.toInt_inj, ti_0] at c_520
                          obtain ⟨x_521, ex_521⟩ : ∃ y : Int32, y_360 + 1 = y := ⟨_, rfl⟩
                          have hx_521 : x_521.toInt = y_360.toInt + 1 := by rw [← ex_521, ad_I (by rw [ti_1]; omega) (by rw [ti_1]; omega), ti_1]
                          have bx_521 : (1 ≤ x_521.toInt ∧ x_521.toInt ≤ 20) := by constructor <;> omega
                          refine lv_iinc (v := x_521) (lv' := [(6, .int x_521), (9, .int y_374), (8, .int x_373), (7, .int x_370), (0, .ref o0), (1, .int p1), (2, .int p2), (3, .int p3), (4, .int p4), (5, .int p5)]) hx hb dX12_aligns_223 hl (k := 3) rfl ex_521 (by decide) rfl (fun ls hl => ?_)
                          refine lv_goto (tgt := 32) hx hb dX12_aligns_226 (by decide) ?_
                          exact ih_hloop_359 x_521 (by constructor <;> omega) f_515 hG _ _ hP hS hD hfr0 hfo_518 (by omega) ls (lv_sub hl [0, 4, 5, 6, 7, 8, 9] rfl)
                        · skip
                          rw [← Int32.toInt_inj, ti_0] at c_520
                          refine lv_aload_n hx hb dX12_aligns_172 rfl (lv_at hl 4 rfl) ?_
                          refine lv_iload hx hb dX12_aligns_173 (lv_at hl 2 rfl) ?_
                          refine lv_if_ne (tgt := 182) hx hb dX12_aligns_175 (by decide) (fun c_522 => ?_) (fun c_522 => ?_)
                          · skip
                            rw [← Int32.toInt_inj, ti_0] at c_522
                            exfalso
                            omega
                          · skip
                            rw [← Int32.toInt_inj, ti_0] at c_522
                            refine lv_iload_n hx hb dX12_aligns_178 rfl (lv_at hl 5 rfl) ?_
                            refine lv_goto (tgt := 185) hx hb dX12_aligns_179 (by decide) ?_
                            refine lv_iload hx hb dX12_aligns_185 (lv_at hl 1 rfl) ?_
                            refine lv_if_ne (tgt := 194) hx hb dX12_aligns_187 (by decide) (fun c_523 => ?_) (fun c_523 => ?_)
                            · skip
                              rw [← Int32.toInt_inj, ti_0] at c_523
                              exfalso
                              omega
                            · skip
                              rw [← Int32.toInt_inj, ti_0] at c_523
                              refine lv_iload_n hx hb dX12_aligns_190 rfl (lv_at hl 6 rfl) ?_
                              refine lv_goto (tgt := 197) hx hb dX12_aligns_191 (by decide) ?_
                              refine lv_iload hx hb dX12_aligns_197 (lv_at hl 0 rfl) ?_
                              refine lv_if_eq (tgt := 208) hx hb dX12_aligns_199 (by decide) (fun c_524 => ?_) (fun c_524 => ?_)
                              · skip
                                rw [← Int32.toInt_inj, ti_0] at c_524
                                exfalso
                                omega
                              · skip
                                rw [← Int32.toInt_inj, ti_0] at c_524
                                refine lv_iload_n hx hb dX12_aligns_202 rfl (lv_at hl 7 rfl) ?_
                                refine lv_iconst (v := 1) hx hb dX12_aligns_203 (by decide) ?_
                                refine lv_isub hx hb dX12_aligns_204 ?_
                                refine lv_topi (fun x_525 ex_525 => ?_)
                                have hx_525 : x_525.toInt = p3.toInt - 1 := by rw [ex_525, sb_I (by rw [ti_1]; omega) (by rw [ti_1]; omega), ti_1]
                                have bx_525 : (0 ≤ x_525.toInt ∧ x_525.toInt ≤ 0) := by constructor <;> omega
                                refine lv_goto (tgt := 209) hx hb dX12_aligns_205 (by decide) ?_
                                refine lv_iload hx hb dX12_aligns_209 (lv_at hl 8 rfl) ?_
                                refine lv_iconst (v := 1) hx hb dX12_aligns_211 (by decide) ?_
                                refine lv_iadd hx hb dX12_aligns_212 ?_
                                refine lv_topi (fun x_526 ex_526 => ?_)
                                have hx_526 : x_526.toInt = p4.toInt + 1 := by rw [ex_526, ad_I (by rw [ti_1]; omega) (by rw [ti_1]; omega), ti_1]
                                have bx_526 : (1 ≤ x_526.toInt ∧ x_526.toInt ≤ 14) := by constructor <;> omega
                                have hclc_527 : (1 ≤ x_526.toInt ∧ x_526.toInt ≤ 13) := by constructor <;> omega
                                refine lv_iload hx hb dX12_aligns_213 (lv_at hl 9 rfl) ?_
                                refine tk_ViP (As := [.int p1, .int p2, .int x_525, .int x_526, .int p5]) (rest := []) (n := 5) hx hb hml hown hU hN hZ (ih_rec f_515 hG o0 mo0 ko0 p1 (by constructor <;> omega) p2 (by constructor <;> omega) x_525 (by constructor <;> omega) x_526 (by constructor <;> omega) p5 (by intro w23 w35 e23 e35; rw [hfo_518] at e23 e35; obtain rfl := Option.some.inj e23; obtain rfl := Option.some.inj e35; omega) (by omega) (by omega)) wd_1054 wd_1055 wd_1056 wd_5 wd_1057 (by decide +kernel) ⟨(show (5 + n_) + 1 ≤ 5 + (n_ + 1) by omega), (show 8 + (10 + 11) + (129 + n_ * 29) ≤ 129 + (n_ + 1) * 29 by omega)⟩ hK hP hD hS mo0 hfo_518 12 rfl rfl rfl hl.1 rfl (Nat.le_of_ble_eq_true rfl) dX12_aligns_215 ⟨Nat.le_of_ble_eq_true rfl, Nat.le_of_ble_eq_true rfl⟩ (fun x_528 f_529 H locs hw hP hD hS => ?_)
                                obtain ⟨hG, bx_528, hkc_530⟩ := hw
                                have hfo_532 : f_529 o0 = .inr (12, [.ref a_1, .ref a_2, .ref a_3, .int v_4, .ref a_5, .int v_6, .int v_7, .int v_8, .int v_9, .int v_10, .int v_11, .int v_12, .int v_13, .int v_14, .int v_15, .ref a_16, .ref a_17, .ref a_18, .ref a_19, .ref a_20, .ref a_21, .ref a_22, .ref a_23, .int v_24, .int v_25, .int v_26, .int v_27, .int v_28, .ref a_29, .int v_30, .ref a_31, .ref a_32, .int v_33, .int v_34, .ref a_35, .int v_36, .ref a_37, .ref a_38, .int v_39, .int v_40, .ref a_41, .ref a_42, .ref a_43, .int v_44, .ref a_45, .ref a_46, .ref a_47, .ref a_48, .ref a_49, .ref a_50, .ref a_51, .ref a_52, .ref a_53, .int v_54, .int v_55, .ref a_56]) := by rw [hkc_530 o0 (by rw [ko0]; decide) (by rw [ko0]; decide) (by rw [ko0]; decide) (by rw [ko0]; decide) (by rw [ko0]; decide) (by rw [ko0]; decide)]; exact hfo_518
                                have hfo_533 : f_529 a_1 = .inl (cI, 1560, .inl g_365) := by rw [hkc_530 a_1 (by rw [ka_1]; decide) (by rw [ka_1]; decide) (by rw [ka_1]; decide) (by rw [ka_1]; decide) (by rw [ka_1]; decide) (by rw [ka_1]; decide)]; exact hfo_519
                                have hfr0 : ∀ b, kd b ≠ 579 → kd b ≠ 581 → kd b ≠ 583 → kd b ≠ 585 → kd b ≠ 587 → kd b ≠ 588 → f_529 b = f b := fun b q579 q581 q583 q585 q587 q588 => (hkc_530 b q579 q581 q583 q585 q587 q588).trans (hfr0 b q579 q581 q583 q585 q587 q588)
                                refine lv_if_eq (tgt := 223) hx hb dX12_aligns_218 (by decide) (fun c_534 => ?_) (fun c_534 => ?_)
                                · skip
                                  rw [← Int32.toInt_inj, ti_0] at c_534
                                  obtain ⟨x_535, ex_535⟩ : ∃ y : Int32, y_360 + 1 = y := ⟨_, rfl⟩
                                  have hx_535 : x_535.toInt = y_360.toInt + 1 := by rw [← ex_535, ad_I (by rw [ti_1]; omega) (by rw [ti_1]; omega), ti_1]
                                  have bx_535 : (1 ≤ x_535.toInt ∧ x_535.toInt ≤ 20) := by constructor <;> omega
                                  refine lv_iinc (v := x_535) (lv' := [(6, .int x_535), (9, .int y_374), (8, .int x_373), (7, .int x_370), (0, .ref o0), (1, .int p1), (2, .int p2), (3, .int p3), (4, .int p4), (5, .int p5)]) hx hb dX12_aligns_223 hl (k := 3) rfl ex_535 (by decide) rfl (fun ls hl => ?_)
                                  refine lv_goto (tgt := 32) hx hb dX12_aligns_226 (by decide) ?_
                                  exact ih_hloop_359 x_535 (by constructor <;> omega) f_529 hG _ _ hP hS hD hfr0 hfo_532 (by omega) ls (lv_sub hl [0, 4, 5, 6, 7, 8, 9] rfl)
                                · skip
                                  rw [← Int32.toInt_inj, ti_0] at c_534
                                  refine lv_iconst (v := 1) hx hb dX12_aligns_221 (by decide) ?_
                                  exact W.zret (v := 1) (ty := .boolean) hx hb hr rfl (fun t ht hW => ⟨⟨1, f_529, rfl, ⟨hG, (by decide), hfr0⟩, by rw [ht]; exact hP, va_K.moved hW.alike hK, pl_in hD⟩, hS.F ht⟩) hS.2.2 dX12_aligns_222
                      · skip
                        rw [← Int32.toInt_inj, ti_0] at c_511
                        refine lv_iload_n hx hb dX12_aligns_129 rfl (lv_at hl 6 rfl) ?_
                        refine lv_aload_n hx hb dX12_aligns_130 rfl (lv_at hl 4 rfl) ?_
                        refine tk_getP (D := (dC, dI)) (ci := 12) (v := .int v_36) (C := RX12) (T := TX12) (N := 56) hx hb hU inlX12 hown hK hP mo0 hfo_363 rfl 35 (by decide) (hU _ wd_1049) (fun _ h9 => h9) rfl dX12_aligns_131 ?_
                        refine lv_icmp_eq (tgt := 223) hx hb dX12_aligns_134 (by decide) (fun c_536 => ?_) (fun c_536 => ?_)
                        · skip
                          rw [← Int32.toInt_inj] at c_536
                          obtain ⟨x_537, ex_537⟩ : ∃ y : Int32, y_360 + 1 = y := ⟨_, rfl⟩
                          have hx_537 : x_537.toInt = y_360.toInt + 1 := by rw [← ex_537, ad_I (by rw [ti_1]; omega) (by rw [ti_1]; omega), ti_1]
                          have bx_537 : (1 ≤ x_537.toInt ∧ x_537.toInt ≤ 20) := by constructor <;> omega
                          refine lv_iinc (v := x_537) (lv' := [(6, .int x_537), (9, .int y_374), (8, .int x_373), (7, .int x_370), (0, .ref o0), (1, .int p1), (2, .int p2), (3, .int p3), (4, .int p4), (5, .int p5)]) hx hb dX12_aligns_223 hl (k := 3) rfl ex_537 (by decide) rfl (fun ls hl => ?_)
                          refine lv_goto (tgt := 32) hx hb dX12_aligns_226 (by decide) ?_
                          exact ih_hloop_359 x_537 (by constructor <;> omega) f_362 hG _ _ hP hS hD hfr0 hfo_363 (by omega) ls (lv_sub hl [0, 4, 5, 6, 7, 8, 9] rfl)
                        · skip
                          rw [← Int32.toInt_inj] at c_536
                          have hclc_538 : (0 ≤ p2.toInt ∧ p2.toInt ≤ 7) := by constructor <;> omega
                          refine lv_aload_n hx hb dX12_aligns_137 rfl (lv_at hl 4 rfl) ?_
                          refine tk_getP (D := (dC, dI)) (ci := 12) (v := .ref a_35) (C := RX12) (T := TX12) (N := 56) hx hb hU inlX12 hown hK hP mo0 hfo_363 rfl 34 (by decide) (hU _ wd_186) (fun _ h9 => h9) rfl dX12_aligns_138 ?_
                          refine lv_iload_n hx hb dX12_aligns_141 rfl (lv_at hl 6 rfl) ?_
                          obtain ⟨g_540, hfo_539, hbg_540⟩ := un_594 (hG _ ma_35) ka_35
                          refine tk_ildP hx hb hK hP 0 ma_35 hfo_539 rfl (vp_in_iff.mpr (by constructor <;> omega)) dX12_aligns_142 ?_
                          refine lv_topi (fun x_541 ex_541 => ?_)
                          have bx_541 : (0 ≤ x_541.toInt ∧ x_541.toInt ≤ 8) := by rw [ex_541]; exact hbg_540 _
                          refine lv_iload hx hb dX12_aligns_143 (lv_at hl 1 rfl) ?_
                          refine lv_icmp_eq (tgt := 151) hx hb dX12_aligns_145 (by decide) (fun c_542 => ?_) (fun c_542 => ?_)
                          · skip
                            rw [← Int32.toInt_inj] at c_542
                            refine lv_aload_n hx hb dX12_aligns_151 rfl (lv_at hl 4 rfl) ?_
                            refine lv_iload hx hb dX12_aligns_152 (lv_at hl 8 rfl) ?_
                            refine lv_aload_n hx hb dX12_aligns_154 rfl (lv_at hl 4 rfl) ?_
                            refine tk_getP (D := (dC, dI)) (ci := 12) (v := .ref a_1) (C := RX12) (T := TX12) (N := 56) hx hb hU inlX12 hown hK hP mo0 hfo_363 rfl 0 (by decide) (hU _ wd_169) (fun _ h9 => h9) rfl dX12_aligns_155 ?_
                            refine lv_bipush (v := 20) hx hb dX12_aligns_158 (by decide) ?_
                            refine lv_iload hx hb dX12_aligns_160 (lv_at hl 3 rfl) ?_
                            refine lv_iadd hx hb dX12_aligns_162 ?_
                            refine lv_topi (fun x_543 ex_543 => ?_)
                            have hx_543 : x_543.toInt = 20 + y_360.toInt := by rw [ex_543, ad_I (by rw [ti_20]; omega) (by rw [ti_20]; omega), ti_20]
                            have bx_543 : (20 ≤ x_543.toInt ∧ x_543.toInt ≤ 39) := by constructor <;> omega
                            refine tk_ildP hx hb hK hP 0 ma_1 hfo_364 rfl (vp_in_iff.mpr (by constructor <;> omega)) dX12_aligns_163 ?_
                            refine lv_topi (fun x_544 ex_544 => ?_)
                            have bx_544 : (0 ≤ x_544.toInt ∧ x_544.toInt ≤ 80) := by have hc9 := cl_I (i := x_543) (by omega); rw [ex_544]; exact hbg_365.2.2.2.2.2.1 _ (by omega) (by omega) (by omega)
                            refine lv_iload hx hb dX12_aligns_164 (lv_at hl 9 rfl) ?_
                            refine tk_ViP (As := [.int p4, .int x_544, .int p5]) (rest := []) (n := 3) hx hb hml hown hU hN hZ (s_X12_reads_k12 l (dC, dI) cI cL cZ cR cG cH Z kd L f_362 hG o0 mo0 ko0 p4 (by constructor <;> omega) x_544 p5) wd_950 wd_951 wd_952 wd_5 wd_953 (by decide +kernel) ⟨(show 4 + 1 ≤ 5 + (n_ + 1) by omega), (show 8 + (5 + 11) + 105 ≤ 129 + (n_ + 1) * 29 by omega)⟩ hK hP hD hS mo0 hfo_363 12 rfl rfl rfl hl.1 rfl (Nat.le_of_ble_eq_true rfl) dX12_aligns_166 ⟨Nat.le_of_ble_eq_true rfl, Nat.le_of_ble_eq_true rfl⟩ (fun x_545 f_546 H locs hw hP hD hS => ?_)
                            obtain ⟨hG, bx_545, hkc_547⟩ := hw
                            have hfo_549 : f_546 o0 = .inr (12, [.ref a_1, .ref a_2, .ref a_3, .int v_4, .ref a_5, .int v_6, .int v_7, .int v_8, .int v_9, .int v_10, .int v_11, .int v_12, .int v_13, .int v_14, .int v_15, .ref a_16, .ref a_17, .ref a_18, .ref a_19, .ref a_20, .ref a_21, .ref a_22, .ref a_23, .int v_24, .int v_25, .int v_26, .int v_27, .int v_28, .ref a_29, .int v_30, .ref a_31, .ref a_32, .int v_33, .int v_34, .ref a_35, .int v_36, .ref a_37, .ref a_38, .int v_39, .int v_40, .ref a_41, .ref a_42, .ref a_43, .int v_44, .ref a_45, .ref a_46, .ref a_47, .ref a_48, .ref a_49, .ref a_50, .ref a_51, .ref a_52, .ref a_53, .int v_54, .int v_55, .ref a_56]) := by rw [hkc_547 o0 (by rw [ko0]; decide) (by rw [ko0]; decide) (by rw [ko0]; decide) (by rw [ko0]; decide) (by rw [ko0]; decide) (by rw [ko0]; decide)]; exact hfo_363
                            have hfo_550 : f_546 a_1 = .inl (cI, 1560, .inl g_365) := by rw [hkc_547 a_1 (by rw [ka_1]; decide) (by rw [ka_1]; decide) (by rw [ka_1]; decide) (by rw [ka_1]; decide) (by rw [ka_1]; decide) (by rw [ka_1]; decide)]; exact hfo_364
                            have hfo_551 : f_546 a_35 = .inl (cI, 16, .inl g_540) := by rw [hkc_547 a_35 (by rw [ka_35]; decide) (by rw [ka_35]; decide) (by rw [ka_35]; decide) (by rw [ka_35]; decide) (by rw [ka_35]; decide) (by rw [ka_35]; decide)]; exact hfo_539
                            have hfr0 : ∀ b, kd b ≠ 579 → kd b ≠ 581 → kd b ≠ 583 → kd b ≠ 585 → kd b ≠ 587 → kd b ≠ 588 → f_546 b = f b := fun b q579 q581 q583 q585 q587 q588 => (hkc_547 b q579 q581 q583 q585 q587 q588).trans (hfr0 b q579 q581 q583 q585 q587 q588)
                            refine lv_if_eq (tgt := 223) hx hb dX12_aligns_169 (by decide) (fun c_552 => ?_) (fun c_552 => ?_)
                            · skip
                              rw [← Int32.toInt_inj, ti_0] at c_552
                              obtain ⟨x_553, ex_553⟩ : ∃ y : Int32, y_360 + 1 = y := ⟨_, rfl⟩
                              have hx_553 : x_553.toInt = y_360.toInt + 1 := by rw [← ex_553, ad_I (by rw [ti_1]; omega) (by rw [ti_1]; omega), ti_1]
                              have bx_553 : (1 ≤ x_553.toInt ∧ x_553.toInt ≤ 20) := by constructor <;> omega
                              refine lv_iinc (v := x_553) (lv' := [(6, .int x_553), (9, .int y_374), (8, .int x_373), (7, .int x_370), (0, .ref o0), (1, .int p1), (2, .int p2), (3, .int p3), (4, .int p4), (5, .int p5)]) hx hb dX12_aligns_223 hl (k := 3) rfl ex_553 (by decide) rfl (fun ls hl => ?_)
                              refine lv_goto (tgt := 32) hx hb dX12_aligns_226 (by decide) ?_
                              exact ih_hloop_359 x_553 (by constructor <;> omega) f_546 hG _ _ hP hS hD hfr0 hfo_549 (by omega) ls (lv_sub hl [0, 4, 5, 6, 7, 8, 9] rfl)
                            · skip
                              rw [← Int32.toInt_inj, ti_0] at c_552
                              refine lv_aload_n hx hb dX12_aligns_172 rfl (lv_at hl 4 rfl) ?_
                              refine lv_iload hx hb dX12_aligns_173 (lv_at hl 2 rfl) ?_
                              refine lv_if_ne (tgt := 182) hx hb dX12_aligns_175 (by decide) (fun c_554 => ?_) (fun c_554 => ?_)
                              · skip
                                rw [← Int32.toInt_inj, ti_0] at c_554
                                exfalso
                                omega
                              · skip
                                rw [← Int32.toInt_inj, ti_0] at c_554
                                refine lv_iload_n hx hb dX12_aligns_178 rfl (lv_at hl 5 rfl) ?_
                                refine lv_goto (tgt := 185) hx hb dX12_aligns_179 (by decide) ?_
                                refine lv_iload hx hb dX12_aligns_185 (lv_at hl 1 rfl) ?_
                                refine lv_if_ne (tgt := 194) hx hb dX12_aligns_187 (by decide) (fun c_555 => ?_) (fun c_555 => ?_)
                                · skip
                                  rw [← Int32.toInt_inj, ti_0] at c_555
                                  refine lv_iload_n hx hb dX12_aligns_194 rfl (lv_at hl 6 rfl) ?_
                                  refine lv_iconst (v := 1) hx hb dX12_aligns_195 (by decide) ?_
                                  refine lv_iadd hx hb dX12_aligns_196 ?_
                                  refine lv_topi (fun x_556 ex_556 => ?_)
                                  have hx_556 : x_556.toInt = p2.toInt + 1 := by rw [ex_556, ad_I (by rw [ti_1]; omega) (by rw [ti_1]; omega), ti_1]
                                  have bx_556 : (1 ≤ x_556.toInt ∧ x_556.toInt ≤ 8) := by constructor <;> omega
                                  refine lv_iload hx hb dX12_aligns_197 (lv_at hl 0 rfl) ?_
                                  refine lv_if_eq (tgt := 208) hx hb dX12_aligns_199 (by decide) (fun c_557 => ?_) (fun c_557 => ?_)
                                  · skip
                                    rw [← Int32.toInt_inj, ti_0] at c_557
                                    exfalso
                                    omega
                                  · skip
                                    rw [← Int32.toInt_inj, ti_0] at c_557
                                    refine lv_iload_n hx hb dX12_aligns_202 rfl (lv_at hl 7 rfl) ?_
                                    refine lv_iconst (v := 1) hx hb dX12_aligns_203 (by decide) ?_
                                    refine lv_isub hx hb dX12_aligns_204 ?_
                                    refine lv_topi (fun x_558 ex_558 => ?_)
                                    have hx_558 : x_558.toInt = p3.toInt - 1 := by rw [ex_558, sb_I (by rw [ti_1]; omega) (by rw [ti_1]; omega), ti_1]
                                    have bx_558 : (0 ≤ x_558.toInt ∧ x_558.toInt ≤ 0) := by constructor <;> omega
                                    refine lv_goto (tgt := 209) hx hb dX12_aligns_205 (by decide) ?_
                                    refine lv_iload hx hb dX12_aligns_209 (lv_at hl 8 rfl) ?_
                                    refine lv_iconst (v := 1) hx hb dX12_aligns_211 (by decide) ?_
                                    refine lv_iadd hx hb dX12_aligns_212 ?_
                                    refine lv_topi (fun x_559 ex_559 => ?_)
                                    have hx_559 : x_559.toInt = p4.toInt + 1 := by rw [ex_559, ad_I (by rw [ti_1]; omega) (by rw [ti_1]; omega), ti_1]
                                    have bx_559 : (1 ≤ x_559.toInt ∧ x_559.toInt ≤ 14) := by constructor <;> omega
                                    have hclc_560 : (1 ≤ x_559.toInt ∧ x_559.toInt ≤ 13) := by constructor <;> omega
                                    refine lv_iload hx hb dX12_aligns_213 (lv_at hl 9 rfl) ?_
                                    refine tk_ViP (As := [.int p1, .int x_556, .int x_558, .int x_559, .int p5]) (rest := []) (n := 5) hx hb hml hown hU hN hZ (ih_rec f_546 hG o0 mo0 ko0 p1 (by constructor <;> omega) x_556 (by constructor <;> omega) x_558 (by constructor <;> omega) x_559 (by constructor <;> omega) p5 (by intro w23 w35 e23 e35; rw [hfo_549] at e23 e35; obtain rfl := Option.some.inj e23; obtain rfl := Option.some.inj e35; omega) (by omega) (by omega)) wd_1054 wd_1055 wd_1056 wd_5 wd_1057 (by decide +kernel) ⟨(show (5 + n_) + 1 ≤ 5 + (n_ + 1) by omega), (show 8 + (10 + 11) + (129 + n_ * 29) ≤ 129 + (n_ + 1) * 29 by omega)⟩ hK hP hD hS mo0 hfo_549 12 rfl rfl rfl hl.1 rfl (Nat.le_of_ble_eq_true rfl) dX12_aligns_215 ⟨Nat.le_of_ble_eq_true rfl, Nat.le_of_ble_eq_true rfl⟩ (fun x_561 f_562 H locs hw hP hD hS => ?_)
                                    obtain ⟨hG, bx_561, hkc_563⟩ := hw
                                    have hfo_565 : f_562 o0 = .inr (12, [.ref a_1, .ref a_2, .ref a_3, .int v_4, .ref a_5, .int v_6, .int v_7, .int v_8, .int v_9, .int v_10, .int v_11, .int v_12, .int v_13, .int v_14, .int v_15, .ref a_16, .ref a_17, .ref a_18, .ref a_19, .ref a_20, .ref a_21, .ref a_22, .ref a_23, .int v_24, .int v_25, .int v_26, .int v_27, .int v_28, .ref a_29, .int v_30, .ref a_31, .ref a_32, .int v_33, .int v_34, .ref a_35, .int v_36, .ref a_37, .ref a_38, .int v_39, .int v_40, .ref a_41, .ref a_42, .ref a_43, .int v_44, .ref a_45, .ref a_46, .ref a_47, .ref a_48, .ref a_49, .ref a_50, .ref a_51, .ref a_52, .ref a_53, .int v_54, .int v_55, .ref a_56]) := by rw [hkc_563 o0 (by rw [ko0]; decide) (by rw [ko0]; decide) (by rw [ko0]; decide) (by rw [ko0]; decide) (by rw [ko0]; decide) (by rw [ko0]; decide)]; exact hfo_549
                                    have hfo_566 : f_562 a_1 = .inl (cI, 1560, .inl g_365) := by rw [hkc_563 a_1 (by rw [ka_1]; decide) (by rw [ka_1]; decide) (by rw [ka_1]; decide) (by rw [ka_1]; decide) (by rw [ka_1]; decide) (by rw [ka_1]; decide)]; exact hfo_550
                                    have hfo_567 : f_562 a_35 = .inl (cI, 16, .inl g_540) := by rw [hkc_563 a_35 (by rw [ka_35]; decide) (by rw [ka_35]; decide) (by rw [ka_35]; decide) (by rw [ka_35]; decide) (by rw [ka_35]; decide) (by rw [ka_35]; decide)]; exact hfo_551
                                    have hfr0 : ∀ b, kd b ≠ 579 → kd b ≠ 581 → kd b ≠ 583 → kd b ≠ 585 → kd b ≠ 587 → kd b ≠ 588 → f_562 b = f b := fun b q579 q581 q583 q585 q587 q588 => (hkc_563 b q579 q581 q583 q585 q587 q588).trans (hfr0 b q579 q581 q583 q585 q587 q588)
                                    refine lv_if_eq (tgt := 223) hx hb dX12_aligns_218 (by decide) (fun c_568 => ?_) (fun c_568 => ?_)
                                    · skip
                                      rw [← Int32.toInt_inj, ti_0] at c_568
                                      obtain ⟨x_569, ex_569⟩ : ∃ y : Int32, y_360 + 1 = y := ⟨_, rfl⟩
                                      have hx_569 : x_569.toInt = y_360.toInt + 1 := by rw [← ex_569, ad_I (by rw [ti_1]; omega) (by rw [ti_1]; omega), ti_1]
                                      have bx_569 : (1 ≤ x_569.toInt ∧ x_569.toInt ≤ 20) := by constructor <;> omega
                                      refine lv_iinc (v := x_569) (lv' := [(6, .int x_569), (9, .int y_374), (8, .int x_373), (7, .int x_370), (0, .ref o0), (1, .int p1), (2, .int p2), (3, .int p3), (4, .int p4), (5, .int p5)]) hx hb dX12_aligns_223 hl (k := 3) rfl ex_569 (by decide) rfl (fun ls hl => ?_)
                                      refine lv_goto (tgt := 32) hx hb dX12_aligns_226 (by decide) ?_
                                      exact ih_hloop_359 x_569 (by constructor <;> omega) f_562 hG _ _ hP hS hD hfr0 hfo_565 (by omega) ls (lv_sub hl [0, 4, 5, 6, 7, 8, 9] rfl)
                                    · skip
                                      rw [← Int32.toInt_inj, ti_0] at c_568
                                      refine lv_iconst (v := 1) hx hb dX12_aligns_221 (by decide) ?_
                                      exact W.zret (v := 1) (ty := .boolean) hx hb hr rfl (fun t ht hW => ⟨⟨1, f_562, rfl, ⟨hG, (by decide), hfr0⟩, by rw [ht]; exact hP, va_K.moved hW.alike hK, pl_in hD⟩, hS.F ht⟩) hS.2.2 dX12_aligns_222
                                · skip
                                  rw [← Int32.toInt_inj, ti_0] at c_555
                                  exfalso
                                  omega
                          · skip
                            rw [← Int32.toInt_inj] at c_542
                            refine lv_goto (tgt := 223) hx hb dX12_aligns_148 (by decide) ?_
                            obtain ⟨x_570, ex_570⟩ : ∃ y : Int32, y_360 + 1 = y := ⟨_, rfl⟩
                            have hx_570 : x_570.toInt = y_360.toInt + 1 := by rw [← ex_570, ad_I (by rw [ti_1]; omega) (by rw [ti_1]; omega), ti_1]
                            have bx_570 : (1 ≤ x_570.toInt ∧ x_570.toInt ≤ 20) := by constructor <;> omega
                            refine lv_iinc (v := x_570) (lv' := [(6, .int x_570), (9, .int y_374), (8, .int x_373), (7, .int x_370), (0, .ref o0), (1, .int p1), (2, .int p2), (3, .int p3), (4, .int p4), (5, .int p5)]) hx hb dX12_aligns_223 hl (k := 3) rfl ex_570 (by decide) rfl (fun ls hl => ?_)
                            refine lv_goto (tgt := 32) hx hb dX12_aligns_226 (by decide) ?_
                            exact ih_hloop_359 x_570 (by constructor <;> omega) f_362 hG _ _ hP hS hD hfr0 hfo_363 (by omega) ls (lv_sub hl [0, 4, 5, 6, 7, 8, 9] rfl)
                    · skip
                      rw [← Int32.toInt_inj, ti_0] at c_510
                      refine lv_iload_n hx hb dX12_aligns_105 rfl (lv_at hl 5 rfl) ?_
                      refine lv_aload_n hx hb dX12_aligns_106 rfl (lv_at hl 4 rfl) ?_
                      refine tk_getP (D := (dC, dI)) (ci := 12) (v := .int v_24) (C := RX12) (T := TX12) (N := 56) hx hb hU inlX12 hown hK hP mo0 hfo_363 rfl 23 (by decide) (hU _ wd_867) (fun _ h9 => h9) rfl dX12_aligns_107 ?_
                      refine lv_icmp_eq (tgt := 223) hx hb dX12_aligns_110 (by decide) (fun c_571 => ?_) (fun c_571 => ?_)
                      · skip
                        rw [← Int32.toInt_inj] at c_571
                        obtain ⟨x_572, ex_572⟩ : ∃ y : Int32, y_360 + 1 = y := ⟨_, rfl⟩
                        have hx_572 : x_572.toInt = y_360.toInt + 1 := by rw [← ex_572, ad_I (by rw [ti_1]; omega) (by rw [ti_1]; omega), ti_1]
                        have bx_572 : (1 ≤ x_572.toInt ∧ x_572.toInt ≤ 20) := by constructor <;> omega
                        refine lv_iinc (v := x_572) (lv' := [(6, .int x_572), (9, .int y_374), (8, .int x_373), (7, .int x_370), (0, .ref o0), (1, .int p1), (2, .int p2), (3, .int p3), (4, .int p4), (5, .int p5)]) hx hb dX12_aligns_223 hl (k := 3) rfl ex_572 (by decide) rfl (fun ls hl => ?_)
                        refine lv_goto (tgt := 32) hx hb dX12_aligns_226 (by decide) ?_
                        exact ih_hloop_359 x_572 (by constructor <;> omega) f_362 hG _ _ hP hS hD hfr0 hfo_363 (by omega) ls (lv_sub hl [0, 4, 5, 6, 7, 8, 9] rfl)
                      · skip
                        rw [← Int32.toInt_inj] at c_571
                        have hclc_573 : (0 ≤ p1.toInt ∧ p1.toInt ≤ 11) := by constructor <;> omega
                        refine lv_aload_n hx hb dX12_aligns_113 rfl (lv_at hl 4 rfl) ?_
                        refine tk_getP (D := (dC, dI)) (ci := 12) (v := .ref a_22) (C := RX12) (T := TX12) (N := 56) hx hb hU inlX12 hown hK hP mo0 hfo_363 rfl 21 (by decide) (hU _ wd_181) (fun _ h9 => h9) rfl dX12_aligns_114 ?_
                        refine lv_iload_n hx hb dX12_aligns_117 rfl (lv_at hl 5 rfl) ?_
                        obtain ⟨g_575, hfo_574, hbg_575⟩ := un_589 (hG _ ma_22) ka_22
                        refine tk_ildP hx hb hK hP 0 ma_22 hfo_574 rfl (vp_in_iff.mpr (by constructor <;> omega)) dX12_aligns_118 ?_
                        refine lv_topi (fun x_576 ex_576 => ?_)
                        have bx_576 : (0 ≤ x_576.toInt ∧ x_576.toInt ≤ 8) := by rw [ex_576]; exact hbg_575 _
                        refine lv_iload hx hb dX12_aligns_119 (lv_at hl 2 rfl) ?_
                        refine lv_icmp_ne (tgt := 223) hx hb dX12_aligns_121 (by decide) (fun c_577 => ?_) (fun c_577 => ?_)
                        · skip
                          rw [← Int32.toInt_inj] at c_577
                          obtain ⟨x_578, ex_578⟩ : ∃ y : Int32, y_360 + 1 = y := ⟨_, rfl⟩
                          have hx_578 : x_578.toInt = y_360.toInt + 1 := by rw [← ex_578, ad_I (by rw [ti_1]; omega) (by rw [ti_1]; omega), ti_1]
                          have bx_578 : (1 ≤ x_578.toInt ∧ x_578.toInt ≤ 20) := by constructor <;> omega
                          refine lv_iinc (v := x_578) (lv' := [(6, .int x_578), (9, .int y_374), (8, .int x_373), (7, .int x_370), (0, .ref o0), (1, .int p1), (2, .int p2), (3, .int p3), (4, .int p4), (5, .int p5)]) hx hb dX12_aligns_223 hl (k := 3) rfl ex_578 (by decide) rfl (fun ls hl => ?_)
                          refine lv_goto (tgt := 32) hx hb dX12_aligns_226 (by decide) ?_
                          exact ih_hloop_359 x_578 (by constructor <;> omega) f_362 hG _ _ hP hS hD hfr0 hfo_363 (by omega) ls (lv_sub hl [0, 4, 5, 6, 7, 8, 9] rfl)
                        · skip
                          rw [← Int32.toInt_inj] at c_577
                          refine lv_iload hx hb dX12_aligns_124 (lv_at hl 1 rfl) ?_
                          refine lv_if_eq (tgt := 151) hx hb dX12_aligns_126 (by decide) (fun c_579 => ?_) (fun c_579 => ?_)
                          · skip
                            rw [← Int32.toInt_inj, ti_0] at c_579
                            refine lv_aload_n hx hb dX12_aligns_151 rfl (lv_at hl 4 rfl) ?_
                            refine lv_iload hx hb dX12_aligns_152 (lv_at hl 8 rfl) ?_
                            refine lv_aload_n hx hb dX12_aligns_154 rfl (lv_at hl 4 rfl) ?_
                            refine tk_getP (D := (dC, dI)) (ci := 12) (v := .ref a_1) (C := RX12) (T := TX12) (N := 56) hx hb hU inlX12 hown hK hP mo0 hfo_363 rfl 0 (by decide) (hU _ wd_169) (fun _ h9 => h9) rfl dX12_aligns_155 ?_
                            refine lv_bipush (v := 20) hx hb dX12_aligns_158 (by decide) ?_
                            refine lv_iload hx hb dX12_aligns_160 (lv_at hl 3 rfl) ?_
                            refine lv_iadd hx hb dX12_aligns_162 ?_
                            refine lv_topi (fun x_580 ex_580 => ?_)
                            have hx_580 : x_580.toInt = 20 + y_360.toInt := by rw [ex_580, ad_I (by rw [ti_20]; omega) (by rw [ti_20]; omega), ti_20]
                            have bx_580 : (20 ≤ x_580.toInt ∧ x_580.toInt ≤ 39) := by constructor <;> omega
                            refine tk_ildP hx hb hK hP 0 ma_1 hfo_364 rfl (vp_in_iff.mpr (by constructor <;> omega)) dX12_aligns_163 ?_
                            refine lv_topi (fun x_581 ex_581 => ?_)
                            have bx_581 : (0 ≤ x_581.toInt ∧ x_581.toInt ≤ 80) := by have hc9 := cl_I (i := x_580) (by omega); rw [ex_581]; exact hbg_365.2.2.2.2.2.1 _ (by omega) (by omega) (by omega)
                            refine lv_iload hx hb dX12_aligns_164 (lv_at hl 9 rfl) ?_
                            refine tk_ViP (As := [.int p4, .int x_581, .int p5]) (rest := []) (n := 3) hx hb hml hown hU hN hZ (s_X12_reads_k12 l (dC, dI) cI cL cZ cR cG cH Z kd L f_362 hG o0 mo0 ko0 p4 (by constructor <;> omega) x_581 p5) wd_950 wd_951 wd_952 wd_5 wd_953 (by decide +kernel) ⟨(show 4 + 1 ≤ 5 + (n_ + 1) by omega), (show 8 + (5 + 11) + 105 ≤ 129 + (n_ + 1) * 29 by omega)⟩ hK hP hD hS mo0 hfo_363 12 rfl rfl rfl hl.1 rfl (Nat.le_of_ble_eq_true rfl) dX12_aligns_166 ⟨Nat.le_of_ble_eq_true rfl, Nat.le_of_ble_eq_true rfl⟩ (fun x_582 f_583 H locs hw hP hD hS => ?_)
                            obtain ⟨hG, bx_582, hkc_584⟩ := hw
                            have hfo_586 : f_583 o0 = .inr (12, [.ref a_1, .ref a_2, .ref a_3, .int v_4, .ref a_5, .int v_6, .int v_7, .int v_8, .int v_9, .int v_10, .int v_11, .int v_12, .int v_13, .int v_14, .int v_15, .ref a_16, .ref a_17, .ref a_18, .ref a_19, .ref a_20, .ref a_21, .ref a_22, .ref a_23, .int v_24, .int v_25, .int v_26, .int v_27, .int v_28, .ref a_29, .int v_30, .ref a_31, .ref a_32, .int v_33, .int v_34, .ref a_35, .int v_36, .ref a_37, .ref a_38, .int v_39, .int v_40, .ref a_41, .ref a_42, .ref a_43, .int v_44, .ref a_45, .ref a_46, .ref a_47, .ref a_48, .ref a_49, .ref a_50, .ref a_51, .ref a_52, .ref a_53, .int v_54, .int v_55, .ref a_56]) := by rw [hkc_584 o0 (by rw [ko0]; decide) (by rw [ko0]; decide) (by rw [ko0]; decide) (by rw [ko0]; decide) (by rw [ko0]; decide) (by rw [ko0]; decide)]; exact hfo_363
                            have hfo_587 : f_583 a_1 = .inl (cI, 1560, .inl g_365) := by rw [hkc_584 a_1 (by rw [ka_1]; decide) (by rw [ka_1]; decide) (by rw [ka_1]; decide) (by rw [ka_1]; decide) (by rw [ka_1]; decide) (by rw [ka_1]; decide)]; exact hfo_364
                            have hfo_588 : f_583 a_22 = .inl (cI, 16, .inl g_575) := by rw [hkc_584 a_22 (by rw [ka_22]; decide) (by rw [ka_22]; decide) (by rw [ka_22]; decide) (by rw [ka_22]; decide) (by rw [ka_22]; decide) (by rw [ka_22]; decide)]; exact hfo_574
                            have hfr0 : ∀ b, kd b ≠ 579 → kd b ≠ 581 → kd b ≠ 583 → kd b ≠ 585 → kd b ≠ 587 → kd b ≠ 588 → f_583 b = f b := fun b q579 q581 q583 q585 q587 q588 => (hkc_584 b q579 q581 q583 q585 q587 q588).trans (hfr0 b q579 q581 q583 q585 q587 q588)
                            refine lv_if_eq (tgt := 223) hx hb dX12_aligns_169 (by decide) (fun c_589 => ?_) (fun c_589 => ?_)
                            · skip
                              rw [← Int32.toInt_inj, ti_0] at c_589
                              obtain ⟨x_590, ex_590⟩ : ∃ y : Int32, y_360 + 1 = y := ⟨_, rfl⟩
                              have hx_590 : x_590.toInt = y_360.toInt + 1 := by rw [← ex_590, ad_I (by rw [ti_1]; omega) (by rw [ti_1]; omega), ti_1]
                              have bx_590 : (1 ≤ x_590.toInt ∧ x_590.toInt ≤ 20) := by constructor <;> omega
                              refine lv_iinc (v := x_590) (lv' := [(6, .int x_590), (9, .int y_374), (8, .int x_373), (7, .int x_370), (0, .ref o0), (1, .int p1), (2, .int p2), (3, .int p3), (4, .int p4), (5, .int p5)]) hx hb dX12_aligns_223 hl (k := 3) rfl ex_590 (by decide) rfl (fun ls hl => ?_)
                              refine lv_goto (tgt := 32) hx hb dX12_aligns_226 (by decide) ?_
                              exact ih_hloop_359 x_590 (by constructor <;> omega) f_583 hG _ _ hP hS hD hfr0 hfo_586 (by omega) ls (lv_sub hl [0, 4, 5, 6, 7, 8, 9] rfl)
                            · skip
                              rw [← Int32.toInt_inj, ti_0] at c_589
                              refine lv_aload_n hx hb dX12_aligns_172 rfl (lv_at hl 4 rfl) ?_
                              refine lv_iload hx hb dX12_aligns_173 (lv_at hl 2 rfl) ?_
                              refine lv_if_ne (tgt := 182) hx hb dX12_aligns_175 (by decide) (fun c_591 => ?_) (fun c_591 => ?_)
                              · skip
                                rw [← Int32.toInt_inj, ti_0] at c_591
                                refine lv_iload_n hx hb dX12_aligns_182 rfl (lv_at hl 5 rfl) ?_
                                refine lv_iconst (v := 1) hx hb dX12_aligns_183 (by decide) ?_
                                refine lv_iadd hx hb dX12_aligns_184 ?_
                                refine lv_topi (fun x_592 ex_592 => ?_)
                                have hx_592 : x_592.toInt = p1.toInt + 1 := by rw [ex_592, ad_I (by rw [ti_1]; omega) (by rw [ti_1]; omega), ti_1]
                                have bx_592 : (1 ≤ x_592.toInt ∧ x_592.toInt ≤ 12) := by constructor <;> omega
                                refine lv_iload hx hb dX12_aligns_185 (lv_at hl 1 rfl) ?_
                                refine lv_if_ne (tgt := 194) hx hb dX12_aligns_187 (by decide) (fun c_593 => ?_) (fun c_593 => ?_)
                                · skip
                                  rw [← Int32.toInt_inj, ti_0] at c_593
                                  exfalso
                                  omega
                                · skip
                                  rw [← Int32.toInt_inj, ti_0] at c_593
                                  refine lv_iload_n hx hb dX12_aligns_190 rfl (lv_at hl 6 rfl) ?_
                                  refine lv_goto (tgt := 197) hx hb dX12_aligns_191 (by decide) ?_
                                  refine lv_iload hx hb dX12_aligns_197 (lv_at hl 0 rfl) ?_
                                  refine lv_if_eq (tgt := 208) hx hb dX12_aligns_199 (by decide) (fun c_594 => ?_) (fun c_594 => ?_)
                                  · skip
                                    rw [← Int32.toInt_inj, ti_0] at c_594
                                    exfalso
                                    omega
                                  · skip
                                    rw [← Int32.toInt_inj, ti_0] at c_594
                                    refine lv_iload_n hx hb dX12_aligns_202 rfl (lv_at hl 7 rfl) ?_
                                    refine lv_iconst (v := 1) hx hb dX12_aligns_203 (by decide) ?_
                                    refine lv_isub hx hb dX12_aligns_204 ?_
                                    refine lv_topi (fun x_595 ex_595 => ?_)
                                    have hx_595 : x_595.toInt = p3.toInt - 1 := by rw [ex_595, sb_I (by rw [ti_1]; omega) (by rw [ti_1]; omega), ti_1]
                                    have bx_595 : (0 ≤ x_595.toInt ∧ x_595.toInt ≤ 0) := by constructor <;> omega
                                    refine lv_goto (tgt := 209) hx hb dX12_aligns_205 (by decide) ?_
                                    refine lv_iload hx hb dX12_aligns_209 (lv_at hl 8 rfl) ?_
                                    refine lv_iconst (v := 1) hx hb dX12_aligns_211 (by decide) ?_
                                    refine lv_iadd hx hb dX12_aligns_212 ?_
                                    refine lv_topi (fun x_596 ex_596 => ?_)
                                    have hx_596 : x_596.toInt = p4.toInt + 1 := by rw [ex_596, ad_I (by rw [ti_1]; omega) (by rw [ti_1]; omega), ti_1]
                                    have bx_596 : (1 ≤ x_596.toInt ∧ x_596.toInt ≤ 14) := by constructor <;> omega
                                    have hclc_597 : (1 ≤ x_596.toInt ∧ x_596.toInt ≤ 13) := by constructor <;> omega
                                    refine lv_iload hx hb dX12_aligns_213 (lv_at hl 9 rfl) ?_
                                    refine tk_ViP (As := [.int x_592, .int p2, .int x_595, .int x_596, .int p5]) (rest := []) (n := 5) hx hb hml hown hU hN hZ (ih_rec f_583 hG o0 mo0 ko0 x_592 (by constructor <;> omega) p2 (by constructor <;> omega) x_595 (by constructor <;> omega) x_596 (by constructor <;> omega) p5 (by intro w23 w35 e23 e35; rw [hfo_586] at e23 e35; obtain rfl := Option.some.inj e23; obtain rfl := Option.some.inj e35; omega) (by omega) (by omega)) wd_1054 wd_1055 wd_1056 wd_5 wd_1057 (by decide +kernel) ⟨(show (5 + n_) + 1 ≤ 5 + (n_ + 1) by omega), (show 8 + (10 + 11) + (129 + n_ * 29) ≤ 129 + (n_ + 1) * 29 by omega)⟩ hK hP hD hS mo0 hfo_586 12 rfl rfl rfl hl.1 rfl (Nat.le_of_ble_eq_true rfl) dX12_aligns_215 ⟨Nat.le_of_ble_eq_true rfl, Nat.le_of_ble_eq_true rfl⟩ (fun x_598 f_599 H locs hw hP hD hS => ?_)
                                    obtain ⟨hG, bx_598, hkc_600⟩ := hw
                                    have hfo_602 : f_599 o0 = .inr (12, [.ref a_1, .ref a_2, .ref a_3, .int v_4, .ref a_5, .int v_6, .int v_7, .int v_8, .int v_9, .int v_10, .int v_11, .int v_12, .int v_13, .int v_14, .int v_15, .ref a_16, .ref a_17, .ref a_18, .ref a_19, .ref a_20, .ref a_21, .ref a_22, .ref a_23, .int v_24, .int v_25, .int v_26, .int v_27, .int v_28, .ref a_29, .int v_30, .ref a_31, .ref a_32, .int v_33, .int v_34, .ref a_35, .int v_36, .ref a_37, .ref a_38, .int v_39, .int v_40, .ref a_41, .ref a_42, .ref a_43, .int v_44, .ref a_45, .ref a_46, .ref a_47, .ref a_48, .ref a_49, .ref a_50, .ref a_51, .ref a_52, .ref a_53, .int v_54, .int v_55, .ref a_56]) := by rw [hkc_600 o0 (by rw [ko0]; decide) (by rw [ko0]; decide) (by rw [ko0]; decide) (by rw [ko0]; decide) (by rw [ko0]; decide) (by rw [ko0]; decide)]; exact hfo_586
                                    have hfo_603 : f_599 a_1 = .inl (cI, 1560, .inl g_365) := by rw [hkc_600 a_1 (by rw [ka_1]; decide) (by rw [ka_1]; decide) (by rw [ka_1]; decide) (by rw [ka_1]; decide) (by rw [ka_1]; decide) (by rw [ka_1]; decide)]; exact hfo_587
                                    have hfo_604 : f_599 a_22 = .inl (cI, 16, .inl g_575) := by rw [hkc_600 a_22 (by rw [ka_22]; decide) (by rw [ka_22]; decide) (by rw [ka_22]; decide) (by rw [ka_22]; decide) (by rw [ka_22]; decide) (by rw [ka_22]; decide)]; exact hfo_588
                                    have hfr0 : ∀ b, kd b ≠ 579 → kd b ≠ 581 → kd b ≠ 583 → kd b ≠ 585 → kd b ≠ 587 → kd b ≠ 588 → f_599 b = f b := fun b q579 q581 q583 q585 q587 q588 => (hkc_600 b q579 q581 q583 q585 q587 q588).trans (hfr0 b q579 q581 q583 q585 q587 q588)
                                    refine lv_if_eq (tgt := 223) hx hb dX12_aligns_218 (by decide) (fun c_605 => ?_) (fun c_605 => ?_)
                                    · skip
                                      rw [← Int32.toInt_inj, ti_0] at c_605
                                      obtain ⟨x_606, ex_606⟩ : ∃ y : Int32, y_360 + 1 = y := ⟨_, rfl⟩
                                      have hx_606 : x_606.toInt = y_360.toInt + 1 := by rw [← ex_606, ad_I (by rw [ti_1]; omega) (by rw [ti_1]; omega), ti_1]
                                      have bx_606 : (1 ≤ x_606.toInt ∧ x_606.toInt ≤ 20) := by constructor <;> omega
                                      refine lv_iinc (v := x_606) (lv' := [(6, .int x_606), (9, .int y_374), (8, .int x_373), (7, .int x_370), (0, .ref o0), (1, .int p1), (2, .int p2), (3, .int p3), (4, .int p4), (5, .int p5)]) hx hb dX12_aligns_223 hl (k := 3) rfl ex_606 (by decide) rfl (fun ls hl => ?_)
                                      refine lv_goto (tgt := 32) hx hb dX12_aligns_226 (by decide) ?_
                                      exact ih_hloop_359 x_606 (by constructor <;> omega) f_599 hG _ _ hP hS hD hfr0 hfo_602 (by omega) ls (lv_sub hl [0, 4, 5, 6, 7, 8, 9] rfl)
                                    · skip
                                      rw [← Int32.toInt_inj, ti_0] at c_605
                                      refine lv_iconst (v := 1) hx hb dX12_aligns_221 (by decide) ?_
                                      exact W.zret (v := 1) (ty := .boolean) hx hb hr rfl (fun t ht hW => ⟨⟨1, f_599, rfl, ⟨hG, (by decide), hfr0⟩, by rw [ht]; exact hP, va_K.moved hW.alike hK, pl_in hD⟩, hS.F ht⟩) hS.2.2 dX12_aligns_222
                              · skip
                                rw [← Int32.toInt_inj, ti_0] at c_591
                                exfalso
                                omega
                          · skip
                            rw [← Int32.toInt_inj, ti_0] at c_579
                            refine lv_iload_n hx hb dX12_aligns_129 rfl (lv_at hl 6 rfl) ?_
                            refine lv_aload_n hx hb dX12_aligns_130 rfl (lv_at hl 4 rfl) ?_
                            refine tk_getP (D := (dC, dI)) (ci := 12) (v := .int v_36) (C := RX12) (T := TX12) (N := 56) hx hb hU inlX12 hown hK hP mo0 hfo_363 rfl 35 (by decide) (hU _ wd_1049) (fun _ h9 => h9) rfl dX12_aligns_131 ?_
                            refine lv_icmp_eq (tgt := 223) hx hb dX12_aligns_134 (by decide) (fun c_607 => ?_) (fun c_607 => ?_)
                            · skip
                              rw [← Int32.toInt_inj] at c_607
                              obtain ⟨x_608, ex_608⟩ : ∃ y : Int32, y_360 + 1 = y := ⟨_, rfl⟩
                              have hx_608 : x_608.toInt = y_360.toInt + 1 := by rw [← ex_608, ad_I (by rw [ti_1]; omega) (by rw [ti_1]; omega), ti_1]
                              have bx_608 : (1 ≤ x_608.toInt ∧ x_608.toInt ≤ 20) := by constructor <;> omega
                              refine lv_iinc (v := x_608) (lv' := [(6, .int x_608), (9, .int y_374), (8, .int x_373), (7, .int x_370), (0, .ref o0), (1, .int p1), (2, .int p2), (3, .int p3), (4, .int p4), (5, .int p5)]) hx hb dX12_aligns_223 hl (k := 3) rfl ex_608 (by decide) rfl (fun ls hl => ?_)
                              refine lv_goto (tgt := 32) hx hb dX12_aligns_226 (by decide) ?_
                              exact ih_hloop_359 x_608 (by constructor <;> omega) f_362 hG _ _ hP hS hD hfr0 hfo_363 (by omega) ls (lv_sub hl [0, 4, 5, 6, 7, 8, 9] rfl)
                            · skip
                              rw [← Int32.toInt_inj] at c_607
                              have hclc_609 : (0 ≤ p2.toInt ∧ p2.toInt ≤ 7) := by constructor <;> omega
                              refine lv_aload_n hx hb dX12_aligns_137 rfl (lv_at hl 4 rfl) ?_
                              refine tk_getP (D := (dC, dI)) (ci := 12) (v := .ref a_35) (C := RX12) (T := TX12) (N := 56) hx hb hU inlX12 hown hK hP mo0 hfo_363 rfl 34 (by decide) (hU _ wd_186) (fun _ h9 => h9) rfl dX12_aligns_138 ?_
                              refine lv_iload_n hx hb dX12_aligns_141 rfl (lv_at hl 6 rfl) ?_
                              obtain ⟨g_611, hfo_610, hbg_611⟩ := un_594 (hG _ ma_35) ka_35
                              refine tk_ildP hx hb hK hP 0 ma_35 hfo_610 rfl (vp_in_iff.mpr (by constructor <;> omega)) dX12_aligns_142 ?_
                              refine lv_topi (fun x_612 ex_612 => ?_)
                              have bx_612 : (0 ≤ x_612.toInt ∧ x_612.toInt ≤ 8) := by rw [ex_612]; exact hbg_611 _
                              refine lv_iload hx hb dX12_aligns_143 (lv_at hl 1 rfl) ?_
                              refine lv_icmp_eq (tgt := 151) hx hb dX12_aligns_145 (by decide) (fun c_613 => ?_) (fun c_613 => ?_)
                              · skip
                                rw [← Int32.toInt_inj] at c_613
                                refine lv_aload_n hx hb dX12_aligns_151 rfl (lv_at hl 4 rfl) ?_
                                refine lv_iload hx hb dX12_aligns_152 (lv_at hl 8 rfl) ?_
                                refine lv_aload_n hx hb dX12_aligns_154 rfl (lv_at hl 4 rfl) ?_
                                refine tk_getP (D := (dC, dI)) (ci := 12) (v := .ref a_1) (C := RX12) (T := TX12) (N := 56) hx hb hU inlX12 hown hK hP mo0 hfo_363 rfl 0 (by decide) (hU _ wd_169) (fun _ h9 => h9) rfl dX12_aligns_155 ?_
                                refine lv_bipush (v := 20) hx hb dX12_aligns_158 (by decide) ?_
                                refine lv_iload hx hb dX12_aligns_160 (lv_at hl 3 rfl) ?_
                                refine lv_iadd hx hb dX12_aligns_162 ?_
                                refine lv_topi (fun x_614 ex_614 => ?_)
                                have hx_614 : x_614.toInt = 20 + y_360.toInt := by rw [ex_614, ad_I (by rw [ti_20]; omega) (by rw [ti_20]; omega), ti_20]
                                have bx_614 : (20 ≤ x_614.toInt ∧ x_614.toInt ≤ 39) := by constructor <;> omega
                                refine tk_ildP hx hb hK hP 0 ma_1 hfo_364 rfl (vp_in_iff.mpr (by constructor <;> omega)) dX12_aligns_163 ?_
                                refine lv_topi (fun x_615 ex_615 => ?_)
                                have bx_615 : (0 ≤ x_615.toInt ∧ x_615.toInt ≤ 80) := by have hc9 := cl_I (i := x_614) (by omega); rw [ex_615]; exact hbg_365.2.2.2.2.2.1 _ (by omega) (by omega) (by omega)
                                refine lv_iload hx hb dX12_aligns_164 (lv_at hl 9 rfl) ?_
                                refine tk_ViP (As := [.int p4, .int x_615, .int p5]) (rest := []) (n := 3) hx hb hml hown hU hN hZ (s_X12_reads_k12 l (dC, dI) cI cL cZ cR cG cH Z kd L f_362 hG o0 mo0 ko0 p4 (by constructor <;> omega) x_615 p5) wd_950 wd_951 wd_952 wd_5 wd_953 (by decide +kernel) ⟨(show 4 + 1 ≤ 5 + (n_ + 1) by omega), (show 8 + (5 + 11) + 105 ≤ 129 + (n_ + 1) * 29 by omega)⟩ hK hP hD hS mo0 hfo_363 12 rfl rfl rfl hl.1 rfl (Nat.le_of_ble_eq_true rfl) dX12_aligns_166 ⟨Nat.le_of_ble_eq_true rfl, Nat.le_of_ble_eq_true rfl⟩ (fun x_616 f_617 H locs hw hP hD hS => ?_)
                                obtain ⟨hG, bx_616, hkc_618⟩ := hw
                                have hfo_620 : f_617 o0 = .inr (12, [.ref a_1, .ref a_2, .ref a_3, .int v_4, .ref a_5, .int v_6, .int v_7, .int v_8, .int v_9, .int v_10, .int v_11, .int v_12, .int v_13, .int v_14, .int v_15, .ref a_16, .ref a_17, .ref a_18, .ref a_19, .ref a_20, .ref a_21, .ref a_22, .ref a_23, .int v_24, .int v_25, .int v_26, .int v_27, .int v_28, .ref a_29, .int v_30, .ref a_31, .ref a_32, .int v_33, .int v_34, .ref a_35, .int v_36, .ref a_37, .ref a_38, .int v_39, .int v_40, .ref a_41, .ref a_42, .ref a_43, .int v_44, .ref a_45, .ref a_46, .ref a_47, .ref a_48, .ref a_49, .ref a_50, .ref a_51, .ref a_52, .ref a_53, .int v_54, .int v_55, .ref a_56]) := by rw [hkc_618 o0 (by rw [ko0]; decide) (by rw [ko0]; decide) (by rw [ko0]; decide) (by rw [ko0]; decide) (by rw [ko0]; decide) (by rw [ko0]; decide)]; exact hfo_363
                                have hfo_621 : f_617 a_1 = .inl (cI, 1560, .inl g_365) := by rw [hkc_618 a_1 (by rw [ka_1]; decide) (by rw [ka_1]; decide) (by rw [ka_1]; decide) (by rw [ka_1]; decide) (by rw [ka_1]; decide) (by rw [ka_1]; decide)]; exact hfo_364
                                have hfo_622 : f_617 a_22 = .inl (cI, 16, .inl g_575) := by rw [hkc_618 a_22 (by rw [ka_22]; decide) (by rw [ka_22]; decide) (by rw [ka_22]; decide) (by rw [ka_22]; decide) (by rw [ka_22]; decide) (by rw [ka_22]; decide)]; exact hfo_574
                                have hfo_623 : f_617 a_35 = .inl (cI, 16, .inl g_611) := by rw [hkc_618 a_35 (by rw [ka_35]; decide) (by rw [ka_35]; decide) (by rw [ka_35]; decide) (by rw [ka_35]; decide) (by rw [ka_35]; decide) (by rw [ka_35]; decide)]; exact hfo_610
                                have hfr0 : ∀ b, kd b ≠ 579 → kd b ≠ 581 → kd b ≠ 583 → kd b ≠ 585 → kd b ≠ 587 → kd b ≠ 588 → f_617 b = f b := fun b q579 q581 q583 q585 q587 q588 => (hkc_618 b q579 q581 q583 q585 q587 q588).trans (hfr0 b q579 q581 q583 q585 q587 q588)
                                refine lv_if_eq (tgt := 223) hx hb dX12_aligns_169 (by decide) (fun c_624 => ?_) (fun c_624 => ?_)
                                · skip
                                  rw [← Int32.toInt_inj, ti_0] at c_624
                                  obtain ⟨x_625, ex_625⟩ : ∃ y : Int32, y_360 + 1 = y := ⟨_, rfl⟩
                                  have hx_625 : x_625.toInt = y_360.toInt + 1 := by rw [← ex_625, ad_I (by rw [ti_1]; omega) (by rw [ti_1]; omega), ti_1]
                                  have bx_625 : (1 ≤ x_625.toInt ∧ x_625.toInt ≤ 20) := by constructor <;> omega
                                  refine lv_iinc (v := x_625) (lv' := [(6, .int x_625), (9, .int y_374), (8, .int x_373), (7, .int x_370), (0, .ref o0), (1, .int p1), (2, .int p2), (3, .int p3), (4, .int p4), (5, .int p5)]) hx hb dX12_aligns_223 hl (k := 3) rfl ex_625 (by decide) rfl (fun ls hl => ?_)
                                  refine lv_goto (tgt := 32) hx hb dX12_aligns_226 (by decide) ?_
                                  exact ih_hloop_359 x_625 (by constructor <;> omega) f_617 hG _ _ hP hS hD hfr0 hfo_620 (by omega) ls (lv_sub hl [0, 4, 5, 6, 7, 8, 9] rfl)
                                · skip
                                  rw [← Int32.toInt_inj, ti_0] at c_624
                                  refine lv_aload_n hx hb dX12_aligns_172 rfl (lv_at hl 4 rfl) ?_
                                  refine lv_iload hx hb dX12_aligns_173 (lv_at hl 2 rfl) ?_
                                  refine lv_if_ne (tgt := 182) hx hb dX12_aligns_175 (by decide) (fun c_626 => ?_) (fun c_626 => ?_)
                                  · skip
                                    rw [← Int32.toInt_inj, ti_0] at c_626
                                    refine lv_iload_n hx hb dX12_aligns_182 rfl (lv_at hl 5 rfl) ?_
                                    refine lv_iconst (v := 1) hx hb dX12_aligns_183 (by decide) ?_
                                    refine lv_iadd hx hb dX12_aligns_184 ?_
                                    refine lv_topi (fun x_627 ex_627 => ?_)
                                    have hx_627 : x_627.toInt = p1.toInt + 1 := by rw [ex_627, ad_I (by rw [ti_1]; omega) (by rw [ti_1]; omega), ti_1]
                                    have bx_627 : (1 ≤ x_627.toInt ∧ x_627.toInt ≤ 12) := by constructor <;> omega
                                    refine lv_iload hx hb dX12_aligns_185 (lv_at hl 1 rfl) ?_
                                    refine lv_if_ne (tgt := 194) hx hb dX12_aligns_187 (by decide) (fun c_628 => ?_) (fun c_628 => ?_)
                                    · skip
                                      rw [← Int32.toInt_inj, ti_0] at c_628
                                      refine lv_iload_n hx hb dX12_aligns_194 rfl (lv_at hl 6 rfl) ?_
                                      refine lv_iconst (v := 1) hx hb dX12_aligns_195 (by decide) ?_
                                      refine lv_iadd hx hb dX12_aligns_196 ?_
                                      refine lv_topi (fun x_629 ex_629 => ?_)
                                      have hx_629 : x_629.toInt = p2.toInt + 1 := by rw [ex_629, ad_I (by rw [ti_1]; omega) (by rw [ti_1]; omega), ti_1]
                                      have bx_629 : (1 ≤ x_629.toInt ∧ x_629.toInt ≤ 8) := by constructor <;> omega
                                      refine lv_iload hx hb dX12_aligns_197 (lv_at hl 0 rfl) ?_
                                      refine lv_if_eq (tgt := 208) hx hb dX12_aligns_199 (by decide) (fun c_630 => ?_) (fun c_630 => ?_)
                                      · skip
                                        rw [← Int32.toInt_inj, ti_0] at c_630
                                        exfalso
                                        omega
                                      · skip
                                        rw [← Int32.toInt_inj, ti_0] at c_630
                                        refine lv_iload_n hx hb dX12_aligns_202 rfl (lv_at hl 7 rfl) ?_
                                        refine lv_iconst (v := 1) hx hb dX12_aligns_203 (by decide) ?_
                                        refine lv_isub hx hb dX12_aligns_204 ?_
                                        refine lv_topi (fun x_631 ex_631 => ?_)
                                        have hx_631 : x_631.toInt = p3.toInt - 1 := by rw [ex_631, sb_I (by rw [ti_1]; omega) (by rw [ti_1]; omega), ti_1]
                                        have bx_631 : (0 ≤ x_631.toInt ∧ x_631.toInt ≤ 0) := by constructor <;> omega
                                        refine lv_goto (tgt := 209) hx hb dX12_aligns_205 (by decide) ?_
                                        refine lv_iload hx hb dX12_aligns_209 (lv_at hl 8 rfl) ?_
                                        refine lv_iconst (v := 1) hx hb dX12_aligns_211 (by decide) ?_
                                        refine lv_iadd hx hb dX12_aligns_212 ?_
                                        refine lv_topi (fun x_632 ex_632 => ?_)
                                        have hx_632 : x_632.toInt = p4.toInt + 1 := by rw [ex_632, ad_I (by rw [ti_1]; omega) (by rw [ti_1]; omega), ti_1]
                                        have bx_632 : (1 ≤ x_632.toInt ∧ x_632.toInt ≤ 14) := by constructor <;> omega
                                        have hclc_633 : (1 ≤ x_632.toInt ∧ x_632.toInt ≤ 13) := by constructor <;> omega
                                        refine lv_iload hx hb dX12_aligns_213 (lv_at hl 9 rfl) ?_
                                        refine tk_ViP (As := [.int x_627, .int x_629, .int x_631, .int x_632, .int p5]) (rest := []) (n := 5) hx hb hml hown hU hN hZ (ih_rec f_617 hG o0 mo0 ko0 x_627 (by constructor <;> omega) x_629 (by constructor <;> omega) x_631 (by constructor <;> omega) x_632 (by constructor <;> omega) p5 (by intro w23 w35 e23 e35; rw [hfo_620] at e23 e35; obtain rfl := Option.some.inj e23; obtain rfl := Option.some.inj e35; omega) (by omega) (by omega)) wd_1054 wd_1055 wd_1056 wd_5 wd_1057 (by decide +kernel) ⟨(show (5 + n_) + 1 ≤ 5 + (n_ + 1) by omega), (show 8 + (10 + 11) + (129 + n_ * 29) ≤ 129 + (n_ + 1) * 29 by omega)⟩ hK hP hD hS mo0 hfo_620 12 rfl rfl rfl hl.1 rfl (Nat.le_of_ble_eq_true rfl) dX12_aligns_215 ⟨Nat.le_of_ble_eq_true rfl, Nat.le_of_ble_eq_true rfl⟩ (fun x_634 f_635 H locs hw hP hD hS => ?_)
                                        obtain ⟨hG, bx_634, hkc_636⟩ := hw
                                        have hfo_638 : f_635 o0 = .inr (12, [.ref a_1, .ref a_2, .ref a_3, .int v_4, .ref a_5, .int v_6, .int v_7, .int v_8, .int v_9, .int v_10, .int v_11, .int v_12, .int v_13, .int v_14, .int v_15, .ref a_16, .ref a_17, .ref a_18, .ref a_19, .ref a_20, .ref a_21, .ref a_22, .ref a_23, .int v_24, .int v_25, .int v_26, .int v_27, .int v_28, .ref a_29, .int v_30, .ref a_31, .ref a_32, .int v_33, .int v_34, .ref a_35, .int v_36, .ref a_37, .ref a_38, .int v_39, .int v_40, .ref a_41, .ref a_42, .ref a_43, .int v_44, .ref a_45, .ref a_46, .ref a_47, .ref a_48, .ref a_49, .ref a_50, .ref a_51, .ref a_52, .ref a_53, .int v_54, .int v_55, .ref a_56]) := by rw [hkc_636 o0 (by rw [ko0]; decide) (by rw [ko0]; decide) (by rw [ko0]; decide) (by rw [ko0]; decide) (by rw [ko0]; decide) (by rw [ko0]; decide)]; exact hfo_620
                                        have hfo_639 : f_635 a_1 = .inl (cI, 1560, .inl g_365) := by rw [hkc_636 a_1 (by rw [ka_1]; decide) (by rw [ka_1]; decide) (by rw [ka_1]; decide) (by rw [ka_1]; decide) (by rw [ka_1]; decide) (by rw [ka_1]; decide)]; exact hfo_621
                                        have hfo_640 : f_635 a_22 = .inl (cI, 16, .inl g_575) := by rw [hkc_636 a_22 (by rw [ka_22]; decide) (by rw [ka_22]; decide) (by rw [ka_22]; decide) (by rw [ka_22]; decide) (by rw [ka_22]; decide) (by rw [ka_22]; decide)]; exact hfo_622
                                        have hfo_641 : f_635 a_35 = .inl (cI, 16, .inl g_611) := by rw [hkc_636 a_35 (by rw [ka_35]; decide) (by rw [ka_35]; decide) (by rw [ka_35]; decide) (by rw [ka_35]; decide) (by rw [ka_35]; decide) (by rw [ka_35]; decide)]; exact hfo_623
                                        have hfr0 : ∀ b, kd b ≠ 579 → kd b ≠ 581 → kd b ≠ 583 → kd b ≠ 585 → kd b ≠ 587 → kd b ≠ 588 → f_635 b = f b := fun b q579 q581 q583 q585 q587 q588 => (hkc_636 b q579 q581 q583 q585 q587 q588).trans (hfr0 b q579 q581 q583 q585 q587 q588)
                                        refine lv_if_eq (tgt := 223) hx hb dX12_aligns_218 (by decide) (fun c_642 => ?_) (fun c_642 => ?_)
                                        · skip
                                          rw [← Int32.toInt_inj, ti_0] at c_642
                                          obtain ⟨x_643, ex_643⟩ : ∃ y : Int32, y_360 + 1 = y := ⟨_, rfl⟩
                                          have hx_643 : x_643.toInt = y_360.toInt + 1 := by rw [← ex_643, ad_I (by rw [ti_1]; omega) (by rw [ti_1]; omega), ti_1]
                                          have bx_643 : (1 ≤ x_643.toInt ∧ x_643.toInt ≤ 20) := by constructor <;> omega
                                          refine lv_iinc (v := x_643) (lv' := [(6, .int x_643), (9, .int y_374), (8, .int x_373), (7, .int x_370), (0, .ref o0), (1, .int p1), (2, .int p2), (3, .int p3), (4, .int p4), (5, .int p5)]) hx hb dX12_aligns_223 hl (k := 3) rfl ex_643 (by decide) rfl (fun ls hl => ?_)
                                          refine lv_goto (tgt := 32) hx hb dX12_aligns_226 (by decide) ?_
                                          exact ih_hloop_359 x_643 (by constructor <;> omega) f_635 hG _ _ hP hS hD hfr0 hfo_638 (by omega) ls (lv_sub hl [0, 4, 5, 6, 7, 8, 9] rfl)
                                        · skip
                                          rw [← Int32.toInt_inj, ti_0] at c_642
                                          refine lv_iconst (v := 1) hx hb dX12_aligns_221 (by decide) ?_
                                          exact W.zret (v := 1) (ty := .boolean) hx hb hr rfl (fun t ht hW => ⟨⟨1, f_635, rfl, ⟨hG, (by decide), hfr0⟩, by rw [ht]; exact hP, va_K.moved hW.alike hK, pl_in hD⟩, hS.F ht⟩) hS.2.2 dX12_aligns_222
                                    · skip
                                      rw [← Int32.toInt_inj, ti_0] at c_628
                                      exfalso
                                      omega
                                  · skip
                                    rw [← Int32.toInt_inj, ti_0] at c_626
                                    exfalso
                                    omega
                              · skip
                                rw [← Int32.toInt_inj] at c_613
                                refine lv_goto (tgt := 223) hx hb dX12_aligns_148 (by decide) ?_
                                obtain ⟨x_644, ex_644⟩ : ∃ y : Int32, y_360 + 1 = y := ⟨_, rfl⟩
                                have hx_644 : x_644.toInt = y_360.toInt + 1 := by rw [← ex_644, ad_I (by rw [ti_1]; omega) (by rw [ti_1]; omega), ti_1]
                                have bx_644 : (1 ≤ x_644.toInt ∧ x_644.toInt ≤ 20) := by constructor <;> omega
                                refine lv_iinc (v := x_644) (lv' := [(6, .int x_644), (9, .int y_374), (8, .int x_373), (7, .int x_370), (0, .ref o0), (1, .int p1), (2, .int p2), (3, .int p3), (4, .int p4), (5, .int p5)]) hx hb dX12_aligns_223 hl (k := 3) rfl ex_644 (by decide) rfl (fun ls hl => ?_)
                                refine lv_goto (tgt := 32) hx hb dX12_aligns_226 (by decide) ?_
                                exact ih_hloop_359 x_644 (by constructor <;> omega) f_362 hG _ _ hP hS hD hfr0 hfo_363 (by omega) ls (lv_sub hl [0, 4, 5, 6, 7, 8, 9] rfl)
              refine lv_if_eq (tgt := 84) hx hb dX12_aligns_76 (by decide) (fun c_645 => ?_) (fun c_645 => ?_)
              · skip
                rw [← Int32.toInt_inj, ti_0] at c_645
                refine lv_iconst (v := 1) hx hb dX12_aligns_84 (by decide) ?_
                refine lv_goto (tgt := 89) hx hb dX12_aligns_85 (by decide) ?_
                exact hcut_375 1 (by decide) (by (try rw [ti_1]) <;> omega) ls (lv_sub hl [0, 1, 2, 3, 4, 5, 6, 7, 8] rfl)
              · skip
                rw [← Int32.toInt_inj, ti_0] at c_645
                refine lv_iload hx hb dX12_aligns_79 (lv_at hl 0 rfl) ?_
                refine lv_if_ne (tgt := 88) hx hb dX12_aligns_81 (by decide) (fun c_646 => ?_) (fun c_646 => ?_)
                · skip
                  rw [← Int32.toInt_inj, ti_0] at c_646
                  refine lv_iconst (v := 0) hx hb dX12_aligns_88 (by decide) ?_
                  exact hcut_375 0 (by decide) (by (try rw [ti_0]) <;> omega) ls (lv_sub hl [0, 1, 2, 3, 4, 5, 6, 7, 8] rfl)
                · skip
                  rw [← Int32.toInt_inj, ti_0] at c_646
                  refine lv_iconst (v := 1) hx hb dX12_aligns_84 (by decide) ?_
                  refine lv_goto (tgt := 89) hx hb dX12_aligns_85 (by decide) ?_
                  exact hcut_375 1 (by decide) (by (try rw [ti_1]) <;> omega) ls (lv_sub hl [0, 1, 2, 3, 4, 5, 6, 7, 8] rfl)
        exact hloop_359 21 0 (by decide) f hG _ _ hP hS hD hfr0 hfo_57 (by (try rw [ti_0]) <;> omega) ls hl
      · skip
        rw [← Int32.toInt_inj] at c_353
        refine lv_aload_n hx hb dX12_aligns_16 rfl (lv_at hl 0 rfl) ?_
        refine lv_iload hx hb dX12_aligns_17 (lv_at hl 4 rfl) ?_
        refine lv_iload hx hb dX12_aligns_19 (lv_at hl 5 rfl) ?_
        refine tk_ViP (As := [.int p4, .int p5]) (rest := []) (n := 2) hx hb hml hown hU hN hZ (s_X12_closes_k12 l (dC, dI) cI cL cZ cR cG cH Z kd L f hG o0 mo0 ko0 p4 (by constructor <;> omega) p5) wd_890 wd_891 wd_892 wd_5 wd_893 (by decide +kernel) ⟨(show 2 + 1 ≤ 5 + (n_ + 1) by omega), (show 8 + (6 + 11) + 45 ≤ 129 + (n_ + 1) * 29 by omega)⟩ hK hP hD hS mo0 hfo_57 12 rfl rfl rfl hl.1 rfl (Nat.le_of_ble_eq_true rfl) dX12_aligns_21 ⟨Nat.le_of_ble_eq_true rfl, Nat.le_of_ble_eq_true rfl⟩ (fun x_647 f_648 H locs hw hP hD hS => ?_)
        obtain ⟨rfl, bx_647⟩ := hw
        refine lv_if_eq (tgt := 29) hx hb dX12_aligns_24 (by decide) (fun c_650 => ?_) (fun c_650 => ?_)
        · skip
          rw [← Int32.toInt_inj, ti_0] at c_650
          refine lv_iconst (v := 0) hx hb dX12_aligns_29 (by decide) ?_
          refine lv_istore (lv' := [(6, .int 0), (0, .ref o0), (1, .int p1), (2, .int p2), (3, .int p3), (4, .int p4), (5, .int p5)]) hx hb dX12_aligns_30 hl (by decide) rfl (fun ls hl => ?_)
          have hloop_656 : ∀ (n : Nat), ∀ (y_657 : Int32), (0 ≤ y_657.toInt ∧ y_657.toInt ≤ 20) → ∀ (f_659 : Nat → va_E), GI (okc cI cL cZ cR cG cH L kd) kd L f_659 → ∀ (H : Heap) (locs : List Loc), va_P (dC, dI) vwCl (va_pl L f_659) H → va_S (fun q => q ∈ L) s.heap H locs → va_D (fun q => q ∈ L) (va_pl L f_659) → (∀ b, kd b ≠ 579 → kd b ≠ 581 → kd b ≠ 583 → kd b ≠ 585 → kd b ≠ 587 → kd b ≠ 588 → f_659 b = f b) → (f_659 o0 = .inr (12, [.ref a_1, .ref a_2, .ref a_3, .int v_4, .ref a_5, .int v_6, .int v_7, .int v_8, .int v_9, .int v_10, .int v_11, .int v_12, .int v_13, .int v_14, .int v_15, .ref a_16, .ref a_17, .ref a_18, .ref a_19, .ref a_20, .ref a_21, .ref a_22, .ref a_23, .int v_24, .int v_25, .int v_26, .int v_27, .int v_28, .ref a_29, .int v_30, .ref a_31, .ref a_32, .int v_33, .int v_34, .ref a_35, .int v_36, .ref a_37, .ref a_38, .int v_39, .int v_40, .ref a_41, .ref a_42, .ref a_43, .int v_44, .ref a_45, .ref a_46, .ref a_47, .ref a_48, .ref a_49, .ref a_50, .ref a_51, .ref a_52, .ref a_53, .int v_54, .int v_55, .ref a_56])) → 20 - y_657.toInt < (n : Int) → ∀ (ls : Array Slot), lv_has ls 10 [(6, .int y_657), (0, .ref o0), (1, .int p1), (2, .int p2), (3, .int p3), (4, .int p4), (5, .int p5)] → W p l e (headSpec (wU yX12_aligns cX12_aligns 10 (some .boolean)) { frames := 5 + (n_ + 1), cells := 0, slots := 0, locals := 129 + (n_ + 1) * 29 }).room s m [.ref o0, .int p1, .int p2, .int p3, .int p4, .int p5].toArray below meth c H locs 0 0 (MQ below (va_Qi (fun (r : Int32) (f9 : Nat → va_E) => GI (okc cI cL cZ cR cG cH L kd) kd L f9 ∧ (0 ≤ r.toInt ∧ r.toInt ≤ 1) ∧ (∀ b, kd b ≠ 579 → kd b ≠ 581 → kd b ≠ 583 → kd b ≠ 585 → kd b ≠ 587 → kd b ≠ 588 → f9 b = f b)) (qP (dC, dI) cI cL cZ cR cG cH L) (fun q => q ∈ L)) [.ref o0, .int p1, .int p2, .int p3, .int p4, .int p5].toArray s 0 0 (fun q => q ∈ L)) (F0 m 32 ls []) := by
            intro n
            induction n with
            | zero => intro y_657 by_657 f_659 hG H locs hP hS hD hfr0 hfo_660 hmuhloop_656 ls hl; exfalso; omega
            | succ n ih_hloop_656 =>
              intro y_657 by_657 f_659 hG H locs hP hS hD hfr0 hfo_660 hmuhloop_656 ls hl
              refine lv_iload hx hb dX12_aligns_32 (lv_at hl 0 rfl) ?_
              refine lv_aload_n hx hb dX12_aligns_34 rfl (lv_at hl 1 rfl) ?_
              refine tk_getP (D := (dC, dI)) (ci := 12) (v := .ref a_1) (C := RX12) (T := TX12) (N := 56) hx hb hU inlX12 hown hK hP mo0 hfo_660 rfl 0 (by decide) (hU _ wd_169) (fun _ h9 => h9) rfl dX12_aligns_35 ?_
              refine lv_bipush (v := 16) hx hb dX12_aligns_38 (by decide) ?_
              obtain ⟨g_662, hfo_661, hbg_662⟩ := un_575 (hG _ ma_1) ka_1
              refine tk_ildP hx hb hK hP 0 ma_1 hfo_661 rfl (vp_in_nI (n := 16) (by decide) (by decide)) dX12_aligns_40 ?_
              refine lv_topi (fun x_663 ex_663 => ?_)
              have bx_663 : (0 ≤ x_663.toInt ∧ x_663.toInt ≤ 20) := by rw [ex_663]; exact hbg_662.2.1 _ (by decide) (by decide) (by decide)
              refine lv_icmp_ge (tgt := 229) hx hb dX12_aligns_41 (by decide) (fun c_664 => ?_) (fun c_664 => ?_)
              · skip
                rw [Int32.le_iff_toInt_le] at c_664
                refine lv_iconst (v := 0) hx hb dX12_aligns_229 (by decide) ?_
                exact W.zret (v := 0) (ty := .boolean) hx hb hr rfl (fun t ht hW => ⟨⟨0, f_659, rfl, ⟨hG, (by decide), hfr0⟩, by rw [ht]; exact hP, va_K.moved hW.alike hK, pl_in hD⟩, hS.F ht⟩) hS.2.2 dX12_aligns_230
              · skip
                rw [Int32.le_iff_toInt_le] at c_664
                refine lv_aload_n hx hb dX12_aligns_44 rfl (lv_at hl 1 rfl) ?_
                refine tk_getP (D := (dC, dI)) (ci := 12) (v := .ref a_1) (C := RX12) (T := TX12) (N := 56) hx hb hU inlX12 hown hK hP mo0 hfo_660 rfl 0 (by decide) (hU _ wd_169) (fun _ h9 => h9) rfl dX12_aligns_45 ?_
                refine lv_bipush (v := 20) hx hb dX12_aligns_48 (by decide) ?_
                refine lv_iload hx hb dX12_aligns_50 (lv_at hl 0 rfl) ?_
                refine lv_iadd hx hb dX12_aligns_52 ?_
                refine lv_topi (fun x_665 ex_665 => ?_)
                have hx_665 : x_665.toInt = 20 + y_657.toInt := by rw [ex_665, ad_I (by rw [ti_20]; omega) (by rw [ti_20]; omega), ti_20]
                have bx_665 : (20 ≤ x_665.toInt ∧ x_665.toInt ≤ 39) := by constructor <;> omega
                refine tk_ildP hx hb hK hP 0 ma_1 hfo_661 rfl (vp_in_iff.mpr (by constructor <;> omega)) dX12_aligns_53 ?_
                refine lv_topi (fun x_666 ex_666 => ?_)
                have bx_666 : (0 ≤ x_666.toInt ∧ x_666.toInt ≤ 80) := by have hc9 := cl_I (i := x_665) (by omega); rw [ex_666]; exact hbg_662.2.2.2.2.2.1 _ (by omega) (by omega) (by omega)
                refine lv_bipush (v := 9) hx hb dX12_aligns_54 (by decide) ?_
                refine lv_idiv hx hb dX12_aligns_56 (by decide) ?_
                refine lv_topi (fun x_667 ex_667 => ?_)
                have hx_667 : x_667.toInt = x_666.toInt / 9 := by rw [ex_667, dv_I (by omega) (by rw [ti_9]; omega), ti_9]
                have bx_667 : (0 ≤ x_667.toInt ∧ x_667.toInt ≤ 8) := by constructor <;> omega
                refine lv_istore (lv' := [(7, .int x_667), (6, .int y_657), (0, .ref o0), (1, .int p1), (2, .int p2), (3, .int p3), (4, .int p4), (5, .int p5)]) hx hb dX12_aligns_57 hl (by decide) rfl (fun ls hl => ?_)
                refine lv_aload_n hx hb dX12_aligns_59 rfl (lv_at hl 2 rfl) ?_
                refine tk_getP (D := (dC, dI)) (ci := 12) (v := .ref a_1) (C := RX12) (T := TX12) (N := 56) hx hb hU inlX12 hown hK hP mo0 hfo_660 rfl 0 (by decide) (hU _ wd_169) (fun _ h9 => h9) rfl dX12_aligns_60 ?_
                refine lv_bipush (v := 20) hx hb dX12_aligns_63 (by decide) ?_
                refine lv_iload hx hb dX12_aligns_65 (lv_at hl 1 rfl) ?_
                refine lv_iadd hx hb dX12_aligns_67 ?_
                refine lv_topi (fun x_668 ex_668 => ?_)
                have hx_668 : x_668.toInt = 20 + y_657.toInt := by rw [ex_668, ad_I (by rw [ti_20]; omega) (by rw [ti_20]; omega), ti_20]
                have bx_668 : (20 ≤ x_668.toInt ∧ x_668.toInt ≤ 39) := by constructor <;> omega
                refine tk_ildP hx hb hK hP 0 ma_1 hfo_661 rfl (vp_in_iff.mpr (by constructor <;> omega)) dX12_aligns_68 ?_
                refine lv_topi (fun x_669 ex_669 => ?_)
                have bx_669 : (0 ≤ x_669.toInt ∧ x_669.toInt ≤ 80) := by have hc9 := cl_I (i := x_668) (by omega); rw [ex_669]; exact hbg_662.2.2.2.2.2.1 _ (by omega) (by omega) (by omega)
                refine lv_bipush (v := 9) hx hb dX12_aligns_69 (by decide) ?_
                refine lv_irem hx hb dX12_aligns_71 (by decide) ?_
                refine lv_topi (fun x_670 ex_670 => ?_)
                have hx_670 : x_670.toInt = x_669.toInt % 9 := by rw [ex_670, rm_I (by omega) (by rw [ti_9]; omega), ti_9]
                have bx_670 : (0 ≤ x_670.toInt ∧ x_670.toInt ≤ 8) := by constructor <;> omega
                refine lv_istore (lv' := [(8, .int x_670), (7, .int x_667), (6, .int y_657), (0, .ref o0), (1, .int p1), (2, .int p2), (3, .int p3), (4, .int p4), (5, .int p5)]) hx hb dX12_aligns_72 hl (by decide) rfl (fun ls hl => ?_)
                refine lv_iload hx hb dX12_aligns_74 (lv_at hl 1 rfl) ?_
                have hcut_672 : ∀ (y_671 : Int32), (0 ≤ y_671.toInt ∧ y_671.toInt ≤ 1) → (y_671.toInt = 1 ∨ (y_671.toInt = 0 ∧ x_667.toInt ≠ 0 ∧ x_670.toInt ≠ 0)) → ∀ (ls : Array Slot), lv_has ls 10 [(8, .int x_670), (7, .int x_667), (6, .int y_657), (0, .ref o0), (1, .int p1), (2, .int p2), (3, .int p3), (4, .int p4), (5, .int p5)] → W p l e (headSpec (wU yX12_aligns cX12_aligns 10 (some .boolean)) { frames := 5 + (n_ + 1), cells := 0, slots := 0, locals := 129 + (n_ + 1) * 29 }).room s m [.ref o0, .int p1, .int p2, .int p3, .int p4, .int p5].toArray below meth c H locs 0 0 (MQ below (va_Qi (fun (r : Int32) (f9 : Nat → va_E) => GI (okc cI cL cZ cR cG cH L kd) kd L f9 ∧ (0 ≤ r.toInt ∧ r.toInt ≤ 1) ∧ (∀ b, kd b ≠ 579 → kd b ≠ 581 → kd b ≠ 583 → kd b ≠ 585 → kd b ≠ 587 → kd b ≠ 588 → f9 b = f b)) (qP (dC, dI) cI cL cZ cR cG cH L) (fun q => q ∈ L)) [.ref o0, .int p1, .int p2, .int p3, .int p4, .int p5].toArray s 0 0 (fun q => q ∈ L)) (F0 m 89 ls [.int y_671]) := by
                  intro y_671 by_671 hjhcut_672_0 ls hl
                  refine lv_istore (lv' := [(9, .int y_671), (8, .int x_670), (7, .int x_667), (6, .int y_657), (0, .ref o0), (1, .int p1), (2, .int p2), (3, .int p3), (4, .int p4), (5, .int p5)]) hx hb dX12_aligns_89 hl (by decide) rfl (fun ls hl => ?_)
                  refine lv_iload hx hb dX12_aligns_91 (lv_at hl 0 rfl) ?_
                  refine lv_if_eq (tgt := 100) hx hb dX12_aligns_93 (by decide) (fun c_673 => ?_) (fun c_673 => ?_)
                  · skip
                    rw [← Int32.toInt_inj, ti_0] at c_673
                    refine lv_iload hx hb dX12_aligns_100 (lv_at hl 2 rfl) ?_
                    refine lv_if_eq (tgt := 124) hx hb dX12_aligns_102 (by decide) (fun c_674 => ?_) (fun c_674 => ?_)
                    · skip
                      rw [← Int32.toInt_inj, ti_0] at c_674
                      refine lv_iload hx hb dX12_aligns_124 (lv_at hl 1 rfl) ?_
                      refine lv_if_eq (tgt := 151) hx hb dX12_aligns_126 (by decide) (fun c_675 => ?_) (fun c_675 => ?_)
                      · skip
                        rw [← Int32.toInt_inj, ti_0] at c_675
                        refine lv_aload_n hx hb dX12_aligns_151 rfl (lv_at hl 4 rfl) ?_
                        refine lv_iload hx hb dX12_aligns_152 (lv_at hl 8 rfl) ?_
                        refine lv_aload_n hx hb dX12_aligns_154 rfl (lv_at hl 4 rfl) ?_
                        refine tk_getP (D := (dC, dI)) (ci := 12) (v := .ref a_1) (C := RX12) (T := TX12) (N := 56) hx hb hU inlX12 hown hK hP mo0 hfo_660 rfl 0 (by decide) (hU _ wd_169) (fun _ h9 => h9) rfl dX12_aligns_155 ?_
                        refine lv_bipush (v := 20) hx hb dX12_aligns_158 (by decide) ?_
                        refine lv_iload hx hb dX12_aligns_160 (lv_at hl 3 rfl) ?_
                        refine lv_iadd hx hb dX12_aligns_162 ?_
                        refine lv_topi (fun x_676 ex_676 => ?_)
                        have hx_676 : x_676.toInt = 20 + y_657.toInt := by rw [ex_676, ad_I (by rw [ti_20]; omega) (by rw [ti_20]; omega), ti_20]
                        have bx_676 : (20 ≤ x_676.toInt ∧ x_676.toInt ≤ 39) := by constructor <;> omega
                        refine tk_ildP hx hb hK hP 0 ma_1 hfo_661 rfl (vp_in_iff.mpr (by constructor <;> omega)) dX12_aligns_163 ?_
                        refine lv_topi (fun x_677 ex_677 => ?_)
                        have bx_677 : (0 ≤ x_677.toInt ∧ x_677.toInt ≤ 80) := by have hc9 := cl_I (i := x_676) (by omega); rw [ex_677]; exact hbg_662.2.2.2.2.2.1 _ (by omega) (by omega) (by omega)
                        refine lv_iload hx hb dX12_aligns_164 (lv_at hl 9 rfl) ?_
                        refine tk_ViP (As := [.int p4, .int x_677, .int p5]) (rest := []) (n := 3) hx hb hml hown hU hN hZ (s_X12_reads_k12 l (dC, dI) cI cL cZ cR cG cH Z kd L f_659 hG o0 mo0 ko0 p4 (by constructor <;> omega) x_677 p5) wd_950 wd_951 wd_952 wd_5 wd_953 (by decide +kernel) ⟨(show 4 + 1 ≤ 5 + (n_ + 1) by omega), (show 8 + (5 + 11) + 105 ≤ 129 + (n_ + 1) * 29 by omega)⟩ hK hP hD hS mo0 hfo_660 12 rfl rfl rfl hl.1 rfl (Nat.le_of_ble_eq_true rfl) dX12_aligns_166 ⟨Nat.le_of_ble_eq_true rfl, Nat.le_of_ble_eq_true rfl⟩ (fun x_678 f_679 H locs hw hP hD hS => ?_)
                        obtain ⟨hG, bx_678, hkc_680⟩ := hw
                        have hfo_682 : f_679 o0 = .inr (12, [.ref a_1, .ref a_2, .ref a_3, .int v_4, .ref a_5, .int v_6, .int v_7, .int v_8, .int v_9, .int v_10, .int v_11, .int v_12, .int v_13, .int v_14, .int v_15, .ref a_16, .ref a_17, .ref a_18, .ref a_19, .ref a_20, .ref a_21, .ref a_22, .ref a_23, .int v_24, .int v_25, .int v_26, .int v_27, .int v_28, .ref a_29, .int v_30, .ref a_31, .ref a_32, .int v_33, .int v_34, .ref a_35, .int v_36, .ref a_37, .ref a_38, .int v_39, .int v_40, .ref a_41, .ref a_42, .ref a_43, .int v_44, .ref a_45, .ref a_46, .ref a_47, .ref a_48, .ref a_49, .ref a_50, .ref a_51, .ref a_52, .ref a_53, .int v_54, .int v_55, .ref a_56]) := by rw [hkc_680 o0 (by rw [ko0]; decide) (by rw [ko0]; decide) (by rw [ko0]; decide) (by rw [ko0]; decide) (by rw [ko0]; decide) (by rw [ko0]; decide)]; exact hfo_660
                        have hfo_683 : f_679 a_1 = .inl (cI, 1560, .inl g_662) := by rw [hkc_680 a_1 (by rw [ka_1]; decide) (by rw [ka_1]; decide) (by rw [ka_1]; decide) (by rw [ka_1]; decide) (by rw [ka_1]; decide) (by rw [ka_1]; decide)]; exact hfo_661
                        have hfr0 : ∀ b, kd b ≠ 579 → kd b ≠ 581 → kd b ≠ 583 → kd b ≠ 585 → kd b ≠ 587 → kd b ≠ 588 → f_679 b = f b := fun b q579 q581 q583 q585 q587 q588 => (hkc_680 b q579 q581 q583 q585 q587 q588).trans (hfr0 b q579 q581 q583 q585 q587 q588)
                        refine lv_if_eq (tgt := 223) hx hb dX12_aligns_169 (by decide) (fun c_684 => ?_) (fun c_684 => ?_)
                        · skip
                          rw [← Int32.toInt_inj, ti_0] at c_684
                          obtain ⟨x_685, ex_685⟩ : ∃ y : Int32, y_657 + 1 = y := ⟨_, rfl⟩
                          have hx_685 : x_685.toInt = y_657.toInt + 1 := by rw [← ex_685, ad_I (by rw [ti_1]; omega) (by rw [ti_1]; omega), ti_1]
                          have bx_685 : (1 ≤ x_685.toInt ∧ x_685.toInt ≤ 20) := by constructor <;> omega
                          refine lv_iinc (v := x_685) (lv' := [(6, .int x_685), (9, .int y_671), (8, .int x_670), (7, .int x_667), (0, .ref o0), (1, .int p1), (2, .int p2), (3, .int p3), (4, .int p4), (5, .int p5)]) hx hb dX12_aligns_223 hl (k := 3) rfl ex_685 (by decide) rfl (fun ls hl => ?_)
                          refine lv_goto (tgt := 32) hx hb dX12_aligns_226 (by decide) ?_
                          exact ih_hloop_656 x_685 (by constructor <;> omega) f_679 hG _ _ hP hS hD hfr0 hfo_682 (by omega) ls (lv_sub hl [0, 4, 5, 6, 7, 8, 9] rfl)
                        · skip
                          rw [← Int32.toInt_inj, ti_0] at c_684
                          refine lv_aload_n hx hb dX12_aligns_172 rfl (lv_at hl 4 rfl) ?_
                          refine lv_iload hx hb dX12_aligns_173 (lv_at hl 2 rfl) ?_
                          refine lv_if_ne (tgt := 182) hx hb dX12_aligns_175 (by decide) (fun c_686 => ?_) (fun c_686 => ?_)
                          · skip
                            rw [← Int32.toInt_inj, ti_0] at c_686
                            exfalso
                            omega
                          · skip
                            rw [← Int32.toInt_inj, ti_0] at c_686
                            refine lv_iload_n hx hb dX12_aligns_178 rfl (lv_at hl 5 rfl) ?_
                            refine lv_goto (tgt := 185) hx hb dX12_aligns_179 (by decide) ?_
                            refine lv_iload hx hb dX12_aligns_185 (lv_at hl 1 rfl) ?_
                            refine lv_if_ne (tgt := 194) hx hb dX12_aligns_187 (by decide) (fun c_687 => ?_) (fun c_687 => ?_)
                            · skip
                              rw [← Int32.toInt_inj, ti_0] at c_687
                              exfalso
                              omega
                            · skip
                              rw [← Int32.toInt_inj, ti_0] at c_687
                              refine lv_iload_n hx hb dX12_aligns_190 rfl (lv_at hl 6 rfl) ?_
                              refine lv_goto (tgt := 197) hx hb dX12_aligns_191 (by decide) ?_
                              refine lv_iload hx hb dX12_aligns_197 (lv_at hl 0 rfl) ?_
                              refine lv_if_eq (tgt := 208) hx hb dX12_aligns_199 (by decide) (fun c_688 => ?_) (fun c_688 => ?_)
                              · skip
                                rw [← Int32.toInt_inj, ti_0] at c_688
                                refine lv_iload_n hx hb dX12_aligns_208 rfl (lv_at hl 7 rfl) ?_
                                refine lv_iload hx hb dX12_aligns_209 (lv_at hl 8 rfl) ?_
                                refine lv_iconst (v := 1) hx hb dX12_aligns_211 (by decide) ?_
                                refine lv_iadd hx hb dX12_aligns_212 ?_
                                refine lv_topi (fun x_689 ex_689 => ?_)
                                have hx_689 : x_689.toInt = p4.toInt + 1 := by rw [ex_689, ad_I (by rw [ti_1]; omega) (by rw [ti_1]; omega), ti_1]
                                have bx_689 : (1 ≤ x_689.toInt ∧ x_689.toInt ≤ 14) := by constructor <;> omega
                                have hclc_690 : (1 ≤ x_689.toInt ∧ x_689.toInt ≤ 13) := by constructor <;> omega
                                refine lv_iload hx hb dX12_aligns_213 (lv_at hl 9 rfl) ?_
                                refine tk_ViP (As := [.int p1, .int p2, .int p3, .int x_689, .int p5]) (rest := []) (n := 5) hx hb hml hown hU hN hZ (ih_rec f_679 hG o0 mo0 ko0 p1 (by constructor <;> omega) p2 (by constructor <;> omega) p3 (by constructor <;> omega) x_689 (by constructor <;> omega) p5 (by intro w23 w35 e23 e35; rw [hfo_682] at e23 e35; obtain rfl := Option.some.inj e23; obtain rfl := Option.some.inj e35; omega) (by omega) (by omega)) wd_1054 wd_1055 wd_1056 wd_5 wd_1057 (by decide +kernel) ⟨(show (5 + n_) + 1 ≤ 5 + (n_ + 1) by omega), (show 8 + (10 + 11) + (129 + n_ * 29) ≤ 129 + (n_ + 1) * 29 by omega)⟩ hK hP hD hS mo0 hfo_682 12 rfl rfl rfl hl.1 rfl (Nat.le_of_ble_eq_true rfl) dX12_aligns_215 ⟨Nat.le_of_ble_eq_true rfl, Nat.le_of_ble_eq_true rfl⟩ (fun x_691 f_692 H locs hw hP hD hS => ?_)
                                obtain ⟨hG, bx_691, hkc_693⟩ := hw
                                have hfo_695 : f_692 o0 = .inr (12, [.ref a_1, .ref a_2, .ref a_3, .int v_4, .ref a_5, .int v_6, .int v_7, .int v_8, .int v_9, .int v_10, .int v_11, .int v_12, .int v_13, .int v_14, .int v_15, .ref a_16, .ref a_17, .ref a_18, .ref a_19, .ref a_20, .ref a_21, .ref a_22, .ref a_23, .int v_24, .int v_25, .int v_26, .int v_27, .int v_28, .ref a_29, .int v_30, .ref a_31, .ref a_32, .int v_33, .int v_34, .ref a_35, .int v_36, .ref a_37, .ref a_38, .int v_39, .int v_40, .ref a_41, .ref a_42, .ref a_43, .int v_44, .ref a_45, .ref a_46, .ref a_47, .ref a_48, .ref a_49, .ref a_50, .ref a_51, .ref a_52, .ref a_53, .int v_54, .int v_55, .ref a_56]) := by rw [hkc_693 o0 (by rw [ko0]; decide) (by rw [ko0]; decide) (by rw [ko0]; decide) (by rw [ko0]; decide) (by rw [ko0]; decide) (by rw [ko0]; decide)]; exact hfo_682
                                have hfo_696 : f_692 a_1 = .inl (cI, 1560, .inl g_662) := by rw [hkc_693 a_1 (by rw [ka_1]; decide) (by rw [ka_1]; decide) (by rw [ka_1]; decide) (by rw [ka_1]; decide) (by rw [ka_1]; decide) (by rw [ka_1]; decide)]; exact hfo_683
                                have hfr0 : ∀ b, kd b ≠ 579 → kd b ≠ 581 → kd b ≠ 583 → kd b ≠ 585 → kd b ≠ 587 → kd b ≠ 588 → f_692 b = f b := fun b q579 q581 q583 q585 q587 q588 => (hkc_693 b q579 q581 q583 q585 q587 q588).trans (hfr0 b q579 q581 q583 q585 q587 q588)
                                refine lv_if_eq (tgt := 223) hx hb dX12_aligns_218 (by decide) (fun c_697 => ?_) (fun c_697 => ?_)
                                · skip
                                  rw [← Int32.toInt_inj, ti_0] at c_697
                                  obtain ⟨x_698, ex_698⟩ : ∃ y : Int32, y_657 + 1 = y := ⟨_, rfl⟩
                                  have hx_698 : x_698.toInt = y_657.toInt + 1 := by rw [← ex_698, ad_I (by rw [ti_1]; omega) (by rw [ti_1]; omega), ti_1]
                                  have bx_698 : (1 ≤ x_698.toInt ∧ x_698.toInt ≤ 20) := by constructor <;> omega
                                  refine lv_iinc (v := x_698) (lv' := [(6, .int x_698), (9, .int y_671), (8, .int x_670), (7, .int x_667), (0, .ref o0), (1, .int p1), (2, .int p2), (3, .int p3), (4, .int p4), (5, .int p5)]) hx hb dX12_aligns_223 hl (k := 3) rfl ex_698 (by decide) rfl (fun ls hl => ?_)
                                  refine lv_goto (tgt := 32) hx hb dX12_aligns_226 (by decide) ?_
                                  exact ih_hloop_656 x_698 (by constructor <;> omega) f_692 hG _ _ hP hS hD hfr0 hfo_695 (by omega) ls (lv_sub hl [0, 4, 5, 6, 7, 8, 9] rfl)
                                · skip
                                  rw [← Int32.toInt_inj, ti_0] at c_697
                                  refine lv_iconst (v := 1) hx hb dX12_aligns_221 (by decide) ?_
                                  exact W.zret (v := 1) (ty := .boolean) hx hb hr rfl (fun t ht hW => ⟨⟨1, f_692, rfl, ⟨hG, (by decide), hfr0⟩, by rw [ht]; exact hP, va_K.moved hW.alike hK, pl_in hD⟩, hS.F ht⟩) hS.2.2 dX12_aligns_222
                              · skip
                                rw [← Int32.toInt_inj, ti_0] at c_688
                                exfalso
                                omega
                      · skip
                        rw [← Int32.toInt_inj, ti_0] at c_675
                        refine lv_iload_n hx hb dX12_aligns_129 rfl (lv_at hl 6 rfl) ?_
                        refine lv_aload_n hx hb dX12_aligns_130 rfl (lv_at hl 4 rfl) ?_
                        refine tk_getP (D := (dC, dI)) (ci := 12) (v := .int v_36) (C := RX12) (T := TX12) (N := 56) hx hb hU inlX12 hown hK hP mo0 hfo_660 rfl 35 (by decide) (hU _ wd_1049) (fun _ h9 => h9) rfl dX12_aligns_131 ?_
                        refine lv_icmp_eq (tgt := 223) hx hb dX12_aligns_134 (by decide) (fun c_699 => ?_) (fun c_699 => ?_)
                        · skip
                          rw [← Int32.toInt_inj] at c_699
                          obtain ⟨x_700, ex_700⟩ : ∃ y : Int32, y_657 + 1 = y := ⟨_, rfl⟩
                          have hx_700 : x_700.toInt = y_657.toInt + 1 := by rw [← ex_700, ad_I (by rw [ti_1]; omega) (by rw [ti_1]; omega), ti_1]
                          have bx_700 : (1 ≤ x_700.toInt ∧ x_700.toInt ≤ 20) := by constructor <;> omega
                          refine lv_iinc (v := x_700) (lv' := [(6, .int x_700), (9, .int y_671), (8, .int x_670), (7, .int x_667), (0, .ref o0), (1, .int p1), (2, .int p2), (3, .int p3), (4, .int p4), (5, .int p5)]) hx hb dX12_aligns_223 hl (k := 3) rfl ex_700 (by decide) rfl (fun ls hl => ?_)
                          refine lv_goto (tgt := 32) hx hb dX12_aligns_226 (by decide) ?_
                          exact ih_hloop_656 x_700 (by constructor <;> omega) f_659 hG _ _ hP hS hD hfr0 hfo_660 (by omega) ls (lv_sub hl [0, 4, 5, 6, 7, 8, 9] rfl)
                        · skip
                          rw [← Int32.toInt_inj] at c_699
                          have hclc_701 : (0 ≤ p2.toInt ∧ p2.toInt ≤ 7) := by constructor <;> omega
                          refine lv_aload_n hx hb dX12_aligns_137 rfl (lv_at hl 4 rfl) ?_
                          refine tk_getP (D := (dC, dI)) (ci := 12) (v := .ref a_35) (C := RX12) (T := TX12) (N := 56) hx hb hU inlX12 hown hK hP mo0 hfo_660 rfl 34 (by decide) (hU _ wd_186) (fun _ h9 => h9) rfl dX12_aligns_138 ?_
                          refine lv_iload_n hx hb dX12_aligns_141 rfl (lv_at hl 6 rfl) ?_
                          obtain ⟨g_703, hfo_702, hbg_703⟩ := un_594 (hG _ ma_35) ka_35
                          refine tk_ildP hx hb hK hP 0 ma_35 hfo_702 rfl (vp_in_iff.mpr (by constructor <;> omega)) dX12_aligns_142 ?_
                          refine lv_topi (fun x_704 ex_704 => ?_)
                          have bx_704 : (0 ≤ x_704.toInt ∧ x_704.toInt ≤ 8) := by rw [ex_704]; exact hbg_703 _
                          refine lv_iload hx hb dX12_aligns_143 (lv_at hl 1 rfl) ?_
                          refine lv_icmp_eq (tgt := 151) hx hb dX12_aligns_145 (by decide) (fun c_705 => ?_) (fun c_705 => ?_)
                          · skip
                            rw [← Int32.toInt_inj] at c_705
                            refine lv_aload_n hx hb dX12_aligns_151 rfl (lv_at hl 4 rfl) ?_
                            refine lv_iload hx hb dX12_aligns_152 (lv_at hl 8 rfl) ?_
                            refine lv_aload_n hx hb dX12_aligns_154 rfl (lv_at hl 4 rfl) ?_
                            refine tk_getP (D := (dC, dI)) (ci := 12) (v := .ref a_1) (C := RX12) (T := TX12) (N := 56) hx hb hU inlX12 hown hK hP mo0 hfo_660 rfl 0 (by decide) (hU _ wd_169) (fun _ h9 => h9) rfl dX12_aligns_155 ?_
                            refine lv_bipush (v := 20) hx hb dX12_aligns_158 (by decide) ?_
                            refine lv_iload hx hb dX12_aligns_160 (lv_at hl 3 rfl) ?_
                            refine lv_iadd hx hb dX12_aligns_162 ?_
                            refine lv_topi (fun x_706 ex_706 => ?_)
                            have hx_706 : x_706.toInt = 20 + y_657.toInt := by rw [ex_706, ad_I (by rw [ti_20]; omega) (by rw [ti_20]; omega), ti_20]
                            have bx_706 : (20 ≤ x_706.toInt ∧ x_706.toInt ≤ 39) := by constructor <;> omega
                            refine tk_ildP hx hb hK hP 0 ma_1 hfo_661 rfl (vp_in_iff.mpr (by constructor <;> omega)) dX12_aligns_163 ?_
                            refine lv_topi (fun x_707 ex_707 => ?_)
                            have bx_707 : (0 ≤ x_707.toInt ∧ x_707.toInt ≤ 80) := by have hc9 := cl_I (i := x_706) (by omega); rw [ex_707]; exact hbg_662.2.2.2.2.2.1 _ (by omega) (by omega) (by omega)
                            refine lv_iload hx hb dX12_aligns_164 (lv_at hl 9 rfl) ?_
                            refine tk_ViP (As := [.int p4, .int x_707, .int p5]) (rest := []) (n := 3) hx hb hml hown hU hN hZ (s_X12_reads_k12 l (dC, dI) cI cL cZ cR cG cH Z kd L f_659 hG o0 mo0 ko0 p4 (by constructor <;> omega) x_707 p5) wd_950 wd_951 wd_952 wd_5 wd_953 (by decide +kernel) ⟨(show 4 + 1 ≤ 5 + (n_ + 1) by omega), (show 8 + (5 + 11) + 105 ≤ 129 + (n_ + 1) * 29 by omega)⟩ hK hP hD hS mo0 hfo_660 12 rfl rfl rfl hl.1 rfl (Nat.le_of_ble_eq_true rfl) dX12_aligns_166 ⟨Nat.le_of_ble_eq_true rfl, Nat.le_of_ble_eq_true rfl⟩ (fun x_708 f_709 H locs hw hP hD hS => ?_)
                            obtain ⟨hG, bx_708, hkc_710⟩ := hw
                            have hfo_712 : f_709 o0 = .inr (12, [.ref a_1, .ref a_2, .ref a_3, .int v_4, .ref a_5, .int v_6, .int v_7, .int v_8, .int v_9, .int v_10, .int v_11, .int v_12, .int v_13, .int v_14, .int v_15, .ref a_16, .ref a_17, .ref a_18, .ref a_19, .ref a_20, .ref a_21, .ref a_22, .ref a_23, .int v_24, .int v_25, .int v_26, .int v_27, .int v_28, .ref a_29, .int v_30, .ref a_31, .ref a_32, .int v_33, .int v_34, .ref a_35, .int v_36, .ref a_37, .ref a_38, .int v_39, .int v_40, .ref a_41, .ref a_42, .ref a_43, .int v_44, .ref a_45, .ref a_46, .ref a_47, .ref a_48, .ref a_49, .ref a_50, .ref a_51, .ref a_52, .ref a_53, .int v_54, .int v_55, .ref a_56]) := by rw [hkc_710 o0 (by rw [ko0]; decide) (by rw [ko0]; decide) (by rw [ko0]; decide) (by rw [ko0]; decide) (by rw [ko0]; decide) (by rw [ko0]; decide)]; exact hfo_660
                            have hfo_713 : f_709 a_1 = .inl (cI, 1560, .inl g_662) := by rw [hkc_710 a_1 (by rw [ka_1]; decide) (by rw [ka_1]; decide) (by rw [ka_1]; decide) (by rw [ka_1]; decide) (by rw [ka_1]; decide) (by rw [ka_1]; decide)]; exact hfo_661
                            have hfo_714 : f_709 a_35 = .inl (cI, 16, .inl g_703) := by rw [hkc_710 a_35 (by rw [ka_35]; decide) (by rw [ka_35]; decide) (by rw [ka_35]; decide) (by rw [ka_35]; decide) (by rw [ka_35]; decide) (by rw [ka_35]; decide)]; exact hfo_702
                            have hfr0 : ∀ b, kd b ≠ 579 → kd b ≠ 581 → kd b ≠ 583 → kd b ≠ 585 → kd b ≠ 587 → kd b ≠ 588 → f_709 b = f b := fun b q579 q581 q583 q585 q587 q588 => (hkc_710 b q579 q581 q583 q585 q587 q588).trans (hfr0 b q579 q581 q583 q585 q587 q588)
                            refine lv_if_eq (tgt := 223) hx hb dX12_aligns_169 (by decide) (fun c_715 => ?_) (fun c_715 => ?_)
                            · skip
                              rw [← Int32.toInt_inj, ti_0] at c_715
                              obtain ⟨x_716, ex_716⟩ : ∃ y : Int32, y_657 + 1 = y := ⟨_, rfl⟩
                              have hx_716 : x_716.toInt = y_657.toInt + 1 := by rw [← ex_716, ad_I (by rw [ti_1]; omega) (by rw [ti_1]; omega), ti_1]
                              have bx_716 : (1 ≤ x_716.toInt ∧ x_716.toInt ≤ 20) := by constructor <;> omega
                              refine lv_iinc (v := x_716) (lv' := [(6, .int x_716), (9, .int y_671), (8, .int x_670), (7, .int x_667), (0, .ref o0), (1, .int p1), (2, .int p2), (3, .int p3), (4, .int p4), (5, .int p5)]) hx hb dX12_aligns_223 hl (k := 3) rfl ex_716 (by decide) rfl (fun ls hl => ?_)
                              refine lv_goto (tgt := 32) hx hb dX12_aligns_226 (by decide) ?_
                              exact ih_hloop_656 x_716 (by constructor <;> omega) f_709 hG _ _ hP hS hD hfr0 hfo_712 (by omega) ls (lv_sub hl [0, 4, 5, 6, 7, 8, 9] rfl)
                            · skip
                              rw [← Int32.toInt_inj, ti_0] at c_715
                              refine lv_aload_n hx hb dX12_aligns_172 rfl (lv_at hl 4 rfl) ?_
                              refine lv_iload hx hb dX12_aligns_173 (lv_at hl 2 rfl) ?_
                              refine lv_if_ne (tgt := 182) hx hb dX12_aligns_175 (by decide) (fun c_717 => ?_) (fun c_717 => ?_)
                              · skip
                                rw [← Int32.toInt_inj, ti_0] at c_717
                                exfalso
                                omega
                              · skip
                                rw [← Int32.toInt_inj, ti_0] at c_717
                                refine lv_iload_n hx hb dX12_aligns_178 rfl (lv_at hl 5 rfl) ?_
                                refine lv_goto (tgt := 185) hx hb dX12_aligns_179 (by decide) ?_
                                refine lv_iload hx hb dX12_aligns_185 (lv_at hl 1 rfl) ?_
                                refine lv_if_ne (tgt := 194) hx hb dX12_aligns_187 (by decide) (fun c_718 => ?_) (fun c_718 => ?_)
                                · skip
                                  rw [← Int32.toInt_inj, ti_0] at c_718
                                  refine lv_iload_n hx hb dX12_aligns_194 rfl (lv_at hl 6 rfl) ?_
                                  refine lv_iconst (v := 1) hx hb dX12_aligns_195 (by decide) ?_
                                  refine lv_iadd hx hb dX12_aligns_196 ?_
                                  refine lv_topi (fun x_719 ex_719 => ?_)
                                  have hx_719 : x_719.toInt = p2.toInt + 1 := by rw [ex_719, ad_I (by rw [ti_1]; omega) (by rw [ti_1]; omega), ti_1]
                                  have bx_719 : (1 ≤ x_719.toInt ∧ x_719.toInt ≤ 8) := by constructor <;> omega
                                  refine lv_iload hx hb dX12_aligns_197 (lv_at hl 0 rfl) ?_
                                  refine lv_if_eq (tgt := 208) hx hb dX12_aligns_199 (by decide) (fun c_720 => ?_) (fun c_720 => ?_)
                                  · skip
                                    rw [← Int32.toInt_inj, ti_0] at c_720
                                    refine lv_iload_n hx hb dX12_aligns_208 rfl (lv_at hl 7 rfl) ?_
                                    refine lv_iload hx hb dX12_aligns_209 (lv_at hl 8 rfl) ?_
                                    refine lv_iconst (v := 1) hx hb dX12_aligns_211 (by decide) ?_
                                    refine lv_iadd hx hb dX12_aligns_212 ?_
                                    refine lv_topi (fun x_721 ex_721 => ?_)
                                    have hx_721 : x_721.toInt = p4.toInt + 1 := by rw [ex_721, ad_I (by rw [ti_1]; omega) (by rw [ti_1]; omega), ti_1]
                                    have bx_721 : (1 ≤ x_721.toInt ∧ x_721.toInt ≤ 14) := by constructor <;> omega
                                    have hclc_722 : (1 ≤ x_721.toInt ∧ x_721.toInt ≤ 13) := by constructor <;> omega
                                    refine lv_iload hx hb dX12_aligns_213 (lv_at hl 9 rfl) ?_
                                    refine tk_ViP (As := [.int p1, .int x_719, .int p3, .int x_721, .int p5]) (rest := []) (n := 5) hx hb hml hown hU hN hZ (ih_rec f_709 hG o0 mo0 ko0 p1 (by constructor <;> omega) x_719 (by constructor <;> omega) p3 (by constructor <;> omega) x_721 (by constructor <;> omega) p5 (by intro w23 w35 e23 e35; rw [hfo_712] at e23 e35; obtain rfl := Option.some.inj e23; obtain rfl := Option.some.inj e35; omega) (by omega) (by omega)) wd_1054 wd_1055 wd_1056 wd_5 wd_1057 (by decide +kernel) ⟨(show (5 + n_) + 1 ≤ 5 + (n_ + 1) by omega), (show 8 + (10 + 11) + (129 + n_ * 29) ≤ 129 + (n_ + 1) * 29 by omega)⟩ hK hP hD hS mo0 hfo_712 12 rfl rfl rfl hl.1 rfl (Nat.le_of_ble_eq_true rfl) dX12_aligns_215 ⟨Nat.le_of_ble_eq_true rfl, Nat.le_of_ble_eq_true rfl⟩ (fun x_723 f_724 H locs hw hP hD hS => ?_)
                                    obtain ⟨hG, bx_723, hkc_725⟩ := hw
                                    have hfo_727 : f_724 o0 = .inr (12, [.ref a_1, .ref a_2, .ref a_3, .int v_4, .ref a_5, .int v_6, .int v_7, .int v_8, .int v_9, .int v_10, .int v_11, .int v_12, .int v_13, .int v_14, .int v_15, .ref a_16, .ref a_17, .ref a_18, .ref a_19, .ref a_20, .ref a_21, .ref a_22, .ref a_23, .int v_24, .int v_25, .int v_26, .int v_27, .int v_28, .ref a_29, .int v_30, .ref a_31, .ref a_32, .int v_33, .int v_34, .ref a_35, .int v_36, .ref a_37, .ref a_38, .int v_39, .int v_40, .ref a_41, .ref a_42, .ref a_43, .int v_44, .ref a_45, .ref a_46, .ref a_47, .ref a_48, .ref a_49, .ref a_50, .ref a_51, .ref a_52, .ref a_53, .int v_54, .int v_55, .ref a_56]) := by rw [hkc_725 o0 (by rw [ko0]; decide) (by rw [ko0]; decide) (by rw [ko0]; decide) (by rw [ko0]; decide) (by rw [ko0]; decide) (by rw [ko0]; decide)]; exact hfo_712
                                    have hfo_728 : f_724 a_1 = .inl (cI, 1560, .inl g_662) := by rw [hkc_725 a_1 (by rw [ka_1]; decide) (by rw [ka_1]; decide) (by rw [ka_1]; decide) (by rw [ka_1]; decide) (by rw [ka_1]; decide) (by rw [ka_1]; decide)]; exact hfo_713
                                    have hfo_729 : f_724 a_35 = .inl (cI, 16, .inl g_703) := by rw [hkc_725 a_35 (by rw [ka_35]; decide) (by rw [ka_35]; decide) (by rw [ka_35]; decide) (by rw [ka_35]; decide) (by rw [ka_35]; decide) (by rw [ka_35]; decide)]; exact hfo_714
                                    have hfr0 : ∀ b, kd b ≠ 579 → kd b ≠ 581 → kd b ≠ 583 → kd b ≠ 585 → kd b ≠ 587 → kd b ≠ 588 → f_724 b = f b := fun b q579 q581 q583 q585 q587 q588 => (hkc_725 b q579 q581 q583 q585 q587 q588).trans (hfr0 b q579 q581 q583 q585 q587 q588)
                                    refine lv_if_eq (tgt := 223) hx hb dX12_aligns_218 (by decide) (fun c_730 => ?_) (fun c_730 => ?_)
                                    · skip
                                      rw [← Int32.toInt_inj, ti_0] at c_730
                                      obtain ⟨x_731, ex_731⟩ : ∃ y : Int32, y_657 + 1 = y := ⟨_, rfl⟩
                                      have hx_731 : x_731.toInt = y_657.toInt + 1 := by rw [← ex_731, ad_I (by rw [ti_1]; omega) (by rw [ti_1]; omega), ti_1]
                                      have bx_731 : (1 ≤ x_731.toInt ∧ x_731.toInt ≤ 20) := by constructor <;> omega
                                      refine lv_iinc (v := x_731) (lv' := [(6, .int x_731), (9, .int y_671), (8, .int x_670), (7, .int x_667), (0, .ref o0), (1, .int p1), (2, .int p2), (3, .int p3), (4, .int p4), (5, .int p5)]) hx hb dX12_aligns_223 hl (k := 3) rfl ex_731 (by decide) rfl (fun ls hl => ?_)
                                      refine lv_goto (tgt := 32) hx hb dX12_aligns_226 (by decide) ?_
                                      exact ih_hloop_656 x_731 (by constructor <;> omega) f_724 hG _ _ hP hS hD hfr0 hfo_727 (by omega) ls (lv_sub hl [0, 4, 5, 6, 7, 8, 9] rfl)
                                    · skip
                                      rw [← Int32.toInt_inj, ti_0] at c_730
                                      refine lv_iconst (v := 1) hx hb dX12_aligns_221 (by decide) ?_
                                      exact W.zret (v := 1) (ty := .boolean) hx hb hr rfl (fun t ht hW => ⟨⟨1, f_724, rfl, ⟨hG, (by decide), hfr0⟩, by rw [ht]; exact hP, va_K.moved hW.alike hK, pl_in hD⟩, hS.F ht⟩) hS.2.2 dX12_aligns_222
                                  · skip
                                    rw [← Int32.toInt_inj, ti_0] at c_720
                                    exfalso
                                    omega
                                · skip
                                  rw [← Int32.toInt_inj, ti_0] at c_718
                                  exfalso
                                  omega
                          · skip
                            rw [← Int32.toInt_inj] at c_705
                            refine lv_goto (tgt := 223) hx hb dX12_aligns_148 (by decide) ?_
                            obtain ⟨x_732, ex_732⟩ : ∃ y : Int32, y_657 + 1 = y := ⟨_, rfl⟩
                            have hx_732 : x_732.toInt = y_657.toInt + 1 := by rw [← ex_732, ad_I (by rw [ti_1]; omega) (by rw [ti_1]; omega), ti_1]
                            have bx_732 : (1 ≤ x_732.toInt ∧ x_732.toInt ≤ 20) := by constructor <;> omega
                            refine lv_iinc (v := x_732) (lv' := [(6, .int x_732), (9, .int y_671), (8, .int x_670), (7, .int x_667), (0, .ref o0), (1, .int p1), (2, .int p2), (3, .int p3), (4, .int p4), (5, .int p5)]) hx hb dX12_aligns_223 hl (k := 3) rfl ex_732 (by decide) rfl (fun ls hl => ?_)
                            refine lv_goto (tgt := 32) hx hb dX12_aligns_226 (by decide) ?_
                            exact ih_hloop_656 x_732 (by constructor <;> omega) f_659 hG _ _ hP hS hD hfr0 hfo_660 (by omega) ls (lv_sub hl [0, 4, 5, 6, 7, 8, 9] rfl)
                    · skip
                      rw [← Int32.toInt_inj, ti_0] at c_674
                      refine lv_iload_n hx hb dX12_aligns_105 rfl (lv_at hl 5 rfl) ?_
                      refine lv_aload_n hx hb dX12_aligns_106 rfl (lv_at hl 4 rfl) ?_
                      refine tk_getP (D := (dC, dI)) (ci := 12) (v := .int v_24) (C := RX12) (T := TX12) (N := 56) hx hb hU inlX12 hown hK hP mo0 hfo_660 rfl 23 (by decide) (hU _ wd_867) (fun _ h9 => h9) rfl dX12_aligns_107 ?_
                      refine lv_icmp_eq (tgt := 223) hx hb dX12_aligns_110 (by decide) (fun c_733 => ?_) (fun c_733 => ?_)
                      · skip
                        rw [← Int32.toInt_inj] at c_733
                        obtain ⟨x_734, ex_734⟩ : ∃ y : Int32, y_657 + 1 = y := ⟨_, rfl⟩
                        have hx_734 : x_734.toInt = y_657.toInt + 1 := by rw [← ex_734, ad_I (by rw [ti_1]; omega) (by rw [ti_1]; omega), ti_1]
                        have bx_734 : (1 ≤ x_734.toInt ∧ x_734.toInt ≤ 20) := by constructor <;> omega
                        refine lv_iinc (v := x_734) (lv' := [(6, .int x_734), (9, .int y_671), (8, .int x_670), (7, .int x_667), (0, .ref o0), (1, .int p1), (2, .int p2), (3, .int p3), (4, .int p4), (5, .int p5)]) hx hb dX12_aligns_223 hl (k := 3) rfl ex_734 (by decide) rfl (fun ls hl => ?_)
                        refine lv_goto (tgt := 32) hx hb dX12_aligns_226 (by decide) ?_
                        exact ih_hloop_656 x_734 (by constructor <;> omega) f_659 hG _ _ hP hS hD hfr0 hfo_660 (by omega) ls (lv_sub hl [0, 4, 5, 6, 7, 8, 9] rfl)
                      · skip
                        rw [← Int32.toInt_inj] at c_733
                        have hclc_735 : (0 ≤ p1.toInt ∧ p1.toInt ≤ 11) := by constructor <;> omega
                        refine lv_aload_n hx hb dX12_aligns_113 rfl (lv_at hl 4 rfl) ?_
                        refine tk_getP (D := (dC, dI)) (ci := 12) (v := .ref a_22) (C := RX12) (T := TX12) (N := 56) hx hb hU inlX12 hown hK hP mo0 hfo_660 rfl 21 (by decide) (hU _ wd_181) (fun _ h9 => h9) rfl dX12_aligns_114 ?_
                        refine lv_iload_n hx hb dX12_aligns_117 rfl (lv_at hl 5 rfl) ?_
                        obtain ⟨g_737, hfo_736, hbg_737⟩ := un_589 (hG _ ma_22) ka_22
                        refine tk_ildP hx hb hK hP 0 ma_22 hfo_736 rfl (vp_in_iff.mpr (by constructor <;> omega)) dX12_aligns_118 ?_
                        refine lv_topi (fun x_738 ex_738 => ?_)
                        have bx_738 : (0 ≤ x_738.toInt ∧ x_738.toInt ≤ 8) := by rw [ex_738]; exact hbg_737 _
                        refine lv_iload hx hb dX12_aligns_119 (lv_at hl 2 rfl) ?_
                        refine lv_icmp_ne (tgt := 223) hx hb dX12_aligns_121 (by decide) (fun c_739 => ?_) (fun c_739 => ?_)
                        · skip
                          rw [← Int32.toInt_inj] at c_739
                          obtain ⟨x_740, ex_740⟩ : ∃ y : Int32, y_657 + 1 = y := ⟨_, rfl⟩
                          have hx_740 : x_740.toInt = y_657.toInt + 1 := by rw [← ex_740, ad_I (by rw [ti_1]; omega) (by rw [ti_1]; omega), ti_1]
                          have bx_740 : (1 ≤ x_740.toInt ∧ x_740.toInt ≤ 20) := by constructor <;> omega
                          refine lv_iinc (v := x_740) (lv' := [(6, .int x_740), (9, .int y_671), (8, .int x_670), (7, .int x_667), (0, .ref o0), (1, .int p1), (2, .int p2), (3, .int p3), (4, .int p4), (5, .int p5)]) hx hb dX12_aligns_223 hl (k := 3) rfl ex_740 (by decide) rfl (fun ls hl => ?_)
                          refine lv_goto (tgt := 32) hx hb dX12_aligns_226 (by decide) ?_
                          exact ih_hloop_656 x_740 (by constructor <;> omega) f_659 hG _ _ hP hS hD hfr0 hfo_660 (by omega) ls (lv_sub hl [0, 4, 5, 6, 7, 8, 9] rfl)
                        · skip
                          rw [← Int32.toInt_inj] at c_739
                          refine lv_iload hx hb dX12_aligns_124 (lv_at hl 1 rfl) ?_
                          refine lv_if_eq (tgt := 151) hx hb dX12_aligns_126 (by decide) (fun c_741 => ?_) (fun c_741 => ?_)
                          · skip
                            rw [← Int32.toInt_inj, ti_0] at c_741
                            refine lv_aload_n hx hb dX12_aligns_151 rfl (lv_at hl 4 rfl) ?_
                            refine lv_iload hx hb dX12_aligns_152 (lv_at hl 8 rfl) ?_
                            refine lv_aload_n hx hb dX12_aligns_154 rfl (lv_at hl 4 rfl) ?_
                            refine tk_getP (D := (dC, dI)) (ci := 12) (v := .ref a_1) (C := RX12) (T := TX12) (N := 56) hx hb hU inlX12 hown hK hP mo0 hfo_660 rfl 0 (by decide) (hU _ wd_169) (fun _ h9 => h9) rfl dX12_aligns_155 ?_
                            refine lv_bipush (v := 20) hx hb dX12_aligns_158 (by decide) ?_
                            refine lv_iload hx hb dX12_aligns_160 (lv_at hl 3 rfl) ?_
                            refine lv_iadd hx hb dX12_aligns_162 ?_
                            refine lv_topi (fun x_742 ex_742 => ?_)
                            have hx_742 : x_742.toInt = 20 + y_657.toInt := by rw [ex_742, ad_I (by rw [ti_20]; omega) (by rw [ti_20]; omega), ti_20]
                            have bx_742 : (20 ≤ x_742.toInt ∧ x_742.toInt ≤ 39) := by constructor <;> omega
                            refine tk_ildP hx hb hK hP 0 ma_1 hfo_661 rfl (vp_in_iff.mpr (by constructor <;> omega)) dX12_aligns_163 ?_
                            refine lv_topi (fun x_743 ex_743 => ?_)
                            have bx_743 : (0 ≤ x_743.toInt ∧ x_743.toInt ≤ 80) := by have hc9 := cl_I (i := x_742) (by omega); rw [ex_743]; exact hbg_662.2.2.2.2.2.1 _ (by omega) (by omega) (by omega)
                            refine lv_iload hx hb dX12_aligns_164 (lv_at hl 9 rfl) ?_
                            refine tk_ViP (As := [.int p4, .int x_743, .int p5]) (rest := []) (n := 3) hx hb hml hown hU hN hZ (s_X12_reads_k12 l (dC, dI) cI cL cZ cR cG cH Z kd L f_659 hG o0 mo0 ko0 p4 (by constructor <;> omega) x_743 p5) wd_950 wd_951 wd_952 wd_5 wd_953 (by decide +kernel) ⟨(show 4 + 1 ≤ 5 + (n_ + 1) by omega), (show 8 + (5 + 11) + 105 ≤ 129 + (n_ + 1) * 29 by omega)⟩ hK hP hD hS mo0 hfo_660 12 rfl rfl rfl hl.1 rfl (Nat.le_of_ble_eq_true rfl) dX12_aligns_166 ⟨Nat.le_of_ble_eq_true rfl, Nat.le_of_ble_eq_true rfl⟩ (fun x_744 f_745 H locs hw hP hD hS => ?_)
                            obtain ⟨hG, bx_744, hkc_746⟩ := hw
                            have hfo_748 : f_745 o0 = .inr (12, [.ref a_1, .ref a_2, .ref a_3, .int v_4, .ref a_5, .int v_6, .int v_7, .int v_8, .int v_9, .int v_10, .int v_11, .int v_12, .int v_13, .int v_14, .int v_15, .ref a_16, .ref a_17, .ref a_18, .ref a_19, .ref a_20, .ref a_21, .ref a_22, .ref a_23, .int v_24, .int v_25, .int v_26, .int v_27, .int v_28, .ref a_29, .int v_30, .ref a_31, .ref a_32, .int v_33, .int v_34, .ref a_35, .int v_36, .ref a_37, .ref a_38, .int v_39, .int v_40, .ref a_41, .ref a_42, .ref a_43, .int v_44, .ref a_45, .ref a_46, .ref a_47, .ref a_48, .ref a_49, .ref a_50, .ref a_51, .ref a_52, .ref a_53, .int v_54, .int v_55, .ref a_56]) := by rw [hkc_746 o0 (by rw [ko0]; decide) (by rw [ko0]; decide) (by rw [ko0]; decide) (by rw [ko0]; decide) (by rw [ko0]; decide) (by rw [ko0]; decide)]; exact hfo_660
                            have hfo_749 : f_745 a_1 = .inl (cI, 1560, .inl g_662) := by rw [hkc_746 a_1 (by rw [ka_1]; decide) (by rw [ka_1]; decide) (by rw [ka_1]; decide) (by rw [ka_1]; decide) (by rw [ka_1]; decide) (by rw [ka_1]; decide)]; exact hfo_661
                            have hfo_750 : f_745 a_22 = .inl (cI, 16, .inl g_737) := by rw [hkc_746 a_22 (by rw [ka_22]; decide) (by rw [ka_22]; decide) (by rw [ka_22]; decide) (by rw [ka_22]; decide) (by rw [ka_22]; decide) (by rw [ka_22]; decide)]; exact hfo_736
                            have hfr0 : ∀ b, kd b ≠ 579 → kd b ≠ 581 → kd b ≠ 583 → kd b ≠ 585 → kd b ≠ 587 → kd b ≠ 588 → f_745 b = f b := fun b q579 q581 q583 q585 q587 q588 => (hkc_746 b q579 q581 q583 q585 q587 q588).trans (hfr0 b q579 q581 q583 q585 q587 q588)
                            refine lv_if_eq (tgt := 223) hx hb dX12_aligns_169 (by decide) (fun c_751 => ?_) (fun c_751 => ?_)
                            · skip
                              rw [← Int32.toInt_inj, ti_0] at c_751
                              obtain ⟨x_752, ex_752⟩ : ∃ y : Int32, y_657 + 1 = y := ⟨_, rfl⟩
                              have hx_752 : x_752.toInt = y_657.toInt + 1 := by rw [← ex_752, ad_I (by rw [ti_1]; omega) (by rw [ti_1]; omega), ti_1]
                              have bx_752 : (1 ≤ x_752.toInt ∧ x_752.toInt ≤ 20) := by constructor <;> omega
                              refine lv_iinc (v := x_752) (lv' := [(6, .int x_752), (9, .int y_671), (8, .int x_670), (7, .int x_667), (0, .ref o0), (1, .int p1), (2, .int p2), (3, .int p3), (4, .int p4), (5, .int p5)]) hx hb dX12_aligns_223 hl (k := 3) rfl ex_752 (by decide) rfl (fun ls hl => ?_)
                              refine lv_goto (tgt := 32) hx hb dX12_aligns_226 (by decide) ?_
                              exact ih_hloop_656 x_752 (by constructor <;> omega) f_745 hG _ _ hP hS hD hfr0 hfo_748 (by omega) ls (lv_sub hl [0, 4, 5, 6, 7, 8, 9] rfl)
                            · skip
                              rw [← Int32.toInt_inj, ti_0] at c_751
                              refine lv_aload_n hx hb dX12_aligns_172 rfl (lv_at hl 4 rfl) ?_
                              refine lv_iload hx hb dX12_aligns_173 (lv_at hl 2 rfl) ?_
                              refine lv_if_ne (tgt := 182) hx hb dX12_aligns_175 (by decide) (fun c_753 => ?_) (fun c_753 => ?_)
                              · skip
                                rw [← Int32.toInt_inj, ti_0] at c_753
                                refine lv_iload_n hx hb dX12_aligns_182 rfl (lv_at hl 5 rfl) ?_
                                refine lv_iconst (v := 1) hx hb dX12_aligns_183 (by decide) ?_
                                refine lv_iadd hx hb dX12_aligns_184 ?_
                                refine lv_topi (fun x_754 ex_754 => ?_)
                                have hx_754 : x_754.toInt = p1.toInt + 1 := by rw [ex_754, ad_I (by rw [ti_1]; omega) (by rw [ti_1]; omega), ti_1]
                                have bx_754 : (1 ≤ x_754.toInt ∧ x_754.toInt ≤ 12) := by constructor <;> omega
                                refine lv_iload hx hb dX12_aligns_185 (lv_at hl 1 rfl) ?_
                                refine lv_if_ne (tgt := 194) hx hb dX12_aligns_187 (by decide) (fun c_755 => ?_) (fun c_755 => ?_)
                                · skip
                                  rw [← Int32.toInt_inj, ti_0] at c_755
                                  exfalso
                                  omega
                                · skip
                                  rw [← Int32.toInt_inj, ti_0] at c_755
                                  refine lv_iload_n hx hb dX12_aligns_190 rfl (lv_at hl 6 rfl) ?_
                                  refine lv_goto (tgt := 197) hx hb dX12_aligns_191 (by decide) ?_
                                  refine lv_iload hx hb dX12_aligns_197 (lv_at hl 0 rfl) ?_
                                  refine lv_if_eq (tgt := 208) hx hb dX12_aligns_199 (by decide) (fun c_756 => ?_) (fun c_756 => ?_)
                                  · skip
                                    rw [← Int32.toInt_inj, ti_0] at c_756
                                    refine lv_iload_n hx hb dX12_aligns_208 rfl (lv_at hl 7 rfl) ?_
                                    refine lv_iload hx hb dX12_aligns_209 (lv_at hl 8 rfl) ?_
                                    refine lv_iconst (v := 1) hx hb dX12_aligns_211 (by decide) ?_
                                    refine lv_iadd hx hb dX12_aligns_212 ?_
                                    refine lv_topi (fun x_757 ex_757 => ?_)
                                    have hx_757 : x_757.toInt = p4.toInt + 1 := by rw [ex_757, ad_I (by rw [ti_1]; omega) (by rw [ti_1]; omega), ti_1]
                                    have bx_757 : (1 ≤ x_757.toInt ∧ x_757.toInt ≤ 14) := by constructor <;> omega
                                    have hclc_758 : (1 ≤ x_757.toInt ∧ x_757.toInt ≤ 13) := by constructor <;> omega
                                    refine lv_iload hx hb dX12_aligns_213 (lv_at hl 9 rfl) ?_
                                    refine tk_ViP (As := [.int x_754, .int p2, .int p3, .int x_757, .int p5]) (rest := []) (n := 5) hx hb hml hown hU hN hZ (ih_rec f_745 hG o0 mo0 ko0 x_754 (by constructor <;> omega) p2 (by constructor <;> omega) p3 (by constructor <;> omega) x_757 (by constructor <;> omega) p5 (by intro w23 w35 e23 e35; rw [hfo_748] at e23 e35; obtain rfl := Option.some.inj e23; obtain rfl := Option.some.inj e35; omega) (by omega) (by omega)) wd_1054 wd_1055 wd_1056 wd_5 wd_1057 (by decide +kernel) ⟨(show (5 + n_) + 1 ≤ 5 + (n_ + 1) by omega), (show 8 + (10 + 11) + (129 + n_ * 29) ≤ 129 + (n_ + 1) * 29 by omega)⟩ hK hP hD hS mo0 hfo_748 12 rfl rfl rfl hl.1 rfl (Nat.le_of_ble_eq_true rfl) dX12_aligns_215 ⟨Nat.le_of_ble_eq_true rfl, Nat.le_of_ble_eq_true rfl⟩ (fun x_759 f_760 H locs hw hP hD hS => ?_)
                                    obtain ⟨hG, bx_759, hkc_761⟩ := hw
                                    have hfo_763 : f_760 o0 = .inr (12, [.ref a_1, .ref a_2, .ref a_3, .int v_4, .ref a_5, .int v_6, .int v_7, .int v_8, .int v_9, .int v_10, .int v_11, .int v_12, .int v_13, .int v_14, .int v_15, .ref a_16, .ref a_17, .ref a_18, .ref a_19, .ref a_20, .ref a_21, .ref a_22, .ref a_23, .int v_24, .int v_25, .int v_26, .int v_27, .int v_28, .ref a_29, .int v_30, .ref a_31, .ref a_32, .int v_33, .int v_34, .ref a_35, .int v_36, .ref a_37, .ref a_38, .int v_39, .int v_40, .ref a_41, .ref a_42, .ref a_43, .int v_44, .ref a_45, .ref a_46, .ref a_47, .ref a_48, .ref a_49, .ref a_50, .ref a_51, .ref a_52, .ref a_53, .int v_54, .int v_55, .ref a_56]) := by rw [hkc_761 o0 (by rw [ko0]; decide) (by rw [ko0]; decide) (by rw [ko0]; decide) (by rw [ko0]; decide) (by rw [ko0]; decide) (by rw [ko0]; decide)]; exact hfo_748
                                    have hfo_764 : f_760 a_1 = .inl (cI, 1560, .inl g_662) := by rw [hkc_761 a_1 (by rw [ka_1]; decide) (by rw [ka_1]; decide) (by rw [ka_1]; decide) (by rw [ka_1]; decide) (by rw [ka_1]; decide) (by rw [ka_1]; decide)]; exact hfo_749
                                    have hfo_765 : f_760 a_22 = .inl (cI, 16, .inl g_737) := by rw [hkc_761 a_22 (by rw [ka_22]; decide) (by rw [ka_22]; decide) (by rw [ka_22]; decide) (by rw [ka_22]; decide) (by rw [ka_22]; decide) (by rw [ka_22]; decide)]; exact hfo_750
                                    have hfr0 : ∀ b, kd b ≠ 579 → kd b ≠ 581 → kd b ≠ 583 → kd b ≠ 585 → kd b ≠ 587 → kd b ≠ 588 → f_760 b = f b := fun b q579 q581 q583 q585 q587 q588 => (hkc_761 b q579 q581 q583 q585 q587 q588).trans (hfr0 b q579 q581 q583 q585 q587 q588)
                                    refine lv_if_eq (tgt := 223) hx hb dX12_aligns_218 (by decide) (fun c_766 => ?_) (fun c_766 => ?_)
                                    · skip
                                      rw [← Int32.toInt_inj, ti_0] at c_766
                                      obtain ⟨x_767, ex_767⟩ : ∃ y : Int32, y_657 + 1 = y := ⟨_, rfl⟩
                                      have hx_767 : x_767.toInt = y_657.toInt + 1 := by rw [← ex_767, ad_I (by rw [ti_1]; omega) (by rw [ti_1]; omega), ti_1]
                                      have bx_767 : (1 ≤ x_767.toInt ∧ x_767.toInt ≤ 20) := by constructor <;> omega
                                      refine lv_iinc (v := x_767) (lv' := [(6, .int x_767), (9, .int y_671), (8, .int x_670), (7, .int x_667), (0, .ref o0), (1, .int p1), (2, .int p2), (3, .int p3), (4, .int p4), (5, .int p5)]) hx hb dX12_aligns_223 hl (k := 3) rfl ex_767 (by decide) rfl (fun ls hl => ?_)
                                      refine lv_goto (tgt := 32) hx hb dX12_aligns_226 (by decide) ?_
                                      exact ih_hloop_656 x_767 (by constructor <;> omega) f_760 hG _ _ hP hS hD hfr0 hfo_763 (by omega) ls (lv_sub hl [0, 4, 5, 6, 7, 8, 9] rfl)
                                    · skip
                                      rw [← Int32.toInt_inj, ti_0] at c_766
                                      refine lv_iconst (v := 1) hx hb dX12_aligns_221 (by decide) ?_
                                      exact W.zret (v := 1) (ty := .boolean) hx hb hr rfl (fun t ht hW => ⟨⟨1, f_760, rfl, ⟨hG, (by decide), hfr0⟩, by rw [ht]; exact hP, va_K.moved hW.alike hK, pl_in hD⟩, hS.F ht⟩) hS.2.2 dX12_aligns_222
                                  · skip
                                    rw [← Int32.toInt_inj, ti_0] at c_756
                                    exfalso
                                    omega
                              · skip
                                rw [← Int32.toInt_inj, ti_0] at c_753
                                exfalso
                                omega
                          · skip
                            rw [← Int32.toInt_inj, ti_0] at c_741
                            refine lv_iload_n hx hb dX12_aligns_129 rfl (lv_at hl 6 rfl) ?_
                            refine lv_aload_n hx hb dX12_aligns_130 rfl (lv_at hl 4 rfl) ?_
                            refine tk_getP (D := (dC, dI)) (ci := 12) (v := .int v_36) (C := RX12) (T := TX12) (N := 56) hx hb hU inlX12 hown hK hP mo0 hfo_660 rfl 35 (by decide) (hU _ wd_1049) (fun _ h9 => h9) rfl dX12_aligns_131 ?_
                            refine lv_icmp_eq (tgt := 223) hx hb dX12_aligns_134 (by decide) (fun c_768 => ?_) (fun c_768 => ?_)
                            · skip
                              rw [← Int32.toInt_inj] at c_768
                              obtain ⟨x_769, ex_769⟩ : ∃ y : Int32, y_657 + 1 = y := ⟨_, rfl⟩
                              have hx_769 : x_769.toInt = y_657.toInt + 1 := by rw [← ex_769, ad_I (by rw [ti_1]; omega) (by rw [ti_1]; omega), ti_1]
                              have bx_769 : (1 ≤ x_769.toInt ∧ x_769.toInt ≤ 20) := by constructor <;> omega
                              refine lv_iinc (v := x_769) (lv' := [(6, .int x_769), (9, .int y_671), (8, .int x_670), (7, .int x_667), (0, .ref o0), (1, .int p1), (2, .int p2), (3, .int p3), (4, .int p4), (5, .int p5)]) hx hb dX12_aligns_223 hl (k := 3) rfl ex_769 (by decide) rfl (fun ls hl => ?_)
                              refine lv_goto (tgt := 32) hx hb dX12_aligns_226 (by decide) ?_
                              exact ih_hloop_656 x_769 (by constructor <;> omega) f_659 hG _ _ hP hS hD hfr0 hfo_660 (by omega) ls (lv_sub hl [0, 4, 5, 6, 7, 8, 9] rfl)
                            · skip
                              rw [← Int32.toInt_inj] at c_768
                              have hclc_770 : (0 ≤ p2.toInt ∧ p2.toInt ≤ 7) := by constructor <;> omega
                              refine lv_aload_n hx hb dX12_aligns_137 rfl (lv_at hl 4 rfl) ?_
                              refine tk_getP (D := (dC, dI)) (ci := 12) (v := .ref a_35) (C := RX12) (T := TX12) (N := 56) hx hb hU inlX12 hown hK hP mo0 hfo_660 rfl 34 (by decide) (hU _ wd_186) (fun _ h9 => h9) rfl dX12_aligns_138 ?_
                              refine lv_iload_n hx hb dX12_aligns_141 rfl (lv_at hl 6 rfl) ?_
                              obtain ⟨g_772, hfo_771, hbg_772⟩ := un_594 (hG _ ma_35) ka_35
                              refine tk_ildP hx hb hK hP 0 ma_35 hfo_771 rfl (vp_in_iff.mpr (by constructor <;> omega)) dX12_aligns_142 ?_
                              refine lv_topi (fun x_773 ex_773 => ?_)
                              have bx_773 : (0 ≤ x_773.toInt ∧ x_773.toInt ≤ 8) := by rw [ex_773]; exact hbg_772 _
                              refine lv_iload hx hb dX12_aligns_143 (lv_at hl 1 rfl) ?_
                              refine lv_icmp_eq (tgt := 151) hx hb dX12_aligns_145 (by decide) (fun c_774 => ?_) (fun c_774 => ?_)
                              · skip
                                rw [← Int32.toInt_inj] at c_774
                                refine lv_aload_n hx hb dX12_aligns_151 rfl (lv_at hl 4 rfl) ?_
                                refine lv_iload hx hb dX12_aligns_152 (lv_at hl 8 rfl) ?_
                                refine lv_aload_n hx hb dX12_aligns_154 rfl (lv_at hl 4 rfl) ?_
                                refine tk_getP (D := (dC, dI)) (ci := 12) (v := .ref a_1) (C := RX12) (T := TX12) (N := 56) hx hb hU inlX12 hown hK hP mo0 hfo_660 rfl 0 (by decide) (hU _ wd_169) (fun _ h9 => h9) rfl dX12_aligns_155 ?_
                                refine lv_bipush (v := 20) hx hb dX12_aligns_158 (by decide) ?_
                                refine lv_iload hx hb dX12_aligns_160 (lv_at hl 3 rfl) ?_
                                refine lv_iadd hx hb dX12_aligns_162 ?_
                                refine lv_topi (fun x_775 ex_775 => ?_)
                                have hx_775 : x_775.toInt = 20 + y_657.toInt := by rw [ex_775, ad_I (by rw [ti_20]; omega) (by rw [ti_20]; omega), ti_20]
                                have bx_775 : (20 ≤ x_775.toInt ∧ x_775.toInt ≤ 39) := by constructor <;> omega
                                refine tk_ildP hx hb hK hP 0 ma_1 hfo_661 rfl (vp_in_iff.mpr (by constructor <;> omega)) dX12_aligns_163 ?_
                                refine lv_topi (fun x_776 ex_776 => ?_)
                                have bx_776 : (0 ≤ x_776.toInt ∧ x_776.toInt ≤ 80) := by have hc9 := cl_I (i := x_775) (by omega); rw [ex_776]; exact hbg_662.2.2.2.2.2.1 _ (by omega) (by omega) (by omega)
                                refine lv_iload hx hb dX12_aligns_164 (lv_at hl 9 rfl) ?_
                                refine tk_ViP (As := [.int p4, .int x_776, .int p5]) (rest := []) (n := 3) hx hb hml hown hU hN hZ (s_X12_reads_k12 l (dC, dI) cI cL cZ cR cG cH Z kd L f_659 hG o0 mo0 ko0 p4 (by constructor <;> omega) x_776 p5) wd_950 wd_951 wd_952 wd_5 wd_953 (by decide +kernel) ⟨(show 4 + 1 ≤ 5 + (n_ + 1) by omega), (show 8 + (5 + 11) + 105 ≤ 129 + (n_ + 1) * 29 by omega)⟩ hK hP hD hS mo0 hfo_660 12 rfl rfl rfl hl.1 rfl (Nat.le_of_ble_eq_true rfl) dX12_aligns_166 ⟨Nat.le_of_ble_eq_true rfl, Nat.le_of_ble_eq_true rfl⟩ (fun x_777 f_778 H locs hw hP hD hS => ?_)
                                obtain ⟨hG, bx_777, hkc_779⟩ := hw
                                have hfo_781 : f_778 o0 = .inr (12, [.ref a_1, .ref a_2, .ref a_3, .int v_4, .ref a_5, .int v_6, .int v_7, .int v_8, .int v_9, .int v_10, .int v_11, .int v_12, .int v_13, .int v_14, .int v_15, .ref a_16, .ref a_17, .ref a_18, .ref a_19, .ref a_20, .ref a_21, .ref a_22, .ref a_23, .int v_24, .int v_25, .int v_26, .int v_27, .int v_28, .ref a_29, .int v_30, .ref a_31, .ref a_32, .int v_33, .int v_34, .ref a_35, .int v_36, .ref a_37, .ref a_38, .int v_39, .int v_40, .ref a_41, .ref a_42, .ref a_43, .int v_44, .ref a_45, .ref a_46, .ref a_47, .ref a_48, .ref a_49, .ref a_50, .ref a_51, .ref a_52, .ref a_53, .int v_54, .int v_55, .ref a_56]) := by rw [hkc_779 o0 (by rw [ko0]; decide) (by rw [ko0]; decide) (by rw [ko0]; decide) (by rw [ko0]; decide) (by rw [ko0]; decide) (by rw [ko0]; decide)]; exact hfo_660
                                have hfo_782 : f_778 a_1 = .inl (cI, 1560, .inl g_662) := by rw [hkc_779 a_1 (by rw [ka_1]; decide) (by rw [ka_1]; decide) (by rw [ka_1]; decide) (by rw [ka_1]; decide) (by rw [ka_1]; decide) (by rw [ka_1]; decide)]; exact hfo_661
                                have hfo_783 : f_778 a_22 = .inl (cI, 16, .inl g_737) := by rw [hkc_779 a_22 (by rw [ka_22]; decide) (by rw [ka_22]; decide) (by rw [ka_22]; decide) (by rw [ka_22]; decide) (by rw [ka_22]; decide) (by rw [ka_22]; decide)]; exact hfo_736
                                have hfo_784 : f_778 a_35 = .inl (cI, 16, .inl g_772) := by rw [hkc_779 a_35 (by rw [ka_35]; decide) (by rw [ka_35]; decide) (by rw [ka_35]; decide) (by rw [ka_35]; decide) (by rw [ka_35]; decide) (by rw [ka_35]; decide)]; exact hfo_771
                                have hfr0 : ∀ b, kd b ≠ 579 → kd b ≠ 581 → kd b ≠ 583 → kd b ≠ 585 → kd b ≠ 587 → kd b ≠ 588 → f_778 b = f b := fun b q579 q581 q583 q585 q587 q588 => (hkc_779 b q579 q581 q583 q585 q587 q588).trans (hfr0 b q579 q581 q583 q585 q587 q588)
                                refine lv_if_eq (tgt := 223) hx hb dX12_aligns_169 (by decide) (fun c_785 => ?_) (fun c_785 => ?_)
                                · skip
                                  rw [← Int32.toInt_inj, ti_0] at c_785
                                  obtain ⟨x_786, ex_786⟩ : ∃ y : Int32, y_657 + 1 = y := ⟨_, rfl⟩
                                  have hx_786 : x_786.toInt = y_657.toInt + 1 := by rw [← ex_786, ad_I (by rw [ti_1]; omega) (by rw [ti_1]; omega), ti_1]
                                  have bx_786 : (1 ≤ x_786.toInt ∧ x_786.toInt ≤ 20) := by constructor <;> omega
                                  refine lv_iinc (v := x_786) (lv' := [(6, .int x_786), (9, .int y_671), (8, .int x_670), (7, .int x_667), (0, .ref o0), (1, .int p1), (2, .int p2), (3, .int p3), (4, .int p4), (5, .int p5)]) hx hb dX12_aligns_223 hl (k := 3) rfl ex_786 (by decide) rfl (fun ls hl => ?_)
                                  refine lv_goto (tgt := 32) hx hb dX12_aligns_226 (by decide) ?_
                                  exact ih_hloop_656 x_786 (by constructor <;> omega) f_778 hG _ _ hP hS hD hfr0 hfo_781 (by omega) ls (lv_sub hl [0, 4, 5, 6, 7, 8, 9] rfl)
                                · skip
                                  rw [← Int32.toInt_inj, ti_0] at c_785
                                  refine lv_aload_n hx hb dX12_aligns_172 rfl (lv_at hl 4 rfl) ?_
                                  refine lv_iload hx hb dX12_aligns_173 (lv_at hl 2 rfl) ?_
                                  refine lv_if_ne (tgt := 182) hx hb dX12_aligns_175 (by decide) (fun c_787 => ?_) (fun c_787 => ?_)
                                  · skip
                                    rw [← Int32.toInt_inj, ti_0] at c_787
                                    refine lv_iload_n hx hb dX12_aligns_182 rfl (lv_at hl 5 rfl) ?_
                                    refine lv_iconst (v := 1) hx hb dX12_aligns_183 (by decide) ?_
                                    refine lv_iadd hx hb dX12_aligns_184 ?_
                                    refine lv_topi (fun x_788 ex_788 => ?_)
                                    have hx_788 : x_788.toInt = p1.toInt + 1 := by rw [ex_788, ad_I (by rw [ti_1]; omega) (by rw [ti_1]; omega), ti_1]
                                    have bx_788 : (1 ≤ x_788.toInt ∧ x_788.toInt ≤ 12) := by constructor <;> omega
                                    refine lv_iload hx hb dX12_aligns_185 (lv_at hl 1 rfl) ?_
                                    refine lv_if_ne (tgt := 194) hx hb dX12_aligns_187 (by decide) (fun c_789 => ?_) (fun c_789 => ?_)
                                    · skip
                                      rw [← Int32.toInt_inj, ti_0] at c_789
                                      refine lv_iload_n hx hb dX12_aligns_194 rfl (lv_at hl 6 rfl) ?_
                                      refine lv_iconst (v := 1) hx hb dX12_aligns_195 (by decide) ?_
                                      refine lv_iadd hx hb dX12_aligns_196 ?_
                                      refine lv_topi (fun x_790 ex_790 => ?_)
                                      have hx_790 : x_790.toInt = p2.toInt + 1 := by rw [ex_790, ad_I (by rw [ti_1]; omega) (by rw [ti_1]; omega), ti_1]
                                      have bx_790 : (1 ≤ x_790.toInt ∧ x_790.toInt ≤ 8) := by constructor <;> omega
                                      refine lv_iload hx hb dX12_aligns_197 (lv_at hl 0 rfl) ?_
                                      refine lv_if_eq (tgt := 208) hx hb dX12_aligns_199 (by decide) (fun c_791 => ?_) (fun c_791 => ?_)
                                      · skip
                                        rw [← Int32.toInt_inj, ti_0] at c_791
                                        refine lv_iload_n hx hb dX12_aligns_208 rfl (lv_at hl 7 rfl) ?_
                                        refine lv_iload hx hb dX12_aligns_209 (lv_at hl 8 rfl) ?_
                                        refine lv_iconst (v := 1) hx hb dX12_aligns_211 (by decide) ?_
                                        refine lv_iadd hx hb dX12_aligns_212 ?_
                                        refine lv_topi (fun x_792 ex_792 => ?_)
                                        have hx_792 : x_792.toInt = p4.toInt + 1 := by rw [ex_792, ad_I (by rw [ti_1]; omega) (by rw [ti_1]; omega), ti_1]
                                        have bx_792 : (1 ≤ x_792.toInt ∧ x_792.toInt ≤ 14) := by constructor <;> omega
                                        have hclc_793 : (1 ≤ x_792.toInt ∧ x_792.toInt ≤ 13) := by constructor <;> omega
                                        refine lv_iload hx hb dX12_aligns_213 (lv_at hl 9 rfl) ?_
                                        refine tk_ViP (As := [.int x_788, .int x_790, .int p3, .int x_792, .int p5]) (rest := []) (n := 5) hx hb hml hown hU hN hZ (ih_rec f_778 hG o0 mo0 ko0 x_788 (by constructor <;> omega) x_790 (by constructor <;> omega) p3 (by constructor <;> omega) x_792 (by constructor <;> omega) p5 (by intro w23 w35 e23 e35; rw [hfo_781] at e23 e35; obtain rfl := Option.some.inj e23; obtain rfl := Option.some.inj e35; omega) (by omega) (by omega)) wd_1054 wd_1055 wd_1056 wd_5 wd_1057 (by decide +kernel) ⟨(show (5 + n_) + 1 ≤ 5 + (n_ + 1) by omega), (show 8 + (10 + 11) + (129 + n_ * 29) ≤ 129 + (n_ + 1) * 29 by omega)⟩ hK hP hD hS mo0 hfo_781 12 rfl rfl rfl hl.1 rfl (Nat.le_of_ble_eq_true rfl) dX12_aligns_215 ⟨Nat.le_of_ble_eq_true rfl, Nat.le_of_ble_eq_true rfl⟩ (fun x_794 f_795 H locs hw hP hD hS => ?_)
                                        obtain ⟨hG, bx_794, hkc_796⟩ := hw
                                        have hfo_798 : f_795 o0 = .inr (12, [.ref a_1, .ref a_2, .ref a_3, .int v_4, .ref a_5, .int v_6, .int v_7, .int v_8, .int v_9, .int v_10, .int v_11, .int v_12, .int v_13, .int v_14, .int v_15, .ref a_16, .ref a_17, .ref a_18, .ref a_19, .ref a_20, .ref a_21, .ref a_22, .ref a_23, .int v_24, .int v_25, .int v_26, .int v_27, .int v_28, .ref a_29, .int v_30, .ref a_31, .ref a_32, .int v_33, .int v_34, .ref a_35, .int v_36, .ref a_37, .ref a_38, .int v_39, .int v_40, .ref a_41, .ref a_42, .ref a_43, .int v_44, .ref a_45, .ref a_46, .ref a_47, .ref a_48, .ref a_49, .ref a_50, .ref a_51, .ref a_52, .ref a_53, .int v_54, .int v_55, .ref a_56]) := by rw [hkc_796 o0 (by rw [ko0]; decide) (by rw [ko0]; decide) (by rw [ko0]; decide) (by rw [ko0]; decide) (by rw [ko0]; decide) (by rw [ko0]; decide)]; exact hfo_781
                                        have hfo_799 : f_795 a_1 = .inl (cI, 1560, .inl g_662) := by rw [hkc_796 a_1 (by rw [ka_1]; decide) (by rw [ka_1]; decide) (by rw [ka_1]; decide) (by rw [ka_1]; decide) (by rw [ka_1]; decide) (by rw [ka_1]; decide)]; exact hfo_782
                                        have hfo_800 : f_795 a_22 = .inl (cI, 16, .inl g_737) := by rw [hkc_796 a_22 (by rw [ka_22]; decide) (by rw [ka_22]; decide) (by rw [ka_22]; decide) (by rw [ka_22]; decide) (by rw [ka_22]; decide) (by rw [ka_22]; decide)]; exact hfo_783
                                        have hfo_801 : f_795 a_35 = .inl (cI, 16, .inl g_772) := by rw [hkc_796 a_35 (by rw [ka_35]; decide) (by rw [ka_35]; decide) (by rw [ka_35]; decide) (by rw [ka_35]; decide) (by rw [ka_35]; decide) (by rw [ka_35]; decide)]; exact hfo_784
                                        have hfr0 : ∀ b, kd b ≠ 579 → kd b ≠ 581 → kd b ≠ 583 → kd b ≠ 585 → kd b ≠ 587 → kd b ≠ 588 → f_795 b = f b := fun b q579 q581 q583 q585 q587 q588 => (hkc_796 b q579 q581 q583 q585 q587 q588).trans (hfr0 b q579 q581 q583 q585 q587 q588)
                                        refine lv_if_eq (tgt := 223) hx hb dX12_aligns_218 (by decide) (fun c_802 => ?_) (fun c_802 => ?_)
                                        · skip
                                          rw [← Int32.toInt_inj, ti_0] at c_802
                                          obtain ⟨x_803, ex_803⟩ : ∃ y : Int32, y_657 + 1 = y := ⟨_, rfl⟩
                                          have hx_803 : x_803.toInt = y_657.toInt + 1 := by rw [← ex_803, ad_I (by rw [ti_1]; omega) (by rw [ti_1]; omega), ti_1]
                                          have bx_803 : (1 ≤ x_803.toInt ∧ x_803.toInt ≤ 20) := by constructor <;> omega
                                          refine lv_iinc (v := x_803) (lv' := [(6, .int x_803), (9, .int y_671), (8, .int x_670), (7, .int x_667), (0, .ref o0), (1, .int p1), (2, .int p2), (3, .int p3), (4, .int p4), (5, .int p5)]) hx hb dX12_aligns_223 hl (k := 3) rfl ex_803 (by decide) rfl (fun ls hl => ?_)
                                          refine lv_goto (tgt := 32) hx hb dX12_aligns_226 (by decide) ?_
                                          exact ih_hloop_656 x_803 (by constructor <;> omega) f_795 hG _ _ hP hS hD hfr0 hfo_798 (by omega) ls (lv_sub hl [0, 4, 5, 6, 7, 8, 9] rfl)
                                        · skip
                                          rw [← Int32.toInt_inj, ti_0] at c_802
                                          refine lv_iconst (v := 1) hx hb dX12_aligns_221 (by decide) ?_
                                          exact W.zret (v := 1) (ty := .boolean) hx hb hr rfl (fun t ht hW => ⟨⟨1, f_795, rfl, ⟨hG, (by decide), hfr0⟩, by rw [ht]; exact hP, va_K.moved hW.alike hK, pl_in hD⟩, hS.F ht⟩) hS.2.2 dX12_aligns_222
                                      · skip
                                        rw [← Int32.toInt_inj, ti_0] at c_791
                                        exfalso
                                        omega
                                    · skip
                                      rw [← Int32.toInt_inj, ti_0] at c_789
                                      exfalso
                                      omega
                                  · skip
                                    rw [← Int32.toInt_inj, ti_0] at c_787
                                    exfalso
                                    omega
                              · skip
                                rw [← Int32.toInt_inj] at c_774
                                refine lv_goto (tgt := 223) hx hb dX12_aligns_148 (by decide) ?_
                                obtain ⟨x_804, ex_804⟩ : ∃ y : Int32, y_657 + 1 = y := ⟨_, rfl⟩
                                have hx_804 : x_804.toInt = y_657.toInt + 1 := by rw [← ex_804, ad_I (by rw [ti_1]; omega) (by rw [ti_1]; omega), ti_1]
                                have bx_804 : (1 ≤ x_804.toInt ∧ x_804.toInt ≤ 20) := by constructor <;> omega
                                refine lv_iinc (v := x_804) (lv' := [(6, .int x_804), (9, .int y_671), (8, .int x_670), (7, .int x_667), (0, .ref o0), (1, .int p1), (2, .int p2), (3, .int p3), (4, .int p4), (5, .int p5)]) hx hb dX12_aligns_223 hl (k := 3) rfl ex_804 (by decide) rfl (fun ls hl => ?_)
                                refine lv_goto (tgt := 32) hx hb dX12_aligns_226 (by decide) ?_
                                exact ih_hloop_656 x_804 (by constructor <;> omega) f_659 hG _ _ hP hS hD hfr0 hfo_660 (by omega) ls (lv_sub hl [0, 4, 5, 6, 7, 8, 9] rfl)
                  · skip
                    rw [← Int32.toInt_inj, ti_0] at c_673
                    refine lv_iload_n hx hb dX12_aligns_96 rfl (lv_at hl 7 rfl) ?_
                    refine lv_if_eq (tgt := 223) hx hb dX12_aligns_97 (by decide) (fun c_805 => ?_) (fun c_805 => ?_)
                    · skip
                      rw [← Int32.toInt_inj, ti_0] at c_805
                      obtain ⟨x_806, ex_806⟩ : ∃ y : Int32, y_657 + 1 = y := ⟨_, rfl⟩
                      have hx_806 : x_806.toInt = y_657.toInt + 1 := by rw [← ex_806, ad_I (by rw [ti_1]; omega) (by rw [ti_1]; omega), ti_1]
                      have bx_806 : (1 ≤ x_806.toInt ∧ x_806.toInt ≤ 20) := by constructor <;> omega
                      refine lv_iinc (v := x_806) (lv' := [(6, .int x_806), (9, .int y_671), (8, .int x_670), (7, .int x_667), (0, .ref o0), (1, .int p1), (2, .int p2), (3, .int p3), (4, .int p4), (5, .int p5)]) hx hb dX12_aligns_223 hl (k := 3) rfl ex_806 (by decide) rfl (fun ls hl => ?_)
                      refine lv_goto (tgt := 32) hx hb dX12_aligns_226 (by decide) ?_
                      exact ih_hloop_656 x_806 (by constructor <;> omega) f_659 hG _ _ hP hS hD hfr0 hfo_660 (by omega) ls (lv_sub hl [0, 4, 5, 6, 7, 8, 9] rfl)
                    · skip
                      rw [← Int32.toInt_inj, ti_0] at c_805
                      refine lv_iload hx hb dX12_aligns_100 (lv_at hl 2 rfl) ?_
                      refine lv_if_eq (tgt := 124) hx hb dX12_aligns_102 (by decide) (fun c_807 => ?_) (fun c_807 => ?_)
                      · skip
                        rw [← Int32.toInt_inj, ti_0] at c_807
                        refine lv_iload hx hb dX12_aligns_124 (lv_at hl 1 rfl) ?_
                        refine lv_if_eq (tgt := 151) hx hb dX12_aligns_126 (by decide) (fun c_808 => ?_) (fun c_808 => ?_)
                        · skip
                          rw [← Int32.toInt_inj, ti_0] at c_808
                          refine lv_aload_n hx hb dX12_aligns_151 rfl (lv_at hl 4 rfl) ?_
                          refine lv_iload hx hb dX12_aligns_152 (lv_at hl 8 rfl) ?_
                          refine lv_aload_n hx hb dX12_aligns_154 rfl (lv_at hl 4 rfl) ?_
                          refine tk_getP (D := (dC, dI)) (ci := 12) (v := .ref a_1) (C := RX12) (T := TX12) (N := 56) hx hb hU inlX12 hown hK hP mo0 hfo_660 rfl 0 (by decide) (hU _ wd_169) (fun _ h9 => h9) rfl dX12_aligns_155 ?_
                          refine lv_bipush (v := 20) hx hb dX12_aligns_158 (by decide) ?_
                          refine lv_iload hx hb dX12_aligns_160 (lv_at hl 3 rfl) ?_
                          refine lv_iadd hx hb dX12_aligns_162 ?_
                          refine lv_topi (fun x_809 ex_809 => ?_)
                          have hx_809 : x_809.toInt = 20 + y_657.toInt := by rw [ex_809, ad_I (by rw [ti_20]; omega) (by rw [ti_20]; omega), ti_20]
                          have bx_809 : (20 ≤ x_809.toInt ∧ x_809.toInt ≤ 39) := by constructor <;> omega
                          refine tk_ildP hx hb hK hP 0 ma_1 hfo_661 rfl (vp_in_iff.mpr (by constructor <;> omega)) dX12_aligns_163 ?_
                          refine lv_topi (fun x_810 ex_810 => ?_)
                          have bx_810 : (0 ≤ x_810.toInt ∧ x_810.toInt ≤ 80) := by have hc9 := cl_I (i := x_809) (by omega); rw [ex_810]; exact hbg_662.2.2.2.2.2.1 _ (by omega) (by omega) (by omega)
                          refine lv_iload hx hb dX12_aligns_164 (lv_at hl 9 rfl) ?_
                          refine tk_ViP (As := [.int p4, .int x_810, .int p5]) (rest := []) (n := 3) hx hb hml hown hU hN hZ (s_X12_reads_k12 l (dC, dI) cI cL cZ cR cG cH Z kd L f_659 hG o0 mo0 ko0 p4 (by constructor <;> omega) x_810 p5) wd_950 wd_951 wd_952 wd_5 wd_953 (by decide +kernel) ⟨(show 4 + 1 ≤ 5 + (n_ + 1) by omega), (show 8 + (5 + 11) + 105 ≤ 129 + (n_ + 1) * 29 by omega)⟩ hK hP hD hS mo0 hfo_660 12 rfl rfl rfl hl.1 rfl (Nat.le_of_ble_eq_true rfl) dX12_aligns_166 ⟨Nat.le_of_ble_eq_true rfl, Nat.le_of_ble_eq_true rfl⟩ (fun x_811 f_812 H locs hw hP hD hS => ?_)
                          obtain ⟨hG, bx_811, hkc_813⟩ := hw
                          have hfo_815 : f_812 o0 = .inr (12, [.ref a_1, .ref a_2, .ref a_3, .int v_4, .ref a_5, .int v_6, .int v_7, .int v_8, .int v_9, .int v_10, .int v_11, .int v_12, .int v_13, .int v_14, .int v_15, .ref a_16, .ref a_17, .ref a_18, .ref a_19, .ref a_20, .ref a_21, .ref a_22, .ref a_23, .int v_24, .int v_25, .int v_26, .int v_27, .int v_28, .ref a_29, .int v_30, .ref a_31, .ref a_32, .int v_33, .int v_34, .ref a_35, .int v_36, .ref a_37, .ref a_38, .int v_39, .int v_40, .ref a_41, .ref a_42, .ref a_43, .int v_44, .ref a_45, .ref a_46, .ref a_47, .ref a_48, .ref a_49, .ref a_50, .ref a_51, .ref a_52, .ref a_53, .int v_54, .int v_55, .ref a_56]) := by rw [hkc_813 o0 (by rw [ko0]; decide) (by rw [ko0]; decide) (by rw [ko0]; decide) (by rw [ko0]; decide) (by rw [ko0]; decide) (by rw [ko0]; decide)]; exact hfo_660
                          have hfo_816 : f_812 a_1 = .inl (cI, 1560, .inl g_662) := by rw [hkc_813 a_1 (by rw [ka_1]; decide) (by rw [ka_1]; decide) (by rw [ka_1]; decide) (by rw [ka_1]; decide) (by rw [ka_1]; decide) (by rw [ka_1]; decide)]; exact hfo_661
                          have hfr0 : ∀ b, kd b ≠ 579 → kd b ≠ 581 → kd b ≠ 583 → kd b ≠ 585 → kd b ≠ 587 → kd b ≠ 588 → f_812 b = f b := fun b q579 q581 q583 q585 q587 q588 => (hkc_813 b q579 q581 q583 q585 q587 q588).trans (hfr0 b q579 q581 q583 q585 q587 q588)
                          refine lv_if_eq (tgt := 223) hx hb dX12_aligns_169 (by decide) (fun c_817 => ?_) (fun c_817 => ?_)
                          · skip
                            rw [← Int32.toInt_inj, ti_0] at c_817
                            obtain ⟨x_818, ex_818⟩ : ∃ y : Int32, y_657 + 1 = y := ⟨_, rfl⟩
                            have hx_818 : x_818.toInt = y_657.toInt + 1 := by rw [← ex_818, ad_I (by rw [ti_1]; omega) (by rw [ti_1]; omega), ti_1]
                            have bx_818 : (1 ≤ x_818.toInt ∧ x_818.toInt ≤ 20) := by constructor <;> omega
                            refine lv_iinc (v := x_818) (lv' := [(6, .int x_818), (9, .int y_671), (8, .int x_670), (7, .int x_667), (0, .ref o0), (1, .int p1), (2, .int p2), (3, .int p3), (4, .int p4), (5, .int p5)]) hx hb dX12_aligns_223 hl (k := 3) rfl ex_818 (by decide) rfl (fun ls hl => ?_)
                            refine lv_goto (tgt := 32) hx hb dX12_aligns_226 (by decide) ?_
                            exact ih_hloop_656 x_818 (by constructor <;> omega) f_812 hG _ _ hP hS hD hfr0 hfo_815 (by omega) ls (lv_sub hl [0, 4, 5, 6, 7, 8, 9] rfl)
                          · skip
                            rw [← Int32.toInt_inj, ti_0] at c_817
                            refine lv_aload_n hx hb dX12_aligns_172 rfl (lv_at hl 4 rfl) ?_
                            refine lv_iload hx hb dX12_aligns_173 (lv_at hl 2 rfl) ?_
                            refine lv_if_ne (tgt := 182) hx hb dX12_aligns_175 (by decide) (fun c_819 => ?_) (fun c_819 => ?_)
                            · skip
                              rw [← Int32.toInt_inj, ti_0] at c_819
                              exfalso
                              omega
                            · skip
                              rw [← Int32.toInt_inj, ti_0] at c_819
                              refine lv_iload_n hx hb dX12_aligns_178 rfl (lv_at hl 5 rfl) ?_
                              refine lv_goto (tgt := 185) hx hb dX12_aligns_179 (by decide) ?_
                              refine lv_iload hx hb dX12_aligns_185 (lv_at hl 1 rfl) ?_
                              refine lv_if_ne (tgt := 194) hx hb dX12_aligns_187 (by decide) (fun c_820 => ?_) (fun c_820 => ?_)
                              · skip
                                rw [← Int32.toInt_inj, ti_0] at c_820
                                exfalso
                                omega
                              · skip
                                rw [← Int32.toInt_inj, ti_0] at c_820
                                refine lv_iload_n hx hb dX12_aligns_190 rfl (lv_at hl 6 rfl) ?_
                                refine lv_goto (tgt := 197) hx hb dX12_aligns_191 (by decide) ?_
                                refine lv_iload hx hb dX12_aligns_197 (lv_at hl 0 rfl) ?_
                                refine lv_if_eq (tgt := 208) hx hb dX12_aligns_199 (by decide) (fun c_821 => ?_) (fun c_821 => ?_)
                                · skip
                                  rw [← Int32.toInt_inj, ti_0] at c_821
                                  exfalso
                                  omega
                                · skip
                                  rw [← Int32.toInt_inj, ti_0] at c_821
                                  refine lv_iload_n hx hb dX12_aligns_202 rfl (lv_at hl 7 rfl) ?_
                                  refine lv_iconst (v := 1) hx hb dX12_aligns_203 (by decide) ?_
                                  refine lv_isub hx hb dX12_aligns_204 ?_
                                  refine lv_topi (fun x_822 ex_822 => ?_)
                                  have hx_822 : x_822.toInt = p3.toInt - 1 := by rw [ex_822, sb_I (by rw [ti_1]; omega) (by rw [ti_1]; omega), ti_1]
                                  have bx_822 : (0 ≤ x_822.toInt ∧ x_822.toInt ≤ 0) := by constructor <;> omega
                                  refine lv_goto (tgt := 209) hx hb dX12_aligns_205 (by decide) ?_
                                  refine lv_iload hx hb dX12_aligns_209 (lv_at hl 8 rfl) ?_
                                  refine lv_iconst (v := 1) hx hb dX12_aligns_211 (by decide) ?_
                                  refine lv_iadd hx hb dX12_aligns_212 ?_
                                  refine lv_topi (fun x_823 ex_823 => ?_)
                                  have hx_823 : x_823.toInt = p4.toInt + 1 := by rw [ex_823, ad_I (by rw [ti_1]; omega) (by rw [ti_1]; omega), ti_1]
                                  have bx_823 : (1 ≤ x_823.toInt ∧ x_823.toInt ≤ 14) := by constructor <;> omega
                                  have hclc_824 : (1 ≤ x_823.toInt ∧ x_823.toInt ≤ 13) := by constructor <;> omega
                                  refine lv_iload hx hb dX12_aligns_213 (lv_at hl 9 rfl) ?_
                                  refine tk_ViP (As := [.int p1, .int p2, .int x_822, .int x_823, .int p5]) (rest := []) (n := 5) hx hb hml hown hU hN hZ (ih_rec f_812 hG o0 mo0 ko0 p1 (by constructor <;> omega) p2 (by constructor <;> omega) x_822 (by constructor <;> omega) x_823 (by constructor <;> omega) p5 (by intro w23 w35 e23 e35; rw [hfo_815] at e23 e35; obtain rfl := Option.some.inj e23; obtain rfl := Option.some.inj e35; omega) (by omega) (by omega)) wd_1054 wd_1055 wd_1056 wd_5 wd_1057 (by decide +kernel) ⟨(show (5 + n_) + 1 ≤ 5 + (n_ + 1) by omega), (show 8 + (10 + 11) + (129 + n_ * 29) ≤ 129 + (n_ + 1) * 29 by omega)⟩ hK hP hD hS mo0 hfo_815 12 rfl rfl rfl hl.1 rfl (Nat.le_of_ble_eq_true rfl) dX12_aligns_215 ⟨Nat.le_of_ble_eq_true rfl, Nat.le_of_ble_eq_true rfl⟩ (fun x_825 f_826 H locs hw hP hD hS => ?_)
                                  obtain ⟨hG, bx_825, hkc_827⟩ := hw
                                  have hfo_829 : f_826 o0 = .inr (12, [.ref a_1, .ref a_2, .ref a_3, .int v_4, .ref a_5, .int v_6, .int v_7, .int v_8, .int v_9, .int v_10, .int v_11, .int v_12, .int v_13, .int v_14, .int v_15, .ref a_16, .ref a_17, .ref a_18, .ref a_19, .ref a_20, .ref a_21, .ref a_22, .ref a_23, .int v_24, .int v_25, .int v_26, .int v_27, .int v_28, .ref a_29, .int v_30, .ref a_31, .ref a_32, .int v_33, .int v_34, .ref a_35, .int v_36, .ref a_37, .ref a_38, .int v_39, .int v_40, .ref a_41, .ref a_42, .ref a_43, .int v_44, .ref a_45, .ref a_46, .ref a_47, .ref a_48, .ref a_49, .ref a_50, .ref a_51, .ref a_52, .ref a_53, .int v_54, .int v_55, .ref a_56]) := by rw [hkc_827 o0 (by rw [ko0]; decide) (by rw [ko0]; decide) (by rw [ko0]; decide) (by rw [ko0]; decide) (by rw [ko0]; decide) (by rw [ko0]; decide)]; exact hfo_815
                                  have hfo_830 : f_826 a_1 = .inl (cI, 1560, .inl g_662) := by rw [hkc_827 a_1 (by rw [ka_1]; decide) (by rw [ka_1]; decide) (by rw [ka_1]; decide) (by rw [ka_1]; decide) (by rw [ka_1]; decide) (by rw [ka_1]; decide)]; exact hfo_816
                                  have hfr0 : ∀ b, kd b ≠ 579 → kd b ≠ 581 → kd b ≠ 583 → kd b ≠ 585 → kd b ≠ 587 → kd b ≠ 588 → f_826 b = f b := fun b q579 q581 q583 q585 q587 q588 => (hkc_827 b q579 q581 q583 q585 q587 q588).trans (hfr0 b q579 q581 q583 q585 q587 q588)
                                  refine lv_if_eq (tgt := 223) hx hb dX12_aligns_218 (by decide) (fun c_831 => ?_) (fun c_831 => ?_)
                                  · skip
                                    rw [← Int32.toInt_inj, ti_0] at c_831
                                    obtain ⟨x_832, ex_832⟩ : ∃ y : Int32, y_657 + 1 = y := ⟨_, rfl⟩
                                    have hx_832 : x_832.toInt = y_657.toInt + 1 := by rw [← ex_832, ad_I (by rw [ti_1]; omega) (by rw [ti_1]; omega), ti_1]
                                    have bx_832 : (1 ≤ x_832.toInt ∧ x_832.toInt ≤ 20) := by constructor <;> omega
                                    refine lv_iinc (v := x_832) (lv' := [(6, .int x_832), (9, .int y_671), (8, .int x_670), (7, .int x_667), (0, .ref o0), (1, .int p1), (2, .int p2), (3, .int p3), (4, .int p4), (5, .int p5)]) hx hb dX12_aligns_223 hl (k := 3) rfl ex_832 (by decide) rfl (fun ls hl => ?_)
                                    refine lv_goto (tgt := 32) hx hb dX12_aligns_226 (by decide) ?_
                                    exact ih_hloop_656 x_832 (by constructor <;> omega) f_826 hG _ _ hP hS hD hfr0 hfo_829 (by omega) ls (lv_sub hl [0, 4, 5, 6, 7, 8, 9] rfl)
                                  · skip
                                    rw [← Int32.toInt_inj, ti_0] at c_831
                                    refine lv_iconst (v := 1) hx hb dX12_aligns_221 (by decide) ?_
                                    exact W.zret (v := 1) (ty := .boolean) hx hb hr rfl (fun t ht hW => ⟨⟨1, f_826, rfl, ⟨hG, (by decide), hfr0⟩, by rw [ht]; exact hP, va_K.moved hW.alike hK, pl_in hD⟩, hS.F ht⟩) hS.2.2 dX12_aligns_222
                        · skip
                          rw [← Int32.toInt_inj, ti_0] at c_808
                          refine lv_iload_n hx hb dX12_aligns_129 rfl (lv_at hl 6 rfl) ?_
                          refine lv_aload_n hx hb dX12_aligns_130 rfl (lv_at hl 4 rfl) ?_
                          refine tk_getP (D := (dC, dI)) (ci := 12) (v := .int v_36) (C := RX12) (T := TX12) (N := 56) hx hb hU inlX12 hown hK hP mo0 hfo_660 rfl 35 (by decide) (hU _ wd_1049) (fun _ h9 => h9) rfl dX12_aligns_131 ?_
                          refine lv_icmp_eq (tgt := 223) hx hb dX12_aligns_134 (by decide) (fun c_833 => ?_) (fun c_833 => ?_)
                          · skip
                            rw [← Int32.toInt_inj] at c_833
                            obtain ⟨x_834, ex_834⟩ : ∃ y : Int32, y_657 + 1 = y := ⟨_, rfl⟩
                            have hx_834 : x_834.toInt = y_657.toInt + 1 := by rw [← ex_834, ad_I (by rw [ti_1]; omega) (by rw [ti_1]; omega), ti_1]
                            have bx_834 : (1 ≤ x_834.toInt ∧ x_834.toInt ≤ 20) := by constructor <;> omega
                            refine lv_iinc (v := x_834) (lv' := [(6, .int x_834), (9, .int y_671), (8, .int x_670), (7, .int x_667), (0, .ref o0), (1, .int p1), (2, .int p2), (3, .int p3), (4, .int p4), (5, .int p5)]) hx hb dX12_aligns_223 hl (k := 3) rfl ex_834 (by decide) rfl (fun ls hl => ?_)
                            refine lv_goto (tgt := 32) hx hb dX12_aligns_226 (by decide) ?_
                            exact ih_hloop_656 x_834 (by constructor <;> omega) f_659 hG _ _ hP hS hD hfr0 hfo_660 (by omega) ls (lv_sub hl [0, 4, 5, 6, 7, 8, 9] rfl)
                          · skip
                            rw [← Int32.toInt_inj] at c_833
                            have hclc_835 : (0 ≤ p2.toInt ∧ p2.toInt ≤ 7) := by constructor <;> omega
                            refine lv_aload_n hx hb dX12_aligns_137 rfl (lv_at hl 4 rfl) ?_
                            refine tk_getP (D := (dC, dI)) (ci := 12) (v := .ref a_35) (C := RX12) (T := TX12) (N := 56) hx hb hU inlX12 hown hK hP mo0 hfo_660 rfl 34 (by decide) (hU _ wd_186) (fun _ h9 => h9) rfl dX12_aligns_138 ?_
                            refine lv_iload_n hx hb dX12_aligns_141 rfl (lv_at hl 6 rfl) ?_
                            obtain ⟨g_837, hfo_836, hbg_837⟩ := un_594 (hG _ ma_35) ka_35
                            refine tk_ildP hx hb hK hP 0 ma_35 hfo_836 rfl (vp_in_iff.mpr (by constructor <;> omega)) dX12_aligns_142 ?_
                            refine lv_topi (fun x_838 ex_838 => ?_)
                            have bx_838 : (0 ≤ x_838.toInt ∧ x_838.toInt ≤ 8) := by rw [ex_838]; exact hbg_837 _
                            refine lv_iload hx hb dX12_aligns_143 (lv_at hl 1 rfl) ?_
                            refine lv_icmp_eq (tgt := 151) hx hb dX12_aligns_145 (by decide) (fun c_839 => ?_) (fun c_839 => ?_)
                            · skip
                              rw [← Int32.toInt_inj] at c_839
                              refine lv_aload_n hx hb dX12_aligns_151 rfl (lv_at hl 4 rfl) ?_
                              refine lv_iload hx hb dX12_aligns_152 (lv_at hl 8 rfl) ?_
                              refine lv_aload_n hx hb dX12_aligns_154 rfl (lv_at hl 4 rfl) ?_
                              refine tk_getP (D := (dC, dI)) (ci := 12) (v := .ref a_1) (C := RX12) (T := TX12) (N := 56) hx hb hU inlX12 hown hK hP mo0 hfo_660 rfl 0 (by decide) (hU _ wd_169) (fun _ h9 => h9) rfl dX12_aligns_155 ?_
                              refine lv_bipush (v := 20) hx hb dX12_aligns_158 (by decide) ?_
                              refine lv_iload hx hb dX12_aligns_160 (lv_at hl 3 rfl) ?_
                              refine lv_iadd hx hb dX12_aligns_162 ?_
                              refine lv_topi (fun x_840 ex_840 => ?_)
                              have hx_840 : x_840.toInt = 20 + y_657.toInt := by rw [ex_840, ad_I (by rw [ti_20]; omega) (by rw [ti_20]; omega), ti_20]
                              have bx_840 : (20 ≤ x_840.toInt ∧ x_840.toInt ≤ 39) := by constructor <;> omega
                              refine tk_ildP hx hb hK hP 0 ma_1 hfo_661 rfl (vp_in_iff.mpr (by constructor <;> omega)) dX12_aligns_163 ?_
                              refine lv_topi (fun x_841 ex_841 => ?_)
                              have bx_841 : (0 ≤ x_841.toInt ∧ x_841.toInt ≤ 80) := by have hc9 := cl_I (i := x_840) (by omega); rw [ex_841]; exact hbg_662.2.2.2.2.2.1 _ (by omega) (by omega) (by omega)
                              refine lv_iload hx hb dX12_aligns_164 (lv_at hl 9 rfl) ?_
                              refine tk_ViP (As := [.int p4, .int x_841, .int p5]) (rest := []) (n := 3) hx hb hml hown hU hN hZ (s_X12_reads_k12 l (dC, dI) cI cL cZ cR cG cH Z kd L f_659 hG o0 mo0 ko0 p4 (by constructor <;> omega) x_841 p5) wd_950 wd_951 wd_952 wd_5 wd_953 (by decide +kernel) ⟨(show 4 + 1 ≤ 5 + (n_ + 1) by omega), (show 8 + (5 + 11) + 105 ≤ 129 + (n_ + 1) * 29 by omega)⟩ hK hP hD hS mo0 hfo_660 12 rfl rfl rfl hl.1 rfl (Nat.le_of_ble_eq_true rfl) dX12_aligns_166 ⟨Nat.le_of_ble_eq_true rfl, Nat.le_of_ble_eq_true rfl⟩ (fun x_842 f_843 H locs hw hP hD hS => ?_)
                              obtain ⟨hG, bx_842, hkc_844⟩ := hw
                              have hfo_846 : f_843 o0 = .inr (12, [.ref a_1, .ref a_2, .ref a_3, .int v_4, .ref a_5, .int v_6, .int v_7, .int v_8, .int v_9, .int v_10, .int v_11, .int v_12, .int v_13, .int v_14, .int v_15, .ref a_16, .ref a_17, .ref a_18, .ref a_19, .ref a_20, .ref a_21, .ref a_22, .ref a_23, .int v_24, .int v_25, .int v_26, .int v_27, .int v_28, .ref a_29, .int v_30, .ref a_31, .ref a_32, .int v_33, .int v_34, .ref a_35, .int v_36, .ref a_37, .ref a_38, .int v_39, .int v_40, .ref a_41, .ref a_42, .ref a_43, .int v_44, .ref a_45, .ref a_46, .ref a_47, .ref a_48, .ref a_49, .ref a_50, .ref a_51, .ref a_52, .ref a_53, .int v_54, .int v_55, .ref a_56]) := by rw [hkc_844 o0 (by rw [ko0]; decide) (by rw [ko0]; decide) (by rw [ko0]; decide) (by rw [ko0]; decide) (by rw [ko0]; decide) (by rw [ko0]; decide)]; exact hfo_660
                              have hfo_847 : f_843 a_1 = .inl (cI, 1560, .inl g_662) := by rw [hkc_844 a_1 (by rw [ka_1]; decide) (by rw [ka_1]; decide) (by rw [ka_1]; decide) (by rw [ka_1]; decide) (by rw [ka_1]; decide) (by rw [ka_1]; decide)]; exact hfo_661
                              have hfo_848 : f_843 a_35 = .inl (cI, 16, .inl g_837) := by rw [hkc_844 a_35 (by rw [ka_35]; decide) (by rw [ka_35]; decide) (by rw [ka_35]; decide) (by rw [ka_35]; decide) (by rw [ka_35]; decide) (by rw [ka_35]; decide)]; exact hfo_836
                              have hfr0 : ∀ b, kd b ≠ 579 → kd b ≠ 581 → kd b ≠ 583 → kd b ≠ 585 → kd b ≠ 587 → kd b ≠ 588 → f_843 b = f b := fun b q579 q581 q583 q585 q587 q588 => (hkc_844 b q579 q581 q583 q585 q587 q588).trans (hfr0 b q579 q581 q583 q585 q587 q588)
                              refine lv_if_eq (tgt := 223) hx hb dX12_aligns_169 (by decide) (fun c_849 => ?_) (fun c_849 => ?_)
                              · skip
                                rw [← Int32.toInt_inj, ti_0] at c_849
                                obtain ⟨x_850, ex_850⟩ : ∃ y : Int32, y_657 + 1 = y := ⟨_, rfl⟩
                                have hx_850 : x_850.toInt = y_657.toInt + 1 := by rw [← ex_850, ad_I (by rw [ti_1]; omega) (by rw [ti_1]; omega), ti_1]
                                have bx_850 : (1 ≤ x_850.toInt ∧ x_850.toInt ≤ 20) := by constructor <;> omega
                                refine lv_iinc (v := x_850) (lv' := [(6, .int x_850), (9, .int y_671), (8, .int x_670), (7, .int x_667), (0, .ref o0), (1, .int p1), (2, .int p2), (3, .int p3), (4, .int p4), (5, .int p5)]) hx hb dX12_aligns_223 hl (k := 3) rfl ex_850 (by decide) rfl (fun ls hl => ?_)
                                refine lv_goto (tgt := 32) hx hb dX12_aligns_226 (by decide) ?_
                                exact ih_hloop_656 x_850 (by constructor <;> omega) f_843 hG _ _ hP hS hD hfr0 hfo_846 (by omega) ls (lv_sub hl [0, 4, 5, 6, 7, 8, 9] rfl)
                              · skip
                                rw [← Int32.toInt_inj, ti_0] at c_849
                                refine lv_aload_n hx hb dX12_aligns_172 rfl (lv_at hl 4 rfl) ?_
                                refine lv_iload hx hb dX12_aligns_173 (lv_at hl 2 rfl) ?_
                                refine lv_if_ne (tgt := 182) hx hb dX12_aligns_175 (by decide) (fun c_851 => ?_) (fun c_851 => ?_)
                                · skip
                                  rw [← Int32.toInt_inj, ti_0] at c_851
                                  exfalso
                                  omega
                                · skip
                                  rw [← Int32.toInt_inj, ti_0] at c_851
                                  refine lv_iload_n hx hb dX12_aligns_178 rfl (lv_at hl 5 rfl) ?_
                                  refine lv_goto (tgt := 185) hx hb dX12_aligns_179 (by decide) ?_
                                  refine lv_iload hx hb dX12_aligns_185 (lv_at hl 1 rfl) ?_
                                  refine lv_if_ne (tgt := 194) hx hb dX12_aligns_187 (by decide) (fun c_852 => ?_) (fun c_852 => ?_)
                                  · skip
                                    rw [← Int32.toInt_inj, ti_0] at c_852
                                    refine lv_iload_n hx hb dX12_aligns_194 rfl (lv_at hl 6 rfl) ?_
                                    refine lv_iconst (v := 1) hx hb dX12_aligns_195 (by decide) ?_
                                    refine lv_iadd hx hb dX12_aligns_196 ?_
                                    refine lv_topi (fun x_853 ex_853 => ?_)
                                    have hx_853 : x_853.toInt = p2.toInt + 1 := by rw [ex_853, ad_I (by rw [ti_1]; omega) (by rw [ti_1]; omega), ti_1]
                                    have bx_853 : (1 ≤ x_853.toInt ∧ x_853.toInt ≤ 8) := by constructor <;> omega
                                    refine lv_iload hx hb dX12_aligns_197 (lv_at hl 0 rfl) ?_
                                    refine lv_if_eq (tgt := 208) hx hb dX12_aligns_199 (by decide) (fun c_854 => ?_) (fun c_854 => ?_)
                                    · skip
                                      rw [← Int32.toInt_inj, ti_0] at c_854
                                      exfalso
                                      omega
                                    · skip
                                      rw [← Int32.toInt_inj, ti_0] at c_854
                                      refine lv_iload_n hx hb dX12_aligns_202 rfl (lv_at hl 7 rfl) ?_
                                      refine lv_iconst (v := 1) hx hb dX12_aligns_203 (by decide) ?_
                                      refine lv_isub hx hb dX12_aligns_204 ?_
                                      refine lv_topi (fun x_855 ex_855 => ?_)
                                      have hx_855 : x_855.toInt = p3.toInt - 1 := by rw [ex_855, sb_I (by rw [ti_1]; omega) (by rw [ti_1]; omega), ti_1]
                                      have bx_855 : (0 ≤ x_855.toInt ∧ x_855.toInt ≤ 0) := by constructor <;> omega
                                      refine lv_goto (tgt := 209) hx hb dX12_aligns_205 (by decide) ?_
                                      refine lv_iload hx hb dX12_aligns_209 (lv_at hl 8 rfl) ?_
                                      refine lv_iconst (v := 1) hx hb dX12_aligns_211 (by decide) ?_
                                      refine lv_iadd hx hb dX12_aligns_212 ?_
                                      refine lv_topi (fun x_856 ex_856 => ?_)
                                      have hx_856 : x_856.toInt = p4.toInt + 1 := by rw [ex_856, ad_I (by rw [ti_1]; omega) (by rw [ti_1]; omega), ti_1]
                                      have bx_856 : (1 ≤ x_856.toInt ∧ x_856.toInt ≤ 14) := by constructor <;> omega
                                      have hclc_857 : (1 ≤ x_856.toInt ∧ x_856.toInt ≤ 13) := by constructor <;> omega
                                      refine lv_iload hx hb dX12_aligns_213 (lv_at hl 9 rfl) ?_
                                      refine tk_ViP (As := [.int p1, .int x_853, .int x_855, .int x_856, .int p5]) (rest := []) (n := 5) hx hb hml hown hU hN hZ (ih_rec f_843 hG o0 mo0 ko0 p1 (by constructor <;> omega) x_853 (by constructor <;> omega) x_855 (by constructor <;> omega) x_856 (by constructor <;> omega) p5 (by intro w23 w35 e23 e35; rw [hfo_846] at e23 e35; obtain rfl := Option.some.inj e23; obtain rfl := Option.some.inj e35; omega) (by omega) (by omega)) wd_1054 wd_1055 wd_1056 wd_5 wd_1057 (by decide +kernel) ⟨(show (5 + n_) + 1 ≤ 5 + (n_ + 1) by omega), (show 8 + (10 + 11) + (129 + n_ * 29) ≤ 129 + (n_ + 1) * 29 by omega)⟩ hK hP hD hS mo0 hfo_846 12 rfl rfl rfl hl.1 rfl (Nat.le_of_ble_eq_true rfl) dX12_aligns_215 ⟨Nat.le_of_ble_eq_true rfl, Nat.le_of_ble_eq_true rfl⟩ (fun x_858 f_859 H locs hw hP hD hS => ?_)
                                      obtain ⟨hG, bx_858, hkc_860⟩ := hw
                                      have hfo_862 : f_859 o0 = .inr (12, [.ref a_1, .ref a_2, .ref a_3, .int v_4, .ref a_5, .int v_6, .int v_7, .int v_8, .int v_9, .int v_10, .int v_11, .int v_12, .int v_13, .int v_14, .int v_15, .ref a_16, .ref a_17, .ref a_18, .ref a_19, .ref a_20, .ref a_21, .ref a_22, .ref a_23, .int v_24, .int v_25, .int v_26, .int v_27, .int v_28, .ref a_29, .int v_30, .ref a_31, .ref a_32, .int v_33, .int v_34, .ref a_35, .int v_36, .ref a_37, .ref a_38, .int v_39, .int v_40, .ref a_41, .ref a_42, .ref a_43, .int v_44, .ref a_45, .ref a_46, .ref a_47, .ref a_48, .ref a_49, .ref a_50, .ref a_51, .ref a_52, .ref a_53, .int v_54, .int v_55, .ref a_56]) := by rw [hkc_860 o0 (by rw [ko0]; decide) (by rw [ko0]; decide) (by rw [ko0]; decide) (by rw [ko0]; decide) (by rw [ko0]; decide) (by rw [ko0]; decide)]; exact hfo_846
                                      have hfo_863 : f_859 a_1 = .inl (cI, 1560, .inl g_662) := by rw [hkc_860 a_1 (by rw [ka_1]; decide) (by rw [ka_1]; decide) (by rw [ka_1]; decide) (by rw [ka_1]; decide) (by rw [ka_1]; decide) (by rw [ka_1]; decide)]; exact hfo_847
                                      have hfo_864 : f_859 a_35 = .inl (cI, 16, .inl g_837) := by rw [hkc_860 a_35 (by rw [ka_35]; decide) (by rw [ka_35]; decide) (by rw [ka_35]; decide) (by rw [ka_35]; decide) (by rw [ka_35]; decide) (by rw [ka_35]; decide)]; exact hfo_848
                                      have hfr0 : ∀ b, kd b ≠ 579 → kd b ≠ 581 → kd b ≠ 583 → kd b ≠ 585 → kd b ≠ 587 → kd b ≠ 588 → f_859 b = f b := fun b q579 q581 q583 q585 q587 q588 => (hkc_860 b q579 q581 q583 q585 q587 q588).trans (hfr0 b q579 q581 q583 q585 q587 q588)
                                      refine lv_if_eq (tgt := 223) hx hb dX12_aligns_218 (by decide) (fun c_865 => ?_) (fun c_865 => ?_)
                                      · skip
                                        rw [← Int32.toInt_inj, ti_0] at c_865
                                        obtain ⟨x_866, ex_866⟩ : ∃ y : Int32, y_657 + 1 = y := ⟨_, rfl⟩
                                        have hx_866 : x_866.toInt = y_657.toInt + 1 := by rw [← ex_866, ad_I (by rw [ti_1]; omega) (by rw [ti_1]; omega), ti_1]
                                        have bx_866 : (1 ≤ x_866.toInt ∧ x_866.toInt ≤ 20) := by constructor <;> omega
                                        refine lv_iinc (v := x_866) (lv' := [(6, .int x_866), (9, .int y_671), (8, .int x_670), (7, .int x_667), (0, .ref o0), (1, .int p1), (2, .int p2), (3, .int p3), (4, .int p4), (5, .int p5)]) hx hb dX12_aligns_223 hl (k := 3) rfl ex_866 (by decide) rfl (fun ls hl => ?_)
                                        refine lv_goto (tgt := 32) hx hb dX12_aligns_226 (by decide) ?_
                                        exact ih_hloop_656 x_866 (by constructor <;> omega) f_859 hG _ _ hP hS hD hfr0 hfo_862 (by omega) ls (lv_sub hl [0, 4, 5, 6, 7, 8, 9] rfl)
                                      · skip
                                        rw [← Int32.toInt_inj, ti_0] at c_865
                                        refine lv_iconst (v := 1) hx hb dX12_aligns_221 (by decide) ?_
                                        exact W.zret (v := 1) (ty := .boolean) hx hb hr rfl (fun t ht hW => ⟨⟨1, f_859, rfl, ⟨hG, (by decide), hfr0⟩, by rw [ht]; exact hP, va_K.moved hW.alike hK, pl_in hD⟩, hS.F ht⟩) hS.2.2 dX12_aligns_222
                                  · skip
                                    rw [← Int32.toInt_inj, ti_0] at c_852
                                    exfalso
                                    omega
                            · skip
                              rw [← Int32.toInt_inj] at c_839
                              refine lv_goto (tgt := 223) hx hb dX12_aligns_148 (by decide) ?_
                              obtain ⟨x_867, ex_867⟩ : ∃ y : Int32, y_657 + 1 = y := ⟨_, rfl⟩
                              have hx_867 : x_867.toInt = y_657.toInt + 1 := by rw [← ex_867, ad_I (by rw [ti_1]; omega) (by rw [ti_1]; omega), ti_1]
                              have bx_867 : (1 ≤ x_867.toInt ∧ x_867.toInt ≤ 20) := by constructor <;> omega
                              refine lv_iinc (v := x_867) (lv' := [(6, .int x_867), (9, .int y_671), (8, .int x_670), (7, .int x_667), (0, .ref o0), (1, .int p1), (2, .int p2), (3, .int p3), (4, .int p4), (5, .int p5)]) hx hb dX12_aligns_223 hl (k := 3) rfl ex_867 (by decide) rfl (fun ls hl => ?_)
                              refine lv_goto (tgt := 32) hx hb dX12_aligns_226 (by decide) ?_
                              exact ih_hloop_656 x_867 (by constructor <;> omega) f_659 hG _ _ hP hS hD hfr0 hfo_660 (by omega) ls (lv_sub hl [0, 4, 5, 6, 7, 8, 9] rfl)
                      · skip
                        rw [← Int32.toInt_inj, ti_0] at c_807
                        refine lv_iload_n hx hb dX12_aligns_105 rfl (lv_at hl 5 rfl) ?_
                        refine lv_aload_n hx hb dX12_aligns_106 rfl (lv_at hl 4 rfl) ?_
                        refine tk_getP (D := (dC, dI)) (ci := 12) (v := .int v_24) (C := RX12) (T := TX12) (N := 56) hx hb hU inlX12 hown hK hP mo0 hfo_660 rfl 23 (by decide) (hU _ wd_867) (fun _ h9 => h9) rfl dX12_aligns_107 ?_
                        refine lv_icmp_eq (tgt := 223) hx hb dX12_aligns_110 (by decide) (fun c_868 => ?_) (fun c_868 => ?_)
                        · skip
                          rw [← Int32.toInt_inj] at c_868
                          obtain ⟨x_869, ex_869⟩ : ∃ y : Int32, y_657 + 1 = y := ⟨_, rfl⟩
                          have hx_869 : x_869.toInt = y_657.toInt + 1 := by rw [← ex_869, ad_I (by rw [ti_1]; omega) (by rw [ti_1]; omega), ti_1]
                          have bx_869 : (1 ≤ x_869.toInt ∧ x_869.toInt ≤ 20) := by constructor <;> omega
                          refine lv_iinc (v := x_869) (lv' := [(6, .int x_869), (9, .int y_671), (8, .int x_670), (7, .int x_667), (0, .ref o0), (1, .int p1), (2, .int p2), (3, .int p3), (4, .int p4), (5, .int p5)]) hx hb dX12_aligns_223 hl (k := 3) rfl ex_869 (by decide) rfl (fun ls hl => ?_)
                          refine lv_goto (tgt := 32) hx hb dX12_aligns_226 (by decide) ?_
                          exact ih_hloop_656 x_869 (by constructor <;> omega) f_659 hG _ _ hP hS hD hfr0 hfo_660 (by omega) ls (lv_sub hl [0, 4, 5, 6, 7, 8, 9] rfl)
                        · skip
                          rw [← Int32.toInt_inj] at c_868
                          have hclc_870 : (0 ≤ p1.toInt ∧ p1.toInt ≤ 11) := by constructor <;> omega
                          refine lv_aload_n hx hb dX12_aligns_113 rfl (lv_at hl 4 rfl) ?_
                          refine tk_getP (D := (dC, dI)) (ci := 12) (v := .ref a_22) (C := RX12) (T := TX12) (N := 56) hx hb hU inlX12 hown hK hP mo0 hfo_660 rfl 21 (by decide) (hU _ wd_181) (fun _ h9 => h9) rfl dX12_aligns_114 ?_
                          refine lv_iload_n hx hb dX12_aligns_117 rfl (lv_at hl 5 rfl) ?_
                          obtain ⟨g_872, hfo_871, hbg_872⟩ := un_589 (hG _ ma_22) ka_22
                          refine tk_ildP hx hb hK hP 0 ma_22 hfo_871 rfl (vp_in_iff.mpr (by constructor <;> omega)) dX12_aligns_118 ?_
                          refine lv_topi (fun x_873 ex_873 => ?_)
                          have bx_873 : (0 ≤ x_873.toInt ∧ x_873.toInt ≤ 8) := by rw [ex_873]; exact hbg_872 _
                          refine lv_iload hx hb dX12_aligns_119 (lv_at hl 2 rfl) ?_
                          refine lv_icmp_ne (tgt := 223) hx hb dX12_aligns_121 (by decide) (fun c_874 => ?_) (fun c_874 => ?_)
                          · skip
                            rw [← Int32.toInt_inj] at c_874
                            obtain ⟨x_875, ex_875⟩ : ∃ y : Int32, y_657 + 1 = y := ⟨_, rfl⟩
                            have hx_875 : x_875.toInt = y_657.toInt + 1 := by rw [← ex_875, ad_I (by rw [ti_1]; omega) (by rw [ti_1]; omega), ti_1]
                            have bx_875 : (1 ≤ x_875.toInt ∧ x_875.toInt ≤ 20) := by constructor <;> omega
                            refine lv_iinc (v := x_875) (lv' := [(6, .int x_875), (9, .int y_671), (8, .int x_670), (7, .int x_667), (0, .ref o0), (1, .int p1), (2, .int p2), (3, .int p3), (4, .int p4), (5, .int p5)]) hx hb dX12_aligns_223 hl (k := 3) rfl ex_875 (by decide) rfl (fun ls hl => ?_)
                            refine lv_goto (tgt := 32) hx hb dX12_aligns_226 (by decide) ?_
                            exact ih_hloop_656 x_875 (by constructor <;> omega) f_659 hG _ _ hP hS hD hfr0 hfo_660 (by omega) ls (lv_sub hl [0, 4, 5, 6, 7, 8, 9] rfl)
                          · skip
                            rw [← Int32.toInt_inj] at c_874
                            refine lv_iload hx hb dX12_aligns_124 (lv_at hl 1 rfl) ?_
                            refine lv_if_eq (tgt := 151) hx hb dX12_aligns_126 (by decide) (fun c_876 => ?_) (fun c_876 => ?_)
                            · skip
                              rw [← Int32.toInt_inj, ti_0] at c_876
                              refine lv_aload_n hx hb dX12_aligns_151 rfl (lv_at hl 4 rfl) ?_
                              refine lv_iload hx hb dX12_aligns_152 (lv_at hl 8 rfl) ?_
                              refine lv_aload_n hx hb dX12_aligns_154 rfl (lv_at hl 4 rfl) ?_
                              refine tk_getP (D := (dC, dI)) (ci := 12) (v := .ref a_1) (C := RX12) (T := TX12) (N := 56) hx hb hU inlX12 hown hK hP mo0 hfo_660 rfl 0 (by decide) (hU _ wd_169) (fun _ h9 => h9) rfl dX12_aligns_155 ?_
                              refine lv_bipush (v := 20) hx hb dX12_aligns_158 (by decide) ?_
                              refine lv_iload hx hb dX12_aligns_160 (lv_at hl 3 rfl) ?_
                              refine lv_iadd hx hb dX12_aligns_162 ?_
                              refine lv_topi (fun x_877 ex_877 => ?_)
                              have hx_877 : x_877.toInt = 20 + y_657.toInt := by rw [ex_877, ad_I (by rw [ti_20]; omega) (by rw [ti_20]; omega), ti_20]
                              have bx_877 : (20 ≤ x_877.toInt ∧ x_877.toInt ≤ 39) := by constructor <;> omega
                              refine tk_ildP hx hb hK hP 0 ma_1 hfo_661 rfl (vp_in_iff.mpr (by constructor <;> omega)) dX12_aligns_163 ?_
                              refine lv_topi (fun x_878 ex_878 => ?_)
                              have bx_878 : (0 ≤ x_878.toInt ∧ x_878.toInt ≤ 80) := by have hc9 := cl_I (i := x_877) (by omega); rw [ex_878]; exact hbg_662.2.2.2.2.2.1 _ (by omega) (by omega) (by omega)
                              refine lv_iload hx hb dX12_aligns_164 (lv_at hl 9 rfl) ?_
                              refine tk_ViP (As := [.int p4, .int x_878, .int p5]) (rest := []) (n := 3) hx hb hml hown hU hN hZ (s_X12_reads_k12 l (dC, dI) cI cL cZ cR cG cH Z kd L f_659 hG o0 mo0 ko0 p4 (by constructor <;> omega) x_878 p5) wd_950 wd_951 wd_952 wd_5 wd_953 (by decide +kernel) ⟨(show 4 + 1 ≤ 5 + (n_ + 1) by omega), (show 8 + (5 + 11) + 105 ≤ 129 + (n_ + 1) * 29 by omega)⟩ hK hP hD hS mo0 hfo_660 12 rfl rfl rfl hl.1 rfl (Nat.le_of_ble_eq_true rfl) dX12_aligns_166 ⟨Nat.le_of_ble_eq_true rfl, Nat.le_of_ble_eq_true rfl⟩ (fun x_879 f_880 H locs hw hP hD hS => ?_)
                              obtain ⟨hG, bx_879, hkc_881⟩ := hw
                              have hfo_883 : f_880 o0 = .inr (12, [.ref a_1, .ref a_2, .ref a_3, .int v_4, .ref a_5, .int v_6, .int v_7, .int v_8, .int v_9, .int v_10, .int v_11, .int v_12, .int v_13, .int v_14, .int v_15, .ref a_16, .ref a_17, .ref a_18, .ref a_19, .ref a_20, .ref a_21, .ref a_22, .ref a_23, .int v_24, .int v_25, .int v_26, .int v_27, .int v_28, .ref a_29, .int v_30, .ref a_31, .ref a_32, .int v_33, .int v_34, .ref a_35, .int v_36, .ref a_37, .ref a_38, .int v_39, .int v_40, .ref a_41, .ref a_42, .ref a_43, .int v_44, .ref a_45, .ref a_46, .ref a_47, .ref a_48, .ref a_49, .ref a_50, .ref a_51, .ref a_52, .ref a_53, .int v_54, .int v_55, .ref a_56]) := by rw [hkc_881 o0 (by rw [ko0]; decide) (by rw [ko0]; decide) (by rw [ko0]; decide) (by rw [ko0]; decide) (by rw [ko0]; decide) (by rw [ko0]; decide)]; exact hfo_660
                              have hfo_884 : f_880 a_1 = .inl (cI, 1560, .inl g_662) := by rw [hkc_881 a_1 (by rw [ka_1]; decide) (by rw [ka_1]; decide) (by rw [ka_1]; decide) (by rw [ka_1]; decide) (by rw [ka_1]; decide) (by rw [ka_1]; decide)]; exact hfo_661
                              have hfo_885 : f_880 a_22 = .inl (cI, 16, .inl g_872) := by rw [hkc_881 a_22 (by rw [ka_22]; decide) (by rw [ka_22]; decide) (by rw [ka_22]; decide) (by rw [ka_22]; decide) (by rw [ka_22]; decide) (by rw [ka_22]; decide)]; exact hfo_871
                              have hfr0 : ∀ b, kd b ≠ 579 → kd b ≠ 581 → kd b ≠ 583 → kd b ≠ 585 → kd b ≠ 587 → kd b ≠ 588 → f_880 b = f b := fun b q579 q581 q583 q585 q587 q588 => (hkc_881 b q579 q581 q583 q585 q587 q588).trans (hfr0 b q579 q581 q583 q585 q587 q588)
                              refine lv_if_eq (tgt := 223) hx hb dX12_aligns_169 (by decide) (fun c_886 => ?_) (fun c_886 => ?_)
                              · skip
                                rw [← Int32.toInt_inj, ti_0] at c_886
                                obtain ⟨x_887, ex_887⟩ : ∃ y : Int32, y_657 + 1 = y := ⟨_, rfl⟩
                                have hx_887 : x_887.toInt = y_657.toInt + 1 := by rw [← ex_887, ad_I (by rw [ti_1]; omega) (by rw [ti_1]; omega), ti_1]
                                have bx_887 : (1 ≤ x_887.toInt ∧ x_887.toInt ≤ 20) := by constructor <;> omega
                                refine lv_iinc (v := x_887) (lv' := [(6, .int x_887), (9, .int y_671), (8, .int x_670), (7, .int x_667), (0, .ref o0), (1, .int p1), (2, .int p2), (3, .int p3), (4, .int p4), (5, .int p5)]) hx hb dX12_aligns_223 hl (k := 3) rfl ex_887 (by decide) rfl (fun ls hl => ?_)
                                refine lv_goto (tgt := 32) hx hb dX12_aligns_226 (by decide) ?_
                                exact ih_hloop_656 x_887 (by constructor <;> omega) f_880 hG _ _ hP hS hD hfr0 hfo_883 (by omega) ls (lv_sub hl [0, 4, 5, 6, 7, 8, 9] rfl)
                              · skip
                                rw [← Int32.toInt_inj, ti_0] at c_886
                                refine lv_aload_n hx hb dX12_aligns_172 rfl (lv_at hl 4 rfl) ?_
                                refine lv_iload hx hb dX12_aligns_173 (lv_at hl 2 rfl) ?_
                                refine lv_if_ne (tgt := 182) hx hb dX12_aligns_175 (by decide) (fun c_888 => ?_) (fun c_888 => ?_)
                                · skip
                                  rw [← Int32.toInt_inj, ti_0] at c_888
                                  refine lv_iload_n hx hb dX12_aligns_182 rfl (lv_at hl 5 rfl) ?_
                                  refine lv_iconst (v := 1) hx hb dX12_aligns_183 (by decide) ?_
                                  refine lv_iadd hx hb dX12_aligns_184 ?_
                                  refine lv_topi (fun x_889 ex_889 => ?_)
                                  have hx_889 : x_889.toInt = p1.toInt + 1 := by rw [ex_889, ad_I (by rw [ti_1]; omega) (by rw [ti_1]; omega), ti_1]
                                  have bx_889 : (1 ≤ x_889.toInt ∧ x_889.toInt ≤ 12) := by constructor <;> omega
                                  refine lv_iload hx hb dX12_aligns_185 (lv_at hl 1 rfl) ?_
                                  refine lv_if_ne (tgt := 194) hx hb dX12_aligns_187 (by decide) (fun c_890 => ?_) (fun c_890 => ?_)
                                  · skip
                                    rw [← Int32.toInt_inj, ti_0] at c_890
                                    exfalso
                                    omega
                                  · skip
                                    rw [← Int32.toInt_inj, ti_0] at c_890
                                    refine lv_iload_n hx hb dX12_aligns_190 rfl (lv_at hl 6 rfl) ?_
                                    refine lv_goto (tgt := 197) hx hb dX12_aligns_191 (by decide) ?_
                                    refine lv_iload hx hb dX12_aligns_197 (lv_at hl 0 rfl) ?_
                                    refine lv_if_eq (tgt := 208) hx hb dX12_aligns_199 (by decide) (fun c_891 => ?_) (fun c_891 => ?_)
                                    · skip
                                      rw [← Int32.toInt_inj, ti_0] at c_891
                                      exfalso
                                      omega
                                    · skip
                                      rw [← Int32.toInt_inj, ti_0] at c_891
                                      refine lv_iload_n hx hb dX12_aligns_202 rfl (lv_at hl 7 rfl) ?_
                                      refine lv_iconst (v := 1) hx hb dX12_aligns_203 (by decide) ?_
                                      refine lv_isub hx hb dX12_aligns_204 ?_
                                      refine lv_topi (fun x_892 ex_892 => ?_)
                                      have hx_892 : x_892.toInt = p3.toInt - 1 := by rw [ex_892, sb_I (by rw [ti_1]; omega) (by rw [ti_1]; omega), ti_1]
                                      have bx_892 : (0 ≤ x_892.toInt ∧ x_892.toInt ≤ 0) := by constructor <;> omega
                                      refine lv_goto (tgt := 209) hx hb dX12_aligns_205 (by decide) ?_
                                      refine lv_iload hx hb dX12_aligns_209 (lv_at hl 8 rfl) ?_
                                      refine lv_iconst (v := 1) hx hb dX12_aligns_211 (by decide) ?_
                                      refine lv_iadd hx hb dX12_aligns_212 ?_
                                      refine lv_topi (fun x_893 ex_893 => ?_)
                                      have hx_893 : x_893.toInt = p4.toInt + 1 := by rw [ex_893, ad_I (by rw [ti_1]; omega) (by rw [ti_1]; omega), ti_1]
                                      have bx_893 : (1 ≤ x_893.toInt ∧ x_893.toInt ≤ 14) := by constructor <;> omega
                                      have hclc_894 : (1 ≤ x_893.toInt ∧ x_893.toInt ≤ 13) := by constructor <;> omega
                                      refine lv_iload hx hb dX12_aligns_213 (lv_at hl 9 rfl) ?_
                                      refine tk_ViP (As := [.int x_889, .int p2, .int x_892, .int x_893, .int p5]) (rest := []) (n := 5) hx hb hml hown hU hN hZ (ih_rec f_880 hG o0 mo0 ko0 x_889 (by constructor <;> omega) p2 (by constructor <;> omega) x_892 (by constructor <;> omega) x_893 (by constructor <;> omega) p5 (by intro w23 w35 e23 e35; rw [hfo_883] at e23 e35; obtain rfl := Option.some.inj e23; obtain rfl := Option.some.inj e35; omega) (by omega) (by omega)) wd_1054 wd_1055 wd_1056 wd_5 wd_1057 (by decide +kernel) ⟨(show (5 + n_) + 1 ≤ 5 + (n_ + 1) by omega), (show 8 + (10 + 11) + (129 + n_ * 29) ≤ 129 + (n_ + 1) * 29 by omega)⟩ hK hP hD hS mo0 hfo_883 12 rfl rfl rfl hl.1 rfl (Nat.le_of_ble_eq_true rfl) dX12_aligns_215 ⟨Nat.le_of_ble_eq_true rfl, Nat.le_of_ble_eq_true rfl⟩ (fun x_895 f_896 H locs hw hP hD hS => ?_)
                                      obtain ⟨hG, bx_895, hkc_897⟩ := hw
                                      have hfo_899 : f_896 o0 = .inr (12, [.ref a_1, .ref a_2, .ref a_3, .int v_4, .ref a_5, .int v_6, .int v_7, .int v_8, .int v_9, .int v_10, .int v_11, .int v_12, .int v_13, .int v_14, .int v_15, .ref a_16, .ref a_17, .ref a_18, .ref a_19, .ref a_20, .ref a_21, .ref a_22, .ref a_23, .int v_24, .int v_25, .int v_26, .int v_27, .int v_28, .ref a_29, .int v_30, .ref a_31, .ref a_32, .int v_33, .int v_34, .ref a_35, .int v_36, .ref a_37, .ref a_38, .int v_39, .int v_40, .ref a_41, .ref a_42, .ref a_43, .int v_44, .ref a_45, .ref a_46, .ref a_47, .ref a_48, .ref a_49, .ref a_50, .ref a_51, .ref a_52, .ref a_53, .int v_54, .int v_55, .ref a_56]) := by rw [hkc_897 o0 (by rw [ko0]; decide) (by rw [ko0]; decide) (by rw [ko0]; decide) (by rw [ko0]; decide) (by rw [ko0]; decide) (by rw [ko0]; decide)]; exact hfo_883
                                      have hfo_900 : f_896 a_1 = .inl (cI, 1560, .inl g_662) := by rw [hkc_897 a_1 (by rw [ka_1]; decide) (by rw [ka_1]; decide) (by rw [ka_1]; decide) (by rw [ka_1]; decide) (by rw [ka_1]; decide) (by rw [ka_1]; decide)]; exact hfo_884
                                      have hfo_901 : f_896 a_22 = .inl (cI, 16, .inl g_872) := by rw [hkc_897 a_22 (by rw [ka_22]; decide) (by rw [ka_22]; decide) (by rw [ka_22]; decide) (by rw [ka_22]; decide) (by rw [ka_22]; decide) (by rw [ka_22]; decide)]; exact hfo_885
                                      have hfr0 : ∀ b, kd b ≠ 579 → kd b ≠ 581 → kd b ≠ 583 → kd b ≠ 585 → kd b ≠ 587 → kd b ≠ 588 → f_896 b = f b := fun b q579 q581 q583 q585 q587 q588 => (hkc_897 b q579 q581 q583 q585 q587 q588).trans (hfr0 b q579 q581 q583 q585 q587 q588)
                                      refine lv_if_eq (tgt := 223) hx hb dX12_aligns_218 (by decide) (fun c_902 => ?_) (fun c_902 => ?_)
                                      · skip
                                        rw [← Int32.toInt_inj, ti_0] at c_902
                                        obtain ⟨x_903, ex_903⟩ : ∃ y : Int32, y_657 + 1 = y := ⟨_, rfl⟩
                                        have hx_903 : x_903.toInt = y_657.toInt + 1 := by rw [← ex_903, ad_I (by rw [ti_1]; omega) (by rw [ti_1]; omega), ti_1]
                                        have bx_903 : (1 ≤ x_903.toInt ∧ x_903.toInt ≤ 20) := by constructor <;> omega
                                        refine lv_iinc (v := x_903) (lv' := [(6, .int x_903), (9, .int y_671), (8, .int x_670), (7, .int x_667), (0, .ref o0), (1, .int p1), (2, .int p2), (3, .int p3), (4, .int p4), (5, .int p5)]) hx hb dX12_aligns_223 hl (k := 3) rfl ex_903 (by decide) rfl (fun ls hl => ?_)
                                        refine lv_goto (tgt := 32) hx hb dX12_aligns_226 (by decide) ?_
                                        exact ih_hloop_656 x_903 (by constructor <;> omega) f_896 hG _ _ hP hS hD hfr0 hfo_899 (by omega) ls (lv_sub hl [0, 4, 5, 6, 7, 8, 9] rfl)
                                      · skip
                                        rw [← Int32.toInt_inj, ti_0] at c_902
                                        refine lv_iconst (v := 1) hx hb dX12_aligns_221 (by decide) ?_
                                        exact W.zret (v := 1) (ty := .boolean) hx hb hr rfl (fun t ht hW => ⟨⟨1, f_896, rfl, ⟨hG, (by decide), hfr0⟩, by rw [ht]; exact hP, va_K.moved hW.alike hK, pl_in hD⟩, hS.F ht⟩) hS.2.2 dX12_aligns_222
                                · skip
                                  rw [← Int32.toInt_inj, ti_0] at c_888
                                  exfalso
                                  omega
                            · skip
                              rw [← Int32.toInt_inj, ti_0] at c_876
                              refine lv_iload_n hx hb dX12_aligns_129 rfl (lv_at hl 6 rfl) ?_
                              refine lv_aload_n hx hb dX12_aligns_130 rfl (lv_at hl 4 rfl) ?_
                              refine tk_getP (D := (dC, dI)) (ci := 12) (v := .int v_36) (C := RX12) (T := TX12) (N := 56) hx hb hU inlX12 hown hK hP mo0 hfo_660 rfl 35 (by decide) (hU _ wd_1049) (fun _ h9 => h9) rfl dX12_aligns_131 ?_
                              refine lv_icmp_eq (tgt := 223) hx hb dX12_aligns_134 (by decide) (fun c_904 => ?_) (fun c_904 => ?_)
                              · skip
                                rw [← Int32.toInt_inj] at c_904
                                obtain ⟨x_905, ex_905⟩ : ∃ y : Int32, y_657 + 1 = y := ⟨_, rfl⟩
                                have hx_905 : x_905.toInt = y_657.toInt + 1 := by rw [← ex_905, ad_I (by rw [ti_1]; omega) (by rw [ti_1]; omega), ti_1]
                                have bx_905 : (1 ≤ x_905.toInt ∧ x_905.toInt ≤ 20) := by constructor <;> omega
                                refine lv_iinc (v := x_905) (lv' := [(6, .int x_905), (9, .int y_671), (8, .int x_670), (7, .int x_667), (0, .ref o0), (1, .int p1), (2, .int p2), (3, .int p3), (4, .int p4), (5, .int p5)]) hx hb dX12_aligns_223 hl (k := 3) rfl ex_905 (by decide) rfl (fun ls hl => ?_)
                                refine lv_goto (tgt := 32) hx hb dX12_aligns_226 (by decide) ?_
                                exact ih_hloop_656 x_905 (by constructor <;> omega) f_659 hG _ _ hP hS hD hfr0 hfo_660 (by omega) ls (lv_sub hl [0, 4, 5, 6, 7, 8, 9] rfl)
                              · skip
                                rw [← Int32.toInt_inj] at c_904
                                have hclc_906 : (0 ≤ p2.toInt ∧ p2.toInt ≤ 7) := by constructor <;> omega
                                refine lv_aload_n hx hb dX12_aligns_137 rfl (lv_at hl 4 rfl) ?_
                                refine tk_getP (D := (dC, dI)) (ci := 12) (v := .ref a_35) (C := RX12) (T := TX12) (N := 56) hx hb hU inlX12 hown hK hP mo0 hfo_660 rfl 34 (by decide) (hU _ wd_186) (fun _ h9 => h9) rfl dX12_aligns_138 ?_
                                refine lv_iload_n hx hb dX12_aligns_141 rfl (lv_at hl 6 rfl) ?_
                                obtain ⟨g_908, hfo_907, hbg_908⟩ := un_594 (hG _ ma_35) ka_35
                                refine tk_ildP hx hb hK hP 0 ma_35 hfo_907 rfl (vp_in_iff.mpr (by constructor <;> omega)) dX12_aligns_142 ?_
                                refine lv_topi (fun x_909 ex_909 => ?_)
                                have bx_909 : (0 ≤ x_909.toInt ∧ x_909.toInt ≤ 8) := by rw [ex_909]; exact hbg_908 _
                                refine lv_iload hx hb dX12_aligns_143 (lv_at hl 1 rfl) ?_
                                refine lv_icmp_eq (tgt := 151) hx hb dX12_aligns_145 (by decide) (fun c_910 => ?_) (fun c_910 => ?_)
                                · skip
                                  rw [← Int32.toInt_inj] at c_910
                                  refine lv_aload_n hx hb dX12_aligns_151 rfl (lv_at hl 4 rfl) ?_
                                  refine lv_iload hx hb dX12_aligns_152 (lv_at hl 8 rfl) ?_
                                  refine lv_aload_n hx hb dX12_aligns_154 rfl (lv_at hl 4 rfl) ?_
                                  refine tk_getP (D := (dC, dI)) (ci := 12) (v := .ref a_1) (C := RX12) (T := TX12) (N := 56) hx hb hU inlX12 hown hK hP mo0 hfo_660 rfl 0 (by decide) (hU _ wd_169) (fun _ h9 => h9) rfl dX12_aligns_155 ?_
                                  refine lv_bipush (v := 20) hx hb dX12_aligns_158 (by decide) ?_
                                  refine lv_iload hx hb dX12_aligns_160 (lv_at hl 3 rfl) ?_
                                  refine lv_iadd hx hb dX12_aligns_162 ?_
                                  refine lv_topi (fun x_911 ex_911 => ?_)
                                  have hx_911 : x_911.toInt = 20 + y_657.toInt := by rw [ex_911, ad_I (by rw [ti_20]; omega) (by rw [ti_20]; omega), ti_20]
                                  have bx_911 : (20 ≤ x_911.toInt ∧ x_911.toInt ≤ 39) := by constructor <;> omega
                                  refine tk_ildP hx hb hK hP 0 ma_1 hfo_661 rfl (vp_in_iff.mpr (by constructor <;> omega)) dX12_aligns_163 ?_
                                  refine lv_topi (fun x_912 ex_912 => ?_)
                                  have bx_912 : (0 ≤ x_912.toInt ∧ x_912.toInt ≤ 80) := by have hc9 := cl_I (i := x_911) (by omega); rw [ex_912]; exact hbg_662.2.2.2.2.2.1 _ (by omega) (by omega) (by omega)
                                  refine lv_iload hx hb dX12_aligns_164 (lv_at hl 9 rfl) ?_
                                  refine tk_ViP (As := [.int p4, .int x_912, .int p5]) (rest := []) (n := 3) hx hb hml hown hU hN hZ (s_X12_reads_k12 l (dC, dI) cI cL cZ cR cG cH Z kd L f_659 hG o0 mo0 ko0 p4 (by constructor <;> omega) x_912 p5) wd_950 wd_951 wd_952 wd_5 wd_953 (by decide +kernel) ⟨(show 4 + 1 ≤ 5 + (n_ + 1) by omega), (show 8 + (5 + 11) + 105 ≤ 129 + (n_ + 1) * 29 by omega)⟩ hK hP hD hS mo0 hfo_660 12 rfl rfl rfl hl.1 rfl (Nat.le_of_ble_eq_true rfl) dX12_aligns_166 ⟨Nat.le_of_ble_eq_true rfl, Nat.le_of_ble_eq_true rfl⟩ (fun x_913 f_914 H locs hw hP hD hS => ?_)
                                  obtain ⟨hG, bx_913, hkc_915⟩ := hw
                                  have hfo_917 : f_914 o0 = .inr (12, [.ref a_1, .ref a_2, .ref a_3, .int v_4, .ref a_5, .int v_6, .int v_7, .int v_8, .int v_9, .int v_10, .int v_11, .int v_12, .int v_13, .int v_14, .int v_15, .ref a_16, .ref a_17, .ref a_18, .ref a_19, .ref a_20, .ref a_21, .ref a_22, .ref a_23, .int v_24, .int v_25, .int v_26, .int v_27, .int v_28, .ref a_29, .int v_30, .ref a_31, .ref a_32, .int v_33, .int v_34, .ref a_35, .int v_36, .ref a_37, .ref a_38, .int v_39, .int v_40, .ref a_41, .ref a_42, .ref a_43, .int v_44, .ref a_45, .ref a_46, .ref a_47, .ref a_48, .ref a_49, .ref a_50, .ref a_51, .ref a_52, .ref a_53, .int v_54, .int v_55, .ref a_56]) := by rw [hkc_915 o0 (by rw [ko0]; decide) (by rw [ko0]; decide) (by rw [ko0]; decide) (by rw [ko0]; decide) (by rw [ko0]; decide) (by rw [ko0]; decide)]; exact hfo_660
                                  have hfo_918 : f_914 a_1 = .inl (cI, 1560, .inl g_662) := by rw [hkc_915 a_1 (by rw [ka_1]; decide) (by rw [ka_1]; decide) (by rw [ka_1]; decide) (by rw [ka_1]; decide) (by rw [ka_1]; decide) (by rw [ka_1]; decide)]; exact hfo_661
                                  have hfo_919 : f_914 a_22 = .inl (cI, 16, .inl g_872) := by rw [hkc_915 a_22 (by rw [ka_22]; decide) (by rw [ka_22]; decide) (by rw [ka_22]; decide) (by rw [ka_22]; decide) (by rw [ka_22]; decide) (by rw [ka_22]; decide)]; exact hfo_871
                                  have hfo_920 : f_914 a_35 = .inl (cI, 16, .inl g_908) := by rw [hkc_915 a_35 (by rw [ka_35]; decide) (by rw [ka_35]; decide) (by rw [ka_35]; decide) (by rw [ka_35]; decide) (by rw [ka_35]; decide) (by rw [ka_35]; decide)]; exact hfo_907
                                  have hfr0 : ∀ b, kd b ≠ 579 → kd b ≠ 581 → kd b ≠ 583 → kd b ≠ 585 → kd b ≠ 587 → kd b ≠ 588 → f_914 b = f b := fun b q579 q581 q583 q585 q587 q588 => (hkc_915 b q579 q581 q583 q585 q587 q588).trans (hfr0 b q579 q581 q583 q585 q587 q588)
                                  refine lv_if_eq (tgt := 223) hx hb dX12_aligns_169 (by decide) (fun c_921 => ?_) (fun c_921 => ?_)
                                  · skip
                                    rw [← Int32.toInt_inj, ti_0] at c_921
                                    obtain ⟨x_922, ex_922⟩ : ∃ y : Int32, y_657 + 1 = y := ⟨_, rfl⟩
                                    have hx_922 : x_922.toInt = y_657.toInt + 1 := by rw [← ex_922, ad_I (by rw [ti_1]; omega) (by rw [ti_1]; omega), ti_1]
                                    have bx_922 : (1 ≤ x_922.toInt ∧ x_922.toInt ≤ 20) := by constructor <;> omega
                                    refine lv_iinc (v := x_922) (lv' := [(6, .int x_922), (9, .int y_671), (8, .int x_670), (7, .int x_667), (0, .ref o0), (1, .int p1), (2, .int p2), (3, .int p3), (4, .int p4), (5, .int p5)]) hx hb dX12_aligns_223 hl (k := 3) rfl ex_922 (by decide) rfl (fun ls hl => ?_)
                                    refine lv_goto (tgt := 32) hx hb dX12_aligns_226 (by decide) ?_
                                    exact ih_hloop_656 x_922 (by constructor <;> omega) f_914 hG _ _ hP hS hD hfr0 hfo_917 (by omega) ls (lv_sub hl [0, 4, 5, 6, 7, 8, 9] rfl)
                                  · skip
                                    rw [← Int32.toInt_inj, ti_0] at c_921
                                    refine lv_aload_n hx hb dX12_aligns_172 rfl (lv_at hl 4 rfl) ?_
                                    refine lv_iload hx hb dX12_aligns_173 (lv_at hl 2 rfl) ?_
                                    refine lv_if_ne (tgt := 182) hx hb dX12_aligns_175 (by decide) (fun c_923 => ?_) (fun c_923 => ?_)
                                    · skip
                                      rw [← Int32.toInt_inj, ti_0] at c_923
                                      refine lv_iload_n hx hb dX12_aligns_182 rfl (lv_at hl 5 rfl) ?_
                                      refine lv_iconst (v := 1) hx hb dX12_aligns_183 (by decide) ?_
                                      refine lv_iadd hx hb dX12_aligns_184 ?_
                                      refine lv_topi (fun x_924 ex_924 => ?_)
                                      have hx_924 : x_924.toInt = p1.toInt + 1 := by rw [ex_924, ad_I (by rw [ti_1]; omega) (by rw [ti_1]; omega), ti_1]
                                      have bx_924 : (1 ≤ x_924.toInt ∧ x_924.toInt ≤ 12) := by constructor <;> omega
                                      refine lv_iload hx hb dX12_aligns_185 (lv_at hl 1 rfl) ?_
                                      refine lv_if_ne (tgt := 194) hx hb dX12_aligns_187 (by decide) (fun c_925 => ?_) (fun c_925 => ?_)
                                      · skip
                                        rw [← Int32.toInt_inj, ti_0] at c_925
                                        refine lv_iload_n hx hb dX12_aligns_194 rfl (lv_at hl 6 rfl) ?_
                                        refine lv_iconst (v := 1) hx hb dX12_aligns_195 (by decide) ?_
                                        refine lv_iadd hx hb dX12_aligns_196 ?_
                                        refine lv_topi (fun x_926 ex_926 => ?_)
                                        have hx_926 : x_926.toInt = p2.toInt + 1 := by rw [ex_926, ad_I (by rw [ti_1]; omega) (by rw [ti_1]; omega), ti_1]
                                        have bx_926 : (1 ≤ x_926.toInt ∧ x_926.toInt ≤ 8) := by constructor <;> omega
                                        refine lv_iload hx hb dX12_aligns_197 (lv_at hl 0 rfl) ?_
                                        refine lv_if_eq (tgt := 208) hx hb dX12_aligns_199 (by decide) (fun c_927 => ?_) (fun c_927 => ?_)
                                        · skip
                                          rw [← Int32.toInt_inj, ti_0] at c_927
                                          exfalso
                                          omega
                                        · skip
                                          rw [← Int32.toInt_inj, ti_0] at c_927
                                          refine lv_iload_n hx hb dX12_aligns_202 rfl (lv_at hl 7 rfl) ?_
                                          refine lv_iconst (v := 1) hx hb dX12_aligns_203 (by decide) ?_
                                          refine lv_isub hx hb dX12_aligns_204 ?_
                                          refine lv_topi (fun x_928 ex_928 => ?_)
                                          have hx_928 : x_928.toInt = p3.toInt - 1 := by rw [ex_928, sb_I (by rw [ti_1]; omega) (by rw [ti_1]; omega), ti_1]
                                          have bx_928 : (0 ≤ x_928.toInt ∧ x_928.toInt ≤ 0) := by constructor <;> omega
                                          refine lv_goto (tgt := 209) hx hb dX12_aligns_205 (by decide) ?_
                                          refine lv_iload hx hb dX12_aligns_209 (lv_at hl 8 rfl) ?_
                                          refine lv_iconst (v := 1) hx hb dX12_aligns_211 (by decide) ?_
                                          refine lv_iadd hx hb dX12_aligns_212 ?_
                                          refine lv_topi (fun x_929 ex_929 => ?_)
                                          have hx_929 : x_929.toInt = p4.toInt + 1 := by rw [ex_929, ad_I (by rw [ti_1]; omega) (by rw [ti_1]; omega), ti_1]
                                          have bx_929 : (1 ≤ x_929.toInt ∧ x_929.toInt ≤ 14) := by constructor <;> omega
                                          have hclc_930 : (1 ≤ x_929.toInt ∧ x_929.toInt ≤ 13) := by constructor <;> omega
                                          refine lv_iload hx hb dX12_aligns_213 (lv_at hl 9 rfl) ?_
                                          refine tk_ViP (As := [.int x_924, .int x_926, .int x_928, .int x_929, .int p5]) (rest := []) (n := 5) hx hb hml hown hU hN hZ (ih_rec f_914 hG o0 mo0 ko0 x_924 (by constructor <;> omega) x_926 (by constructor <;> omega) x_928 (by constructor <;> omega) x_929 (by constructor <;> omega) p5 (by intro w23 w35 e23 e35; rw [hfo_917] at e23 e35; obtain rfl := Option.some.inj e23; obtain rfl := Option.some.inj e35; omega) (by omega) (by omega)) wd_1054 wd_1055 wd_1056 wd_5 wd_1057 (by decide +kernel) ⟨(show (5 + n_) + 1 ≤ 5 + (n_ + 1) by omega), (show 8 + (10 + 11) + (129 + n_ * 29) ≤ 129 + (n_ + 1) * 29 by omega)⟩ hK hP hD hS mo0 hfo_917 12 rfl rfl rfl hl.1 rfl (Nat.le_of_ble_eq_true rfl) dX12_aligns_215 ⟨Nat.le_of_ble_eq_true rfl, Nat.le_of_ble_eq_true rfl⟩ (fun x_931 f_932 H locs hw hP hD hS => ?_)
                                          obtain ⟨hG, bx_931, hkc_933⟩ := hw
                                          have hfo_935 : f_932 o0 = .inr (12, [.ref a_1, .ref a_2, .ref a_3, .int v_4, .ref a_5, .int v_6, .int v_7, .int v_8, .int v_9, .int v_10, .int v_11, .int v_12, .int v_13, .int v_14, .int v_15, .ref a_16, .ref a_17, .ref a_18, .ref a_19, .ref a_20, .ref a_21, .ref a_22, .ref a_23, .int v_24, .int v_25, .int v_26, .int v_27, .int v_28, .ref a_29, .int v_30, .ref a_31, .ref a_32, .int v_33, .int v_34, .ref a_35, .int v_36, .ref a_37, .ref a_38, .int v_39, .int v_40, .ref a_41, .ref a_42, .ref a_43, .int v_44, .ref a_45, .ref a_46, .ref a_47, .ref a_48, .ref a_49, .ref a_50, .ref a_51, .ref a_52, .ref a_53, .int v_54, .int v_55, .ref a_56]) := by rw [hkc_933 o0 (by rw [ko0]; decide) (by rw [ko0]; decide) (by rw [ko0]; decide) (by rw [ko0]; decide) (by rw [ko0]; decide) (by rw [ko0]; decide)]; exact hfo_917
                                          have hfo_936 : f_932 a_1 = .inl (cI, 1560, .inl g_662) := by rw [hkc_933 a_1 (by rw [ka_1]; decide) (by rw [ka_1]; decide) (by rw [ka_1]; decide) (by rw [ka_1]; decide) (by rw [ka_1]; decide) (by rw [ka_1]; decide)]; exact hfo_918
                                          have hfo_937 : f_932 a_22 = .inl (cI, 16, .inl g_872) := by rw [hkc_933 a_22 (by rw [ka_22]; decide) (by rw [ka_22]; decide) (by rw [ka_22]; decide) (by rw [ka_22]; decide) (by rw [ka_22]; decide) (by rw [ka_22]; decide)]; exact hfo_919
                                          have hfo_938 : f_932 a_35 = .inl (cI, 16, .inl g_908) := by rw [hkc_933 a_35 (by rw [ka_35]; decide) (by rw [ka_35]; decide) (by rw [ka_35]; decide) (by rw [ka_35]; decide) (by rw [ka_35]; decide) (by rw [ka_35]; decide)]; exact hfo_920
                                          have hfr0 : ∀ b, kd b ≠ 579 → kd b ≠ 581 → kd b ≠ 583 → kd b ≠ 585 → kd b ≠ 587 → kd b ≠ 588 → f_932 b = f b := fun b q579 q581 q583 q585 q587 q588 => (hkc_933 b q579 q581 q583 q585 q587 q588).trans (hfr0 b q579 q581 q583 q585 q587 q588)
                                          refine lv_if_eq (tgt := 223) hx hb dX12_aligns_218 (by decide) (fun c_939 => ?_) (fun c_939 => ?_)
                                          · skip
                                            rw [← Int32.toInt_inj, ti_0] at c_939
                                            obtain ⟨x_940, ex_940⟩ : ∃ y : Int32, y_657 + 1 = y := ⟨_, rfl⟩
                                            have hx_940 : x_940.toInt = y_657.toInt + 1 := by rw [← ex_940, ad_I (by rw [ti_1]; omega) (by rw [ti_1]; omega), ti_1]
                                            have bx_940 : (1 ≤ x_940.toInt ∧ x_940.toInt ≤ 20) := by constructor <;> omega
                                            refine lv_iinc (v := x_940) (lv' := [(6, .int x_940), (9, .int y_671), (8, .int x_670), (7, .int x_667), (0, .ref o0), (1, .int p1), (2, .int p2), (3, .int p3), (4, .int p4), (5, .int p5)]) hx hb dX12_aligns_223 hl (k := 3) rfl ex_940 (by decide) rfl (fun ls hl => ?_)
                                            refine lv_goto (tgt := 32) hx hb dX12_aligns_226 (by decide) ?_
                                            exact ih_hloop_656 x_940 (by constructor <;> omega) f_932 hG _ _ hP hS hD hfr0 hfo_935 (by omega) ls (lv_sub hl [0, 4, 5, 6, 7, 8, 9] rfl)
                                          · skip
                                            rw [← Int32.toInt_inj, ti_0] at c_939
                                            refine lv_iconst (v := 1) hx hb dX12_aligns_221 (by decide) ?_
                                            exact W.zret (v := 1) (ty := .boolean) hx hb hr rfl (fun t ht hW => ⟨⟨1, f_932, rfl, ⟨hG, (by decide), hfr0⟩, by rw [ht]; exact hP, va_K.moved hW.alike hK, pl_in hD⟩, hS.F ht⟩) hS.2.2 dX12_aligns_222
                                      · skip
                                        rw [← Int32.toInt_inj, ti_0] at c_925
                                        exfalso
                                        omega
                                    · skip
                                      rw [← Int32.toInt_inj, ti_0] at c_923
                                      exfalso
                                      omega
                                · skip
                                  rw [← Int32.toInt_inj] at c_910
                                  refine lv_goto (tgt := 223) hx hb dX12_aligns_148 (by decide) ?_
                                  obtain ⟨x_941, ex_941⟩ : ∃ y : Int32, y_657 + 1 = y := ⟨_, rfl⟩
                                  have hx_941 : x_941.toInt = y_657.toInt + 1 := by rw [← ex_941, ad_I (by rw [ti_1]; omega) (by rw [ti_1]; omega), ti_1]
                                  have bx_941 : (1 ≤ x_941.toInt ∧ x_941.toInt ≤ 20) := by constructor <;> omega
                                  refine lv_iinc (v := x_941) (lv' := [(6, .int x_941), (9, .int y_671), (8, .int x_670), (7, .int x_667), (0, .ref o0), (1, .int p1), (2, .int p2), (3, .int p3), (4, .int p4), (5, .int p5)]) hx hb dX12_aligns_223 hl (k := 3) rfl ex_941 (by decide) rfl (fun ls hl => ?_)
                                  refine lv_goto (tgt := 32) hx hb dX12_aligns_226 (by decide) ?_
                                  exact ih_hloop_656 x_941 (by constructor <;> omega) f_659 hG _ _ hP hS hD hfr0 hfo_660 (by omega) ls (lv_sub hl [0, 4, 5, 6, 7, 8, 9] rfl)
                refine lv_if_eq (tgt := 84) hx hb dX12_aligns_76 (by decide) (fun c_942 => ?_) (fun c_942 => ?_)
                · skip
                  rw [← Int32.toInt_inj, ti_0] at c_942
                  refine lv_iconst (v := 1) hx hb dX12_aligns_84 (by decide) ?_
                  refine lv_goto (tgt := 89) hx hb dX12_aligns_85 (by decide) ?_
                  exact hcut_672 1 (by decide) (by (try rw [ti_1]) <;> omega) ls (lv_sub hl [0, 1, 2, 3, 4, 5, 6, 7, 8] rfl)
                · skip
                  rw [← Int32.toInt_inj, ti_0] at c_942
                  refine lv_iload hx hb dX12_aligns_79 (lv_at hl 0 rfl) ?_
                  refine lv_if_ne (tgt := 88) hx hb dX12_aligns_81 (by decide) (fun c_943 => ?_) (fun c_943 => ?_)
                  · skip
                    rw [← Int32.toInt_inj, ti_0] at c_943
                    refine lv_iconst (v := 0) hx hb dX12_aligns_88 (by decide) ?_
                    exact hcut_672 0 (by decide) (by (try rw [ti_0]) <;> omega) ls (lv_sub hl [0, 1, 2, 3, 4, 5, 6, 7, 8] rfl)
                  · skip
                    rw [← Int32.toInt_inj, ti_0] at c_943
                    refine lv_iconst (v := 1) hx hb dX12_aligns_84 (by decide) ?_
                    refine lv_goto (tgt := 89) hx hb dX12_aligns_85 (by decide) ?_
                    exact hcut_672 1 (by decide) (by (try rw [ti_1]) <;> omega) ls (lv_sub hl [0, 1, 2, 3, 4, 5, 6, 7, 8] rfl)
          exact hloop_656 21 0 (by decide) f hG _ _ hP hS hD hfr0 hfo_57 (by (try rw [ti_0]) <;> omega) ls hl
        · skip
          rw [← Int32.toInt_inj, ti_0] at c_650
          refine lv_iconst (v := 1) hx hb dX12_aligns_27 (by decide) ?_
          exact W.zret (v := 1) (ty := .boolean) hx hb hr rfl (fun t ht hW => ⟨⟨1, f, rfl, ⟨hG, (by decide), hfr0⟩, by rw [ht]; exact hP, va_K.moved hW.alike hK, pl_in hD⟩, hS.F ht⟩) hS.2.2 dX12_aligns_28
