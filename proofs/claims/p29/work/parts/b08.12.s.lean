set_option maxHeartbeats 8000000 in
set_option maxRecDepth 100000 in
theorem s_X12_takesPair_k12_F8 (l : Launch) (D : va_G) (cI cL cZ cR cG cH : ClassId) (Z : zT) (kd : Nat → Nat) (L : List Nat) (f : Nat → va_E) (hG : GI (okc cI cL cZ cR cG cH L kd) kd L f) (o0 : Nat) (mo0 : o0 ∈ L) (ko0 : kd o0 = 12) (hxtr0 : ∀ d9, fldR (f o0) 1 = some d9 → frel kd 576 8 f d9) : mPI l D cI cL cZ cR cG cH Z yX12_takesPair cX12_takesPair 8 (some .boolean) 4 82 [.ref o0] L f (fun (r : Int32) (f9 : Nat → va_E) => GI (okc cI cL cZ cR cG cH L kd) kd L f9 ∧ (0 ≤ r.toInt ∧ r.toInt ≤ 1) ∧ (∀ b, kd b ≠ 12 → kd b ≠ 576 → f9 b = f b) ∧ (∀ b, kd b = 12 → ∀ j, fldR (f9 b) j = fldR (f b) j) ∧ (∀ b, kd b = 12 → ∀ j, j ≠ 6 → j ≠ 7 → j ≠ 8 → j ≠ 11 → j ≠ 12 → j ≠ 13 → fldI (f9 b) j = fldI (f b) j) ∧ (∀ (w6 z6 : Int32), fldI (f o0) 6 = some w6 → fldI (f9 o0) 6 = some z6 → w6.toInt ≤ z6.toInt) ∧ (∀ d9, fldR (f9 o0) 1 = some d9 → frel kd 576 8 f9 d9)) := by
  obtain ⟨dC, dI⟩ := D
  refine Met.ofW (cc := cX12_takesPair) (maxL := 8) (ret := (some .boolean)) (by decide) rfl ?_
  intro p e s m args below meth c s₁ B hml hv
  obtain ⟨rfl, hP, hK, hD0, hN, hZ⟩ := hv
  have hx := B.exec
  have hb := B.bytes
  have hr := B.returns
  have hU : ∀ w ∈ wsU, w.before _ s = true := fun w h => atoms_spec (ws := wU yX12_takesPair cX12_takesPair 8 (some .boolean)) B.pre w (List.mem_cons_of_mem _ h)
  have hown : s.vm.findClass RX12 = some m.cls := findClass_of_methodNamed B.named
  have hlocks := B.notSynchronized
  have hD := pl_in hD0
  have hS : va_S (fun q => q ∈ L) s.heap s.heap [] := va_S.rf
  have hl := lv_entry ([.ref o0]) (n := 8) (Nat.le_of_ble_eq_true rfl)
  rw [lg_entry_eq]
  generalize (lg_sl ([.ref o0]) ++ List.replicate (8 - (lg_sl ([.ref o0])).length) Slot.unset).toArray = ls at hl ⊢
  have hl : lv_has ls 8 [(0, .ref o0)] := hl
  have hfr0 : ∀ b, kd b ≠ 12 → kd b ≠ 576 → f b = f b := fun _ _ _ => rfl
  have hrA12 : ∀ b, kd b = 12 → ∀ j, fldR (f b) j = fldR (f b) j := fun _ _ _ => rfl
  have hfA12 : ∀ b, kd b = 12 → ∀ j, j ≠ 6 → j ≠ 7 → j ≠ 8 → j ≠ 11 → j ≠ 12 → j ≠ 13 → fldI (f b) j = fldI (f b) j := fun _ _ _ _ _ _ _ _ _ => rfl
  obtain ⟨a_1, a_2, a_3, v_4, a_5, v_6, v_7, v_8, v_9, v_10, v_11, v_12, v_13, v_14, v_15, a_16, a_17, a_18, a_19, a_20, a_21, a_22, a_23, v_24, v_25, v_26, v_27, v_28, a_29, v_30, a_31, a_32, v_33, v_34, a_35, v_36, a_37, a_38, v_39, v_40, a_41, a_42, a_43, v_44, a_45, a_46, a_47, a_48, a_49, a_50, a_51, a_52, a_53, v_54, v_55, a_56, hfo_57, fa_58⟩ := un12 (hG _ mo0) ko0
  obtain ⟨ma_2, ka_2⟩ := fa12_1 fa_58
  have bv_7 : (0 ≤ v_7.toInt ∧ v_7.toInt ≤ 600) := fa12_6 fa_58
  have hT0 := hxtr0 a_2 (by rw [hfo_57]; rfl)
  refine lv_aload_n hx hb dX12_takesPair_0 rfl (lv_at hl 0 rfl) ?_
  refine tk_VvP (As := []) (rest := []) (n := 0) hx hb hml hown hU hN hZ (s_X12_blanks_k12 l (dC, dI) cI cL cZ cR cG cH Z kd L f hG o0 mo0 ko0) wd_577 wd_578 wd_579 wd_5 wd_580 (by decide +kernel) ⟨Nat.le_of_ble_eq_true rfl, Nat.le_of_ble_eq_true rfl⟩ hK hP hD hS mo0 hfo_57 12 rfl rfl rfl hl.1 rfl (Nat.le_of_ble_eq_true rfl) dX12_takesPair_1 ⟨Nat.le_of_ble_eq_true rfl, Nat.le_of_ble_eq_true rfl⟩ (fun f_60 H locs hw hP hD hS => ?_)
  obtain ⟨hG, hkc_61, hra_62, hfa_63, hpost_64⟩ := hw
  have hfr0 : ∀ b, kd b ≠ 12 → kd b ≠ 576 → f_60 b = f b := fun b q12 q576 => (hkc_61 b q12).trans (hfr0 b q12 q576)
  have hrA12 : ∀ b, kd b = 12 → ∀ j, fldR (f_60 b) j = fldR (f b) j := fun b kb j => (hra_62 b kb j).trans (hrA12 b kb j)
  have hfA12 : ∀ b, kd b = 12 → ∀ j, j ≠ 6 → j ≠ 7 → j ≠ 8 → j ≠ 11 → j ≠ 12 → j ≠ 13 → fldI (f_60 b) j = fldI (f b) j := fun b kb j n6 n7 n8 n11 n12 n13 => (hfa_63 b kb j n6).trans (hfA12 b kb j n6 n7 n8 n11 n12 n13)
  have hT0 : frel kd 576 8 f_60 a_2 := hT0.keep (fun b q => hkc_61 b (by rw [q]; decide))
  obtain ⟨v_66, hfo_67, fa_68⟩ := op12_6 hfo_57 (hG _ mo0) ko0 (hra_62 o0 ko0) (hfa_63 o0 ko0)
  have bv_66 : (0 ≤ v_66.toInt ∧ v_66.toInt ≤ 600) := fa12_6 fa_68
  have hqhpost_64 := hpost_64 v_7 v_66 (by rw [hfo_57]; rfl) (by rw [hfo_67]; rfl)
  refine lv_aload_n hx hb dX12_takesPair_4 rfl (lv_at hl 0 rfl) ?_
  refine tk_getP (D := (dC, dI)) (ci := 12) (v := .int v_66) (C := RX12) (T := TX12) (N := 56) hx hb hU inlX12 hown hK hP mo0 hfo_67 rfl 6 (by decide) (hU _ wd_566) (fun _ h9 => h9) rfl dX12_takesPair_5 ?_
  refine lv_istore_n (lv' := [(1, .int v_66), (0, .ref o0)]) hx hb dX12_takesPair_8 rfl hl (by decide) rfl (fun ls hl => ?_)
  refine lv_aload_n hx hb dX12_takesPair_9 rfl (lv_at hl 1 rfl) ?_
  refine tk_ViP (As := []) (rest := []) (n := 0) hx hb hml hown hU hN hZ (s_X12_takesS_k12 l (dC, dI) cI cL cZ cR cG cH Z kd L f_60 hG o0 mo0 ko0) wd_620 wd_621 wd_622 wd_5 wd_623 (by decide +kernel) ⟨Nat.le_of_ble_eq_true rfl, Nat.le_of_ble_eq_true rfl⟩ hK hP hD hS mo0 hfo_67 12 rfl rfl rfl hl.1 rfl (Nat.le_of_ble_eq_true rfl) dX12_takesPair_10 ⟨Nat.le_of_ble_eq_true rfl, Nat.le_of_ble_eq_true rfl⟩ (fun x_69 f_70 H locs hw hP hD hS => ?_)
  obtain ⟨hG, bx_69, hkc_71, hra_72, hfa_73, hpost_74, hxp_75⟩ := hw
  have hfr0 : ∀ b, kd b ≠ 12 → kd b ≠ 576 → f_70 b = f b := fun b q12 q576 => (hkc_71 b q12).trans (hfr0 b q12 q576)
  have hrA12 : ∀ b, kd b = 12 → ∀ j, fldR (f_70 b) j = fldR (f b) j := fun b kb j => (hra_72 b kb j).trans (hrA12 b kb j)
  have hfA12 : ∀ b, kd b = 12 → ∀ j, j ≠ 6 → j ≠ 7 → j ≠ 8 → j ≠ 11 → j ≠ 12 → j ≠ 13 → fldI (f_70 b) j = fldI (f b) j := fun b kb j n6 n7 n8 n11 n12 n13 => (hfa_73 b kb j n6 n7 n8 n11).trans (hfA12 b kb j n6 n7 n8 n11 n12 n13)
  have hT0 : frel kd 576 8 f_70 a_2 := hT0.keep (fun b q => hkc_71 b (by rw [q]; decide))
  obtain ⟨v_77, v_78, v_79, v_80, hfo_81, fa_82⟩ := op12_6_7_8_11 hfo_67 (hG _ mo0) ko0 (hra_72 o0 ko0) (hfa_73 o0 ko0)
  have bv_77 : (0 ≤ v_77.toInt ∧ v_77.toInt ≤ 600) := fa12_6 fa_82
  have bv_78 : ((-2147483648) ≤ v_78.toInt ∧ v_78.toInt ≤ 2147483647) := ⟨i32_lo _, i32_hi _⟩
  have bv_79 : ((-2147483648) ≤ v_79.toInt ∧ v_79.toInt ≤ 2147483647) := ⟨i32_lo _, i32_hi _⟩
  have bv_80 : (0 ≤ v_80.toInt ∧ v_80.toInt ≤ 8) := fa12_11 fa_82
  have hqhpost_74 := hpost_74 v_66 v_77 (by rw [hfo_67]; rfl) (by rw [hfo_81]; rfl)
  obtain ⟨g_84, hfo_83, hbg_84⟩ := un_576 (hG _ ma_2) ka_2
  have htsx_69 := hxp_75 a_2 g_84 v_80 (by rw [hfo_81]; rfl) hfo_83 (by rw [hfo_81]; rfl)
  refine lv_if_ne (tgt := 18) hx hb dX12_takesPair_13 (by decide) (fun c_85 => ?_) (fun c_85 => ?_)
  · skip
    rw [← Int32.toInt_inj, ti_0] at c_85
    refine lv_aload_n hx hb dX12_takesPair_18 rfl (lv_at hl 1 rfl) ?_
    refine lv_aload_n hx hb dX12_takesPair_19 rfl (lv_at hl 1 rfl) ?_
    refine tk_getP (D := (dC, dI)) (ci := 12) (v := .int v_80) (C := RX12) (T := TX12) (N := 56) hx hb hU inlX12 hown hK hP mo0 hfo_81 rfl 11 (by decide) (hU _ wd_617) (fun _ h9 => h9) rfl dX12_takesPair_20 ?_
    refine tk_putP (D := (dC, dI)) (ci := 12) (v := .int v_80) (ty := .int) (C := RX12) (T := TX12) (N := 56) hx hb hU inlX12 tyX12 tyX12_ok nmX12 hown hK hP hD hS mo0 hfo_81 rfl 12 (by decide) (hU _ wd_618) (fun _ h9 => h9) rfl (by decide +kernel) rfl rfl (Nat.le_of_ble_eq_true rfl) dX12_takesPair_23 (fun H locs hP hD hS => ?_)
    have fa_86 := fu12_12 (y := v_80) fa_82 (by constructor <;> omega)
    obtain ⟨f_88, ef_88⟩ : ∃ y : Nat → va_E, y = va_up f_70 o0 (.inr (12, [.ref a_1, .ref a_2, .ref a_3, .int v_4, .ref a_5, .int v_6, .int v_77, .int v_78, .int v_79, .int v_10, .int v_11, .int v_80, .int v_80, .int v_14, .int v_15, .ref a_16, .ref a_17, .ref a_18, .ref a_19, .ref a_20, .ref a_21, .ref a_22, .ref a_23, .int v_24, .int v_25, .int v_26, .int v_27, .int v_28, .ref a_29, .int v_30, .ref a_31, .ref a_32, .int v_33, .int v_34, .ref a_35, .int v_36, .ref a_37, .ref a_38, .int v_39, .int v_40, .ref a_41, .ref a_42, .ref a_43, .int v_44, .ref a_45, .ref a_46, .ref a_47, .ref a_48, .ref a_49, .ref a_50, .ref a_51, .ref a_52, .ref a_53, .int v_54, .int v_55, .ref a_56])) := ⟨_, rfl⟩
    have hP : va_P (dC, dI) vwCl (va_pl L f_88) H := by rw [ef_88]; exact hP
    have hD : va_D (fun q => q ∈ L) (va_pl L f_88) := by rw [ef_88]; exact hD
    have hG : GI (okc cI cL cZ cR cG cH L kd) kd L f_88 := by rw [ef_88]; exact hG.set o0 (mk_12 ko0 (fo12 fa_86))
    have hfo_89 : f_88 a_2 = .inl (cI, 1560, .inl g_84) := by rw [ef_88, up_ne (kd_ne ko0 ka_2 (by decide))]; exact hfo_83
    have hfr0 : ∀ b, kd b ≠ 12 → kd b ≠ 576 → f_88 b = f b := fun b q12 q576 => (congrFun ef_88 b).trans ((up_ne (fun e9 => q12 (by rw [e9]; exact ko0))).trans (hfr0 b q12 q576))
    have hrA12 : ∀ b, kd b = 12 → ∀ j, fldR (f_88 b) j = fldR (f b) j := fun b kb j => ((congrArg (fun x => fldR x j) (congrFun ef_88 b)).trans (fra_up (fun j => by rw [hfo_81]; exact fr_set (k := 12) rfl rfl) j b)).trans (hrA12 b kb j)
    have hfA12 : ∀ b, kd b = 12 → ∀ j, j ≠ 6 → j ≠ 7 → j ≠ 8 → j ≠ 11 → j ≠ 12 → j ≠ 13 → fldI (f_88 b) j = fldI (f b) j := fun b kb j n6 n7 n8 n11 n12 n13 => ((congrArg (fun x => fldI x j) (congrFun ef_88 b)).trans (fia_up (fun h9 => by rw [hfo_81]; exact fi_set (k := 12) rfl h9) n12 b)).trans (hfA12 b kb j n6 n7 n8 n11 n12 n13)
    have hT0 : frel kd 576 8 f_88 a_2 := by rw [ef_88]; exact hT0.keep (fun b q => up_ne (kd_ne ko0 q (by decide)))
    have hfo_90 : f_88 o0 = .inr (12, [.ref a_1, .ref a_2, .ref a_3, .int v_4, .ref a_5, .int v_6, .int v_77, .int v_78, .int v_79, .int v_10, .int v_11, .int v_80, .int v_80, .int v_14, .int v_15, .ref a_16, .ref a_17, .ref a_18, .ref a_19, .ref a_20, .ref a_21, .ref a_22, .ref a_23, .int v_24, .int v_25, .int v_26, .int v_27, .int v_28, .ref a_29, .int v_30, .ref a_31, .ref a_32, .int v_33, .int v_34, .ref a_35, .int v_36, .ref a_37, .ref a_38, .int v_39, .int v_40, .ref a_41, .ref a_42, .ref a_43, .int v_44, .ref a_45, .ref a_46, .ref a_47, .ref a_48, .ref a_49, .ref a_50, .ref a_51, .ref a_52, .ref a_53, .int v_54, .int v_55, .ref a_56]) := by rw [ef_88]; exact up_self
    refine lv_aload_n hx hb dX12_takesPair_26 rfl (lv_at hl 1 rfl) ?_
    refine lv_bipush (v := 58) hx hb dX12_takesPair_27 (by decide) ?_
    refine tk_ViP (As := [.int 58]) (rest := []) (n := 1) hx hb hml hown hU hN hZ (s_X12_takes_k12 l (dC, dI) cI cL cZ cR cG cH Z kd L f_88 hG o0 mo0 ko0 58 (by decide)) wd_624 wd_625 wd_626 wd_5 wd_627 (by decide +kernel) ⟨Nat.le_of_ble_eq_true rfl, Nat.le_of_ble_eq_true rfl⟩ hK hP hD hS mo0 hfo_90 12 rfl rfl rfl hl.1 rfl (Nat.le_of_ble_eq_true rfl) dX12_takesPair_29 ⟨Nat.le_of_ble_eq_true rfl, Nat.le_of_ble_eq_true rfl⟩ (fun x_91 f_92 H locs hw hP hD hS => ?_)
    obtain ⟨hG, bx_91, hkc_93, hra_94, hfa_95, hpost_96⟩ := hw
    have hfo_98 : f_92 a_2 = .inl (cI, 1560, .inl g_84) := by rw [hkc_93 a_2 (by rw [ka_2]; decide)]; exact hfo_89
    have hfr0 : ∀ b, kd b ≠ 12 → kd b ≠ 576 → f_92 b = f b := fun b q12 q576 => (hkc_93 b q12).trans (hfr0 b q12 q576)
    have hrA12 : ∀ b, kd b = 12 → ∀ j, fldR (f_92 b) j = fldR (f b) j := fun b kb j => (hra_94 b kb j).trans (hrA12 b kb j)
    have hfA12 : ∀ b, kd b = 12 → ∀ j, j ≠ 6 → j ≠ 7 → j ≠ 8 → j ≠ 11 → j ≠ 12 → j ≠ 13 → fldI (f_92 b) j = fldI (f b) j := fun b kb j n6 n7 n8 n11 n12 n13 => (hfa_95 b kb j n6 n7 n8).trans (hfA12 b kb j n6 n7 n8 n11 n12 n13)
    have hT0 : frel kd 576 8 f_92 a_2 := hT0.keep (fun b q => hkc_93 b (by rw [q]; decide))
    obtain ⟨v_99, v_100, v_101, hfo_102, fa_103⟩ := op12_6_7_8 hfo_90 (hG _ mo0) ko0 (hra_94 o0 ko0) (hfa_95 o0 ko0)
    have bv_99 : (0 ≤ v_99.toInt ∧ v_99.toInt ≤ 600) := fa12_6 fa_103
    have bv_100 : ((-2147483648) ≤ v_100.toInt ∧ v_100.toInt ≤ 2147483647) := ⟨i32_lo _, i32_hi _⟩
    have bv_101 : ((-2147483648) ≤ v_101.toInt ∧ v_101.toInt ≤ 2147483647) := ⟨i32_lo _, i32_hi _⟩
    have hqhpost_96 := hpost_96 v_77 v_99 (by rw [hfo_90]; rfl) (by rw [hfo_102]; rfl)
    try rw [ti_58] at hqhpost_96
    refine lv_if_eq (tgt := 42) hx hb dX12_takesPair_32 (by decide) (fun c_104 => ?_) (fun c_104 => ?_)
    · skip
      rw [← Int32.toInt_inj, ti_0] at c_104
      refine lv_iconst (v := 0) hx hb dX12_takesPair_42 (by decide) ?_
      exact W.zret (v := 0) (ty := .boolean) hx hb hr rfl (fun t ht hW => ⟨⟨0, f_92, rfl, ⟨hG, (by decide), hfr0, hrA12, hfA12, (by intro w6 z6 e6 d6; rw [hfo_57] at e6; rw [hfo_102] at d6; obtain rfl := Option.some.inj e6; obtain rfl := Option.some.inj d6; (try rw [ti_0]) <;> omega), (fun d9 h9 => by rw [hfo_102] at h9; obtain rfl := Option.some.inj h9; exact hT0)⟩, by rw [ht]; exact hP, va_K.moved hW.alike hK, pl_in hD⟩, hS.F ht⟩) hS.2.2 dX12_takesPair_43
    · skip
      rw [← Int32.toInt_inj, ti_0] at c_104
      refine lv_aload_n hx hb dX12_takesPair_35 rfl (lv_at hl 1 rfl) ?_
      refine tk_ViP (As := []) (rest := []) (n := 0) hx hb hml hown hU hN hZ (s_X12_takesS_k12 l (dC, dI) cI cL cZ cR cG cH Z kd L f_92 hG o0 mo0 ko0) wd_620 wd_621 wd_622 wd_5 wd_623 (by decide +kernel) ⟨Nat.le_of_ble_eq_true rfl, Nat.le_of_ble_eq_true rfl⟩ hK hP hD hS mo0 hfo_102 12 rfl rfl rfl hl.1 rfl (Nat.le_of_ble_eq_true rfl) dX12_takesPair_36 ⟨Nat.le_of_ble_eq_true rfl, Nat.le_of_ble_eq_true rfl⟩ (fun x_105 f_106 H locs hw hP hD hS => ?_)
      obtain ⟨hG, bx_105, hkc_107, hra_108, hfa_109, hpost_110, hxp_111⟩ := hw
      have hfo_113 : f_106 a_2 = .inl (cI, 1560, .inl g_84) := by rw [hkc_107 a_2 (by rw [ka_2]; decide)]; exact hfo_98
      have hfr0 : ∀ b, kd b ≠ 12 → kd b ≠ 576 → f_106 b = f b := fun b q12 q576 => (hkc_107 b q12).trans (hfr0 b q12 q576)
      have hrA12 : ∀ b, kd b = 12 → ∀ j, fldR (f_106 b) j = fldR (f b) j := fun b kb j => (hra_108 b kb j).trans (hrA12 b kb j)
      have hfA12 : ∀ b, kd b = 12 → ∀ j, j ≠ 6 → j ≠ 7 → j ≠ 8 → j ≠ 11 → j ≠ 12 → j ≠ 13 → fldI (f_106 b) j = fldI (f b) j := fun b kb j n6 n7 n8 n11 n12 n13 => (hfa_109 b kb j n6 n7 n8 n11).trans (hfA12 b kb j n6 n7 n8 n11 n12 n13)
      have hT0 : frel kd 576 8 f_106 a_2 := hT0.keep (fun b q => hkc_107 b (by rw [q]; decide))
      obtain ⟨v_114, v_115, v_116, v_117, hfo_118, fa_119⟩ := op12_6_7_8_11 hfo_102 (hG _ mo0) ko0 (hra_108 o0 ko0) (hfa_109 o0 ko0)
      have bv_114 : (0 ≤ v_114.toInt ∧ v_114.toInt ≤ 600) := fa12_6 fa_119
      have bv_115 : ((-2147483648) ≤ v_115.toInt ∧ v_115.toInt ≤ 2147483647) := ⟨i32_lo _, i32_hi _⟩
      have bv_116 : ((-2147483648) ≤ v_116.toInt ∧ v_116.toInt ≤ 2147483647) := ⟨i32_lo _, i32_hi _⟩
      have bv_117 : (0 ≤ v_117.toInt ∧ v_117.toInt ≤ 8) := fa12_11 fa_119
      have hqhpost_110 := hpost_110 v_99 v_114 (by rw [hfo_102]; rfl) (by rw [hfo_118]; rfl)
      have htsx_105 := hxp_111 a_2 g_84 v_117 (by rw [hfo_118]; rfl) hfo_113 (by rw [hfo_118]; rfl)
      refine lv_if_ne (tgt := 44) hx hb dX12_takesPair_39 (by decide) (fun c_120 => ?_) (fun c_120 => ?_)
      · skip
        rw [← Int32.toInt_inj, ti_0] at c_120
        refine lv_aload_n hx hb dX12_takesPair_44 rfl (lv_at hl 1 rfl) ?_
        refine lv_aload_n hx hb dX12_takesPair_45 rfl (lv_at hl 1 rfl) ?_
        refine tk_getP (D := (dC, dI)) (ci := 12) (v := .int v_117) (C := RX12) (T := TX12) (N := 56) hx hb hU inlX12 hown hK hP mo0 hfo_118 rfl 11 (by decide) (hU _ wd_617) (fun _ h9 => h9) rfl dX12_takesPair_46 ?_
        refine tk_putP (D := (dC, dI)) (ci := 12) (v := .int v_117) (ty := .int) (C := RX12) (T := TX12) (N := 56) hx hb hU inlX12 tyX12 tyX12_ok nmX12 hown hK hP hD hS mo0 hfo_118 rfl 13 (by decide) (hU _ wd_619) (fun _ h9 => h9) rfl (by decide +kernel) rfl rfl (Nat.le_of_ble_eq_true rfl) dX12_takesPair_49 (fun H locs hP hD hS => ?_)
        have fa_121 := fu12_13 (y := v_117) fa_119 (by constructor <;> omega)
        obtain ⟨f_123, ef_123⟩ : ∃ y : Nat → va_E, y = va_up f_106 o0 (.inr (12, [.ref a_1, .ref a_2, .ref a_3, .int v_4, .ref a_5, .int v_6, .int v_114, .int v_115, .int v_116, .int v_10, .int v_11, .int v_117, .int v_80, .int v_117, .int v_15, .ref a_16, .ref a_17, .ref a_18, .ref a_19, .ref a_20, .ref a_21, .ref a_22, .ref a_23, .int v_24, .int v_25, .int v_26, .int v_27, .int v_28, .ref a_29, .int v_30, .ref a_31, .ref a_32, .int v_33, .int v_34, .ref a_35, .int v_36, .ref a_37, .ref a_38, .int v_39, .int v_40, .ref a_41, .ref a_42, .ref a_43, .int v_44, .ref a_45, .ref a_46, .ref a_47, .ref a_48, .ref a_49, .ref a_50, .ref a_51, .ref a_52, .ref a_53, .int v_54, .int v_55, .ref a_56])) := ⟨_, rfl⟩
        have hP : va_P (dC, dI) vwCl (va_pl L f_123) H := by rw [ef_123]; exact hP
        have hD : va_D (fun q => q ∈ L) (va_pl L f_123) := by rw [ef_123]; exact hD
        have hG : GI (okc cI cL cZ cR cG cH L kd) kd L f_123 := by rw [ef_123]; exact hG.set o0 (mk_12 ko0 (fo12 fa_121))
        have hfo_124 : f_123 a_2 = .inl (cI, 1560, .inl g_84) := by rw [ef_123, up_ne (kd_ne ko0 ka_2 (by decide))]; exact hfo_113
        have hfr0 : ∀ b, kd b ≠ 12 → kd b ≠ 576 → f_123 b = f b := fun b q12 q576 => (congrFun ef_123 b).trans ((up_ne (fun e9 => q12 (by rw [e9]; exact ko0))).trans (hfr0 b q12 q576))
        have hrA12 : ∀ b, kd b = 12 → ∀ j, fldR (f_123 b) j = fldR (f b) j := fun b kb j => ((congrArg (fun x => fldR x j) (congrFun ef_123 b)).trans (fra_up (fun j => by rw [hfo_118]; exact fr_set (k := 13) rfl rfl) j b)).trans (hrA12 b kb j)
        have hfA12 : ∀ b, kd b = 12 → ∀ j, j ≠ 6 → j ≠ 7 → j ≠ 8 → j ≠ 11 → j ≠ 12 → j ≠ 13 → fldI (f_123 b) j = fldI (f b) j := fun b kb j n6 n7 n8 n11 n12 n13 => ((congrArg (fun x => fldI x j) (congrFun ef_123 b)).trans (fia_up (fun h9 => by rw [hfo_118]; exact fi_set (k := 13) rfl h9) n13 b)).trans (hfA12 b kb j n6 n7 n8 n11 n12 n13)
        have hT0 : frel kd 576 8 f_123 a_2 := by rw [ef_123]; exact hT0.keep (fun b q => up_ne (kd_ne ko0 q (by decide)))
        have hfo_125 : f_123 o0 = .inr (12, [.ref a_1, .ref a_2, .ref a_3, .int v_4, .ref a_5, .int v_6, .int v_114, .int v_115, .int v_116, .int v_10, .int v_11, .int v_117, .int v_80, .int v_117, .int v_15, .ref a_16, .ref a_17, .ref a_18, .ref a_19, .ref a_20, .ref a_21, .ref a_22, .ref a_23, .int v_24, .int v_25, .int v_26, .int v_27, .int v_28, .ref a_29, .int v_30, .ref a_31, .ref a_32, .int v_33, .int v_34, .ref a_35, .int v_36, .ref a_37, .ref a_38, .int v_39, .int v_40, .ref a_41, .ref a_42, .ref a_43, .int v_44, .ref a_45, .ref a_46, .ref a_47, .ref a_48, .ref a_49, .ref a_50, .ref a_51, .ref a_52, .ref a_53, .int v_54, .int v_55, .ref a_56]) := by rw [ef_123]; exact up_self
        refine lv_aload_n hx hb dX12_takesPair_52 rfl (lv_at hl 1 rfl) ?_
        refine tk_getP (D := (dC, dI)) (ci := 12) (v := .int v_80) (C := RX12) (T := TX12) (N := 56) hx hb hU inlX12 hown hK hP mo0 hfo_125 rfl 12 (by decide) (hU _ wd_618) (fun _ h9 => h9) rfl dX12_takesPair_53 ?_
        refine lv_if_ne (tgt := 73) hx hb dX12_takesPair_56 (by decide) (fun c_126 => ?_) (fun c_126 => ?_)
        · skip
          rw [← Int32.toInt_inj, ti_0] at c_126
          refine lv_aload_n hx hb dX12_takesPair_73 rfl (lv_at hl 1 rfl) ?_
          refine tk_getP (D := (dC, dI)) (ci := 12) (v := .ref a_2) (C := RX12) (T := TX12) (N := 56) hx hb hU inlX12 hown hK hP mo0 hfo_125 rfl 1 (by decide) (hU _ wd_170) (fun _ h9 => h9) rfl dX12_takesPair_74 ?_
          refine lv_aload_n hx hb dX12_takesPair_77 rfl (lv_at hl 1 rfl) ?_
          refine tk_getP (D := (dC, dI)) (ci := 12) (v := .int v_80) (C := RX12) (T := TX12) (N := 56) hx hb hU inlX12 hown hK hP mo0 hfo_125 rfl 12 (by decide) (hU _ wd_618) (fun _ h9 => h9) rfl dX12_takesPair_78 ?_
          refine lv_aload_n hx hb dX12_takesPair_81 rfl (lv_at hl 1 rfl) ?_
          refine tk_getP (D := (dC, dI)) (ci := 12) (v := .int v_117) (C := RX12) (T := TX12) (N := 56) hx hb hU inlX12 hown hK hP mo0 hfo_125 rfl 13 (by decide) (hU _ wd_619) (fun _ h9 => h9) rfl dX12_takesPair_82 ?_
          refine tk_SiP (As := [.ref a_2, .int v_80, .int v_117]) (rest := []) (n := 3) hx hb hml hown hU hN hZ (s_X12_hasPair_a576 l (dC, dI) cI cL cZ cR cG cH Z kd L f_123 hG a_2 ma_2 ka_2 v_80 (by constructor <;> omega) v_117 (by constructor <;> omega)) wd_628 wd_629 wd_5 wd_630 (by decide +kernel) ⟨Nat.le_of_ble_eq_true rfl, Nat.le_of_ble_eq_true rfl⟩ hK hP hD hS rfl hl.1 rfl (Nat.le_of_ble_eq_true rfl) dX12_takesPair_85 ⟨Nat.le_of_ble_eq_true rfl, Nat.le_of_ble_eq_true rfl⟩ (fun x_127 f_128 H locs hw hP hD hS => ?_)
          obtain ⟨rfl, bx_127, hxp_129⟩ := hw
          have hhp := hxp_129 g_84 hfo_124
          refine lv_if_eq (tgt := 93) hx hb dX12_takesPair_88 (by decide) (fun c_131 => ?_) (fun c_131 => ?_)
          · skip
            rw [← Int32.toInt_inj, ti_0] at c_131
            have hF0 := hT0.get hfo_124
            obtain ⟨x_132, ex_132⟩ : ∃ y : Int32, y = g_84 (Int32.toNatClampNeg 16) := ⟨_, rfl⟩
            have bx_132 : (0 ≤ x_132.toInt ∧ x_132.toInt ≤ 20) := by rw [ex_132]; exact hbg_84.2.1 _ (by decide) (by decide) (by decide)
            have hgx_132 : x_132.toInt = (g_84 16).toInt := by rw [ex_132]; rfl
            obtain ⟨x_133, ex_133⟩ : ∃ y : Int32, y = g_84 (Int32.toNatClampNeg 0) := ⟨_, rfl⟩
            have bx_133 : (0 ≤ x_133.toInt ∧ x_133.toInt ≤ 8) := by rw [ex_133]; exact hbg_84.1 _ (by decide) (by decide) (by decide)
            have hgx_133 : x_133.toInt = (g_84 0).toInt := by rw [ex_133]; rfl
            refine lv_iconst (v := 0) hx hb dX12_takesPair_93 (by decide) ?_
            refine lv_istore_n (lv' := [(2, .int 0), (1, .int v_66), (0, .ref o0)]) hx hb dX12_takesPair_94 rfl hl (by decide) rfl (fun ls hl => ?_)
            refine lv_iconst (v := 0) hx hb dX12_takesPair_95 (by decide) ?_
            refine lv_istore_n (lv' := [(3, .int 0), (2, .int 0), (1, .int v_66), (0, .ref o0)]) hx hb dX12_takesPair_96 rfl hl (by decide) rfl (fun ls hl => ?_)
            refine lv_iconst (v := 0) hx hb dX12_takesPair_97 (by decide) ?_
            refine lv_istore (lv' := [(4, .int 0), (3, .int 0), (2, .int 0), (1, .int v_66), (0, .ref o0)]) hx hb dX12_takesPair_98 hl (by decide) rfl (fun ls hl => ?_)
            refine lv_iconst (v := 0) hx hb dX12_takesPair_100 (by decide) ?_
            refine lv_istore (lv' := [(5, .int 0), (4, .int 0), (3, .int 0), (2, .int 0), (1, .int v_66), (0, .ref o0)]) hx hb dX12_takesPair_101 hl (by decide) rfl (fun ls hl => ?_)
            have hloop_139 : ∀ (n : Nat), ∀ (y_140 : Int32), (0 ≤ y_140.toInt ∧ y_140.toInt ≤ 20) → ∀ (y_141 : Int32), (0 ≤ y_141.toInt ∧ y_141.toInt ≤ 20) → ∀ (y_142 : Int32), (0 ≤ y_142.toInt ∧ y_142.toInt ≤ 20) → ∀ (y_143 : Int32), (0 ≤ y_143.toInt ∧ y_143.toInt ≤ 20) → (y_143.toInt ≤ y_140.toInt ∧ y_142.toInt ≤ y_140.toInt ∧ y_141.toInt ≤ y_140.toInt ∧ y_140.toInt ≤ x_132.toInt) → (y_143.toInt = ((cntU g_84 (y_140.toInt).toNat : Nat) : Int)) → 20 - y_140.toInt < (n : Int) → ∀ (ls : Array Slot), lv_has ls 8 [(5, .int y_140), (4, .int y_141), (3, .int y_142), (2, .int y_143), (1, .int v_66), (0, .ref o0)] → W p l e (headSpec (wU yX12_takesPair cX12_takesPair 8 (some .boolean)) { frames := 4, cells := 0, slots := 0, locals := 82 }).room s m [.ref o0].toArray below meth c H locs 0 0 (MQ below (va_Qi (fun (r : Int32) (f9 : Nat → va_E) => GI (okc cI cL cZ cR cG cH L kd) kd L f9 ∧ (0 ≤ r.toInt ∧ r.toInt ≤ 1) ∧ (∀ b, kd b ≠ 12 → kd b ≠ 576 → f9 b = f b) ∧ (∀ b, kd b = 12 → ∀ j, fldR (f9 b) j = fldR (f b) j) ∧ (∀ b, kd b = 12 → ∀ j, j ≠ 6 → j ≠ 7 → j ≠ 8 → j ≠ 11 → j ≠ 12 → j ≠ 13 → fldI (f9 b) j = fldI (f b) j) ∧ (∀ (w6 z6 : Int32), fldI (f o0) 6 = some w6 → fldI (f9 o0) 6 = some z6 → w6.toInt ≤ z6.toInt) ∧ (∀ d9, fldR (f9 o0) 1 = some d9 → frel kd 576 8 f9 d9)) (qP (dC, dI) cI cL cZ cR cG cH L) (fun q => q ∈ L)) [.ref o0].toArray s 0 0 (fun q => q ∈ L)) (F0 m 103 ls []) := by
              intro n
              induction n with
              | zero => intro y_140 by_140 y_141 by_141 y_142 by_142 y_143 by_143 hrelhloop_139_0 hxu hmuhloop_139 ls hl; exfalso; omega
              | succ n ih_hloop_139 =>
                intro y_140 by_140 y_141 by_141 y_142 by_142 y_143 by_143 hrelhloop_139_0 hxu hmuhloop_139 ls hl
                refine lv_iload hx hb dX12_takesPair_103 (lv_at hl 0 rfl) ?_
                refine lv_aload_n hx hb dX12_takesPair_105 rfl (lv_at hl 5 rfl) ?_
                refine tk_getP (D := (dC, dI)) (ci := 12) (v := .ref a_2) (C := RX12) (T := TX12) (N := 56) hx hb hU inlX12 hown hK hP mo0 hfo_125 rfl 1 (by decide) (hU _ wd_170) (fun _ h9 => h9) rfl dX12_takesPair_106 ?_
                refine lv_bipush (v := 16) hx hb dX12_takesPair_109 (by decide) ?_
                refine tk_ildP hx hb hK hP 0 ma_2 hfo_124 rfl (vp_in_nI (n := 16) (by decide) (by decide)) dX12_takesPair_111 ?_
                refine tk_topi (y := x_132) ex_132.symm ?_
                refine lv_icmp_ge (tgt := 200) hx hb dX12_takesPair_112 (by decide) (fun c_144 => ?_) (fun c_144 => ?_)
                · skip
                  rw [Int32.le_iff_toInt_le] at c_144
                  refine lv_iload_n hx hb dX12_takesPair_200 rfl (lv_at hl 3 rfl) ?_
                  refine lv_bipush (v := 12) hx hb dX12_takesPair_201 (by decide) ?_
                  refine lv_icmp_eq (tgt := 217) hx hb dX12_takesPair_203 (by decide) (fun c_145 => ?_) (fun c_145 => ?_)
                  · skip
                    rw [← Int32.toInt_inj, ti_12] at c_145
                    refine lv_aload_n hx hb dX12_takesPair_217 rfl (lv_at hl 5 rfl) ?_
                    refine lv_iconst (v := 3) hx hb dX12_takesPair_218 (by decide) ?_
                    refine lv_iload_n hx hb dX12_takesPair_219 rfl (lv_at hl 4 rfl) ?_
                    refine tk_ViP (As := [.int 3, .int v_66]) (rest := []) (n := 2) hx hb hml hown hU hN hZ (s_X12_bad_k12 l (dC, dI) cI cL cZ cR cG cH Z kd L f_123 hG o0 mo0 ko0 3 v_66) wd_602 wd_603 wd_604 wd_5 wd_605 (by decide +kernel) ⟨Nat.le_of_ble_eq_true rfl, Nat.le_of_ble_eq_true rfl⟩ hK hP hD hS mo0 hfo_125 12 rfl rfl rfl hl.1 rfl (Nat.le_of_ble_eq_true rfl) dX12_takesPair_220 ⟨Nat.le_of_ble_eq_true rfl, Nat.le_of_ble_eq_true rfl⟩ (fun x_146 f_147 H locs hw hP hD hS => ?_)
                    obtain ⟨hG, bx_146, hkc_148, hra_149, hfa_150⟩ := hw
                    have hfo_152 : f_147 a_2 = .inl (cI, 1560, .inl g_84) := by rw [hkc_148 a_2 (by rw [ka_2]; decide)]; exact hfo_124
                    have hfr0 : ∀ b, kd b ≠ 12 → kd b ≠ 576 → f_147 b = f b := fun b q12 q576 => (hkc_148 b q12).trans (hfr0 b q12 q576)
                    have hrA12 : ∀ b, kd b = 12 → ∀ j, fldR (f_147 b) j = fldR (f b) j := fun b kb j => (hra_149 b kb j).trans (hrA12 b kb j)
                    have hfA12 : ∀ b, kd b = 12 → ∀ j, j ≠ 6 → j ≠ 7 → j ≠ 8 → j ≠ 11 → j ≠ 12 → j ≠ 13 → fldI (f_147 b) j = fldI (f b) j := fun b kb j n6 n7 n8 n11 n12 n13 => (hfa_150 b kb j n7 n8).trans (hfA12 b kb j n6 n7 n8 n11 n12 n13)
                    have hT0 : frel kd 576 8 f_147 a_2 := hT0.keep (fun b q => hkc_148 b (by rw [q]; decide))
                    obtain ⟨v_153, v_154, hfo_155, fa_156⟩ := op12_7_8 hfo_125 (hG _ mo0) ko0 (hra_149 o0 ko0) (hfa_150 o0 ko0)
                    have bv_153 : ((-2147483648) ≤ v_153.toInt ∧ v_153.toInt ≤ 2147483647) := ⟨i32_lo _, i32_hi _⟩
                    have bv_154 : ((-2147483648) ≤ v_154.toInt ∧ v_154.toInt ≤ 2147483647) := ⟨i32_lo _, i32_hi _⟩
                    exact W.zret (v := x_146) (ty := .boolean) hx hb hr (zb_n (by constructor <;> omega)) (fun t ht hW => ⟨⟨x_146, f_147, rfl, ⟨hG, (by constructor <;> omega), hfr0, hrA12, hfA12, (by intro w6 z6 e6 d6; rw [hfo_57] at e6; rw [hfo_155] at d6; obtain rfl := Option.some.inj e6; obtain rfl := Option.some.inj d6; omega), (fun d9 h9 => by rw [hfo_155] at h9; obtain rfl := Option.some.inj h9; exact hT0)⟩, by rw [ht]; exact hP, va_K.moved hW.alike hK, pl_in hD⟩, hS.F ht⟩) hS.2.2 dX12_takesPair_223
                  · skip
                    rw [← Int32.toInt_inj, ti_12] at c_145
                    refine lv_iload_n hx hb dX12_takesPair_206 rfl (lv_at hl 2 rfl) ?_
                    refine lv_iconst (v := 3) hx hb dX12_takesPair_207 (by decide) ?_
                    refine lv_icmp_eq (tgt := 217) hx hb dX12_takesPair_208 (by decide) (fun c_157 => ?_) (fun c_157 => ?_)
                    · skip
                      rw [← Int32.toInt_inj, ti_3] at c_157
                      refine lv_aload_n hx hb dX12_takesPair_217 rfl (lv_at hl 5 rfl) ?_
                      refine lv_iconst (v := 3) hx hb dX12_takesPair_218 (by decide) ?_
                      refine lv_iload_n hx hb dX12_takesPair_219 rfl (lv_at hl 4 rfl) ?_
                      refine tk_ViP (As := [.int 3, .int v_66]) (rest := []) (n := 2) hx hb hml hown hU hN hZ (s_X12_bad_k12 l (dC, dI) cI cL cZ cR cG cH Z kd L f_123 hG o0 mo0 ko0 3 v_66) wd_602 wd_603 wd_604 wd_5 wd_605 (by decide +kernel) ⟨Nat.le_of_ble_eq_true rfl, Nat.le_of_ble_eq_true rfl⟩ hK hP hD hS mo0 hfo_125 12 rfl rfl rfl hl.1 rfl (Nat.le_of_ble_eq_true rfl) dX12_takesPair_220 ⟨Nat.le_of_ble_eq_true rfl, Nat.le_of_ble_eq_true rfl⟩ (fun x_158 f_159 H locs hw hP hD hS => ?_)
                      obtain ⟨hG, bx_158, hkc_160, hra_161, hfa_162⟩ := hw
                      have hfo_164 : f_159 a_2 = .inl (cI, 1560, .inl g_84) := by rw [hkc_160 a_2 (by rw [ka_2]; decide)]; exact hfo_124
                      have hfr0 : ∀ b, kd b ≠ 12 → kd b ≠ 576 → f_159 b = f b := fun b q12 q576 => (hkc_160 b q12).trans (hfr0 b q12 q576)
                      have hrA12 : ∀ b, kd b = 12 → ∀ j, fldR (f_159 b) j = fldR (f b) j := fun b kb j => (hra_161 b kb j).trans (hrA12 b kb j)
                      have hfA12 : ∀ b, kd b = 12 → ∀ j, j ≠ 6 → j ≠ 7 → j ≠ 8 → j ≠ 11 → j ≠ 12 → j ≠ 13 → fldI (f_159 b) j = fldI (f b) j := fun b kb j n6 n7 n8 n11 n12 n13 => (hfa_162 b kb j n7 n8).trans (hfA12 b kb j n6 n7 n8 n11 n12 n13)
                      have hT0 : frel kd 576 8 f_159 a_2 := hT0.keep (fun b q => hkc_160 b (by rw [q]; decide))
                      obtain ⟨v_165, v_166, hfo_167, fa_168⟩ := op12_7_8 hfo_125 (hG _ mo0) ko0 (hra_161 o0 ko0) (hfa_162 o0 ko0)
                      have bv_165 : ((-2147483648) ≤ v_165.toInt ∧ v_165.toInt ≤ 2147483647) := ⟨i32_lo _, i32_hi _⟩
                      have bv_166 : ((-2147483648) ≤ v_166.toInt ∧ v_166.toInt ≤ 2147483647) := ⟨i32_lo _, i32_hi _⟩
                      exact W.zret (v := x_158) (ty := .boolean) hx hb hr (zb_n (by constructor <;> omega)) (fun t ht hW => ⟨⟨x_158, f_159, rfl, ⟨hG, (by constructor <;> omega), hfr0, hrA12, hfA12, (by intro w6 z6 e6 d6; rw [hfo_57] at e6; rw [hfo_167] at d6; obtain rfl := Option.some.inj e6; obtain rfl := Option.some.inj d6; omega), (fun d9 h9 => by rw [hfo_167] at h9; obtain rfl := Option.some.inj h9; exact hT0)⟩, by rw [ht]; exact hP, va_K.moved hW.alike hK, pl_in hD⟩, hS.F ht⟩) hS.2.2 dX12_takesPair_223
                    · skip
                      rw [← Int32.toInt_inj, ti_3] at c_157
                      refine lv_iload hx hb dX12_takesPair_211 (lv_at hl 1 rfl) ?_
                      refine lv_iconst (v := 3) hx hb dX12_takesPair_213 (by decide) ?_
                      refine lv_icmp_ne (tgt := 224) hx hb dX12_takesPair_214 (by decide) (fun c_169 => ?_) (fun c_169 => ?_)
                      · skip
                        rw [← Int32.toInt_inj, ti_3] at c_169
                        have hu11 : cntU g_84 (g_84 16).toInt.toNat ≤ 11 := by have hq1 := hF0.2.1; have hkk : (y_140.toInt).toNat = (g_84 16).toInt.toNat := (by omega); rw [hkk] at hxu; omega
                        have hnrc_170 : (0 ≤ x_132.toInt ∧ x_132.toInt ≤ 19) := by have hq1 := hF0.1; constructor <;> omega
                        refine lv_aload_n hx hb dX12_takesPair_224 rfl (lv_at hl 5 rfl) ?_
                        refine tk_getP (D := (dC, dI)) (ci := 12) (v := .ref a_2) (C := RX12) (T := TX12) (N := 56) hx hb hU inlX12 hown hK hP mo0 hfo_125 rfl 1 (by decide) (hU _ wd_170) (fun _ h9 => h9) rfl dX12_takesPair_225 ?_
                        refine lv_bipush (v := 20) hx hb dX12_takesPair_228 (by decide) ?_
                        refine lv_aload_n hx hb dX12_takesPair_230 rfl (lv_at hl 5 rfl) ?_
                        refine tk_getP (D := (dC, dI)) (ci := 12) (v := .ref a_2) (C := RX12) (T := TX12) (N := 56) hx hb hU inlX12 hown hK hP mo0 hfo_125 rfl 1 (by decide) (hU _ wd_170) (fun _ h9 => h9) rfl dX12_takesPair_231 ?_
                        refine lv_bipush (v := 16) hx hb dX12_takesPair_234 (by decide) ?_
                        refine tk_ildP hx hb hK hP 0 ma_2 hfo_124 rfl (vp_in_nI (n := 16) (by decide) (by decide)) dX12_takesPair_236 ?_
                        refine tk_topi (y := x_132) ex_132.symm ?_
                        refine lv_iadd hx hb dX12_takesPair_237 ?_
                        refine lv_topi (fun x_171 ex_171 => ?_)
                        have hx_171 : x_171.toInt = 20 + x_132.toInt := by rw [ex_171, ad_I (by rw [ti_20]; omega) (by rw [ti_20]; omega), ti_20]
                        have bx_171 : (20 ≤ x_171.toInt ∧ x_171.toInt ≤ 39) := by constructor <;> omega
                        refine lv_bipush (v := 9) hx hb dX12_takesPair_238 (by decide) ?_
                        refine lv_aload_n hx hb dX12_takesPair_240 rfl (lv_at hl 5 rfl) ?_
                        refine tk_getP (D := (dC, dI)) (ci := 12) (v := .int v_80) (C := RX12) (T := TX12) (N := 56) hx hb hU inlX12 hown hK hP mo0 hfo_125 rfl 12 (by decide) (hU _ wd_618) (fun _ h9 => h9) rfl dX12_takesPair_241 ?_
                        refine lv_imul hx hb dX12_takesPair_244 ?_
                        refine lv_topi (fun x_172 ex_172 => ?_)
                        have hx_172 : x_172.toInt = 9 * v_80.toInt := by rw [ex_172, ml_I (by rw [ti_9]; omega) (by rw [ti_9]; omega), ti_9]
                        have bx_172 : (9 ≤ x_172.toInt ∧ x_172.toInt ≤ 72) := by constructor <;> omega
                        refine lv_aload_n hx hb dX12_takesPair_245 rfl (lv_at hl 5 rfl) ?_
                        refine tk_getP (D := (dC, dI)) (ci := 12) (v := .int v_117) (C := RX12) (T := TX12) (N := 56) hx hb hU inlX12 hown hK hP mo0 hfo_125 rfl 13 (by decide) (hU _ wd_619) (fun _ h9 => h9) rfl dX12_takesPair_246 ?_
                        refine lv_iadd hx hb dX12_takesPair_249 ?_
                        refine lv_topi (fun x_173 ex_173 => ?_)
                        have hx_173 : x_173.toInt = x_172.toInt + v_117.toInt := by rw [ex_173, ad_I (by omega) (by omega)]
                        have bx_173 : (9 ≤ x_173.toInt ∧ x_173.toInt ≤ 80) := by constructor <;> omega
                        refine tk_istP hx hb hK hP hD hS 0 ma_2 hfo_124 rfl (vp_in_iff.mpr (by constructor <;> omega)) dX12_takesPair_250 (fun H locs hP hD hS => ?_)
                        have hc9 := cl_I (i := x_171) (by omega)
                        obtain ⟨g_174, eqg_174⟩ : ∃ y : Nat → Int32, y = upd g_84 (Int32.toNatClampNeg x_171) x_173 := ⟨_, rfl⟩
                        rw [← eqg_174] at hP hD
                        have hbg_174 : wOK g_174 := by rw [eqg_174]; exact ⟨hbg_84.1.up (fun h1 h2 h3 => by exfalso; omega), hbg_84.2.1.up (fun h1 h2 h3 => by exfalso; omega), hbg_84.2.2.1.up (fun h1 h2 h3 => by exfalso; omega), hbg_84.2.2.2.1.up (fun h1 h2 h3 => by exfalso; omega), hbg_84.2.2.2.2.1.up (fun h1 h2 h3 => by exfalso; omega), hbg_84.2.2.2.2.2.1.up (fun h1 h2 h3 => by constructor <;> omega), hbg_84.2.2.2.2.2.2.1.up (fun h1 h2 h3 => by exfalso; omega), hbg_84.2.2.2.2.2.2.2.1.up (fun h1 h2 h3 => by exfalso; omega), hbg_84.2.2.2.2.2.2.2.2.1.up (fun h1 h2 h3 => by exfalso; omega), hbg_84.2.2.2.2.2.2.2.2.2.1.up (fun h1 h2 h3 => by exfalso; omega), hbg_84.2.2.2.2.2.2.2.2.2.2.1.up (fun h1 h2 h3 => by exfalso; omega), hbg_84.2.2.2.2.2.2.2.2.2.2.2.1.up (fun h1 h2 h3 => by exfalso; omega), hbg_84.2.2.2.2.2.2.2.2.2.2.2.2.1.up (fun h1 h2 h3 => by exfalso; omega), hbg_84.2.2.2.2.2.2.2.2.2.2.2.2.2.1.up (fun h1 h2 h3 => by exfalso; omega), hbg_84.2.2.2.2.2.2.2.2.2.2.2.2.2.2.1.up (fun h1 h2 h3 => by exfalso; omega), hbg_84.2.2.2.2.2.2.2.2.2.2.2.2.2.2.2.up (fun h1 h2 h3 => by exfalso; omega)⟩
                        obtain ⟨f_176, ef_176⟩ : ∃ y : Nat → va_E, y = va_up f_123 a_2 (.inl (cI, 1560, .inl g_174)) := ⟨_, rfl⟩
                        have hP : va_P (dC, dI) vwCl (va_pl L f_176) H := by rw [ef_176]; exact hP
                        have hD : va_D (fun q => q ∈ L) (va_pl L f_176) := by rw [ef_176]; exact hD
                        have hG : GI (okc cI cL cZ cR cG cH L kd) kd L f_176 := by rw [ef_176]; exact hG.set a_2 (mk_576 ka_2 ⟨_, rfl, hbg_174⟩)
                        have hfo_177 : f_176 o0 = .inr (12, [.ref a_1, .ref a_2, .ref a_3, .int v_4, .ref a_5, .int v_6, .int v_114, .int v_115, .int v_116, .int v_10, .int v_11, .int v_117, .int v_80, .int v_117, .int v_15, .ref a_16, .ref a_17, .ref a_18, .ref a_19, .ref a_20, .ref a_21, .ref a_22, .ref a_23, .int v_24, .int v_25, .int v_26, .int v_27, .int v_28, .ref a_29, .int v_30, .ref a_31, .ref a_32, .int v_33, .int v_34, .ref a_35, .int v_36, .ref a_37, .ref a_38, .int v_39, .int v_40, .ref a_41, .ref a_42, .ref a_43, .int v_44, .ref a_45, .ref a_46, .ref a_47, .ref a_48, .ref a_49, .ref a_50, .ref a_51, .ref a_52, .ref a_53, .int v_54, .int v_55, .ref a_56]) := by rw [ef_176, up_ne (kd_ne ka_2 ko0 (by decide))]; exact hfo_125
                        have hfr0 : ∀ b, kd b ≠ 12 → kd b ≠ 576 → f_176 b = f b := fun b q12 q576 => (congrFun ef_176 b).trans ((up_ne (fun e9 => q576 (by rw [e9]; exact ka_2))).trans (hfr0 b q12 q576))
                        have hrA12 : ∀ b, kd b = 12 → ∀ j, fldR (f_176 b) j = fldR (f b) j := fun b kb j => (congrArg (fun x => fldR x j) ((congrFun ef_176 b).trans (up_ne (kd_ne ka_2 kb (by decide))))).trans (hrA12 b kb j)
                        have hfA12 : ∀ b, kd b = 12 → ∀ j, j ≠ 6 → j ≠ 7 → j ≠ 8 → j ≠ 11 → j ≠ 12 → j ≠ 13 → fldI (f_176 b) j = fldI (f b) j := fun b kb j n6 n7 n8 n11 n12 n13 => (congrArg (fun x => fldI x j) ((congrFun ef_176 b).trans (up_ne (kd_ne ka_2 kb (by decide))))).trans (hfA12 b kb j n6 n7 n8 n11 n12 n13)
                        have hfo_178 : f_176 a_2 = .inl (cI, 1560, .inl g_174) := by rw [ef_176]; exact up_self
                        have ql_179 : x_132 = g_174 (Int32.toNatClampNeg 16) := by rw [eqg_174, pk_un (by have hc8 : Int32.toNatClampNeg 16 = 16 := rfl; omega)]; exact ex_132
                        have ql_180 : x_133 = g_174 (Int32.toNatClampNeg 0) := by rw [eqg_174, pk_un (by have hc8 : Int32.toNatClampNeg 0 = 0 := rfl; omega)]; exact ex_133
                        have ql_181 : x_173 = g_174 (Int32.toNatClampNeg x_171) := by rw [eqg_174, pk_us]
                        refine lv_aload_n hx hb dX12_takesPair_251 rfl (lv_at hl 5 rfl) ?_
                        refine tk_getP (D := (dC, dI)) (ci := 12) (v := .ref a_2) (C := RX12) (T := TX12) (N := 56) hx hb hU inlX12 hown hK hP mo0 hfo_177 rfl 1 (by decide) (hU _ wd_170) (fun _ h9 => h9) rfl dX12_takesPair_252 ?_
                        refine lv_bipush (v := 16) hx hb dX12_takesPair_255 (by decide) ?_
                        refine lv_dup2_11 hx hb dX12_takesPair_257 rfl rfl ?_
                        refine tk_ildP hx hb hK hP 0 ma_2 hfo_178 rfl (vp_in_nI (n := 16) (by decide) (by decide)) dX12_takesPair_258 ?_
                        refine tk_topi (y := x_132) ql_179.symm ?_
                        refine lv_iconst (v := 1) hx hb dX12_takesPair_259 (by decide) ?_
                        refine lv_iadd hx hb dX12_takesPair_260 ?_
                        refine lv_topi (fun x_182 ex_182 => ?_)
                        have hx_182 : x_182.toInt = x_132.toInt + 1 := by rw [ex_182, ad_I (by rw [ti_1]; omega) (by rw [ti_1]; omega), ti_1]
                        have bx_182 : (1 ≤ x_182.toInt ∧ x_182.toInt ≤ 20) := by constructor <;> omega
                        refine tk_istP hx hb hK hP hD hS 0 ma_2 hfo_178 rfl (vp_in_nI (n := 16) (by decide) (by decide)) dX12_takesPair_261 (fun H locs hP hD hS => ?_)
                        have hc9 : ((Int32.toNatClampNeg 16 : Nat) : Int) = 16 := by decide
                        obtain ⟨g_183, eqg_183⟩ : ∃ y : Nat → Int32, y = upd g_174 (Int32.toNatClampNeg 16) x_182 := ⟨_, rfl⟩
                        rw [← eqg_183] at hP hD
                        have hbg_183 : wOK g_183 := by rw [eqg_183]; exact ⟨hbg_174.1.up (fun h1 h2 h3 => by exfalso; omega), hbg_174.2.1.up (fun h1 h2 h3 => by constructor <;> omega), hbg_174.2.2.1.up (fun h1 h2 h3 => by exfalso; omega), hbg_174.2.2.2.1.up (fun h1 h2 h3 => by exfalso; omega), hbg_174.2.2.2.2.1.up (fun h1 h2 h3 => by exfalso; omega), hbg_174.2.2.2.2.2.1.up (fun h1 h2 h3 => by exfalso; omega), hbg_174.2.2.2.2.2.2.1.up (fun h1 h2 h3 => by exfalso; omega), hbg_174.2.2.2.2.2.2.2.1.up (fun h1 h2 h3 => by exfalso; omega), hbg_174.2.2.2.2.2.2.2.2.1.up (fun h1 h2 h3 => by exfalso; omega), hbg_174.2.2.2.2.2.2.2.2.2.1.up (fun h1 h2 h3 => by exfalso; omega), hbg_174.2.2.2.2.2.2.2.2.2.2.1.up (fun h1 h2 h3 => by exfalso; omega), hbg_174.2.2.2.2.2.2.2.2.2.2.2.1.up (fun h1 h2 h3 => by exfalso; omega), hbg_174.2.2.2.2.2.2.2.2.2.2.2.2.1.up (fun h1 h2 h3 => by exfalso; omega), hbg_174.2.2.2.2.2.2.2.2.2.2.2.2.2.1.up (fun h1 h2 h3 => by exfalso; omega), hbg_174.2.2.2.2.2.2.2.2.2.2.2.2.2.2.1.up (fun h1 h2 h3 => by exfalso; omega), hbg_174.2.2.2.2.2.2.2.2.2.2.2.2.2.2.2.up (fun h1 h2 h3 => by exfalso; omega)⟩
                        obtain ⟨f_185, ef_185⟩ : ∃ y : Nat → va_E, y = va_up f_176 a_2 (.inl (cI, 1560, .inl g_183)) := ⟨_, rfl⟩
                        have hP : va_P (dC, dI) vwCl (va_pl L f_185) H := by rw [ef_185]; exact hP
                        have hD : va_D (fun q => q ∈ L) (va_pl L f_185) := by rw [ef_185]; exact hD
                        have hG : GI (okc cI cL cZ cR cG cH L kd) kd L f_185 := by rw [ef_185]; exact hG.set a_2 (mk_576 ka_2 ⟨_, rfl, hbg_183⟩)
                        have hfo_186 : f_185 o0 = .inr (12, [.ref a_1, .ref a_2, .ref a_3, .int v_4, .ref a_5, .int v_6, .int v_114, .int v_115, .int v_116, .int v_10, .int v_11, .int v_117, .int v_80, .int v_117, .int v_15, .ref a_16, .ref a_17, .ref a_18, .ref a_19, .ref a_20, .ref a_21, .ref a_22, .ref a_23, .int v_24, .int v_25, .int v_26, .int v_27, .int v_28, .ref a_29, .int v_30, .ref a_31, .ref a_32, .int v_33, .int v_34, .ref a_35, .int v_36, .ref a_37, .ref a_38, .int v_39, .int v_40, .ref a_41, .ref a_42, .ref a_43, .int v_44, .ref a_45, .ref a_46, .ref a_47, .ref a_48, .ref a_49, .ref a_50, .ref a_51, .ref a_52, .ref a_53, .int v_54, .int v_55, .ref a_56]) := by rw [ef_185, up_ne (kd_ne ka_2 ko0 (by decide))]; exact hfo_177
                        have hfr0 : ∀ b, kd b ≠ 12 → kd b ≠ 576 → f_185 b = f b := fun b q12 q576 => (congrFun ef_185 b).trans ((up_ne (fun e9 => q576 (by rw [e9]; exact ka_2))).trans (hfr0 b q12 q576))
                        have hrA12 : ∀ b, kd b = 12 → ∀ j, fldR (f_185 b) j = fldR (f b) j := fun b kb j => (congrArg (fun x => fldR x j) ((congrFun ef_185 b).trans (up_ne (kd_ne ka_2 kb (by decide))))).trans (hrA12 b kb j)
                        have hfA12 : ∀ b, kd b = 12 → ∀ j, j ≠ 6 → j ≠ 7 → j ≠ 8 → j ≠ 11 → j ≠ 12 → j ≠ 13 → fldI (f_185 b) j = fldI (f b) j := fun b kb j n6 n7 n8 n11 n12 n13 => (congrArg (fun x => fldI x j) ((congrFun ef_185 b).trans (up_ne (kd_ne ka_2 kb (by decide))))).trans (hfA12 b kb j n6 n7 n8 n11 n12 n13)
                        have hfo_187 : f_185 a_2 = .inl (cI, 1560, .inl g_183) := by rw [ef_185]; exact up_self
                        have ql_188 : x_133 = g_183 (Int32.toNatClampNeg 0) := by rw [eqg_183, pk_un (by decide)]; exact ql_180
                        have ql_189 : x_182 = g_183 (Int32.toNatClampNeg 16) := by rw [eqg_183, pk_us]
                        have hF2 : fOK 8 g_183 := by have hi1 := cl_I (i := x_171) (by omega); have hz16 : Int32.toNatClampNeg 16 = 16 := rfl; have hds : v_80.toInt ≠ v_117.toInt := (hF0.ne (hhp.resolve_left (by omega)) (by omega) (by omega) (by omega)); exact hF0.pair (d := v_80.toInt) (s := v_117.toInt) (by rw [eqg_183, hz16, pk_us]; omega) (by omega) (by rw [eqg_183, pk_un (by omega), eqg_174, pk_un (by omega)]) hds (by constructor <;> omega) (by constructor <;> omega) hu11 (fun k9 h9 => by rw [eqg_183, pk_un (by omega), eqg_174, show 20 + k9 = Int32.toNatClampNeg x_171 by omega, pk_us]; omega) (fun k9 h9 => by rw [eqg_183, pk_un (by omega), eqg_174, pk_un (by omega)]) (by rw [eqg_183, pk_un (by omega), eqg_174, pk_un (by omega)])
                        have hTt_190 : frel kd 576 8 f_185 a_2 := frel.mk ka_2 hfo_187 hF2
                        refine lv_iconst (v := 1) hx hb dX12_takesPair_262 (by decide) ?_
                        exact W.zret (v := 1) (ty := .boolean) hx hb hr rfl (fun t ht hW => ⟨⟨1, f_185, rfl, ⟨hG, (by decide), hfr0, hrA12, hfA12, (by intro w6 z6 e6 d6; rw [hfo_57] at e6; rw [hfo_186] at d6; obtain rfl := Option.some.inj e6; obtain rfl := Option.some.inj d6; (try rw [ti_1]) <;> omega), (fun d9 h9 => by rw [hfo_186] at h9; obtain rfl := Option.some.inj h9; exact hTt_190)⟩, by rw [ht]; exact hP, va_K.moved hW.alike hK, pl_in hD⟩, hS.F ht⟩) hS.2.2 dX12_takesPair_263
                      · skip
                        rw [← Int32.toInt_inj, ti_3] at c_169
                        refine lv_aload_n hx hb dX12_takesPair_217 rfl (lv_at hl 5 rfl) ?_
                        refine lv_iconst (v := 3) hx hb dX12_takesPair_218 (by decide) ?_
                        refine lv_iload_n hx hb dX12_takesPair_219 rfl (lv_at hl 4 rfl) ?_
                        refine tk_ViP (As := [.int 3, .int v_66]) (rest := []) (n := 2) hx hb hml hown hU hN hZ (s_X12_bad_k12 l (dC, dI) cI cL cZ cR cG cH Z kd L f_123 hG o0 mo0 ko0 3 v_66) wd_602 wd_603 wd_604 wd_5 wd_605 (by decide +kernel) ⟨Nat.le_of_ble_eq_true rfl, Nat.le_of_ble_eq_true rfl⟩ hK hP hD hS mo0 hfo_125 12 rfl rfl rfl hl.1 rfl (Nat.le_of_ble_eq_true rfl) dX12_takesPair_220 ⟨Nat.le_of_ble_eq_true rfl, Nat.le_of_ble_eq_true rfl⟩ (fun x_191 f_192 H locs hw hP hD hS => ?_)
                        obtain ⟨hG, bx_191, hkc_193, hra_194, hfa_195⟩ := hw
                        have hfo_197 : f_192 a_2 = .inl (cI, 1560, .inl g_84) := by rw [hkc_193 a_2 (by rw [ka_2]; decide)]; exact hfo_124
                        have hfr0 : ∀ b, kd b ≠ 12 → kd b ≠ 576 → f_192 b = f b := fun b q12 q576 => (hkc_193 b q12).trans (hfr0 b q12 q576)
                        have hrA12 : ∀ b, kd b = 12 → ∀ j, fldR (f_192 b) j = fldR (f b) j := fun b kb j => (hra_194 b kb j).trans (hrA12 b kb j)
                        have hfA12 : ∀ b, kd b = 12 → ∀ j, j ≠ 6 → j ≠ 7 → j ≠ 8 → j ≠ 11 → j ≠ 12 → j ≠ 13 → fldI (f_192 b) j = fldI (f b) j := fun b kb j n6 n7 n8 n11 n12 n13 => (hfa_195 b kb j n7 n8).trans (hfA12 b kb j n6 n7 n8 n11 n12 n13)
                        have hT0 : frel kd 576 8 f_192 a_2 := hT0.keep (fun b q => hkc_193 b (by rw [q]; decide))
                        obtain ⟨v_198, v_199, hfo_200, fa_201⟩ := op12_7_8 hfo_125 (hG _ mo0) ko0 (hra_194 o0 ko0) (hfa_195 o0 ko0)
                        have bv_198 : ((-2147483648) ≤ v_198.toInt ∧ v_198.toInt ≤ 2147483647) := ⟨i32_lo _, i32_hi _⟩
                        have bv_199 : ((-2147483648) ≤ v_199.toInt ∧ v_199.toInt ≤ 2147483647) := ⟨i32_lo _, i32_hi _⟩
                        exact W.zret (v := x_191) (ty := .boolean) hx hb hr (zb_n (by constructor <;> omega)) (fun t ht hW => ⟨⟨x_191, f_192, rfl, ⟨hG, (by constructor <;> omega), hfr0, hrA12, hfA12, (by intro w6 z6 e6 d6; rw [hfo_57] at e6; rw [hfo_200] at d6; obtain rfl := Option.some.inj e6; obtain rfl := Option.some.inj d6; omega), (fun d9 h9 => by rw [hfo_200] at h9; obtain rfl := Option.some.inj h9; exact hT0)⟩, by rw [ht]; exact hP, va_K.moved hW.alike hK, pl_in hD⟩, hS.F ht⟩) hS.2.2 dX12_takesPair_223
                · skip
                  rw [Int32.le_iff_toInt_le] at c_144
                  refine lv_aload_n hx hb dX12_takesPair_115 rfl (lv_at hl 5 rfl) ?_
                  refine tk_getP (D := (dC, dI)) (ci := 12) (v := .ref a_2) (C := RX12) (T := TX12) (N := 56) hx hb hU inlX12 hown hK hP mo0 hfo_125 rfl 1 (by decide) (hU _ wd_170) (fun _ h9 => h9) rfl dX12_takesPair_116 ?_
                  refine lv_bipush (v := 20) hx hb dX12_takesPair_119 (by decide) ?_
                  refine lv_iload hx hb dX12_takesPair_121 (lv_at hl 0 rfl) ?_
                  refine lv_iadd hx hb dX12_takesPair_123 ?_
                  refine lv_topi (fun x_202 ex_202 => ?_)
                  have hx_202 : x_202.toInt = 20 + y_140.toInt := by rw [ex_202, ad_I (by rw [ti_20]; omega) (by rw [ti_20]; omega), ti_20]
                  have bx_202 : (20 ≤ x_202.toInt ∧ x_202.toInt ≤ 39) := by constructor <;> omega
                  refine tk_ildP hx hb hK hP 0 ma_2 hfo_124 rfl (vp_in_iff.mpr (by constructor <;> omega)) dX12_takesPair_124 ?_
                  refine lv_topi (fun x_203 ex_203 => ?_)
                  have bx_203 : (0 ≤ x_203.toInt ∧ x_203.toInt ≤ 80) := by have hc9 := cl_I (i := x_202) (by omega); rw [ex_203]; exact hbg_84.2.2.2.2.2.1 _ (by omega) (by omega) (by omega)
                  refine lv_bipush (v := 9) hx hb dX12_takesPair_125 (by decide) ?_
                  refine lv_idiv hx hb dX12_takesPair_127 (by decide) ?_
                  refine lv_topi (fun x_204 ex_204 => ?_)
                  have hx_204 : x_204.toInt = x_203.toInt / 9 := by rw [ex_204, dv_I (by omega) (by rw [ti_9]; omega), ti_9]
                  have bx_204 : (0 ≤ x_204.toInt ∧ x_204.toInt ≤ 8) := by constructor <;> omega
                  refine lv_istore (lv' := [(6, .int x_204), (5, .int y_140), (4, .int y_141), (3, .int y_142), (2, .int y_143), (1, .int v_66), (0, .ref o0)]) hx hb dX12_takesPair_128 hl (by decide) rfl (fun ls hl => ?_)
                  refine lv_aload_n hx hb dX12_takesPair_130 rfl (lv_at hl 6 rfl) ?_
                  refine tk_getP (D := (dC, dI)) (ci := 12) (v := .ref a_2) (C := RX12) (T := TX12) (N := 56) hx hb hU inlX12 hown hK hP mo0 hfo_125 rfl 1 (by decide) (hU _ wd_170) (fun _ h9 => h9) rfl dX12_takesPair_131 ?_
                  refine lv_bipush (v := 20) hx hb dX12_takesPair_134 (by decide) ?_
                  refine lv_iload hx hb dX12_takesPair_136 (lv_at hl 1 rfl) ?_
                  refine lv_iadd hx hb dX12_takesPair_138 ?_
                  refine lv_topi (fun x_205 ex_205 => ?_)
                  have hx_205 : x_205.toInt = 20 + y_140.toInt := by rw [ex_205, ad_I (by rw [ti_20]; omega) (by rw [ti_20]; omega), ti_20]
                  have bx_205 : (20 ≤ x_205.toInt ∧ x_205.toInt ≤ 39) := by constructor <;> omega
                  refine tk_ildP hx hb hK hP 0 ma_2 hfo_124 rfl (vp_in_iff.mpr (by constructor <;> omega)) dX12_takesPair_139 ?_
                  refine lv_topi (fun x_206 ex_206 => ?_)
                  have bx_206 : (0 ≤ x_206.toInt ∧ x_206.toInt ≤ 80) := by have hc9 := cl_I (i := x_205) (by omega); rw [ex_206]; exact hbg_84.2.2.2.2.2.1 _ (by omega) (by omega) (by omega)
                  have hsmx_206 : x_206 = x_203 := by have hc8 := cl_I (i := x_202) (by omega); have hc9 := cl_I (i := x_205) (by omega); rw [ex_206, ex_203]; congr 1; omega
                  have hsix_206 := congrArg Int32.toInt hsmx_206
                  refine lv_bipush (v := 9) hx hb dX12_takesPair_140 (by decide) ?_
                  refine lv_irem hx hb dX12_takesPair_142 (by decide) ?_
                  refine lv_topi (fun x_207 ex_207 => ?_)
                  have hx_207 : x_207.toInt = x_206.toInt % 9 := by rw [ex_207, rm_I (by omega) (by rw [ti_9]; omega), ti_9]
                  have bx_207 : (0 ≤ x_207.toInt ∧ x_207.toInt ≤ 8) := by constructor <;> omega
                  refine lv_istore (lv' := [(7, .int x_207), (6, .int x_204), (5, .int y_140), (4, .int y_141), (3, .int y_142), (2, .int y_143), (1, .int v_66), (0, .ref o0)]) hx hb dX12_takesPair_143 hl (by decide) rfl (fun ls hl => ?_)
                  refine lv_iload hx hb dX12_takesPair_145 (lv_at hl 1 rfl) ?_
                  refine lv_iload hx hb dX12_takesPair_147 (lv_at hl 0 rfl) ?_
                  refine lv_icmp_ne (tgt := 155) hx hb dX12_takesPair_149 (by decide) (fun c_208 => ?_) (fun c_208 => ?_)
                  · skip
                    rw [← Int32.toInt_inj] at c_208
                    obtain ⟨x_209, ex_209⟩ : ∃ y : Int32, y_143 + 1 = y := ⟨_, rfl⟩
                    have hx_209 : x_209.toInt = y_143.toInt + 1 := by rw [← ex_209, ad_I (by rw [ti_1]; omega) (by rw [ti_1]; omega), ti_1]
                    have bx_209 : (1 ≤ x_209.toInt ∧ x_209.toInt ≤ 21) := by constructor <;> omega
                    refine lv_iinc (v := x_209) (lv' := [(2, .int x_209), (7, .int x_207), (6, .int x_204), (5, .int y_140), (4, .int y_141), (3, .int y_142), (1, .int v_66), (0, .ref o0)]) hx hb dX12_takesPair_155 hl (k := 5) rfl ex_209 (by decide) rfl (fun ls hl => ?_)
                    refine lv_iload_n hx hb dX12_takesPair_158 rfl (lv_at hl 5 rfl) ?_
                    refine lv_iload hx hb dX12_takesPair_159 (lv_at hl 2 rfl) ?_
                    refine lv_aload_n hx hb dX12_takesPair_161 rfl (lv_at hl 7 rfl) ?_
                    refine tk_getP (D := (dC, dI)) (ci := 12) (v := .int v_80) (C := RX12) (T := TX12) (N := 56) hx hb hU inlX12 hown hK hP mo0 hfo_125 rfl 12 (by decide) (hU _ wd_618) (fun _ h9 => h9) rfl dX12_takesPair_162 ?_
                    refine lv_icmp_ne (tgt := 172) hx hb dX12_takesPair_165 (by decide) (fun c_210 => ?_) (fun c_210 => ?_)
                    · skip
                      rw [← Int32.toInt_inj] at c_210
                      refine lv_iconst (v := 0) hx hb dX12_takesPair_172 (by decide) ?_
                      refine lv_iadd hx hb dX12_takesPair_173 ?_
                      refine lv_topi (fun x_211 ex_211 => ?_)
                      have hx_211 : x_211.toInt = y_142.toInt + 0 := by rw [ex_211, ad_I (by rw [ti_0]; omega) (by rw [ti_0]; omega), ti_0]
                      have bx_211 : (0 ≤ x_211.toInt ∧ x_211.toInt ≤ 20) := by constructor <;> omega
                      refine lv_istore_n (lv' := [(3, .int x_211), (2, .int x_209), (7, .int x_207), (6, .int x_204), (5, .int y_140), (4, .int y_141), (1, .int v_66), (0, .ref o0)]) hx hb dX12_takesPair_174 rfl hl (by decide) rfl (fun ls hl => ?_)
                      refine lv_iload hx hb dX12_takesPair_175 (lv_at hl 5 rfl) ?_
                      refine lv_iload hx hb dX12_takesPair_177 (lv_at hl 2 rfl) ?_
                      refine lv_aload_n hx hb dX12_takesPair_179 rfl (lv_at hl 7 rfl) ?_
                      refine tk_getP (D := (dC, dI)) (ci := 12) (v := .int v_117) (C := RX12) (T := TX12) (N := 56) hx hb hU inlX12 hown hK hP mo0 hfo_125 rfl 13 (by decide) (hU _ wd_619) (fun _ h9 => h9) rfl dX12_takesPair_180 ?_
                      refine lv_icmp_ne (tgt := 190) hx hb dX12_takesPair_183 (by decide) (fun c_212 => ?_) (fun c_212 => ?_)
                      · skip
                        rw [← Int32.toInt_inj] at c_212
                        refine lv_iconst (v := 0) hx hb dX12_takesPair_190 (by decide) ?_
                        refine lv_iadd hx hb dX12_takesPair_191 ?_
                        refine lv_topi (fun x_213 ex_213 => ?_)
                        have hx_213 : x_213.toInt = y_141.toInt + 0 := by rw [ex_213, ad_I (by rw [ti_0]; omega) (by rw [ti_0]; omega), ti_0]
                        have bx_213 : (0 ≤ x_213.toInt ∧ x_213.toInt ≤ 20) := by constructor <;> omega
                        refine lv_istore (lv' := [(4, .int x_213), (3, .int x_211), (2, .int x_209), (7, .int x_207), (6, .int x_204), (5, .int y_140), (1, .int v_66), (0, .ref o0)]) hx hb dX12_takesPair_192 hl (by decide) rfl (fun ls hl => ?_)
                        obtain ⟨x_214, ex_214⟩ : ∃ y : Int32, y_140 + 1 = y := ⟨_, rfl⟩
                        have hx_214 : x_214.toInt = y_140.toInt + 1 := by rw [← ex_214, ad_I (by rw [ti_1]; omega) (by rw [ti_1]; omega), ti_1]
                        have bx_214 : (1 ≤ x_214.toInt ∧ x_214.toInt ≤ 20) := by constructor <;> omega
                        refine lv_iinc (v := x_214) (lv' := [(5, .int x_214), (4, .int x_213), (3, .int x_211), (2, .int x_209), (7, .int x_207), (6, .int x_204), (1, .int v_66), (0, .ref o0)]) hx hb dX12_takesPair_194 hl (k := 5) rfl ex_214 (by decide) rfl (fun ls hl => ?_)
                        refine lv_goto (tgt := 103) hx hb dX12_takesPair_197 (by decide) ?_
                        exact ih_hloop_139 x_214 (by constructor <;> omega) x_213 (by constructor <;> omega) x_211 (by constructor <;> omega) x_209 (by constructor <;> omega) (by omega) (by have hc9 := cl_I (i := x_202) (by omega); have hn9 : (x_214.toInt).toNat = (y_140.toInt).toNat + 1 := (by omega); have hg9 : g_84 (20 + (y_140.toInt).toNat) = x_203 := (by rw [ex_203]; congr 1; omega); rw [hn9, cntU_ne (by rw [hg9]; omega)]; omega) (by omega) ls (lv_sub hl [0, 1, 2, 3, 6, 7] rfl)
                      · skip
                        rw [← Int32.toInt_inj] at c_212
                        refine lv_iconst (v := 1) hx hb dX12_takesPair_186 (by decide) ?_
                        refine lv_goto (tgt := 191) hx hb dX12_takesPair_187 (by decide) ?_
                        refine lv_iadd hx hb dX12_takesPair_191 ?_
                        refine lv_topi (fun x_215 ex_215 => ?_)
                        have hx_215 : x_215.toInt = y_141.toInt + 1 := by rw [ex_215, ad_I (by rw [ti_1]; omega) (by rw [ti_1]; omega), ti_1]
                        have bx_215 : (1 ≤ x_215.toInt ∧ x_215.toInt ≤ 21) := by constructor <;> omega
                        refine lv_istore (lv' := [(4, .int x_215), (3, .int x_211), (2, .int x_209), (7, .int x_207), (6, .int x_204), (5, .int y_140), (1, .int v_66), (0, .ref o0)]) hx hb dX12_takesPair_192 hl (by decide) rfl (fun ls hl => ?_)
                        obtain ⟨x_216, ex_216⟩ : ∃ y : Int32, y_140 + 1 = y := ⟨_, rfl⟩
                        have hx_216 : x_216.toInt = y_140.toInt + 1 := by rw [← ex_216, ad_I (by rw [ti_1]; omega) (by rw [ti_1]; omega), ti_1]
                        have bx_216 : (1 ≤ x_216.toInt ∧ x_216.toInt ≤ 20) := by constructor <;> omega
                        refine lv_iinc (v := x_216) (lv' := [(5, .int x_216), (4, .int x_215), (3, .int x_211), (2, .int x_209), (7, .int x_207), (6, .int x_204), (1, .int v_66), (0, .ref o0)]) hx hb dX12_takesPair_194 hl (k := 5) rfl ex_216 (by decide) rfl (fun ls hl => ?_)
                        refine lv_goto (tgt := 103) hx hb dX12_takesPair_197 (by decide) ?_
                        exact ih_hloop_139 x_216 (by constructor <;> omega) x_215 (by constructor <;> omega) x_211 (by constructor <;> omega) x_209 (by constructor <;> omega) (by omega) (by have hc9 := cl_I (i := x_202) (by omega); have hn9 : (x_216.toInt).toNat = (y_140.toInt).toNat + 1 := (by omega); have hg9 : g_84 (20 + (y_140.toInt).toNat) = x_203 := (by rw [ex_203]; congr 1; omega); rw [hn9, cntU_ne (by rw [hg9]; omega)]; omega) (by omega) ls (lv_sub hl [0, 1, 2, 3, 6, 7] rfl)
                    · skip
                      rw [← Int32.toInt_inj] at c_210
                      refine lv_iconst (v := 1) hx hb dX12_takesPair_168 (by decide) ?_
                      refine lv_goto (tgt := 173) hx hb dX12_takesPair_169 (by decide) ?_
                      refine lv_iadd hx hb dX12_takesPair_173 ?_
                      refine lv_topi (fun x_217 ex_217 => ?_)
                      have hx_217 : x_217.toInt = y_142.toInt + 1 := by rw [ex_217, ad_I (by rw [ti_1]; omega) (by rw [ti_1]; omega), ti_1]
                      have bx_217 : (1 ≤ x_217.toInt ∧ x_217.toInt ≤ 21) := by constructor <;> omega
                      refine lv_istore_n (lv' := [(3, .int x_217), (2, .int x_209), (7, .int x_207), (6, .int x_204), (5, .int y_140), (4, .int y_141), (1, .int v_66), (0, .ref o0)]) hx hb dX12_takesPair_174 rfl hl (by decide) rfl (fun ls hl => ?_)
                      refine lv_iload hx hb dX12_takesPair_175 (lv_at hl 5 rfl) ?_
                      refine lv_iload hx hb dX12_takesPair_177 (lv_at hl 2 rfl) ?_
                      refine lv_aload_n hx hb dX12_takesPair_179 rfl (lv_at hl 7 rfl) ?_
                      refine tk_getP (D := (dC, dI)) (ci := 12) (v := .int v_117) (C := RX12) (T := TX12) (N := 56) hx hb hU inlX12 hown hK hP mo0 hfo_125 rfl 13 (by decide) (hU _ wd_619) (fun _ h9 => h9) rfl dX12_takesPair_180 ?_
                      refine lv_icmp_ne (tgt := 190) hx hb dX12_takesPair_183 (by decide) (fun c_218 => ?_) (fun c_218 => ?_)
                      · skip
                        rw [← Int32.toInt_inj] at c_218
                        refine lv_iconst (v := 0) hx hb dX12_takesPair_190 (by decide) ?_
                        refine lv_iadd hx hb dX12_takesPair_191 ?_
                        refine lv_topi (fun x_219 ex_219 => ?_)
                        have hx_219 : x_219.toInt = y_141.toInt + 0 := by rw [ex_219, ad_I (by rw [ti_0]; omega) (by rw [ti_0]; omega), ti_0]
                        have bx_219 : (0 ≤ x_219.toInt ∧ x_219.toInt ≤ 20) := by constructor <;> omega
                        refine lv_istore (lv' := [(4, .int x_219), (3, .int x_217), (2, .int x_209), (7, .int x_207), (6, .int x_204), (5, .int y_140), (1, .int v_66), (0, .ref o0)]) hx hb dX12_takesPair_192 hl (by decide) rfl (fun ls hl => ?_)
                        obtain ⟨x_220, ex_220⟩ : ∃ y : Int32, y_140 + 1 = y := ⟨_, rfl⟩
                        have hx_220 : x_220.toInt = y_140.toInt + 1 := by rw [← ex_220, ad_I (by rw [ti_1]; omega) (by rw [ti_1]; omega), ti_1]
                        have bx_220 : (1 ≤ x_220.toInt ∧ x_220.toInt ≤ 20) := by constructor <;> omega
                        refine lv_iinc (v := x_220) (lv' := [(5, .int x_220), (4, .int x_219), (3, .int x_217), (2, .int x_209), (7, .int x_207), (6, .int x_204), (1, .int v_66), (0, .ref o0)]) hx hb dX12_takesPair_194 hl (k := 5) rfl ex_220 (by decide) rfl (fun ls hl => ?_)
                        refine lv_goto (tgt := 103) hx hb dX12_takesPair_197 (by decide) ?_
                        exact ih_hloop_139 x_220 (by constructor <;> omega) x_219 (by constructor <;> omega) x_217 (by constructor <;> omega) x_209 (by constructor <;> omega) (by omega) (by have hc9 := cl_I (i := x_202) (by omega); have hn9 : (x_220.toInt).toNat = (y_140.toInt).toNat + 1 := (by omega); have hg9 : g_84 (20 + (y_140.toInt).toNat) = x_203 := (by rw [ex_203]; congr 1; omega); rw [hn9, cntU_ne (by rw [hg9]; omega)]; omega) (by omega) ls (lv_sub hl [0, 1, 2, 3, 6, 7] rfl)
                      · skip
                        rw [← Int32.toInt_inj] at c_218
                        refine lv_iconst (v := 1) hx hb dX12_takesPair_186 (by decide) ?_
                        refine lv_goto (tgt := 191) hx hb dX12_takesPair_187 (by decide) ?_
                        refine lv_iadd hx hb dX12_takesPair_191 ?_
                        refine lv_topi (fun x_221 ex_221 => ?_)
                        have hx_221 : x_221.toInt = y_141.toInt + 1 := by rw [ex_221, ad_I (by rw [ti_1]; omega) (by rw [ti_1]; omega), ti_1]
                        have bx_221 : (1 ≤ x_221.toInt ∧ x_221.toInt ≤ 21) := by constructor <;> omega
                        refine lv_istore (lv' := [(4, .int x_221), (3, .int x_217), (2, .int x_209), (7, .int x_207), (6, .int x_204), (5, .int y_140), (1, .int v_66), (0, .ref o0)]) hx hb dX12_takesPair_192 hl (by decide) rfl (fun ls hl => ?_)
                        obtain ⟨x_222, ex_222⟩ : ∃ y : Int32, y_140 + 1 = y := ⟨_, rfl⟩
                        have hx_222 : x_222.toInt = y_140.toInt + 1 := by rw [← ex_222, ad_I (by rw [ti_1]; omega) (by rw [ti_1]; omega), ti_1]
                        have bx_222 : (1 ≤ x_222.toInt ∧ x_222.toInt ≤ 20) := by constructor <;> omega
                        refine lv_iinc (v := x_222) (lv' := [(5, .int x_222), (4, .int x_221), (3, .int x_217), (2, .int x_209), (7, .int x_207), (6, .int x_204), (1, .int v_66), (0, .ref o0)]) hx hb dX12_takesPair_194 hl (k := 5) rfl ex_222 (by decide) rfl (fun ls hl => ?_)
                        refine lv_goto (tgt := 103) hx hb dX12_takesPair_197 (by decide) ?_
                        exact ih_hloop_139 x_222 (by constructor <;> omega) x_221 (by constructor <;> omega) x_217 (by constructor <;> omega) x_209 (by constructor <;> omega) (by omega) (by have hc9 := cl_I (i := x_202) (by omega); have hn9 : (x_222.toInt).toNat = (y_140.toInt).toNat + 1 := (by omega); have hg9 : g_84 (20 + (y_140.toInt).toNat) = x_203 := (by rw [ex_203]; congr 1; omega); rw [hn9, cntU_ne (by rw [hg9]; omega)]; omega) (by omega) ls (lv_sub hl [0, 1, 2, 3, 6, 7] rfl)
                  · skip
                    rw [← Int32.toInt_inj] at c_208
                    refine lv_goto (tgt := 194) hx hb dX12_takesPair_152 (by decide) ?_
                    obtain ⟨x_223, ex_223⟩ : ∃ y : Int32, y_140 + 1 = y := ⟨_, rfl⟩
                    have hx_223 : x_223.toInt = y_140.toInt + 1 := by rw [← ex_223, ad_I (by rw [ti_1]; omega) (by rw [ti_1]; omega), ti_1]
                    have bx_223 : (1 ≤ x_223.toInt ∧ x_223.toInt ≤ 20) := by constructor <;> omega
                    refine lv_iinc (v := x_223) (lv' := [(5, .int x_223), (7, .int x_207), (6, .int x_204), (4, .int y_141), (3, .int y_142), (2, .int y_143), (1, .int v_66), (0, .ref o0)]) hx hb dX12_takesPair_194 hl (k := 2) rfl ex_223 (by decide) rfl (fun ls hl => ?_)
                    refine lv_goto (tgt := 103) hx hb dX12_takesPair_197 (by decide) ?_
                    exact ih_hloop_139 x_223 (by constructor <;> omega) y_141 (by constructor <;> omega) y_142 (by constructor <;> omega) y_143 (by constructor <;> omega) (by omega) (by have hc9 := cl_I (i := x_202) (by omega); have hn9 : (x_223.toInt).toNat = (y_140.toInt).toNat + 1 := (by omega); have hg9 : g_84 (20 + (y_140.toInt).toNat) = x_203 := (by rw [ex_203]; congr 1; omega); rw [hn9, cntU_eq (by rw [hg9]; omega)]; omega) (by omega) ls (lv_sub hl [0, 3, 4, 5, 6, 7] rfl)
            exact hloop_139 21 0 (by decide) 0 (by decide) 0 (by decide) 0 (by decide) (by (try rw [ti_0]) <;> omega) (by have h3 : ((0 : Int32)).toInt = 0 := rfl; rw [h3]; rfl) (by (try rw [ti_0]) <;> omega) ls hl
          · skip
            rw [← Int32.toInt_inj, ti_0] at c_131
            refine lv_iconst (v := 1) hx hb dX12_takesPair_91 (by decide) ?_
            exact W.zret (v := 1) (ty := .boolean) hx hb hr rfl (fun t ht hW => ⟨⟨1, f_123, rfl, ⟨hG, (by decide), hfr0, hrA12, hfA12, (by intro w6 z6 e6 d6; rw [hfo_57] at e6; rw [hfo_125] at d6; obtain rfl := Option.some.inj e6; obtain rfl := Option.some.inj d6; (try rw [ti_1]) <;> omega), (fun d9 h9 => by rw [hfo_125] at h9; obtain rfl := Option.some.inj h9; exact hT0)⟩, by rw [ht]; exact hP, va_K.moved hW.alike hK, pl_in hD⟩, hS.F ht⟩) hS.2.2 dX12_takesPair_92
        · skip
          rw [← Int32.toInt_inj, ti_0] at c_126
          refine lv_aload_n hx hb dX12_takesPair_59 rfl (lv_at hl 1 rfl) ?_
          refine tk_getP (D := (dC, dI)) (ci := 12) (v := .int v_117) (C := RX12) (T := TX12) (N := 56) hx hb hU inlX12 hown hK hP mo0 hfo_125 rfl 13 (by decide) (hU _ wd_619) (fun _ h9 => h9) rfl dX12_takesPair_60 ?_
          refine lv_if_ne (tgt := 73) hx hb dX12_takesPair_63 (by decide) (fun c_224 => ?_) (fun c_224 => ?_)
          · skip
            rw [← Int32.toInt_inj, ti_0] at c_224
            refine lv_aload_n hx hb dX12_takesPair_73 rfl (lv_at hl 1 rfl) ?_
            refine tk_getP (D := (dC, dI)) (ci := 12) (v := .ref a_2) (C := RX12) (T := TX12) (N := 56) hx hb hU inlX12 hown hK hP mo0 hfo_125 rfl 1 (by decide) (hU _ wd_170) (fun _ h9 => h9) rfl dX12_takesPair_74 ?_
            refine lv_aload_n hx hb dX12_takesPair_77 rfl (lv_at hl 1 rfl) ?_
            refine tk_getP (D := (dC, dI)) (ci := 12) (v := .int v_80) (C := RX12) (T := TX12) (N := 56) hx hb hU inlX12 hown hK hP mo0 hfo_125 rfl 12 (by decide) (hU _ wd_618) (fun _ h9 => h9) rfl dX12_takesPair_78 ?_
            refine lv_aload_n hx hb dX12_takesPair_81 rfl (lv_at hl 1 rfl) ?_
            refine tk_getP (D := (dC, dI)) (ci := 12) (v := .int v_117) (C := RX12) (T := TX12) (N := 56) hx hb hU inlX12 hown hK hP mo0 hfo_125 rfl 13 (by decide) (hU _ wd_619) (fun _ h9 => h9) rfl dX12_takesPair_82 ?_
            refine tk_SiP (As := [.ref a_2, .int v_80, .int v_117]) (rest := []) (n := 3) hx hb hml hown hU hN hZ (s_X12_hasPair_a576 l (dC, dI) cI cL cZ cR cG cH Z kd L f_123 hG a_2 ma_2 ka_2 v_80 (by constructor <;> omega) v_117 (by constructor <;> omega)) wd_628 wd_629 wd_5 wd_630 (by decide +kernel) ⟨Nat.le_of_ble_eq_true rfl, Nat.le_of_ble_eq_true rfl⟩ hK hP hD hS rfl hl.1 rfl (Nat.le_of_ble_eq_true rfl) dX12_takesPair_85 ⟨Nat.le_of_ble_eq_true rfl, Nat.le_of_ble_eq_true rfl⟩ (fun x_225 f_226 H locs hw hP hD hS => ?_)
            obtain ⟨rfl, bx_225, hxp_227⟩ := hw
            have hhp := hxp_227 g_84 hfo_124
            refine lv_if_eq (tgt := 93) hx hb dX12_takesPair_88 (by decide) (fun c_229 => ?_) (fun c_229 => ?_)
            · skip
              rw [← Int32.toInt_inj, ti_0] at c_229
              have hF0 := hT0.get hfo_124
              obtain ⟨x_230, ex_230⟩ : ∃ y : Int32, y = g_84 (Int32.toNatClampNeg 16) := ⟨_, rfl⟩
              have bx_230 : (0 ≤ x_230.toInt ∧ x_230.toInt ≤ 20) := by rw [ex_230]; exact hbg_84.2.1 _ (by decide) (by decide) (by decide)
              have hgx_230 : x_230.toInt = (g_84 16).toInt := by rw [ex_230]; rfl
              obtain ⟨x_231, ex_231⟩ : ∃ y : Int32, y = g_84 (Int32.toNatClampNeg 0) := ⟨_, rfl⟩
              have bx_231 : (0 ≤ x_231.toInt ∧ x_231.toInt ≤ 8) := by rw [ex_231]; exact hbg_84.1 _ (by decide) (by decide) (by decide)
              have hgx_231 : x_231.toInt = (g_84 0).toInt := by rw [ex_231]; rfl
              refine lv_iconst (v := 0) hx hb dX12_takesPair_93 (by decide) ?_
              refine lv_istore_n (lv' := [(2, .int 0), (1, .int v_66), (0, .ref o0)]) hx hb dX12_takesPair_94 rfl hl (by decide) rfl (fun ls hl => ?_)
              refine lv_iconst (v := 0) hx hb dX12_takesPair_95 (by decide) ?_
              refine lv_istore_n (lv' := [(3, .int 0), (2, .int 0), (1, .int v_66), (0, .ref o0)]) hx hb dX12_takesPair_96 rfl hl (by decide) rfl (fun ls hl => ?_)
              refine lv_iconst (v := 0) hx hb dX12_takesPair_97 (by decide) ?_
              refine lv_istore (lv' := [(4, .int 0), (3, .int 0), (2, .int 0), (1, .int v_66), (0, .ref o0)]) hx hb dX12_takesPair_98 hl (by decide) rfl (fun ls hl => ?_)
              refine lv_iconst (v := 0) hx hb dX12_takesPair_100 (by decide) ?_
              refine lv_istore (lv' := [(5, .int 0), (4, .int 0), (3, .int 0), (2, .int 0), (1, .int v_66), (0, .ref o0)]) hx hb dX12_takesPair_101 hl (by decide) rfl (fun ls hl => ?_)
              have hloop_237 : ∀ (n : Nat), ∀ (y_238 : Int32), (0 ≤ y_238.toInt ∧ y_238.toInt ≤ 20) → ∀ (y_239 : Int32), (0 ≤ y_239.toInt ∧ y_239.toInt ≤ 20) → ∀ (y_240 : Int32), (0 ≤ y_240.toInt ∧ y_240.toInt ≤ 20) → ∀ (y_241 : Int32), (0 ≤ y_241.toInt ∧ y_241.toInt ≤ 20) → (y_241.toInt ≤ y_238.toInt ∧ y_240.toInt ≤ y_238.toInt ∧ y_239.toInt ≤ y_238.toInt ∧ y_238.toInt ≤ x_230.toInt) → (y_241.toInt = ((cntU g_84 (y_238.toInt).toNat : Nat) : Int)) → 20 - y_238.toInt < (n : Int) → ∀ (ls : Array Slot), lv_has ls 8 [(5, .int y_238), (4, .int y_239), (3, .int y_240), (2, .int y_241), (1, .int v_66), (0, .ref o0)] → W p l e (headSpec (wU yX12_takesPair cX12_takesPair 8 (some .boolean)) { frames := 4, cells := 0, slots := 0, locals := 82 }).room s m [.ref o0].toArray below meth c H locs 0 0 (MQ below (va_Qi (fun (r : Int32) (f9 : Nat → va_E) => GI (okc cI cL cZ cR cG cH L kd) kd L f9 ∧ (0 ≤ r.toInt ∧ r.toInt ≤ 1) ∧ (∀ b, kd b ≠ 12 → kd b ≠ 576 → f9 b = f b) ∧ (∀ b, kd b = 12 → ∀ j, fldR (f9 b) j = fldR (f b) j) ∧ (∀ b, kd b = 12 → ∀ j, j ≠ 6 → j ≠ 7 → j ≠ 8 → j ≠ 11 → j ≠ 12 → j ≠ 13 → fldI (f9 b) j = fldI (f b) j) ∧ (∀ (w6 z6 : Int32), fldI (f o0) 6 = some w6 → fldI (f9 o0) 6 = some z6 → w6.toInt ≤ z6.toInt) ∧ (∀ d9, fldR (f9 o0) 1 = some d9 → frel kd 576 8 f9 d9)) (qP (dC, dI) cI cL cZ cR cG cH L) (fun q => q ∈ L)) [.ref o0].toArray s 0 0 (fun q => q ∈ L)) (F0 m 103 ls []) := by
                intro n
                induction n with
                | zero => intro y_238 by_238 y_239 by_239 y_240 by_240 y_241 by_241 hrelhloop_237_0 hxu hmuhloop_237 ls hl; exfalso; omega
                | succ n ih_hloop_237 =>
                  intro y_238 by_238 y_239 by_239 y_240 by_240 y_241 by_241 hrelhloop_237_0 hxu hmuhloop_237 ls hl
                  refine lv_iload hx hb dX12_takesPair_103 (lv_at hl 0 rfl) ?_
                  refine lv_aload_n hx hb dX12_takesPair_105 rfl (lv_at hl 5 rfl) ?_
                  refine tk_getP (D := (dC, dI)) (ci := 12) (v := .ref a_2) (C := RX12) (T := TX12) (N := 56) hx hb hU inlX12 hown hK hP mo0 hfo_125 rfl 1 (by decide) (hU _ wd_170) (fun _ h9 => h9) rfl dX12_takesPair_106 ?_
                  refine lv_bipush (v := 16) hx hb dX12_takesPair_109 (by decide) ?_
                  refine tk_ildP hx hb hK hP 0 ma_2 hfo_124 rfl (vp_in_nI (n := 16) (by decide) (by decide)) dX12_takesPair_111 ?_
                  refine tk_topi (y := x_230) ex_230.symm ?_
                  refine lv_icmp_ge (tgt := 200) hx hb dX12_takesPair_112 (by decide) (fun c_242 => ?_) (fun c_242 => ?_)
                  · skip
                    rw [Int32.le_iff_toInt_le] at c_242
                    refine lv_iload_n hx hb dX12_takesPair_200 rfl (lv_at hl 3 rfl) ?_
                    refine lv_bipush (v := 12) hx hb dX12_takesPair_201 (by decide) ?_
                    refine lv_icmp_eq (tgt := 217) hx hb dX12_takesPair_203 (by decide) (fun c_243 => ?_) (fun c_243 => ?_)
                    · skip
                      rw [← Int32.toInt_inj, ti_12] at c_243
                      refine lv_aload_n hx hb dX12_takesPair_217 rfl (lv_at hl 5 rfl) ?_
                      refine lv_iconst (v := 3) hx hb dX12_takesPair_218 (by decide) ?_
                      refine lv_iload_n hx hb dX12_takesPair_219 rfl (lv_at hl 4 rfl) ?_
                      refine tk_ViP (As := [.int 3, .int v_66]) (rest := []) (n := 2) hx hb hml hown hU hN hZ (s_X12_bad_k12 l (dC, dI) cI cL cZ cR cG cH Z kd L f_123 hG o0 mo0 ko0 3 v_66) wd_602 wd_603 wd_604 wd_5 wd_605 (by decide +kernel) ⟨Nat.le_of_ble_eq_true rfl, Nat.le_of_ble_eq_true rfl⟩ hK hP hD hS mo0 hfo_125 12 rfl rfl rfl hl.1 rfl (Nat.le_of_ble_eq_true rfl) dX12_takesPair_220 ⟨Nat.le_of_ble_eq_true rfl, Nat.le_of_ble_eq_true rfl⟩ (fun x_244 f_245 H locs hw hP hD hS => ?_)
                      obtain ⟨hG, bx_244, hkc_246, hra_247, hfa_248⟩ := hw
                      have hfo_250 : f_245 a_2 = .inl (cI, 1560, .inl g_84) := by rw [hkc_246 a_2 (by rw [ka_2]; decide)]; exact hfo_124
                      have hfr0 : ∀ b, kd b ≠ 12 → kd b ≠ 576 → f_245 b = f b := fun b q12 q576 => (hkc_246 b q12).trans (hfr0 b q12 q576)
                      have hrA12 : ∀ b, kd b = 12 → ∀ j, fldR (f_245 b) j = fldR (f b) j := fun b kb j => (hra_247 b kb j).trans (hrA12 b kb j)
                      have hfA12 : ∀ b, kd b = 12 → ∀ j, j ≠ 6 → j ≠ 7 → j ≠ 8 → j ≠ 11 → j ≠ 12 → j ≠ 13 → fldI (f_245 b) j = fldI (f b) j := fun b kb j n6 n7 n8 n11 n12 n13 => (hfa_248 b kb j n7 n8).trans (hfA12 b kb j n6 n7 n8 n11 n12 n13)
                      have hT0 : frel kd 576 8 f_245 a_2 := hT0.keep (fun b q => hkc_246 b (by rw [q]; decide))
                      obtain ⟨v_251, v_252, hfo_253, fa_254⟩ := op12_7_8 hfo_125 (hG _ mo0) ko0 (hra_247 o0 ko0) (hfa_248 o0 ko0)
                      have bv_251 : ((-2147483648) ≤ v_251.toInt ∧ v_251.toInt ≤ 2147483647) := ⟨i32_lo _, i32_hi _⟩
                      have bv_252 : ((-2147483648) ≤ v_252.toInt ∧ v_252.toInt ≤ 2147483647) := ⟨i32_lo _, i32_hi _⟩
                      exact W.zret (v := x_244) (ty := .boolean) hx hb hr (zb_n (by constructor <;> omega)) (fun t ht hW => ⟨⟨x_244, f_245, rfl, ⟨hG, (by constructor <;> omega), hfr0, hrA12, hfA12, (by intro w6 z6 e6 d6; rw [hfo_57] at e6; rw [hfo_253] at d6; obtain rfl := Option.some.inj e6; obtain rfl := Option.some.inj d6; omega), (fun d9 h9 => by rw [hfo_253] at h9; obtain rfl := Option.some.inj h9; exact hT0)⟩, by rw [ht]; exact hP, va_K.moved hW.alike hK, pl_in hD⟩, hS.F ht⟩) hS.2.2 dX12_takesPair_223
                    · skip
                      rw [← Int32.toInt_inj, ti_12] at c_243
                      refine lv_iload_n hx hb dX12_takesPair_206 rfl (lv_at hl 2 rfl) ?_
                      refine lv_iconst (v := 3) hx hb dX12_takesPair_207 (by decide) ?_
                      refine lv_icmp_eq (tgt := 217) hx hb dX12_takesPair_208 (by decide) (fun c_255 => ?_) (fun c_255 => ?_)
                      · skip
                        rw [← Int32.toInt_inj, ti_3] at c_255
                        refine lv_aload_n hx hb dX12_takesPair_217 rfl (lv_at hl 5 rfl) ?_
                        refine lv_iconst (v := 3) hx hb dX12_takesPair_218 (by decide) ?_
                        refine lv_iload_n hx hb dX12_takesPair_219 rfl (lv_at hl 4 rfl) ?_
                        refine tk_ViP (As := [.int 3, .int v_66]) (rest := []) (n := 2) hx hb hml hown hU hN hZ (s_X12_bad_k12 l (dC, dI) cI cL cZ cR cG cH Z kd L f_123 hG o0 mo0 ko0 3 v_66) wd_602 wd_603 wd_604 wd_5 wd_605 (by decide +kernel) ⟨Nat.le_of_ble_eq_true rfl, Nat.le_of_ble_eq_true rfl⟩ hK hP hD hS mo0 hfo_125 12 rfl rfl rfl hl.1 rfl (Nat.le_of_ble_eq_true rfl) dX12_takesPair_220 ⟨Nat.le_of_ble_eq_true rfl, Nat.le_of_ble_eq_true rfl⟩ (fun x_256 f_257 H locs hw hP hD hS => ?_)
                        obtain ⟨hG, bx_256, hkc_258, hra_259, hfa_260⟩ := hw
                        have hfo_262 : f_257 a_2 = .inl (cI, 1560, .inl g_84) := by rw [hkc_258 a_2 (by rw [ka_2]; decide)]; exact hfo_124
                        have hfr0 : ∀ b, kd b ≠ 12 → kd b ≠ 576 → f_257 b = f b := fun b q12 q576 => (hkc_258 b q12).trans (hfr0 b q12 q576)
                        have hrA12 : ∀ b, kd b = 12 → ∀ j, fldR (f_257 b) j = fldR (f b) j := fun b kb j => (hra_259 b kb j).trans (hrA12 b kb j)
                        have hfA12 : ∀ b, kd b = 12 → ∀ j, j ≠ 6 → j ≠ 7 → j ≠ 8 → j ≠ 11 → j ≠ 12 → j ≠ 13 → fldI (f_257 b) j = fldI (f b) j := fun b kb j n6 n7 n8 n11 n12 n13 => (hfa_260 b kb j n7 n8).trans (hfA12 b kb j n6 n7 n8 n11 n12 n13)
                        have hT0 : frel kd 576 8 f_257 a_2 := hT0.keep (fun b q => hkc_258 b (by rw [q]; decide))
                        obtain ⟨v_263, v_264, hfo_265, fa_266⟩ := op12_7_8 hfo_125 (hG _ mo0) ko0 (hra_259 o0 ko0) (hfa_260 o0 ko0)
                        have bv_263 : ((-2147483648) ≤ v_263.toInt ∧ v_263.toInt ≤ 2147483647) := ⟨i32_lo _, i32_hi _⟩
                        have bv_264 : ((-2147483648) ≤ v_264.toInt ∧ v_264.toInt ≤ 2147483647) := ⟨i32_lo _, i32_hi _⟩
                        exact W.zret (v := x_256) (ty := .boolean) hx hb hr (zb_n (by constructor <;> omega)) (fun t ht hW => ⟨⟨x_256, f_257, rfl, ⟨hG, (by constructor <;> omega), hfr0, hrA12, hfA12, (by intro w6 z6 e6 d6; rw [hfo_57] at e6; rw [hfo_265] at d6; obtain rfl := Option.some.inj e6; obtain rfl := Option.some.inj d6; omega), (fun d9 h9 => by rw [hfo_265] at h9; obtain rfl := Option.some.inj h9; exact hT0)⟩, by rw [ht]; exact hP, va_K.moved hW.alike hK, pl_in hD⟩, hS.F ht⟩) hS.2.2 dX12_takesPair_223
                      · skip
                        rw [← Int32.toInt_inj, ti_3] at c_255
                        refine lv_iload hx hb dX12_takesPair_211 (lv_at hl 1 rfl) ?_
                        refine lv_iconst (v := 3) hx hb dX12_takesPair_213 (by decide) ?_
                        refine lv_icmp_ne (tgt := 224) hx hb dX12_takesPair_214 (by decide) (fun c_267 => ?_) (fun c_267 => ?_)
                        · skip
                          rw [← Int32.toInt_inj, ti_3] at c_267
                          have hu11 : cntU g_84 (g_84 16).toInt.toNat ≤ 11 := by have hq1 := hF0.2.1; have hkk : (y_238.toInt).toNat = (g_84 16).toInt.toNat := (by omega); rw [hkk] at hxu; omega
                          have hnrc_268 : (0 ≤ x_230.toInt ∧ x_230.toInt ≤ 19) := by have hq1 := hF0.1; constructor <;> omega
                          refine lv_aload_n hx hb dX12_takesPair_224 rfl (lv_at hl 5 rfl) ?_
                          refine tk_getP (D := (dC, dI)) (ci := 12) (v := .ref a_2) (C := RX12) (T := TX12) (N := 56) hx hb hU inlX12 hown hK hP mo0 hfo_125 rfl 1 (by decide) (hU _ wd_170) (fun _ h9 => h9) rfl dX12_takesPair_225 ?_
                          refine lv_bipush (v := 20) hx hb dX12_takesPair_228 (by decide) ?_
                          refine lv_aload_n hx hb dX12_takesPair_230 rfl (lv_at hl 5 rfl) ?_
                          refine tk_getP (D := (dC, dI)) (ci := 12) (v := .ref a_2) (C := RX12) (T := TX12) (N := 56) hx hb hU inlX12 hown hK hP mo0 hfo_125 rfl 1 (by decide) (hU _ wd_170) (fun _ h9 => h9) rfl dX12_takesPair_231 ?_
                          refine lv_bipush (v := 16) hx hb dX12_takesPair_234 (by decide) ?_
                          refine tk_ildP hx hb hK hP 0 ma_2 hfo_124 rfl (vp_in_nI (n := 16) (by decide) (by decide)) dX12_takesPair_236 ?_
                          refine tk_topi (y := x_230) ex_230.symm ?_
                          refine lv_iadd hx hb dX12_takesPair_237 ?_
                          refine lv_topi (fun x_269 ex_269 => ?_)
                          have hx_269 : x_269.toInt = 20 + x_230.toInt := by rw [ex_269, ad_I (by rw [ti_20]; omega) (by rw [ti_20]; omega), ti_20]
                          have bx_269 : (20 ≤ x_269.toInt ∧ x_269.toInt ≤ 39) := by constructor <;> omega
                          refine lv_bipush (v := 9) hx hb dX12_takesPair_238 (by decide) ?_
                          refine lv_aload_n hx hb dX12_takesPair_240 rfl (lv_at hl 5 rfl) ?_
                          refine tk_getP (D := (dC, dI)) (ci := 12) (v := .int v_80) (C := RX12) (T := TX12) (N := 56) hx hb hU inlX12 hown hK hP mo0 hfo_125 rfl 12 (by decide) (hU _ wd_618) (fun _ h9 => h9) rfl dX12_takesPair_241 ?_
                          refine lv_imul hx hb dX12_takesPair_244 ?_
                          refine lv_topi (fun x_270 ex_270 => ?_)
                          have hx_270 : x_270.toInt = 9 * v_80.toInt := by rw [ex_270, ml_I (by rw [ti_9]; omega) (by rw [ti_9]; omega), ti_9]
                          have bx_270 : (0 ≤ x_270.toInt ∧ x_270.toInt ≤ 0) := by constructor <;> omega
                          refine lv_aload_n hx hb dX12_takesPair_245 rfl (lv_at hl 5 rfl) ?_
                          refine tk_getP (D := (dC, dI)) (ci := 12) (v := .int v_117) (C := RX12) (T := TX12) (N := 56) hx hb hU inlX12 hown hK hP mo0 hfo_125 rfl 13 (by decide) (hU _ wd_619) (fun _ h9 => h9) rfl dX12_takesPair_246 ?_
                          refine lv_iadd hx hb dX12_takesPair_249 ?_
                          refine lv_topi (fun x_271 ex_271 => ?_)
                          have hx_271 : x_271.toInt = x_270.toInt + v_117.toInt := by rw [ex_271, ad_I (by omega) (by omega)]
                          have bx_271 : (1 ≤ x_271.toInt ∧ x_271.toInt ≤ 8) := by constructor <;> omega
                          refine tk_istP hx hb hK hP hD hS 0 ma_2 hfo_124 rfl (vp_in_iff.mpr (by constructor <;> omega)) dX12_takesPair_250 (fun H locs hP hD hS => ?_)
                          have hc9 := cl_I (i := x_269) (by omega)
                          obtain ⟨g_272, eqg_272⟩ : ∃ y : Nat → Int32, y = upd g_84 (Int32.toNatClampNeg x_269) x_271 := ⟨_, rfl⟩
                          rw [← eqg_272] at hP hD
                          have hbg_272 : wOK g_272 := by rw [eqg_272]; exact ⟨hbg_84.1.up (fun h1 h2 h3 => by exfalso; omega), hbg_84.2.1.up (fun h1 h2 h3 => by exfalso; omega), hbg_84.2.2.1.up (fun h1 h2 h3 => by exfalso; omega), hbg_84.2.2.2.1.up (fun h1 h2 h3 => by exfalso; omega), hbg_84.2.2.2.2.1.up (fun h1 h2 h3 => by exfalso; omega), hbg_84.2.2.2.2.2.1.up (fun h1 h2 h3 => by constructor <;> omega), hbg_84.2.2.2.2.2.2.1.up (fun h1 h2 h3 => by exfalso; omega), hbg_84.2.2.2.2.2.2.2.1.up (fun h1 h2 h3 => by exfalso; omega), hbg_84.2.2.2.2.2.2.2.2.1.up (fun h1 h2 h3 => by exfalso; omega), hbg_84.2.2.2.2.2.2.2.2.2.1.up (fun h1 h2 h3 => by exfalso; omega), hbg_84.2.2.2.2.2.2.2.2.2.2.1.up (fun h1 h2 h3 => by exfalso; omega), hbg_84.2.2.2.2.2.2.2.2.2.2.2.1.up (fun h1 h2 h3 => by exfalso; omega), hbg_84.2.2.2.2.2.2.2.2.2.2.2.2.1.up (fun h1 h2 h3 => by exfalso; omega), hbg_84.2.2.2.2.2.2.2.2.2.2.2.2.2.1.up (fun h1 h2 h3 => by exfalso; omega), hbg_84.2.2.2.2.2.2.2.2.2.2.2.2.2.2.1.up (fun h1 h2 h3 => by exfalso; omega), hbg_84.2.2.2.2.2.2.2.2.2.2.2.2.2.2.2.up (fun h1 h2 h3 => by exfalso; omega)⟩
                          obtain ⟨f_274, ef_274⟩ : ∃ y : Nat → va_E, y = va_up f_123 a_2 (.inl (cI, 1560, .inl g_272)) := ⟨_, rfl⟩
                          have hP : va_P (dC, dI) vwCl (va_pl L f_274) H := by rw [ef_274]; exact hP
                          have hD : va_D (fun q => q ∈ L) (va_pl L f_274) := by rw [ef_274]; exact hD
                          have hG : GI (okc cI cL cZ cR cG cH L kd) kd L f_274 := by rw [ef_274]; exact hG.set a_2 (mk_576 ka_2 ⟨_, rfl, hbg_272⟩)
                          have hfo_275 : f_274 o0 = .inr (12, [.ref a_1, .ref a_2, .ref a_3, .int v_4, .ref a_5, .int v_6, .int v_114, .int v_115, .int v_116, .int v_10, .int v_11, .int v_117, .int v_80, .int v_117, .int v_15, .ref a_16, .ref a_17, .ref a_18, .ref a_19, .ref a_20, .ref a_21, .ref a_22, .ref a_23, .int v_24, .int v_25, .int v_26, .int v_27, .int v_28, .ref a_29, .int v_30, .ref a_31, .ref a_32, .int v_33, .int v_34, .ref a_35, .int v_36, .ref a_37, .ref a_38, .int v_39, .int v_40, .ref a_41, .ref a_42, .ref a_43, .int v_44, .ref a_45, .ref a_46, .ref a_47, .ref a_48, .ref a_49, .ref a_50, .ref a_51, .ref a_52, .ref a_53, .int v_54, .int v_55, .ref a_56]) := by rw [ef_274, up_ne (kd_ne ka_2 ko0 (by decide))]; exact hfo_125
                          have hfr0 : ∀ b, kd b ≠ 12 → kd b ≠ 576 → f_274 b = f b := fun b q12 q576 => (congrFun ef_274 b).trans ((up_ne (fun e9 => q576 (by rw [e9]; exact ka_2))).trans (hfr0 b q12 q576))
                          have hrA12 : ∀ b, kd b = 12 → ∀ j, fldR (f_274 b) j = fldR (f b) j := fun b kb j => (congrArg (fun x => fldR x j) ((congrFun ef_274 b).trans (up_ne (kd_ne ka_2 kb (by decide))))).trans (hrA12 b kb j)
                          have hfA12 : ∀ b, kd b = 12 → ∀ j, j ≠ 6 → j ≠ 7 → j ≠ 8 → j ≠ 11 → j ≠ 12 → j ≠ 13 → fldI (f_274 b) j = fldI (f b) j := fun b kb j n6 n7 n8 n11 n12 n13 => (congrArg (fun x => fldI x j) ((congrFun ef_274 b).trans (up_ne (kd_ne ka_2 kb (by decide))))).trans (hfA12 b kb j n6 n7 n8 n11 n12 n13)
                          have hfo_276 : f_274 a_2 = .inl (cI, 1560, .inl g_272) := by rw [ef_274]; exact up_self
                          have ql_277 : x_230 = g_272 (Int32.toNatClampNeg 16) := by rw [eqg_272, pk_un (by have hc8 : Int32.toNatClampNeg 16 = 16 := rfl; omega)]; exact ex_230
                          have ql_278 : x_231 = g_272 (Int32.toNatClampNeg 0) := by rw [eqg_272, pk_un (by have hc8 : Int32.toNatClampNeg 0 = 0 := rfl; omega)]; exact ex_231
                          have ql_279 : x_271 = g_272 (Int32.toNatClampNeg x_269) := by rw [eqg_272, pk_us]
                          refine lv_aload_n hx hb dX12_takesPair_251 rfl (lv_at hl 5 rfl) ?_
                          refine tk_getP (D := (dC, dI)) (ci := 12) (v := .ref a_2) (C := RX12) (T := TX12) (N := 56) hx hb hU inlX12 hown hK hP mo0 hfo_275 rfl 1 (by decide) (hU _ wd_170) (fun _ h9 => h9) rfl dX12_takesPair_252 ?_
                          refine lv_bipush (v := 16) hx hb dX12_takesPair_255 (by decide) ?_
                          refine lv_dup2_11 hx hb dX12_takesPair_257 rfl rfl ?_
                          refine tk_ildP hx hb hK hP 0 ma_2 hfo_276 rfl (vp_in_nI (n := 16) (by decide) (by decide)) dX12_takesPair_258 ?_
                          refine tk_topi (y := x_230) ql_277.symm ?_
                          refine lv_iconst (v := 1) hx hb dX12_takesPair_259 (by decide) ?_
                          refine lv_iadd hx hb dX12_takesPair_260 ?_
                          refine lv_topi (fun x_280 ex_280 => ?_)
                          have hx_280 : x_280.toInt = x_230.toInt + 1 := by rw [ex_280, ad_I (by rw [ti_1]; omega) (by rw [ti_1]; omega), ti_1]
                          have bx_280 : (1 ≤ x_280.toInt ∧ x_280.toInt ≤ 20) := by constructor <;> omega
                          refine tk_istP hx hb hK hP hD hS 0 ma_2 hfo_276 rfl (vp_in_nI (n := 16) (by decide) (by decide)) dX12_takesPair_261 (fun H locs hP hD hS => ?_)
                          have hc9 : ((Int32.toNatClampNeg 16 : Nat) : Int) = 16 := by decide
                          obtain ⟨g_281, eqg_281⟩ : ∃ y : Nat → Int32, y = upd g_272 (Int32.toNatClampNeg 16) x_280 := ⟨_, rfl⟩
                          rw [← eqg_281] at hP hD
                          have hbg_281 : wOK g_281 := by rw [eqg_281]; exact ⟨hbg_272.1.up (fun h1 h2 h3 => by exfalso; omega), hbg_272.2.1.up (fun h1 h2 h3 => by constructor <;> omega), hbg_272.2.2.1.up (fun h1 h2 h3 => by exfalso; omega), hbg_272.2.2.2.1.up (fun h1 h2 h3 => by exfalso; omega), hbg_272.2.2.2.2.1.up (fun h1 h2 h3 => by exfalso; omega), hbg_272.2.2.2.2.2.1.up (fun h1 h2 h3 => by exfalso; omega), hbg_272.2.2.2.2.2.2.1.up (fun h1 h2 h3 => by exfalso; omega), hbg_272.2.2.2.2.2.2.2.1.up (fun h1 h2 h3 => by exfalso; omega), hbg_272.2.2.2.2.2.2.2.2.1.up (fun h1 h2 h3 => by exfalso; omega), hbg_272.2.2.2.2.2.2.2.2.2.1.up (fun h1 h2 h3 => by exfalso; omega), hbg_272.2.2.2.2.2.2.2.2.2.2.1.up (fun h1 h2 h3 => by exfalso; omega), hbg_272.2.2.2.2.2.2.2.2.2.2.2.1.up (fun h1 h2 h3 => by exfalso; omega), hbg_272.2.2.2.2.2.2.2.2.2.2.2.2.1.up (fun h1 h2 h3 => by exfalso; omega), hbg_272.2.2.2.2.2.2.2.2.2.2.2.2.2.1.up (fun h1 h2 h3 => by exfalso; omega), hbg_272.2.2.2.2.2.2.2.2.2.2.2.2.2.2.1.up (fun h1 h2 h3 => by exfalso; omega), hbg_272.2.2.2.2.2.2.2.2.2.2.2.2.2.2.2.up (fun h1 h2 h3 => by exfalso; omega)⟩
                          obtain ⟨f_283, ef_283⟩ : ∃ y : Nat → va_E, y = va_up f_274 a_2 (.inl (cI, 1560, .inl g_281)) := ⟨_, rfl⟩
                          have hP : va_P (dC, dI) vwCl (va_pl L f_283) H := by rw [ef_283]; exact hP
                          have hD : va_D (fun q => q ∈ L) (va_pl L f_283) := by rw [ef_283]; exact hD
                          have hG : GI (okc cI cL cZ cR cG cH L kd) kd L f_283 := by rw [ef_283]; exact hG.set a_2 (mk_576 ka_2 ⟨_, rfl, hbg_281⟩)
                          have hfo_284 : f_283 o0 = .inr (12, [.ref a_1, .ref a_2, .ref a_3, .int v_4, .ref a_5, .int v_6, .int v_114, .int v_115, .int v_116, .int v_10, .int v_11, .int v_117, .int v_80, .int v_117, .int v_15, .ref a_16, .ref a_17, .ref a_18, .ref a_19, .ref a_20, .ref a_21, .ref a_22, .ref a_23, .int v_24, .int v_25, .int v_26, .int v_27, .int v_28, .ref a_29, .int v_30, .ref a_31, .ref a_32, .int v_33, .int v_34, .ref a_35, .int v_36, .ref a_37, .ref a_38, .int v_39, .int v_40, .ref a_41, .ref a_42, .ref a_43, .int v_44, .ref a_45, .ref a_46, .ref a_47, .ref a_48, .ref a_49, .ref a_50, .ref a_51, .ref a_52, .ref a_53, .int v_54, .int v_55, .ref a_56]) := by rw [ef_283, up_ne (kd_ne ka_2 ko0 (by decide))]; exact hfo_275
                          have hfr0 : ∀ b, kd b ≠ 12 → kd b ≠ 576 → f_283 b = f b := fun b q12 q576 => (congrFun ef_283 b).trans ((up_ne (fun e9 => q576 (by rw [e9]; exact ka_2))).trans (hfr0 b q12 q576))
                          have hrA12 : ∀ b, kd b = 12 → ∀ j, fldR (f_283 b) j = fldR (f b) j := fun b kb j => (congrArg (fun x => fldR x j) ((congrFun ef_283 b).trans (up_ne (kd_ne ka_2 kb (by decide))))).trans (hrA12 b kb j)
                          have hfA12 : ∀ b, kd b = 12 → ∀ j, j ≠ 6 → j ≠ 7 → j ≠ 8 → j ≠ 11 → j ≠ 12 → j ≠ 13 → fldI (f_283 b) j = fldI (f b) j := fun b kb j n6 n7 n8 n11 n12 n13 => (congrArg (fun x => fldI x j) ((congrFun ef_283 b).trans (up_ne (kd_ne ka_2 kb (by decide))))).trans (hfA12 b kb j n6 n7 n8 n11 n12 n13)
                          have hfo_285 : f_283 a_2 = .inl (cI, 1560, .inl g_281) := by rw [ef_283]; exact up_self
                          have ql_286 : x_231 = g_281 (Int32.toNatClampNeg 0) := by rw [eqg_281, pk_un (by decide)]; exact ql_278
                          have ql_287 : x_280 = g_281 (Int32.toNatClampNeg 16) := by rw [eqg_281, pk_us]
                          have hF2 : fOK 8 g_281 := by have hi1 := cl_I (i := x_269) (by omega); have hz16 : Int32.toNatClampNeg 16 = 16 := rfl; have hds : v_80.toInt ≠ v_117.toInt := (hF0.ne (hhp.resolve_left (by omega)) (by omega) (by omega) (by omega)); exact hF0.pair (d := v_80.toInt) (s := v_117.toInt) (by rw [eqg_281, hz16, pk_us]; omega) (by omega) (by rw [eqg_281, pk_un (by omega), eqg_272, pk_un (by omega)]) hds (by constructor <;> omega) (by constructor <;> omega) hu11 (fun k9 h9 => by rw [eqg_281, pk_un (by omega), eqg_272, show 20 + k9 = Int32.toNatClampNeg x_269 by omega, pk_us]; omega) (fun k9 h9 => by rw [eqg_281, pk_un (by omega), eqg_272, pk_un (by omega)]) (by rw [eqg_281, pk_un (by omega), eqg_272, pk_un (by omega)])
                          have hTt_288 : frel kd 576 8 f_283 a_2 := frel.mk ka_2 hfo_285 hF2
                          refine lv_iconst (v := 1) hx hb dX12_takesPair_262 (by decide) ?_
                          exact W.zret (v := 1) (ty := .boolean) hx hb hr rfl (fun t ht hW => ⟨⟨1, f_283, rfl, ⟨hG, (by decide), hfr0, hrA12, hfA12, (by intro w6 z6 e6 d6; rw [hfo_57] at e6; rw [hfo_284] at d6; obtain rfl := Option.some.inj e6; obtain rfl := Option.some.inj d6; (try rw [ti_1]) <;> omega), (fun d9 h9 => by rw [hfo_284] at h9; obtain rfl := Option.some.inj h9; exact hTt_288)⟩, by rw [ht]; exact hP, va_K.moved hW.alike hK, pl_in hD⟩, hS.F ht⟩) hS.2.2 dX12_takesPair_263
                        · skip
                          rw [← Int32.toInt_inj, ti_3] at c_267
                          refine lv_aload_n hx hb dX12_takesPair_217 rfl (lv_at hl 5 rfl) ?_
                          refine lv_iconst (v := 3) hx hb dX12_takesPair_218 (by decide) ?_
                          refine lv_iload_n hx hb dX12_takesPair_219 rfl (lv_at hl 4 rfl) ?_
                          refine tk_ViP (As := [.int 3, .int v_66]) (rest := []) (n := 2) hx hb hml hown hU hN hZ (s_X12_bad_k12 l (dC, dI) cI cL cZ cR cG cH Z kd L f_123 hG o0 mo0 ko0 3 v_66) wd_602 wd_603 wd_604 wd_5 wd_605 (by decide +kernel) ⟨Nat.le_of_ble_eq_true rfl, Nat.le_of_ble_eq_true rfl⟩ hK hP hD hS mo0 hfo_125 12 rfl rfl rfl hl.1 rfl (Nat.le_of_ble_eq_true rfl) dX12_takesPair_220 ⟨Nat.le_of_ble_eq_true rfl, Nat.le_of_ble_eq_true rfl⟩ (fun x_289 f_290 H locs hw hP hD hS => ?_)
                          obtain ⟨hG, bx_289, hkc_291, hra_292, hfa_293⟩ := hw
                          have hfo_295 : f_290 a_2 = .inl (cI, 1560, .inl g_84) := by rw [hkc_291 a_2 (by rw [ka_2]; decide)]; exact hfo_124
                          have hfr0 : ∀ b, kd b ≠ 12 → kd b ≠ 576 → f_290 b = f b := fun b q12 q576 => (hkc_291 b q12).trans (hfr0 b q12 q576)
                          have hrA12 : ∀ b, kd b = 12 → ∀ j, fldR (f_290 b) j = fldR (f b) j := fun b kb j => (hra_292 b kb j).trans (hrA12 b kb j)
                          have hfA12 : ∀ b, kd b = 12 → ∀ j, j ≠ 6 → j ≠ 7 → j ≠ 8 → j ≠ 11 → j ≠ 12 → j ≠ 13 → fldI (f_290 b) j = fldI (f b) j := fun b kb j n6 n7 n8 n11 n12 n13 => (hfa_293 b kb j n7 n8).trans (hfA12 b kb j n6 n7 n8 n11 n12 n13)
                          have hT0 : frel kd 576 8 f_290 a_2 := hT0.keep (fun b q => hkc_291 b (by rw [q]; decide))
                          obtain ⟨v_296, v_297, hfo_298, fa_299⟩ := op12_7_8 hfo_125 (hG _ mo0) ko0 (hra_292 o0 ko0) (hfa_293 o0 ko0)
                          have bv_296 : ((-2147483648) ≤ v_296.toInt ∧ v_296.toInt ≤ 2147483647) := ⟨i32_lo _, i32_hi _⟩
                          have bv_297 : ((-2147483648) ≤ v_297.toInt ∧ v_297.toInt ≤ 2147483647) := ⟨i32_lo _, i32_hi _⟩
                          exact W.zret (v := x_289) (ty := .boolean) hx hb hr (zb_n (by constructor <;> omega)) (fun t ht hW => ⟨⟨x_289, f_290, rfl, ⟨hG, (by constructor <;> omega), hfr0, hrA12, hfA12, (by intro w6 z6 e6 d6; rw [hfo_57] at e6; rw [hfo_298] at d6; obtain rfl := Option.some.inj e6; obtain rfl := Option.some.inj d6; omega), (fun d9 h9 => by rw [hfo_298] at h9; obtain rfl := Option.some.inj h9; exact hT0)⟩, by rw [ht]; exact hP, va_K.moved hW.alike hK, pl_in hD⟩, hS.F ht⟩) hS.2.2 dX12_takesPair_223
                  · skip
                    rw [Int32.le_iff_toInt_le] at c_242
                    refine lv_aload_n hx hb dX12_takesPair_115 rfl (lv_at hl 5 rfl) ?_
                    refine tk_getP (D := (dC, dI)) (ci := 12) (v := .ref a_2) (C := RX12) (T := TX12) (N := 56) hx hb hU inlX12 hown hK hP mo0 hfo_125 rfl 1 (by decide) (hU _ wd_170) (fun _ h9 => h9) rfl dX12_takesPair_116 ?_
                    refine lv_bipush (v := 20) hx hb dX12_takesPair_119 (by decide) ?_
                    refine lv_iload hx hb dX12_takesPair_121 (lv_at hl 0 rfl) ?_
                    refine lv_iadd hx hb dX12_takesPair_123 ?_
                    refine lv_topi (fun x_300 ex_300 => ?_)
                    have hx_300 : x_300.toInt = 20 + y_238.toInt := by rw [ex_300, ad_I (by rw [ti_20]; omega) (by rw [ti_20]; omega), ti_20]
                    have bx_300 : (20 ≤ x_300.toInt ∧ x_300.toInt ≤ 39) := by constructor <;> omega
                    refine tk_ildP hx hb hK hP 0 ma_2 hfo_124 rfl (vp_in_iff.mpr (by constructor <;> omega)) dX12_takesPair_124 ?_
                    refine lv_topi (fun x_301 ex_301 => ?_)
                    have bx_301 : (0 ≤ x_301.toInt ∧ x_301.toInt ≤ 80) := by have hc9 := cl_I (i := x_300) (by omega); rw [ex_301]; exact hbg_84.2.2.2.2.2.1 _ (by omega) (by omega) (by omega)
                    refine lv_bipush (v := 9) hx hb dX12_takesPair_125 (by decide) ?_
                    refine lv_idiv hx hb dX12_takesPair_127 (by decide) ?_
                    refine lv_topi (fun x_302 ex_302 => ?_)
                    have hx_302 : x_302.toInt = x_301.toInt / 9 := by rw [ex_302, dv_I (by omega) (by rw [ti_9]; omega), ti_9]
                    have bx_302 : (0 ≤ x_302.toInt ∧ x_302.toInt ≤ 8) := by constructor <;> omega
                    refine lv_istore (lv' := [(6, .int x_302), (5, .int y_238), (4, .int y_239), (3, .int y_240), (2, .int y_241), (1, .int v_66), (0, .ref o0)]) hx hb dX12_takesPair_128 hl (by decide) rfl (fun ls hl => ?_)
                    refine lv_aload_n hx hb dX12_takesPair_130 rfl (lv_at hl 6 rfl) ?_
                    refine tk_getP (D := (dC, dI)) (ci := 12) (v := .ref a_2) (C := RX12) (T := TX12) (N := 56) hx hb hU inlX12 hown hK hP mo0 hfo_125 rfl 1 (by decide) (hU _ wd_170) (fun _ h9 => h9) rfl dX12_takesPair_131 ?_
                    refine lv_bipush (v := 20) hx hb dX12_takesPair_134 (by decide) ?_
                    refine lv_iload hx hb dX12_takesPair_136 (lv_at hl 1 rfl) ?_
                    refine lv_iadd hx hb dX12_takesPair_138 ?_
                    refine lv_topi (fun x_303 ex_303 => ?_)
                    have hx_303 : x_303.toInt = 20 + y_238.toInt := by rw [ex_303, ad_I (by rw [ti_20]; omega) (by rw [ti_20]; omega), ti_20]
                    have bx_303 : (20 ≤ x_303.toInt ∧ x_303.toInt ≤ 39) := by constructor <;> omega
                    refine tk_ildP hx hb hK hP 0 ma_2 hfo_124 rfl (vp_in_iff.mpr (by constructor <;> omega)) dX12_takesPair_139 ?_
                    refine lv_topi (fun x_304 ex_304 => ?_)
                    have bx_304 : (0 ≤ x_304.toInt ∧ x_304.toInt ≤ 80) := by have hc9 := cl_I (i := x_303) (by omega); rw [ex_304]; exact hbg_84.2.2.2.2.2.1 _ (by omega) (by omega) (by omega)
                    have hsmx_304 : x_304 = x_301 := by have hc8 := cl_I (i := x_300) (by omega); have hc9 := cl_I (i := x_303) (by omega); rw [ex_304, ex_301]; congr 1; omega
                    have hsix_304 := congrArg Int32.toInt hsmx_304
                    refine lv_bipush (v := 9) hx hb dX12_takesPair_140 (by decide) ?_
                    refine lv_irem hx hb dX12_takesPair_142 (by decide) ?_
                    refine lv_topi (fun x_305 ex_305 => ?_)
                    have hx_305 : x_305.toInt = x_304.toInt % 9 := by rw [ex_305, rm_I (by omega) (by rw [ti_9]; omega), ti_9]
                    have bx_305 : (0 ≤ x_305.toInt ∧ x_305.toInt ≤ 8) := by constructor <;> omega
                    refine lv_istore (lv' := [(7, .int x_305), (6, .int x_302), (5, .int y_238), (4, .int y_239), (3, .int y_240), (2, .int y_241), (1, .int v_66), (0, .ref o0)]) hx hb dX12_takesPair_143 hl (by decide) rfl (fun ls hl => ?_)
                    refine lv_iload hx hb dX12_takesPair_145 (lv_at hl 1 rfl) ?_
                    refine lv_iload hx hb dX12_takesPair_147 (lv_at hl 0 rfl) ?_
                    refine lv_icmp_ne (tgt := 155) hx hb dX12_takesPair_149 (by decide) (fun c_306 => ?_) (fun c_306 => ?_)
                    · skip
                      rw [← Int32.toInt_inj] at c_306
                      obtain ⟨x_307, ex_307⟩ : ∃ y : Int32, y_241 + 1 = y := ⟨_, rfl⟩
                      have hx_307 : x_307.toInt = y_241.toInt + 1 := by rw [← ex_307, ad_I (by rw [ti_1]; omega) (by rw [ti_1]; omega), ti_1]
                      have bx_307 : (1 ≤ x_307.toInt ∧ x_307.toInt ≤ 21) := by constructor <;> omega
                      refine lv_iinc (v := x_307) (lv' := [(2, .int x_307), (7, .int x_305), (6, .int x_302), (5, .int y_238), (4, .int y_239), (3, .int y_240), (1, .int v_66), (0, .ref o0)]) hx hb dX12_takesPair_155 hl (k := 5) rfl ex_307 (by decide) rfl (fun ls hl => ?_)
                      refine lv_iload_n hx hb dX12_takesPair_158 rfl (lv_at hl 5 rfl) ?_
                      refine lv_iload hx hb dX12_takesPair_159 (lv_at hl 2 rfl) ?_
                      refine lv_aload_n hx hb dX12_takesPair_161 rfl (lv_at hl 7 rfl) ?_
                      refine tk_getP (D := (dC, dI)) (ci := 12) (v := .int v_80) (C := RX12) (T := TX12) (N := 56) hx hb hU inlX12 hown hK hP mo0 hfo_125 rfl 12 (by decide) (hU _ wd_618) (fun _ h9 => h9) rfl dX12_takesPair_162 ?_
                      refine lv_icmp_ne (tgt := 172) hx hb dX12_takesPair_165 (by decide) (fun c_308 => ?_) (fun c_308 => ?_)
                      · skip
                        rw [← Int32.toInt_inj] at c_308
                        refine lv_iconst (v := 0) hx hb dX12_takesPair_172 (by decide) ?_
                        refine lv_iadd hx hb dX12_takesPair_173 ?_
                        refine lv_topi (fun x_309 ex_309 => ?_)
                        have hx_309 : x_309.toInt = y_240.toInt + 0 := by rw [ex_309, ad_I (by rw [ti_0]; omega) (by rw [ti_0]; omega), ti_0]
                        have bx_309 : (0 ≤ x_309.toInt ∧ x_309.toInt ≤ 20) := by constructor <;> omega
                        refine lv_istore_n (lv' := [(3, .int x_309), (2, .int x_307), (7, .int x_305), (6, .int x_302), (5, .int y_238), (4, .int y_239), (1, .int v_66), (0, .ref o0)]) hx hb dX12_takesPair_174 rfl hl (by decide) rfl (fun ls hl => ?_)
                        refine lv_iload hx hb dX12_takesPair_175 (lv_at hl 5 rfl) ?_
                        refine lv_iload hx hb dX12_takesPair_177 (lv_at hl 2 rfl) ?_
                        refine lv_aload_n hx hb dX12_takesPair_179 rfl (lv_at hl 7 rfl) ?_
                        refine tk_getP (D := (dC, dI)) (ci := 12) (v := .int v_117) (C := RX12) (T := TX12) (N := 56) hx hb hU inlX12 hown hK hP mo0 hfo_125 rfl 13 (by decide) (hU _ wd_619) (fun _ h9 => h9) rfl dX12_takesPair_180 ?_
                        refine lv_icmp_ne (tgt := 190) hx hb dX12_takesPair_183 (by decide) (fun c_310 => ?_) (fun c_310 => ?_)
                        · skip
                          rw [← Int32.toInt_inj] at c_310
                          refine lv_iconst (v := 0) hx hb dX12_takesPair_190 (by decide) ?_
                          refine lv_iadd hx hb dX12_takesPair_191 ?_
                          refine lv_topi (fun x_311 ex_311 => ?_)
                          have hx_311 : x_311.toInt = y_239.toInt + 0 := by rw [ex_311, ad_I (by rw [ti_0]; omega) (by rw [ti_0]; omega), ti_0]
                          have bx_311 : (0 ≤ x_311.toInt ∧ x_311.toInt ≤ 20) := by constructor <;> omega
                          refine lv_istore (lv' := [(4, .int x_311), (3, .int x_309), (2, .int x_307), (7, .int x_305), (6, .int x_302), (5, .int y_238), (1, .int v_66), (0, .ref o0)]) hx hb dX12_takesPair_192 hl (by decide) rfl (fun ls hl => ?_)
                          obtain ⟨x_312, ex_312⟩ : ∃ y : Int32, y_238 + 1 = y := ⟨_, rfl⟩
                          have hx_312 : x_312.toInt = y_238.toInt + 1 := by rw [← ex_312, ad_I (by rw [ti_1]; omega) (by rw [ti_1]; omega), ti_1]
                          have bx_312 : (1 ≤ x_312.toInt ∧ x_312.toInt ≤ 20) := by constructor <;> omega
                          refine lv_iinc (v := x_312) (lv' := [(5, .int x_312), (4, .int x_311), (3, .int x_309), (2, .int x_307), (7, .int x_305), (6, .int x_302), (1, .int v_66), (0, .ref o0)]) hx hb dX12_takesPair_194 hl (k := 5) rfl ex_312 (by decide) rfl (fun ls hl => ?_)
                          refine lv_goto (tgt := 103) hx hb dX12_takesPair_197 (by decide) ?_
                          exact ih_hloop_237 x_312 (by constructor <;> omega) x_311 (by constructor <;> omega) x_309 (by constructor <;> omega) x_307 (by constructor <;> omega) (by omega) (by have hc9 := cl_I (i := x_300) (by omega); have hn9 : (x_312.toInt).toNat = (y_238.toInt).toNat + 1 := (by omega); have hg9 : g_84 (20 + (y_238.toInt).toNat) = x_301 := (by rw [ex_301]; congr 1; omega); rw [hn9, cntU_ne (by rw [hg9]; omega)]; omega) (by omega) ls (lv_sub hl [0, 1, 2, 3, 6, 7] rfl)
                        · skip
                          rw [← Int32.toInt_inj] at c_310
                          refine lv_iconst (v := 1) hx hb dX12_takesPair_186 (by decide) ?_
                          refine lv_goto (tgt := 191) hx hb dX12_takesPair_187 (by decide) ?_
                          refine lv_iadd hx hb dX12_takesPair_191 ?_
                          refine lv_topi (fun x_313 ex_313 => ?_)
                          have hx_313 : x_313.toInt = y_239.toInt + 1 := by rw [ex_313, ad_I (by rw [ti_1]; omega) (by rw [ti_1]; omega), ti_1]
                          have bx_313 : (1 ≤ x_313.toInt ∧ x_313.toInt ≤ 21) := by constructor <;> omega
                          refine lv_istore (lv' := [(4, .int x_313), (3, .int x_309), (2, .int x_307), (7, .int x_305), (6, .int x_302), (5, .int y_238), (1, .int v_66), (0, .ref o0)]) hx hb dX12_takesPair_192 hl (by decide) rfl (fun ls hl => ?_)
                          obtain ⟨x_314, ex_314⟩ : ∃ y : Int32, y_238 + 1 = y := ⟨_, rfl⟩
                          have hx_314 : x_314.toInt = y_238.toInt + 1 := by rw [← ex_314, ad_I (by rw [ti_1]; omega) (by rw [ti_1]; omega), ti_1]
                          have bx_314 : (1 ≤ x_314.toInt ∧ x_314.toInt ≤ 20) := by constructor <;> omega
                          refine lv_iinc (v := x_314) (lv' := [(5, .int x_314), (4, .int x_313), (3, .int x_309), (2, .int x_307), (7, .int x_305), (6, .int x_302), (1, .int v_66), (0, .ref o0)]) hx hb dX12_takesPair_194 hl (k := 5) rfl ex_314 (by decide) rfl (fun ls hl => ?_)
                          refine lv_goto (tgt := 103) hx hb dX12_takesPair_197 (by decide) ?_
                          exact ih_hloop_237 x_314 (by constructor <;> omega) x_313 (by constructor <;> omega) x_309 (by constructor <;> omega) x_307 (by constructor <;> omega) (by omega) (by have hc9 := cl_I (i := x_300) (by omega); have hn9 : (x_314.toInt).toNat = (y_238.toInt).toNat + 1 := (by omega); have hg9 : g_84 (20 + (y_238.toInt).toNat) = x_301 := (by rw [ex_301]; congr 1; omega); rw [hn9, cntU_ne (by rw [hg9]; omega)]; omega) (by omega) ls (lv_sub hl [0, 1, 2, 3, 6, 7] rfl)
                      · skip
                        rw [← Int32.toInt_inj] at c_308
                        refine lv_iconst (v := 1) hx hb dX12_takesPair_168 (by decide) ?_
                        refine lv_goto (tgt := 173) hx hb dX12_takesPair_169 (by decide) ?_
                        refine lv_iadd hx hb dX12_takesPair_173 ?_
                        refine lv_topi (fun x_315 ex_315 => ?_)
                        have hx_315 : x_315.toInt = y_240.toInt + 1 := by rw [ex_315, ad_I (by rw [ti_1]; omega) (by rw [ti_1]; omega), ti_1]
                        have bx_315 : (1 ≤ x_315.toInt ∧ x_315.toInt ≤ 21) := by constructor <;> omega
                        refine lv_istore_n (lv' := [(3, .int x_315), (2, .int x_307), (7, .int x_305), (6, .int x_302), (5, .int y_238), (4, .int y_239), (1, .int v_66), (0, .ref o0)]) hx hb dX12_takesPair_174 rfl hl (by decide) rfl (fun ls hl => ?_)
                        refine lv_iload hx hb dX12_takesPair_175 (lv_at hl 5 rfl) ?_
                        refine lv_iload hx hb dX12_takesPair_177 (lv_at hl 2 rfl) ?_
                        refine lv_aload_n hx hb dX12_takesPair_179 rfl (lv_at hl 7 rfl) ?_
                        refine tk_getP (D := (dC, dI)) (ci := 12) (v := .int v_117) (C := RX12) (T := TX12) (N := 56) hx hb hU inlX12 hown hK hP mo0 hfo_125 rfl 13 (by decide) (hU _ wd_619) (fun _ h9 => h9) rfl dX12_takesPair_180 ?_
                        refine lv_icmp_ne (tgt := 190) hx hb dX12_takesPair_183 (by decide) (fun c_316 => ?_) (fun c_316 => ?_)
                        · skip
                          rw [← Int32.toInt_inj] at c_316
                          refine lv_iconst (v := 0) hx hb dX12_takesPair_190 (by decide) ?_
                          refine lv_iadd hx hb dX12_takesPair_191 ?_
                          refine lv_topi (fun x_317 ex_317 => ?_)
                          have hx_317 : x_317.toInt = y_239.toInt + 0 := by rw [ex_317, ad_I (by rw [ti_0]; omega) (by rw [ti_0]; omega), ti_0]
                          have bx_317 : (0 ≤ x_317.toInt ∧ x_317.toInt ≤ 20) := by constructor <;> omega
                          refine lv_istore (lv' := [(4, .int x_317), (3, .int x_315), (2, .int x_307), (7, .int x_305), (6, .int x_302), (5, .int y_238), (1, .int v_66), (0, .ref o0)]) hx hb dX12_takesPair_192 hl (by decide) rfl (fun ls hl => ?_)
                          obtain ⟨x_318, ex_318⟩ : ∃ y : Int32, y_238 + 1 = y := ⟨_, rfl⟩
                          have hx_318 : x_318.toInt = y_238.toInt + 1 := by rw [← ex_318, ad_I (by rw [ti_1]; omega) (by rw [ti_1]; omega), ti_1]
                          have bx_318 : (1 ≤ x_318.toInt ∧ x_318.toInt ≤ 20) := by constructor <;> omega
                          refine lv_iinc (v := x_318) (lv' := [(5, .int x_318), (4, .int x_317), (3, .int x_315), (2, .int x_307), (7, .int x_305), (6, .int x_302), (1, .int v_66), (0, .ref o0)]) hx hb dX12_takesPair_194 hl (k := 5) rfl ex_318 (by decide) rfl (fun ls hl => ?_)
                          refine lv_goto (tgt := 103) hx hb dX12_takesPair_197 (by decide) ?_
                          exact ih_hloop_237 x_318 (by constructor <;> omega) x_317 (by constructor <;> omega) x_315 (by constructor <;> omega) x_307 (by constructor <;> omega) (by omega) (by have hc9 := cl_I (i := x_300) (by omega); have hn9 : (x_318.toInt).toNat = (y_238.toInt).toNat + 1 := (by omega); have hg9 : g_84 (20 + (y_238.toInt).toNat) = x_301 := (by rw [ex_301]; congr 1; omega); rw [hn9, cntU_ne (by rw [hg9]; omega)]; omega) (by omega) ls (lv_sub hl [0, 1, 2, 3, 6, 7] rfl)
                        · skip
                          rw [← Int32.toInt_inj] at c_316
                          refine lv_iconst (v := 1) hx hb dX12_takesPair_186 (by decide) ?_
                          refine lv_goto (tgt := 191) hx hb dX12_takesPair_187 (by decide) ?_
                          refine lv_iadd hx hb dX12_takesPair_191 ?_
                          refine lv_topi (fun x_319 ex_319 => ?_)
                          have hx_319 : x_319.toInt = y_239.toInt + 1 := by rw [ex_319, ad_I (by rw [ti_1]; omega) (by rw [ti_1]; omega), ti_1]
                          have bx_319 : (1 ≤ x_319.toInt ∧ x_319.toInt ≤ 21) := by constructor <;> omega
                          refine lv_istore (lv' := [(4, .int x_319), (3, .int x_315), (2, .int x_307), (7, .int x_305), (6, .int x_302), (5, .int y_238), (1, .int v_66), (0, .ref o0)]) hx hb dX12_takesPair_192 hl (by decide) rfl (fun ls hl => ?_)
                          obtain ⟨x_320, ex_320⟩ : ∃ y : Int32, y_238 + 1 = y := ⟨_, rfl⟩
                          have hx_320 : x_320.toInt = y_238.toInt + 1 := by rw [← ex_320, ad_I (by rw [ti_1]; omega) (by rw [ti_1]; omega), ti_1]
                          have bx_320 : (1 ≤ x_320.toInt ∧ x_320.toInt ≤ 20) := by constructor <;> omega
                          refine lv_iinc (v := x_320) (lv' := [(5, .int x_320), (4, .int x_319), (3, .int x_315), (2, .int x_307), (7, .int x_305), (6, .int x_302), (1, .int v_66), (0, .ref o0)]) hx hb dX12_takesPair_194 hl (k := 5) rfl ex_320 (by decide) rfl (fun ls hl => ?_)
                          refine lv_goto (tgt := 103) hx hb dX12_takesPair_197 (by decide) ?_
                          exact ih_hloop_237 x_320 (by constructor <;> omega) x_319 (by constructor <;> omega) x_315 (by constructor <;> omega) x_307 (by constructor <;> omega) (by omega) (by have hc9 := cl_I (i := x_300) (by omega); have hn9 : (x_320.toInt).toNat = (y_238.toInt).toNat + 1 := (by omega); have hg9 : g_84 (20 + (y_238.toInt).toNat) = x_301 := (by rw [ex_301]; congr 1; omega); rw [hn9, cntU_ne (by rw [hg9]; omega)]; omega) (by omega) ls (lv_sub hl [0, 1, 2, 3, 6, 7] rfl)
                    · skip
                      rw [← Int32.toInt_inj] at c_306
                      refine lv_goto (tgt := 194) hx hb dX12_takesPair_152 (by decide) ?_
                      obtain ⟨x_321, ex_321⟩ : ∃ y : Int32, y_238 + 1 = y := ⟨_, rfl⟩
                      have hx_321 : x_321.toInt = y_238.toInt + 1 := by rw [← ex_321, ad_I (by rw [ti_1]; omega) (by rw [ti_1]; omega), ti_1]
                      have bx_321 : (1 ≤ x_321.toInt ∧ x_321.toInt ≤ 20) := by constructor <;> omega
                      refine lv_iinc (v := x_321) (lv' := [(5, .int x_321), (7, .int x_305), (6, .int x_302), (4, .int y_239), (3, .int y_240), (2, .int y_241), (1, .int v_66), (0, .ref o0)]) hx hb dX12_takesPair_194 hl (k := 2) rfl ex_321 (by decide) rfl (fun ls hl => ?_)
                      refine lv_goto (tgt := 103) hx hb dX12_takesPair_197 (by decide) ?_
                      exact ih_hloop_237 x_321 (by constructor <;> omega) y_239 (by constructor <;> omega) y_240 (by constructor <;> omega) y_241 (by constructor <;> omega) (by omega) (by have hc9 := cl_I (i := x_300) (by omega); have hn9 : (x_321.toInt).toNat = (y_238.toInt).toNat + 1 := (by omega); have hg9 : g_84 (20 + (y_238.toInt).toNat) = x_301 := (by rw [ex_301]; congr 1; omega); rw [hn9, cntU_eq (by rw [hg9]; omega)]; omega) (by omega) ls (lv_sub hl [0, 3, 4, 5, 6, 7] rfl)
              exact hloop_237 21 0 (by decide) 0 (by decide) 0 (by decide) 0 (by decide) (by (try rw [ti_0]) <;> omega) (by have h3 : ((0 : Int32)).toInt = 0 := rfl; rw [h3]; rfl) (by (try rw [ti_0]) <;> omega) ls hl
            · skip
              rw [← Int32.toInt_inj, ti_0] at c_229
              refine lv_iconst (v := 1) hx hb dX12_takesPair_91 (by decide) ?_
              exact W.zret (v := 1) (ty := .boolean) hx hb hr rfl (fun t ht hW => ⟨⟨1, f_123, rfl, ⟨hG, (by decide), hfr0, hrA12, hfA12, (by intro w6 z6 e6 d6; rw [hfo_57] at e6; rw [hfo_125] at d6; obtain rfl := Option.some.inj e6; obtain rfl := Option.some.inj d6; (try rw [ti_1]) <;> omega), (fun d9 h9 => by rw [hfo_125] at h9; obtain rfl := Option.some.inj h9; exact hT0)⟩, by rw [ht]; exact hP, va_K.moved hW.alike hK, pl_in hD⟩, hS.F ht⟩) hS.2.2 dX12_takesPair_92
          · skip
            rw [← Int32.toInt_inj, ti_0] at c_224
            refine lv_aload_n hx hb dX12_takesPair_66 rfl (lv_at hl 1 rfl) ?_
            refine lv_iconst (v := 2) hx hb dX12_takesPair_67 (by decide) ?_
            refine lv_iload_n hx hb dX12_takesPair_68 rfl (lv_at hl 0 rfl) ?_
            refine tk_ViP (As := [.int 2, .int v_66]) (rest := []) (n := 2) hx hb hml hown hU hN hZ (s_X12_bad_k12 l (dC, dI) cI cL cZ cR cG cH Z kd L f_123 hG o0 mo0 ko0 2 v_66) wd_602 wd_603 wd_604 wd_5 wd_605 (by decide +kernel) ⟨Nat.le_of_ble_eq_true rfl, Nat.le_of_ble_eq_true rfl⟩ hK hP hD hS mo0 hfo_125 12 rfl rfl rfl hl.1 rfl (Nat.le_of_ble_eq_true rfl) dX12_takesPair_69 ⟨Nat.le_of_ble_eq_true rfl, Nat.le_of_ble_eq_true rfl⟩ (fun x_322 f_323 H locs hw hP hD hS => ?_)
            obtain ⟨hG, bx_322, hkc_324, hra_325, hfa_326⟩ := hw
            have hfo_328 : f_323 a_2 = .inl (cI, 1560, .inl g_84) := by rw [hkc_324 a_2 (by rw [ka_2]; decide)]; exact hfo_124
            have hfr0 : ∀ b, kd b ≠ 12 → kd b ≠ 576 → f_323 b = f b := fun b q12 q576 => (hkc_324 b q12).trans (hfr0 b q12 q576)
            have hrA12 : ∀ b, kd b = 12 → ∀ j, fldR (f_323 b) j = fldR (f b) j := fun b kb j => (hra_325 b kb j).trans (hrA12 b kb j)
            have hfA12 : ∀ b, kd b = 12 → ∀ j, j ≠ 6 → j ≠ 7 → j ≠ 8 → j ≠ 11 → j ≠ 12 → j ≠ 13 → fldI (f_323 b) j = fldI (f b) j := fun b kb j n6 n7 n8 n11 n12 n13 => (hfa_326 b kb j n7 n8).trans (hfA12 b kb j n6 n7 n8 n11 n12 n13)
            have hT0 : frel kd 576 8 f_323 a_2 := hT0.keep (fun b q => hkc_324 b (by rw [q]; decide))
            obtain ⟨v_329, v_330, hfo_331, fa_332⟩ := op12_7_8 hfo_125 (hG _ mo0) ko0 (hra_325 o0 ko0) (hfa_326 o0 ko0)
            have bv_329 : ((-2147483648) ≤ v_329.toInt ∧ v_329.toInt ≤ 2147483647) := ⟨i32_lo _, i32_hi _⟩
            have bv_330 : ((-2147483648) ≤ v_330.toInt ∧ v_330.toInt ≤ 2147483647) := ⟨i32_lo _, i32_hi _⟩
            exact W.zret (v := x_322) (ty := .boolean) hx hb hr (zb_n (by constructor <;> omega)) (fun t ht hW => ⟨⟨x_322, f_323, rfl, ⟨hG, (by constructor <;> omega), hfr0, hrA12, hfA12, (by intro w6 z6 e6 d6; rw [hfo_57] at e6; rw [hfo_331] at d6; obtain rfl := Option.some.inj e6; obtain rfl := Option.some.inj d6; omega), (fun d9 h9 => by rw [hfo_331] at h9; obtain rfl := Option.some.inj h9; exact hT0)⟩, by rw [ht]; exact hP, va_K.moved hW.alike hK, pl_in hD⟩, hS.F ht⟩) hS.2.2 dX12_takesPair_72
      · skip
        rw [← Int32.toInt_inj, ti_0] at c_120
        refine lv_iconst (v := 0) hx hb dX12_takesPair_42 (by decide) ?_
        exact W.zret (v := 0) (ty := .boolean) hx hb hr rfl (fun t ht hW => ⟨⟨0, f_106, rfl, ⟨hG, (by decide), hfr0, hrA12, hfA12, (by intro w6 z6 e6 d6; rw [hfo_57] at e6; rw [hfo_118] at d6; obtain rfl := Option.some.inj e6; obtain rfl := Option.some.inj d6; (try rw [ti_0]) <;> omega), (fun d9 h9 => by rw [hfo_118] at h9; obtain rfl := Option.some.inj h9; exact hT0)⟩, by rw [ht]; exact hP, va_K.moved hW.alike hK, pl_in hD⟩, hS.F ht⟩) hS.2.2 dX12_takesPair_43
  · skip
    rw [← Int32.toInt_inj, ti_0] at c_85
    refine lv_iconst (v := 0) hx hb dX12_takesPair_16 (by decide) ?_
    exact W.zret (v := 0) (ty := .boolean) hx hb hr rfl (fun t ht hW => ⟨⟨0, f_70, rfl, ⟨hG, (by decide), hfr0, hrA12, hfA12, (by intro w6 z6 e6 d6; rw [hfo_57] at e6; rw [hfo_81] at d6; obtain rfl := Option.some.inj e6; obtain rfl := Option.some.inj d6; (try rw [ti_0]) <;> omega), (fun d9 h9 => by rw [hfo_81] at h9; obtain rfl := Option.some.inj h9; exact hT0)⟩, by rw [ht]; exact hP, va_K.moved hW.alike hK, pl_in hD⟩, hS.F ht⟩) hS.2.2 dX12_takesPair_17
