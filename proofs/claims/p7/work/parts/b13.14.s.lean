set_option maxHeartbeats 8000000 in
set_option maxRecDepth 100000 in
theorem s_X12_lives_k12 (l : Launch) (D : va_G) (cI cL cZ cR cG cH : ClassId) (Z : zT) (kd : Nat → Nat) (L : List Nat) (f : Nat → va_E) (hG : GI (okc cI cL cZ cR cG cH L kd) kd L f) (o0 : Nat) (mo0 : o0 ∈ L) (ko0 : kd o0 = 12) (p1 : Int32) (p2 : Int32) (p3 : Int32) (hpreo0 : ∀ (w29 : Int32), fldI (f o0) 29 = some w29 → w29.toInt ≤ 200) (hxtr0 : srel kd 592 f o0) : mPI l D cI cL cZ cR cG cH Z yX12_lives cX12_lives 6 (some .int) 23 655 [.ref o0, .int p1, .int p2, .int p3] L f (fun (r : Int32) (f9 : Nat → va_E) => GI (okc cI cL cZ cR cG cH L kd) kd L f9 ∧ ((-2147483648) ≤ r.toInt ∧ r.toInt ≤ 2147483647) ∧ (∀ b, kd b ≠ 12 → kd b ≠ 579 → kd b ≠ 581 → kd b ≠ 583 → kd b ≠ 585 → kd b ≠ 587 → kd b ≠ 588 → kd b ≠ 589 → kd b ≠ 590 → kd b ≠ 591 → kd b ≠ 592 → kd b ≠ 593 → kd b ≠ 603 → f9 b = f b) ∧ (∀ b, kd b = 12 → ∀ j, fldR (f9 b) j = fldR (f b) j) ∧ (∀ b, kd b = 12 → ∀ j, j ≠ 23 → j ≠ 25 → j ≠ 26 → j ≠ 27 → j ≠ 29 → j ≠ 32 → fldI (f9 b) j = fldI (f b) j) ∧ (∀ (w29 z29 : Int32), fldI (f o0) 29 = some w29 → fldI (f9 o0) 29 = some z29 → z29.toInt = w29.toInt) ∧ (srel kd 592 f9 o0)) := by
  obtain ⟨dC, dI⟩ := D
  refine Met.ofW (cc := cX12_lives) (maxL := 6) (ret := (some .int)) (by decide) rfl ?_
  intro p e s m args below meth c s₁ B hml hv
  obtain ⟨rfl, hP, hK, hD0, hN, hZ⟩ := hv
  have hx := B.exec
  have hb := B.bytes
  have hr := B.returns
  have hU : ∀ w ∈ wsU, w.before _ s = true := fun w h => atoms_spec (ws := wU yX12_lives cX12_lives 6 (some .int)) B.pre w (List.mem_cons_of_mem _ h)
  have hown : s.vm.findClass RX12 = some m.cls := findClass_of_methodNamed B.named
  have hlocks := B.notSynchronized
  have hD := pl_in hD0
  have hS : va_S (fun q => q ∈ L) s.heap s.heap [] := va_S.rf
  have hl := lv_entry ([.ref o0, .int p1, .int p2, .int p3]) (n := 6) (Nat.le_of_ble_eq_true rfl)
  rw [lg_entry_eq]
  generalize (lg_sl ([.ref o0, .int p1, .int p2, .int p3]) ++ List.replicate (6 - (lg_sl ([.ref o0, .int p1, .int p2, .int p3])).length) Slot.unset).toArray = ls at hl ⊢
  have hl : lv_has ls 6 [(0, .ref o0), (1, .int p1), (2, .int p2), (3, .int p3)] := hl
  have bp1 : ((-2147483648) ≤ p1.toInt ∧ p1.toInt ≤ 2147483647) := ⟨i32_lo _, i32_hi _⟩
  have bp2 : ((-2147483648) ≤ p2.toInt ∧ p2.toInt ≤ 2147483647) := ⟨i32_lo _, i32_hi _⟩
  have bp3 : ((-2147483648) ≤ p3.toInt ∧ p3.toInt ≤ 2147483647) := ⟨i32_lo _, i32_hi _⟩
  have hfr0 : ∀ b, kd b ≠ 12 → kd b ≠ 579 → kd b ≠ 581 → kd b ≠ 583 → kd b ≠ 585 → kd b ≠ 587 → kd b ≠ 588 → kd b ≠ 589 → kd b ≠ 590 → kd b ≠ 591 → kd b ≠ 592 → kd b ≠ 593 → kd b ≠ 603 → f b = f b := fun _ _ _ _ _ _ _ _ _ _ _ _ _ _ => rfl
  have hrA12 : ∀ b, kd b = 12 → ∀ j, fldR (f b) j = fldR (f b) j := fun _ _ _ => rfl
  have hfA12 : ∀ b, kd b = 12 → ∀ j, j ≠ 23 → j ≠ 25 → j ≠ 26 → j ≠ 27 → j ≠ 29 → j ≠ 32 → fldI (f b) j = fldI (f b) j := fun _ _ _ _ _ _ _ _ _ => rfl
  obtain ⟨a_2, a_3, a_4, v_5, a_6, v_7, v_8, v_9, v_10, v_11, v_12, v_13, v_14, v_15, v_16, a_17, a_18, a_19, a_20, a_21, a_22, a_23, a_24, v_25, v_26, v_27, v_28, v_29, a_30, v_31, a_32, a_33, v_34, v_35, a_36, v_37, a_38, a_39, v_40, v_41, a_42, a_43, a_44, v_45, a_46, a_47, a_48, a_49, a_50, a_51, a_52, a_53, a_54, v_55, v_56, a_57, hfo_1, ⟨ma_2, ka_2⟩, ⟨ma_3, ka_3⟩, ⟨ma_4, ka_4⟩, bv_5, ⟨ma_6, ka_6⟩, bv_7, bv_8, bv_13, bv_14, bv_15, ⟨ma_17, ka_17⟩, ⟨ma_18, ka_18⟩, ⟨ma_19, ka_19⟩, ⟨ma_20, ka_20⟩, ⟨ma_21, ka_21⟩, ⟨ma_22, ka_22⟩, ⟨ma_23, ka_23⟩, ⟨ma_24, ka_24⟩, bv_25, bv_27, bv_29, ⟨ma_30, ka_30⟩, bv_31, ⟨ma_32, ka_32⟩, ⟨ma_33, ka_33⟩, bv_34, ⟨ma_36, ka_36⟩, bv_37, ⟨ma_38, ka_38⟩, ⟨ma_39, ka_39⟩, bv_40, ⟨ma_42, ka_42⟩, ⟨ma_43, ka_43⟩, ⟨ma_44, ka_44⟩, bv_45, ⟨ma_46, ka_46⟩, ⟨ma_47, ka_47⟩, ⟨ma_48, ka_48⟩, ⟨ma_49, ka_49⟩, ⟨ma_50, ka_50⟩, ⟨ma_51, ka_51⟩, ⟨ma_52, ka_52⟩, ⟨ma_53, ka_53⟩, ⟨ma_54, ka_54⟩, bv_55, ⟨ma_57, ka_57⟩⟩ := un_12 (hG _ mo0) ko0
  have bv_9 : ((-2147483648) ≤ v_9.toInt ∧ v_9.toInt ≤ 2147483647) := ⟨i32_lo _, i32_hi _⟩
  have bv_10 : ((-2147483648) ≤ v_10.toInt ∧ v_10.toInt ≤ 2147483647) := ⟨i32_lo _, i32_hi _⟩
  have bv_11 : ((-2147483648) ≤ v_11.toInt ∧ v_11.toInt ≤ 2147483647) := ⟨i32_lo _, i32_hi _⟩
  have bv_12 : ((-2147483648) ≤ v_12.toInt ∧ v_12.toInt ≤ 2147483647) := ⟨i32_lo _, i32_hi _⟩
  have bv_16 : ((-2147483648) ≤ v_16.toInt ∧ v_16.toInt ≤ 2147483647) := ⟨i32_lo _, i32_hi _⟩
  have bv_26 : ((-2147483648) ≤ v_26.toInt ∧ v_26.toInt ≤ 2147483647) := ⟨i32_lo _, i32_hi _⟩
  have bv_28 : ((-2147483648) ≤ v_28.toInt ∧ v_28.toInt ≤ 2147483647) := ⟨i32_lo _, i32_hi _⟩
  have bv_35 : ((-2147483648) ≤ v_35.toInt ∧ v_35.toInt ≤ 2147483647) := ⟨i32_lo _, i32_hi _⟩
  have bv_41 : ((-2147483648) ≤ v_41.toInt ∧ v_41.toInt ≤ 2147483647) := ⟨i32_lo _, i32_hi _⟩
  have bv_56 : ((-2147483648) ≤ v_56.toInt ∧ v_56.toInt ≤ 2147483647) := ⟨i32_lo _, i32_hi _⟩
  have hpo0 := hpreo0 v_31 (by rw [hfo_1]; rfl)
  have hT0 := hxtr0
  refine lv_iload_n hx hb dX12_lives_0 rfl (lv_at hl 1 rfl) ?_
  refine lv_iconst (v := 0) hx hb dX12_lives_1 (by decide) ?_
  refine lv_aload_n hx hb dX12_lives_2 rfl (lv_at hl 0 rfl) ?_
  refine tk_getP (D := (dC, dI)) (ci := 12) (v := .ref a_2) (C := RX12) (T := TX12) (N := 56) hx hb hU inlX12 hown hK hP mo0 hfo_1 rfl 0 (by decide) (hU _ wd_169) (fun _ h9 => h9) rfl dX12_lives_3 ?_
  refine lv_iconst (v := 0) hx hb dX12_lives_6 (by decide) ?_
  obtain ⟨g_59, hfo_58, hbg_59⟩ := un_575 (hG _ ma_2) ka_2
  refine tk_ildP hx hb hK hP 0 ma_2 hfo_58 rfl (vp_in_nI (n := 0) (by decide) (by decide)) dX12_lives_7 ?_
  refine lv_topi (fun x_60 ex_60 => ?_)
  have bx_60 : (0 ≤ x_60.toInt ∧ x_60.toInt ≤ 8) := by rw [ex_60]; exact hbg_59.1 _ (by decide) (by decide) (by decide)
  refine tk_SiP (As := [.int p1, .int 0, .int x_60]) (rest := []) (n := 3) hx hb hml hown hU hN hZ (s_X12_isIn l (dC, dI) cI cL cZ cR cG cH Z kd L f hG p1 0 x_60) wd_227 wd_228 wd_5 wd_229 (by decide +kernel) ⟨Nat.le_of_ble_eq_true rfl, Nat.le_of_ble_eq_true rfl⟩ hK hP hD hS rfl hl.1 rfl (Nat.le_of_ble_eq_true rfl) dX12_lives_8 ⟨Nat.le_of_ble_eq_true rfl, Nat.le_of_ble_eq_true rfl⟩ (fun x_61 f_62 H locs hw hP hD hS => ?_)
  obtain ⟨rfl, bx_61, relx_61⟩ := hw
  try rw [ti_0] at relx_61
  refine lv_if_eq (tgt := 49) hx hb dX12_lives_11 (by decide) (fun c_64 => ?_) (fun c_64 => ?_)
  · skip
    rw [← Int32.toInt_inj, ti_0] at c_64
    refine lv_iconst (v := (-1)) hx hb dX12_lives_49 (by decide) ?_
    exact W.iret (v := (-1)) hx hb hr (fun t ht hW => ⟨⟨(-1), f, rfl, ⟨hG, (by decide), hfr0, hrA12, hfA12, (by intro w29 z29 e29 d29; rw [hfo_1] at e29; rw [hfo_1] at d29; obtain rfl := Option.some.inj e29; obtain rfl := Option.some.inj d29; (try rw [ti_m1]) <;> omega), hT0⟩, by rw [ht]; exact hP, va_K.moved hW.alike hK, pl_in hD⟩, hS.F ht⟩) hS.2.2 dX12_lives_50
  · skip
    rw [← Int32.toInt_inj, ti_0] at c_64
    refine lv_iload_n hx hb dX12_lives_14 rfl (lv_at hl 2 rfl) ?_
    refine lv_iconst (v := 0) hx hb dX12_lives_15 (by decide) ?_
    refine lv_aload_n hx hb dX12_lives_16 rfl (lv_at hl 0 rfl) ?_
    refine tk_getP (D := (dC, dI)) (ci := 12) (v := .ref a_2) (C := RX12) (T := TX12) (N := 56) hx hb hU inlX12 hown hK hP mo0 hfo_1 rfl 0 (by decide) (hU _ wd_169) (fun _ h9 => h9) rfl dX12_lives_17 ?_
    refine lv_iconst (v := 0) hx hb dX12_lives_20 (by decide) ?_
    refine tk_ildP hx hb hK hP 0 ma_2 hfo_58 rfl (vp_in_nI (n := 0) (by decide) (by decide)) dX12_lives_21 ?_
    refine tk_topi (y := x_60) ex_60.symm ?_
    refine tk_SiP (As := [.int p2, .int 0, .int x_60]) (rest := []) (n := 3) hx hb hml hown hU hN hZ (s_X12_isIn l (dC, dI) cI cL cZ cR cG cH Z kd L f hG p2 0 x_60) wd_227 wd_228 wd_5 wd_229 (by decide +kernel) ⟨Nat.le_of_ble_eq_true rfl, Nat.le_of_ble_eq_true rfl⟩ hK hP hD hS rfl hl.1 rfl (Nat.le_of_ble_eq_true rfl) dX12_lives_22 ⟨Nat.le_of_ble_eq_true rfl, Nat.le_of_ble_eq_true rfl⟩ (fun x_65 f_66 H locs hw hP hD hS => ?_)
    obtain ⟨rfl, bx_65, relx_65⟩ := hw
    try rw [ti_0] at relx_65
    refine lv_if_eq (tgt := 49) hx hb dX12_lives_25 (by decide) (fun c_68 => ?_) (fun c_68 => ?_)
    · skip
      rw [← Int32.toInt_inj, ti_0] at c_68
      refine lv_iconst (v := (-1)) hx hb dX12_lives_49 (by decide) ?_
      exact W.iret (v := (-1)) hx hb hr (fun t ht hW => ⟨⟨(-1), f, rfl, ⟨hG, (by decide), hfr0, hrA12, hfA12, (by intro w29 z29 e29 d29; rw [hfo_1] at e29; rw [hfo_1] at d29; obtain rfl := Option.some.inj e29; obtain rfl := Option.some.inj d29; (try rw [ti_m1]) <;> omega), hT0⟩, by rw [ht]; exact hP, va_K.moved hW.alike hK, pl_in hD⟩, hS.F ht⟩) hS.2.2 dX12_lives_50
    · skip
      rw [← Int32.toInt_inj, ti_0] at c_68
      refine lv_aload_n hx hb dX12_lives_28 rfl (lv_at hl 0 rfl) ?_
      refine tk_getP (D := (dC, dI)) (ci := 12) (v := .ref a_2) (C := RX12) (T := TX12) (N := 56) hx hb hU inlX12 hown hK hP mo0 hfo_1 rfl 0 (by decide) (hU _ wd_169) (fun _ h9 => h9) rfl dX12_lives_29 ?_
      refine lv_iload_n hx hb dX12_lives_32 rfl (lv_at hl 1 rfl) ?_
      refine lv_iload_n hx hb dX12_lives_33 rfl (lv_at hl 2 rfl) ?_
      refine tk_SiP (As := [.ref a_2, .int p1, .int p2]) (rest := []) (n := 3) hx hb hml hown hU hN hZ (s_X12_hasPair_a575 l (dC, dI) cI cL cZ cR cG cH Z kd L f hG a_2 ma_2 ka_2 p1 (by constructor <;> omega) p2 (by constructor <;> omega)) wd_628 wd_629 wd_5 wd_630 (by decide +kernel) ⟨Nat.le_of_ble_eq_true rfl, Nat.le_of_ble_eq_true rfl⟩ hK hP hD hS rfl hl.1 rfl (Nat.le_of_ble_eq_true rfl) dX12_lives_34 ⟨Nat.le_of_ble_eq_true rfl, Nat.le_of_ble_eq_true rfl⟩ (fun x_69 f_70 H locs hw hP hD hS => ?_)
      obtain ⟨rfl, bx_69⟩ := hw
      refine lv_if_eq (tgt := 49) hx hb dX12_lives_37 (by decide) (fun c_72 => ?_) (fun c_72 => ?_)
      · skip
        rw [← Int32.toInt_inj, ti_0] at c_72
        refine lv_iconst (v := (-1)) hx hb dX12_lives_49 (by decide) ?_
        exact W.iret (v := (-1)) hx hb hr (fun t ht hW => ⟨⟨(-1), f, rfl, ⟨hG, (by decide), hfr0, hrA12, hfA12, (by intro w29 z29 e29 d29; rw [hfo_1] at e29; rw [hfo_1] at d29; obtain rfl := Option.some.inj e29; obtain rfl := Option.some.inj d29; (try rw [ti_m1]) <;> omega), hT0⟩, by rw [ht]; exact hP, va_K.moved hW.alike hK, pl_in hD⟩, hS.F ht⟩) hS.2.2 dX12_lives_50
      · skip
        rw [← Int32.toInt_inj, ti_0] at c_72
        refine lv_iload_n hx hb dX12_lives_40 rfl (lv_at hl 3 rfl) ?_
        refine lv_iconst (v := 1) hx hb dX12_lives_41 (by decide) ?_
        refine lv_iconst (v := 3) hx hb dX12_lives_42 (by decide) ?_
        refine tk_SiP (As := [.int p3, .int 1, .int 3]) (rest := []) (n := 3) hx hb hml hown hU hN hZ (s_X12_isIn l (dC, dI) cI cL cZ cR cG cH Z kd L f hG p3 1 3) wd_227 wd_228 wd_5 wd_229 (by decide +kernel) ⟨Nat.le_of_ble_eq_true rfl, Nat.le_of_ble_eq_true rfl⟩ hK hP hD hS rfl hl.1 rfl (Nat.le_of_ble_eq_true rfl) dX12_lives_43 ⟨Nat.le_of_ble_eq_true rfl, Nat.le_of_ble_eq_true rfl⟩ (fun x_73 f_74 H locs hw hP hD hS => ?_)
        obtain ⟨rfl, bx_73, relx_73⟩ := hw
        try rw [ti_1] at relx_73
        try rw [ti_3] at relx_73
        refine lv_if_ne (tgt := 51) hx hb dX12_lives_46 (by decide) (fun c_76 => ?_) (fun c_76 => ?_)
        · skip
          rw [← Int32.toInt_inj, ti_0] at c_76
          refine lv_aload_n hx hb dX12_lives_51 rfl (lv_at hl 0 rfl) ?_
          refine lv_iload_n hx hb dX12_lives_52 rfl (lv_at hl 3 rfl) ?_
          refine tk_ViP (As := [.int p3]) (rest := []) (n := 1) hx hb hml hown hU hN hZ (s_X12_wordsUpTo_k12 l (dC, dI) cI cL cZ cR cG cH Z kd L f hG o0 mo0 ko0 p3 (by constructor <;> omega)) wd_1169 wd_1170 wd_1171 wd_5 wd_1172 (by decide +kernel) ⟨Nat.le_of_ble_eq_true rfl, Nat.le_of_ble_eq_true rfl⟩ hK hP hD hS mo0 hfo_1 12 rfl rfl rfl hl.1 rfl (Nat.le_of_ble_eq_true rfl) dX12_lives_53 ⟨Nat.le_of_ble_eq_true rfl, Nat.le_of_ble_eq_true rfl⟩ (fun x_77 f_78 H locs hw hP hD hS => ?_)
          obtain ⟨rfl, bx_77, hxp_79⟩ := hw
          have hwu := hxp_79 a_2 g_59 (by rw [hfo_1]; rfl) hfo_58
          have hsq := lw_sq (L := (g_59 0).toInt) (hbg_59.1 0 (by decide) (by decide) (by decide))
          refine lv_istore (lv' := [(4, .int x_77), (0, .ref o0), (1, .int p1), (2, .int p2), (3, .int p3)]) hx hb dX12_lives_56 hl (by decide) rfl (fun ls hl => ?_)
          refine lv_iconst (v := 0) hx hb dX12_lives_58 (by decide) ?_
          refine lv_istore (lv' := [(5, .int 0), (4, .int x_77), (0, .ref o0), (1, .int p1), (2, .int p2), (3, .int p3)]) hx hb dX12_lives_59 hl (by decide) rfl (fun ls hl => ?_)
          have hloop_87 : ∀ (n : Nat), ∀ (y_88 : Int32), (0 ≤ y_88.toInt ∧ y_88.toInt ≤ 584) → ∀ (f_90 : Nat → va_E), GI (okc cI cL cZ cR cG cH L kd) kd L f_90 → ∀ (H : Heap) (locs : List Loc), va_P (dC, dI) vwCl (va_pl L f_90) H → va_S (fun q => q ∈ L) s.heap H locs → va_D (fun q => q ∈ L) (va_pl L f_90) → (∀ b, kd b ≠ 12 → kd b ≠ 579 → kd b ≠ 581 → kd b ≠ 583 → kd b ≠ 585 → kd b ≠ 587 → kd b ≠ 588 → kd b ≠ 589 → kd b ≠ 590 → kd b ≠ 591 → kd b ≠ 592 → kd b ≠ 593 → kd b ≠ 603 → f_90 b = f b) → (∀ b, kd b = 12 → ∀ j, fldR (f_90 b) j = fldR (f b) j) → (∀ b, kd b = 12 → ∀ j, j ≠ 23 → j ≠ 25 → j ≠ 26 → j ≠ 27 → j ≠ 29 → j ≠ 32 → fldI (f_90 b) j = fldI (f b) j) → (f_90 a_2 = .inl (cI, 1560, .inl g_59)) → srel kd 592 f_90 o0 → ∀ (whloop_87_0_29 : Int32), fldI (f_90 o0) 29 = some whloop_87_0_29 → (whloop_87_0_29.toInt = v_31.toInt) → (0 ≤ whloop_87_0_29.toInt ∧ whloop_87_0_29.toInt ≤ 201) → 584 - y_88.toInt < (n : Int) → ∀ (ls : Array Slot), lv_has ls 6 [(5, .int y_88), (4, .int x_77), (0, .ref o0), (1, .int p1), (2, .int p2), (3, .int p3)] → W p l e (headSpec (wU yX12_lives cX12_lives 6 (some .int)) { frames := 23, cells := 0, slots := 0, locals := 655 }).room s m [.ref o0, .int p1, .int p2, .int p3].toArray below meth c H locs 0 0 (MQ below (va_Qi (fun (r : Int32) (f9 : Nat → va_E) => GI (okc cI cL cZ cR cG cH L kd) kd L f9 ∧ ((-2147483648) ≤ r.toInt ∧ r.toInt ≤ 2147483647) ∧ (∀ b, kd b ≠ 12 → kd b ≠ 579 → kd b ≠ 581 → kd b ≠ 583 → kd b ≠ 585 → kd b ≠ 587 → kd b ≠ 588 → kd b ≠ 589 → kd b ≠ 590 → kd b ≠ 591 → kd b ≠ 592 → kd b ≠ 593 → kd b ≠ 603 → f9 b = f b) ∧ (∀ b, kd b = 12 → ∀ j, fldR (f9 b) j = fldR (f b) j) ∧ (∀ b, kd b = 12 → ∀ j, j ≠ 23 → j ≠ 25 → j ≠ 26 → j ≠ 27 → j ≠ 29 → j ≠ 32 → fldI (f9 b) j = fldI (f b) j) ∧ (∀ (w29 z29 : Int32), fldI (f o0) 29 = some w29 → fldI (f9 o0) 29 = some z29 → z29.toInt = w29.toInt) ∧ (srel kd 592 f9 o0)) (qP (dC, dI) cI cL cZ cR cG cH L) (fun q => q ∈ L)) [.ref o0, .int p1, .int p2, .int p3].toArray s 0 0 (fun q => q ∈ L)) (F0 m 61 ls []) := by
            intro n
            induction n with
            | zero => intro y_88 by_88 f_90 hG H locs hP hS hD hfr0 hrA12 hfA12 hfo_91 hT0 whloop_87_0_29 hghloop_87_0_29 hrelhloop_87_0 hrelhloop_87_1 hmuhloop_87 ls hl; exfalso; omega
            | succ n ih_hloop_87 =>
              intro y_88 by_88 f_90 hG H locs hP hS hD hfr0 hrA12 hfA12 hfo_91 hT0 whloop_87_0_29 hghloop_87_0_29 hrelhloop_87_0 hrelhloop_87_1 hmuhloop_87 ls hl
              obtain ⟨a_93, a_94, a_95, v_96, a_97, v_98, v_99, v_100, v_101, v_102, v_103, v_104, v_105, v_106, v_107, a_108, a_109, a_110, a_111, a_112, a_113, a_114, a_115, v_116, v_117, v_118, v_119, v_120, a_121, v_122, a_123, a_124, v_125, v_126, a_127, v_128, a_129, a_130, v_131, v_132, a_133, a_134, a_135, v_136, a_137, a_138, a_139, a_140, a_141, a_142, a_143, a_144, a_145, v_146, v_147, a_148, hfo_92, ⟨ma_93, ka_93⟩, ⟨ma_94, ka_94⟩, ⟨ma_95, ka_95⟩, bv_96, ⟨ma_97, ka_97⟩, bv_98, bv_99, bv_104, bv_105, bv_106, ⟨ma_108, ka_108⟩, ⟨ma_109, ka_109⟩, ⟨ma_110, ka_110⟩, ⟨ma_111, ka_111⟩, ⟨ma_112, ka_112⟩, ⟨ma_113, ka_113⟩, ⟨ma_114, ka_114⟩, ⟨ma_115, ka_115⟩, bv_116, bv_118, bv_120, ⟨ma_121, ka_121⟩, bv_122, ⟨ma_123, ka_123⟩, ⟨ma_124, ka_124⟩, bv_125, ⟨ma_127, ka_127⟩, bv_128, ⟨ma_129, ka_129⟩, ⟨ma_130, ka_130⟩, bv_131, ⟨ma_133, ka_133⟩, ⟨ma_134, ka_134⟩, ⟨ma_135, ka_135⟩, bv_136, ⟨ma_137, ka_137⟩, ⟨ma_138, ka_138⟩, ⟨ma_139, ka_139⟩, ⟨ma_140, ka_140⟩, ⟨ma_141, ka_141⟩, ⟨ma_142, ka_142⟩, ⟨ma_143, ka_143⟩, ⟨ma_144, ka_144⟩, ⟨ma_145, ka_145⟩, bv_146, ⟨ma_148, ka_148⟩⟩ := un_12 (hG _ mo0) ko0
              have bv_100 : ((-2147483648) ≤ v_100.toInt ∧ v_100.toInt ≤ 2147483647) := ⟨i32_lo _, i32_hi _⟩
              have bv_101 : ((-2147483648) ≤ v_101.toInt ∧ v_101.toInt ≤ 2147483647) := ⟨i32_lo _, i32_hi _⟩
              have bv_102 : ((-2147483648) ≤ v_102.toInt ∧ v_102.toInt ≤ 2147483647) := ⟨i32_lo _, i32_hi _⟩
              have bv_103 : ((-2147483648) ≤ v_103.toInt ∧ v_103.toInt ≤ 2147483647) := ⟨i32_lo _, i32_hi _⟩
              have bv_107 : ((-2147483648) ≤ v_107.toInt ∧ v_107.toInt ≤ 2147483647) := ⟨i32_lo _, i32_hi _⟩
              have bv_117 : ((-2147483648) ≤ v_117.toInt ∧ v_117.toInt ≤ 2147483647) := ⟨i32_lo _, i32_hi _⟩
              have bv_119 : ((-2147483648) ≤ v_119.toInt ∧ v_119.toInt ≤ 2147483647) := ⟨i32_lo _, i32_hi _⟩
              have bv_126 : ((-2147483648) ≤ v_126.toInt ∧ v_126.toInt ≤ 2147483647) := ⟨i32_lo _, i32_hi _⟩
              have bv_132 : ((-2147483648) ≤ v_132.toInt ∧ v_132.toInt ≤ 2147483647) := ⟨i32_lo _, i32_hi _⟩
              have bv_147 : ((-2147483648) ≤ v_147.toInt ∧ v_147.toInt ≤ 2147483647) := ⟨i32_lo _, i32_hi _⟩
              obtain ⟨rfl, rfl, rfl, rfl, rfl, rfl, rfl, rfl, rfl, rfl, rfl, rfl, rfl, rfl, rfl, rfl, rfl, rfl, rfl, rfl, rfl, rfl, rfl, rfl, rfl, rfl, rfl, rfl, rfl, rfl, rfl⟩ := re_12 hfo_1 hfo_92 (hrA12 o0 ko0)
              obtain rfl := ri_12_3 hfo_1 hfo_92 (hfA12 o0 ko0 3 (by decide) (by decide) (by decide) (by decide) (by decide) (by decide))
              obtain rfl := ri_12_5 hfo_1 hfo_92 (hfA12 o0 ko0 5 (by decide) (by decide) (by decide) (by decide) (by decide) (by decide))
              obtain rfl := ri_12_6 hfo_1 hfo_92 (hfA12 o0 ko0 6 (by decide) (by decide) (by decide) (by decide) (by decide) (by decide))
              obtain rfl := ri_12_11 hfo_1 hfo_92 (hfA12 o0 ko0 11 (by decide) (by decide) (by decide) (by decide) (by decide) (by decide))
              obtain rfl := ri_12_12 hfo_1 hfo_92 (hfA12 o0 ko0 12 (by decide) (by decide) (by decide) (by decide) (by decide) (by decide))
              obtain rfl := ri_12_13 hfo_1 hfo_92 (hfA12 o0 ko0 13 (by decide) (by decide) (by decide) (by decide) (by decide) (by decide))
              obtain rfl := ri_12_14 hfo_1 hfo_92 (hfA12 o0 ko0 14 (by decide) (by decide) (by decide) (by decide) (by decide) (by decide))
              obtain rfl := ri_12_33 hfo_1 hfo_92 (hfA12 o0 ko0 33 (by decide) (by decide) (by decide) (by decide) (by decide) (by decide))
              obtain rfl := ri_12_35 hfo_1 hfo_92 (hfA12 o0 ko0 35 (by decide) (by decide) (by decide) (by decide) (by decide) (by decide))
              obtain rfl := ri_12_38 hfo_1 hfo_92 (hfA12 o0 ko0 38 (by decide) (by decide) (by decide) (by decide) (by decide) (by decide))
              obtain rfl := ri_12_43 hfo_1 hfo_92 (hfA12 o0 ko0 43 (by decide) (by decide) (by decide) (by decide) (by decide) (by decide))
              obtain rfl := ri_12_53 hfo_1 hfo_92 (hfA12 o0 ko0 53 (by decide) (by decide) (by decide) (by decide) (by decide) (by decide))
              obtain rfl : v_122 = whloop_87_0_29 := by rw [hfo_92] at hghloop_87_0_29; exact Option.some.inj hghloop_87_0_29
              refine lv_iload hx hb dX12_lives_61 (lv_at hl 0 rfl) ?_
              refine lv_iload hx hb dX12_lives_63 (lv_at hl 1 rfl) ?_
              refine lv_icmp_ge (tgt := 125) hx hb dX12_lives_65 (by decide) (fun c_149 => ?_) (fun c_149 => ?_)
              · skip
                rw [Int32.le_iff_toInt_le] at c_149
                refine lv_iconst (v := 0) hx hb dX12_lives_125 (by decide) ?_
                exact W.iret (v := 0) hx hb hr (fun t ht hW => ⟨⟨0, f_90, rfl, ⟨hG, (by decide), hfr0, hrA12, hfA12, (by intro w29 z29 e29 d29; rw [hfo_1] at e29; rw [hfo_92] at d29; obtain rfl := Option.some.inj e29; obtain rfl := Option.some.inj d29; (try rw [ti_0]) <;> omega), hT0⟩, by rw [ht]; exact hP, va_K.moved hW.alike hK, pl_in hD⟩, hS.F ht⟩) hS.2.2 dX12_lives_126
              · skip
                rw [Int32.le_iff_toInt_le] at c_149
                refine lv_aload_n hx hb dX12_lives_68 rfl (lv_at hl 2 rfl) ?_
                refine lv_iload hx hb dX12_lives_69 (lv_at hl 0 rfl) ?_
                refine tk_VvP (As := [.int y_88]) (rest := []) (n := 1) hx hb hml hown hU hN hZ (s_X12_laysWord_k12 l (dC, dI) cI cL cZ cR cG cH Z kd L f_90 hG o0 mo0 ko0 y_88 (by constructor <;> omega) (fun b9 g9 h1 h2 => by rw [hfo_92] at h1; obtain rfl := Option.some.inj h1; rw [hfo_91] at h2; cases h2; omega)) wd_1173 wd_1174 wd_1175 wd_5 wd_1176 (by decide +kernel) ⟨Nat.le_of_ble_eq_true rfl, Nat.le_of_ble_eq_true rfl⟩ hK hP hD hS mo0 hfo_92 12 rfl rfl rfl hl.1 rfl (Nat.le_of_ble_eq_true rfl) dX12_lives_71 ⟨Nat.le_of_ble_eq_true rfl, Nat.le_of_ble_eq_true rfl⟩ (fun f_151 H locs hw hP hD hS => ?_)
                obtain ⟨hG, hkc_152, hra_153, hfa_154, hpost_155, hxp_156⟩ := hw
                have hfo_158 : f_151 a_2 = .inl (cI, 1560, .inl g_59) := by rw [hkc_152 a_2 (by rw [ka_2]; decide) (by rw [ka_2]; decide)]; exact hfo_91
                have hfr0 : ∀ b, kd b ≠ 12 → kd b ≠ 579 → kd b ≠ 581 → kd b ≠ 583 → kd b ≠ 585 → kd b ≠ 587 → kd b ≠ 588 → kd b ≠ 589 → kd b ≠ 590 → kd b ≠ 591 → kd b ≠ 592 → kd b ≠ 593 → kd b ≠ 603 → f_151 b = f b := fun b q12 q579 q581 q583 q585 q587 q588 q589 q590 q591 q592 q593 q603 => (hkc_152 b q12 q589).trans (hfr0 b q12 q579 q581 q583 q585 q587 q588 q589 q590 q591 q592 q593 q603)
                have hrA12 : ∀ b, kd b = 12 → ∀ j, fldR (f_151 b) j = fldR (f b) j := fun b kb j => (hra_153 b kb j).trans (hrA12 b kb j)
                have hfA12 : ∀ b, kd b = 12 → ∀ j, j ≠ 23 → j ≠ 25 → j ≠ 26 → j ≠ 27 → j ≠ 29 → j ≠ 32 → fldI (f_151 b) j = fldI (f b) j := fun b kb j n23 n25 n26 n27 n29 n32 => (hfa_154 b kb j n23).trans (hfA12 b kb j n23 n25 n26 n27 n29 n32)
                have hT0 : srel kd 592 f_151 o0 := hT0.keep (fun b q => hra_153 b q 30) (fun b q => hfa_154 b q 32 (by decide)) (fun b q => hfa_154 b q 33 (by decide)) (fun b q => hkc_152 b (by rw [q]; decide) (by rw [q]; decide))
                obtain ⟨a_160, a_161, a_162, v_163, a_164, v_165, v_166, v_167, v_168, v_169, v_170, v_171, v_172, v_173, v_174, a_175, a_176, a_177, a_178, a_179, a_180, a_181, a_182, v_183, v_184, v_185, v_186, v_187, a_188, v_189, a_190, a_191, v_192, v_193, a_194, v_195, a_196, a_197, v_198, v_199, a_200, a_201, a_202, v_203, a_204, a_205, a_206, a_207, a_208, a_209, a_210, a_211, a_212, v_213, v_214, a_215, hfo_159, ⟨ma_160, ka_160⟩, ⟨ma_161, ka_161⟩, ⟨ma_162, ka_162⟩, bv_163, ⟨ma_164, ka_164⟩, bv_165, bv_166, bv_171, bv_172, bv_173, ⟨ma_175, ka_175⟩, ⟨ma_176, ka_176⟩, ⟨ma_177, ka_177⟩, ⟨ma_178, ka_178⟩, ⟨ma_179, ka_179⟩, ⟨ma_180, ka_180⟩, ⟨ma_181, ka_181⟩, ⟨ma_182, ka_182⟩, bv_183, bv_185, bv_187, ⟨ma_188, ka_188⟩, bv_189, ⟨ma_190, ka_190⟩, ⟨ma_191, ka_191⟩, bv_192, ⟨ma_194, ka_194⟩, bv_195, ⟨ma_196, ka_196⟩, ⟨ma_197, ka_197⟩, bv_198, ⟨ma_200, ka_200⟩, ⟨ma_201, ka_201⟩, ⟨ma_202, ka_202⟩, bv_203, ⟨ma_204, ka_204⟩, ⟨ma_205, ka_205⟩, ⟨ma_206, ka_206⟩, ⟨ma_207, ka_207⟩, ⟨ma_208, ka_208⟩, ⟨ma_209, ka_209⟩, ⟨ma_210, ka_210⟩, ⟨ma_211, ka_211⟩, ⟨ma_212, ka_212⟩, bv_213, ⟨ma_215, ka_215⟩⟩ := un_12 (hG _ mo0) ko0
                have bv_167 : ((-2147483648) ≤ v_167.toInt ∧ v_167.toInt ≤ 2147483647) := ⟨i32_lo _, i32_hi _⟩
                have bv_168 : ((-2147483648) ≤ v_168.toInt ∧ v_168.toInt ≤ 2147483647) := ⟨i32_lo _, i32_hi _⟩
                have bv_169 : ((-2147483648) ≤ v_169.toInt ∧ v_169.toInt ≤ 2147483647) := ⟨i32_lo _, i32_hi _⟩
                have bv_170 : ((-2147483648) ≤ v_170.toInt ∧ v_170.toInt ≤ 2147483647) := ⟨i32_lo _, i32_hi _⟩
                have bv_174 : ((-2147483648) ≤ v_174.toInt ∧ v_174.toInt ≤ 2147483647) := ⟨i32_lo _, i32_hi _⟩
                have bv_184 : ((-2147483648) ≤ v_184.toInt ∧ v_184.toInt ≤ 2147483647) := ⟨i32_lo _, i32_hi _⟩
                have bv_186 : ((-2147483648) ≤ v_186.toInt ∧ v_186.toInt ≤ 2147483647) := ⟨i32_lo _, i32_hi _⟩
                have bv_193 : ((-2147483648) ≤ v_193.toInt ∧ v_193.toInt ≤ 2147483647) := ⟨i32_lo _, i32_hi _⟩
                have bv_199 : ((-2147483648) ≤ v_199.toInt ∧ v_199.toInt ≤ 2147483647) := ⟨i32_lo _, i32_hi _⟩
                have bv_214 : ((-2147483648) ≤ v_214.toInt ∧ v_214.toInt ≤ 2147483647) := ⟨i32_lo _, i32_hi _⟩
                obtain ⟨rfl, rfl, rfl, rfl, rfl, rfl, rfl, rfl, rfl, rfl, rfl, rfl, rfl, rfl, rfl, rfl, rfl, rfl, rfl, rfl, rfl, rfl, rfl, rfl, rfl, rfl, rfl, rfl, rfl, rfl, rfl⟩ := re_12 hfo_1 hfo_159 (hrA12 o0 ko0)
                obtain rfl := ri_12_3 hfo_1 hfo_159 (hfA12 o0 ko0 3 (by decide) (by decide) (by decide) (by decide) (by decide) (by decide))
                obtain rfl := ri_12_5 hfo_1 hfo_159 (hfA12 o0 ko0 5 (by decide) (by decide) (by decide) (by decide) (by decide) (by decide))
                obtain rfl := ri_12_6 hfo_1 hfo_159 (hfA12 o0 ko0 6 (by decide) (by decide) (by decide) (by decide) (by decide) (by decide))
                obtain rfl := ri_12_11 hfo_1 hfo_159 (hfA12 o0 ko0 11 (by decide) (by decide) (by decide) (by decide) (by decide) (by decide))
                obtain rfl := ri_12_12 hfo_1 hfo_159 (hfA12 o0 ko0 12 (by decide) (by decide) (by decide) (by decide) (by decide) (by decide))
                obtain rfl := ri_12_13 hfo_1 hfo_159 (hfA12 o0 ko0 13 (by decide) (by decide) (by decide) (by decide) (by decide) (by decide))
                obtain rfl := ri_12_14 hfo_1 hfo_159 (hfA12 o0 ko0 14 (by decide) (by decide) (by decide) (by decide) (by decide) (by decide))
                obtain rfl := ri_12_33 hfo_1 hfo_159 (hfA12 o0 ko0 33 (by decide) (by decide) (by decide) (by decide) (by decide) (by decide))
                obtain rfl := ri_12_35 hfo_1 hfo_159 (hfA12 o0 ko0 35 (by decide) (by decide) (by decide) (by decide) (by decide) (by decide))
                obtain rfl := ri_12_38 hfo_1 hfo_159 (hfA12 o0 ko0 38 (by decide) (by decide) (by decide) (by decide) (by decide) (by decide))
                obtain rfl := ri_12_43 hfo_1 hfo_159 (hfA12 o0 ko0 43 (by decide) (by decide) (by decide) (by decide) (by decide) (by decide))
                obtain rfl := ri_12_53 hfo_1 hfo_159 (hfA12 o0 ko0 53 (by decide) (by decide) (by decide) (by decide) (by decide) (by decide))
                obtain rfl := ri_12_25 hfo_92 hfo_159 (hfa_154 o0 ko0 25 (by decide))
                obtain rfl := ri_12_27 hfo_92 hfo_159 (hfa_154 o0 ko0 27 (by decide))
                obtain rfl := ri_12_29 hfo_92 hfo_159 (hfa_154 o0 ko0 29 (by decide))
                obtain rfl := ri_12_32 hfo_92 hfo_159 (hfa_154 o0 ko0 32 (by decide))
                have hqhpost_155 := hpost_155 v_116 v_183 (by rw [hfo_92]; rfl) (by rw [hfo_159]; rfl)
                have hlw2 := hxp_156 a_2 g_59 v_183 (by rw [hfo_92]; rfl) hfo_91 (by rw [hfo_159]; rfl)
                refine lv_aload_n hx hb dX12_lives_74 rfl (lv_at hl 2 rfl) ?_
                refine lv_bipush (v := 9) hx hb dX12_lives_75 (by decide) ?_
                refine lv_iload_n hx hb dX12_lives_77 rfl (lv_at hl 3 rfl) ?_
                refine lv_imul hx hb dX12_lives_78 ?_
                refine lv_topi (fun x_216 ex_216 => ?_)
                have hx_216 : x_216.toInt = 9 * p1.toInt := by rw [ex_216, ml_I (by rw [ti_9]; omega) (by rw [ti_9]; omega), ti_9]
                have bx_216 : (0 ≤ x_216.toInt ∧ x_216.toInt ≤ 72) := by constructor <;> omega
                refine lv_iload_n hx hb dX12_lives_79 rfl (lv_at hl 4 rfl) ?_
                refine lv_iadd hx hb dX12_lives_80 ?_
                refine lv_topi (fun x_217 ex_217 => ?_)
                have hx_217 : x_217.toInt = x_216.toInt + p2.toInt := by rw [ex_217, ad_I (by omega) (by omega)]
                have bx_217 : (0 ≤ x_217.toInt ∧ x_217.toInt ≤ 80) := by constructor <;> omega
                refine tk_putP (D := (dC, dI)) (ci := 12) (v := .int x_217) (ty := .int) (C := RX12) (T := TX12) (N := 56) hx hb hU inlX12 tyX12 tyX12_ok nmX12 hown hK hP hD hS mo0 hfo_159 rfl 26 (by decide) (hU _ wd_906) (fun _ h9 => h9) rfl (by decide +kernel) rfl rfl (Nat.le_of_ble_eq_true rfl) dX12_lives_81 (fun H locs hP hD hS => ?_)
                obtain ⟨f_219, ef_219⟩ : ∃ y : Nat → va_E, y = va_up f_151 o0 (.inr (12, [.ref a_2, .ref a_3, .ref a_4, .int v_5, .ref a_6, .int v_7, .int v_8, .int v_167, .int v_168, .int v_169, .int v_170, .int v_13, .int v_14, .int v_15, .int v_16, .ref a_17, .ref a_18, .ref a_19, .ref a_20, .ref a_21, .ref a_22, .ref a_23, .ref a_24, .int v_183, .int v_184, .int v_118, .int x_217, .int v_120, .ref a_30, .int v_122, .ref a_32, .ref a_33, .int v_125, .int v_35, .ref a_36, .int v_37, .ref a_38, .ref a_39, .int v_40, .int v_199, .ref a_42, .ref a_43, .ref a_44, .int v_45, .ref a_46, .ref a_47, .ref a_48, .ref a_49, .ref a_50, .ref a_51, .ref a_52, .ref a_53, .ref a_54, .int v_55, .int v_214, .ref a_57])) := ⟨_, rfl⟩
                have hP : va_P (dC, dI) vwCl (va_pl L f_219) H := by rw [ef_219]; exact hP
                have hD : va_D (fun q => q ∈ L) (va_pl L f_219) := by rw [ef_219]; exact hD
                have hG : GI (okc cI cL cZ cR cG cH L kd) kd L f_219 := by rw [ef_219]; exact hG.set o0 (mk_12 ko0 ⟨a_2, a_3, a_4, v_5, a_6, v_7, v_8, v_167, v_168, v_169, v_170, v_13, v_14, v_15, v_16, a_17, a_18, a_19, a_20, a_21, a_22, a_23, a_24, v_183, v_184, v_118, x_217, v_120, a_30, v_122, a_32, a_33, v_125, v_35, a_36, v_37, a_38, a_39, v_40, v_199, a_42, a_43, a_44, v_45, a_46, a_47, a_48, a_49, a_50, a_51, a_52, a_53, a_54, v_55, v_214, a_57, rfl, ⟨ma_2, ka_2⟩, ⟨ma_3, ka_3⟩, ⟨ma_4, ka_4⟩, (by constructor <;> omega), ⟨ma_6, ka_6⟩, (by constructor <;> omega), (by constructor <;> omega), (by constructor <;> omega), (by constructor <;> omega), (by constructor <;> omega), ⟨ma_17, ka_17⟩, ⟨ma_18, ka_18⟩, ⟨ma_19, ka_19⟩, ⟨ma_20, ka_20⟩, ⟨ma_21, ka_21⟩, ⟨ma_22, ka_22⟩, ⟨ma_23, ka_23⟩, ⟨ma_24, ka_24⟩, (by constructor <;> omega), (by constructor <;> omega), (by constructor <;> omega), ⟨ma_30, ka_30⟩, (by constructor <;> omega), ⟨ma_32, ka_32⟩, ⟨ma_33, ka_33⟩, (by constructor <;> omega), ⟨ma_36, ka_36⟩, (by constructor <;> omega), ⟨ma_38, ka_38⟩, ⟨ma_39, ka_39⟩, (by constructor <;> omega), ⟨ma_42, ka_42⟩, ⟨ma_43, ka_43⟩, ⟨ma_44, ka_44⟩, (by constructor <;> omega), ⟨ma_46, ka_46⟩, ⟨ma_47, ka_47⟩, ⟨ma_48, ka_48⟩, ⟨ma_49, ka_49⟩, ⟨ma_50, ka_50⟩, ⟨ma_51, ka_51⟩, ⟨ma_52, ka_52⟩, ⟨ma_53, ka_53⟩, ⟨ma_54, ka_54⟩, (by constructor <;> omega), ⟨ma_57, ka_57⟩⟩)
                have hfo_220 : f_219 a_2 = .inl (cI, 1560, .inl g_59) := by rw [ef_219, up_ne (kd_ne ko0 ka_2 (by decide))]; exact hfo_158
                have hfr0 : ∀ b, kd b ≠ 12 → kd b ≠ 579 → kd b ≠ 581 → kd b ≠ 583 → kd b ≠ 585 → kd b ≠ 587 → kd b ≠ 588 → kd b ≠ 589 → kd b ≠ 590 → kd b ≠ 591 → kd b ≠ 592 → kd b ≠ 593 → kd b ≠ 603 → f_219 b = f b := fun b q12 q579 q581 q583 q585 q587 q588 q589 q590 q591 q592 q593 q603 => (congrFun ef_219 b).trans ((up_ne (fun e9 => q12 (by rw [e9]; exact ko0))).trans (hfr0 b q12 q579 q581 q583 q585 q587 q588 q589 q590 q591 q592 q593 q603))
                have hrA12 : ∀ b, kd b = 12 → ∀ j, fldR (f_219 b) j = fldR (f b) j := fun b kb j => ((congrArg (fun x => fldR x j) (congrFun ef_219 b)).trans (fra_up (fun j => by rw [hfo_159]; exact fr_set (k := 26) rfl rfl j) j b)).trans (hrA12 b kb j)
                have hfA12 : ∀ b, kd b = 12 → ∀ j, j ≠ 23 → j ≠ 25 → j ≠ 26 → j ≠ 27 → j ≠ 29 → j ≠ 32 → fldI (f_219 b) j = fldI (f b) j := fun b kb j n23 n25 n26 n27 n29 n32 => ((congrArg (fun x => fldI x j) (congrFun ef_219 b)).trans (fia_up (fun h9 => by rw [hfo_159]; exact fi_set (k := 26) rfl h9) n26 b)).trans (hfA12 b kb j n23 n25 n26 n27 n29 n32)
                have hT0 : srel kd 592 f_219 o0 := by rw [ef_219]; exact hT0.keep (fun b _ => fr_up (by rw [hfo_159]; rfl) b) (fun b _ => fk_up (by rw [hfo_159]; rfl) b) (fun b _ => fk_up (by rw [hfo_159]; rfl) b) (fun b q => up_ne (kd_ne ko0 q (by decide)))
                have hfo_221 : f_219 o0 = .inr (12, [.ref a_2, .ref a_3, .ref a_4, .int v_5, .ref a_6, .int v_7, .int v_8, .int v_167, .int v_168, .int v_169, .int v_170, .int v_13, .int v_14, .int v_15, .int v_16, .ref a_17, .ref a_18, .ref a_19, .ref a_20, .ref a_21, .ref a_22, .ref a_23, .ref a_24, .int v_183, .int v_184, .int v_118, .int x_217, .int v_120, .ref a_30, .int v_122, .ref a_32, .ref a_33, .int v_125, .int v_35, .ref a_36, .int v_37, .ref a_38, .ref a_39, .int v_40, .int v_199, .ref a_42, .ref a_43, .ref a_44, .int v_45, .ref a_46, .ref a_47, .ref a_48, .ref a_49, .ref a_50, .ref a_51, .ref a_52, .ref a_53, .ref a_54, .int v_55, .int v_214, .ref a_57]) := by rw [ef_219]; exact up_self
                refine lv_aload_n hx hb dX12_lives_84 rfl (lv_at hl 2 rfl) ?_
                refine lv_iconst (v := 3) hx hb dX12_lives_85 (by decide) ?_
                refine tk_VvP (As := [.int 3]) (rest := []) (n := 1) hx hb hml hown hU hN hZ (s_X12_sets_k12 l (dC, dI) cI cL cZ cR cG cH Z kd L f_219 hG o0 mo0 ko0 3 (by decide)) wd_868 wd_869 wd_870 wd_5 wd_871 (by decide +kernel) ⟨Nat.le_of_ble_eq_true rfl, Nat.le_of_ble_eq_true rfl⟩ hK hP hD hS mo0 hfo_221 12 rfl rfl rfl hl.1 rfl (Nat.le_of_ble_eq_true rfl) dX12_lives_86 ⟨Nat.le_of_ble_eq_true rfl, Nat.le_of_ble_eq_true rfl⟩ (fun f_223 H locs hw hP hD hS => ?_)
                obtain ⟨hG, hkc_224, hra_225, hfa_226, hpost_227⟩ := hw
                have hfo_229 : f_223 a_2 = .inl (cI, 1560, .inl g_59) := by rw [hkc_224 a_2 (by rw [ka_2]; decide) (by rw [ka_2]; decide) (by rw [ka_2]; decide) (by rw [ka_2]; decide)]; exact hfo_220
                have hfr0 : ∀ b, kd b ≠ 12 → kd b ≠ 579 → kd b ≠ 581 → kd b ≠ 583 → kd b ≠ 585 → kd b ≠ 587 → kd b ≠ 588 → kd b ≠ 589 → kd b ≠ 590 → kd b ≠ 591 → kd b ≠ 592 → kd b ≠ 593 → kd b ≠ 603 → f_223 b = f b := fun b q12 q579 q581 q583 q585 q587 q588 q589 q590 q591 q592 q593 q603 => (hkc_224 b q12 q579 q581 q587).trans (hfr0 b q12 q579 q581 q583 q585 q587 q588 q589 q590 q591 q592 q593 q603)
                have hrA12 : ∀ b, kd b = 12 → ∀ j, fldR (f_223 b) j = fldR (f b) j := fun b kb j => (hra_225 b kb j).trans (hrA12 b kb j)
                have hfA12 : ∀ b, kd b = 12 → ∀ j, j ≠ 23 → j ≠ 25 → j ≠ 26 → j ≠ 27 → j ≠ 29 → j ≠ 32 → fldI (f_223 b) j = fldI (f b) j := fun b kb j n23 n25 n26 n27 n29 n32 => (hfa_226 b kb j n25 n27).trans (hfA12 b kb j n23 n25 n26 n27 n29 n32)
                have hT0 : srel kd 592 f_223 o0 := hT0.keep (fun b q => hra_225 b q 30) (fun b q => hfa_226 b q 32 (by decide) (by decide)) (fun b q => hfa_226 b q 33 (by decide) (by decide)) (fun b q => hkc_224 b (by rw [q]; decide) (by rw [q]; decide) (by rw [q]; decide) (by rw [q]; decide))
                obtain ⟨a_231, a_232, a_233, v_234, a_235, v_236, v_237, v_238, v_239, v_240, v_241, v_242, v_243, v_244, v_245, a_246, a_247, a_248, a_249, a_250, a_251, a_252, a_253, v_254, v_255, v_256, v_257, v_258, a_259, v_260, a_261, a_262, v_263, v_264, a_265, v_266, a_267, a_268, v_269, v_270, a_271, a_272, a_273, v_274, a_275, a_276, a_277, a_278, a_279, a_280, a_281, a_282, a_283, v_284, v_285, a_286, hfo_230, ⟨ma_231, ka_231⟩, ⟨ma_232, ka_232⟩, ⟨ma_233, ka_233⟩, bv_234, ⟨ma_235, ka_235⟩, bv_236, bv_237, bv_242, bv_243, bv_244, ⟨ma_246, ka_246⟩, ⟨ma_247, ka_247⟩, ⟨ma_248, ka_248⟩, ⟨ma_249, ka_249⟩, ⟨ma_250, ka_250⟩, ⟨ma_251, ka_251⟩, ⟨ma_252, ka_252⟩, ⟨ma_253, ka_253⟩, bv_254, bv_256, bv_258, ⟨ma_259, ka_259⟩, bv_260, ⟨ma_261, ka_261⟩, ⟨ma_262, ka_262⟩, bv_263, ⟨ma_265, ka_265⟩, bv_266, ⟨ma_267, ka_267⟩, ⟨ma_268, ka_268⟩, bv_269, ⟨ma_271, ka_271⟩, ⟨ma_272, ka_272⟩, ⟨ma_273, ka_273⟩, bv_274, ⟨ma_275, ka_275⟩, ⟨ma_276, ka_276⟩, ⟨ma_277, ka_277⟩, ⟨ma_278, ka_278⟩, ⟨ma_279, ka_279⟩, ⟨ma_280, ka_280⟩, ⟨ma_281, ka_281⟩, ⟨ma_282, ka_282⟩, ⟨ma_283, ka_283⟩, bv_284, ⟨ma_286, ka_286⟩⟩ := un_12 (hG _ mo0) ko0
                have bv_238 : ((-2147483648) ≤ v_238.toInt ∧ v_238.toInt ≤ 2147483647) := ⟨i32_lo _, i32_hi _⟩
                have bv_239 : ((-2147483648) ≤ v_239.toInt ∧ v_239.toInt ≤ 2147483647) := ⟨i32_lo _, i32_hi _⟩
                have bv_240 : ((-2147483648) ≤ v_240.toInt ∧ v_240.toInt ≤ 2147483647) := ⟨i32_lo _, i32_hi _⟩
                have bv_241 : ((-2147483648) ≤ v_241.toInt ∧ v_241.toInt ≤ 2147483647) := ⟨i32_lo _, i32_hi _⟩
                have bv_245 : ((-2147483648) ≤ v_245.toInt ∧ v_245.toInt ≤ 2147483647) := ⟨i32_lo _, i32_hi _⟩
                have bv_255 : ((-2147483648) ≤ v_255.toInt ∧ v_255.toInt ≤ 2147483647) := ⟨i32_lo _, i32_hi _⟩
                have bv_257 : ((-2147483648) ≤ v_257.toInt ∧ v_257.toInt ≤ 2147483647) := ⟨i32_lo _, i32_hi _⟩
                have bv_264 : ((-2147483648) ≤ v_264.toInt ∧ v_264.toInt ≤ 2147483647) := ⟨i32_lo _, i32_hi _⟩
                have bv_270 : ((-2147483648) ≤ v_270.toInt ∧ v_270.toInt ≤ 2147483647) := ⟨i32_lo _, i32_hi _⟩
                have bv_285 : ((-2147483648) ≤ v_285.toInt ∧ v_285.toInt ≤ 2147483647) := ⟨i32_lo _, i32_hi _⟩
                obtain ⟨rfl, rfl, rfl, rfl, rfl, rfl, rfl, rfl, rfl, rfl, rfl, rfl, rfl, rfl, rfl, rfl, rfl, rfl, rfl, rfl, rfl, rfl, rfl, rfl, rfl, rfl, rfl, rfl, rfl, rfl, rfl⟩ := re_12 hfo_1 hfo_230 (hrA12 o0 ko0)
                obtain rfl := ri_12_3 hfo_1 hfo_230 (hfA12 o0 ko0 3 (by decide) (by decide) (by decide) (by decide) (by decide) (by decide))
                obtain rfl := ri_12_5 hfo_1 hfo_230 (hfA12 o0 ko0 5 (by decide) (by decide) (by decide) (by decide) (by decide) (by decide))
                obtain rfl := ri_12_6 hfo_1 hfo_230 (hfA12 o0 ko0 6 (by decide) (by decide) (by decide) (by decide) (by decide) (by decide))
                obtain rfl := ri_12_11 hfo_1 hfo_230 (hfA12 o0 ko0 11 (by decide) (by decide) (by decide) (by decide) (by decide) (by decide))
                obtain rfl := ri_12_12 hfo_1 hfo_230 (hfA12 o0 ko0 12 (by decide) (by decide) (by decide) (by decide) (by decide) (by decide))
                obtain rfl := ri_12_13 hfo_1 hfo_230 (hfA12 o0 ko0 13 (by decide) (by decide) (by decide) (by decide) (by decide) (by decide))
                obtain rfl := ri_12_14 hfo_1 hfo_230 (hfA12 o0 ko0 14 (by decide) (by decide) (by decide) (by decide) (by decide) (by decide))
                obtain rfl := ri_12_33 hfo_1 hfo_230 (hfA12 o0 ko0 33 (by decide) (by decide) (by decide) (by decide) (by decide) (by decide))
                obtain rfl := ri_12_35 hfo_1 hfo_230 (hfA12 o0 ko0 35 (by decide) (by decide) (by decide) (by decide) (by decide) (by decide))
                obtain rfl := ri_12_38 hfo_1 hfo_230 (hfA12 o0 ko0 38 (by decide) (by decide) (by decide) (by decide) (by decide) (by decide))
                obtain rfl := ri_12_43 hfo_1 hfo_230 (hfA12 o0 ko0 43 (by decide) (by decide) (by decide) (by decide) (by decide) (by decide))
                obtain rfl := ri_12_53 hfo_1 hfo_230 (hfA12 o0 ko0 53 (by decide) (by decide) (by decide) (by decide) (by decide) (by decide))
                obtain rfl := ri_12_23 hfo_221 hfo_230 (hfa_226 o0 ko0 23 (by decide) (by decide))
                obtain rfl := ri_12_29 hfo_221 hfo_230 (hfa_226 o0 ko0 29 (by decide) (by decide))
                obtain rfl := ri_12_32 hfo_221 hfo_230 (hfa_226 o0 ko0 32 (by decide) (by decide))
                have hqhpost_227 := hpost_227 v_118 v_256 v_120 v_258 (by rw [hfo_221]; rfl) (by rw [hfo_221]; rfl) (by rw [hfo_230]; rfl) (by rw [hfo_230]; rfl)
                try rw [ti_3] at hqhpost_227
                refine lv_aload_n hx hb dX12_lives_89 rfl (lv_at hl 2 rfl) ?_
                refine lv_iconst (v := 0) hx hb dX12_lives_90 (by decide) ?_
                refine lv_aload_n hx hb dX12_lives_91 rfl (lv_at hl 2 rfl) ?_
                refine tk_getP (D := (dC, dI)) (ci := 12) (v := .ref a_2) (C := RX12) (T := TX12) (N := 56) hx hb hU inlX12 hown hK hP mo0 hfo_230 rfl 0 (by decide) (hU _ wd_169) (fun _ h9 => h9) rfl dX12_lives_92 ?_
                refine lv_bipush (v := 41) hx hb dX12_lives_95 (by decide) ?_
                refine tk_ildP hx hb hK hP 0 ma_2 hfo_229 rfl (vp_in_nI (n := 41) (by decide) (by decide)) dX12_lives_97 ?_
                refine lv_topi (fun x_287 ex_287 => ?_)
                have bx_287 : (0 ≤ x_287.toInt ∧ x_287.toInt ≤ 1) := by rw [ex_287]; exact hbg_59.2.2.2.2.2.2.2.1 _ (by decide) (by decide) (by decide)
                refine lv_iconst (v := 0) hx hb dX12_lives_98 (by decide) ?_
                refine lv_iconst (v := 0) hx hb dX12_lives_99 (by decide) ?_
                refine lv_aload_n hx hb dX12_lives_100 rfl (lv_at hl 2 rfl) ?_
                refine tk_getP (D := (dC, dI)) (ci := 12) (v := .ref a_2) (C := RX12) (T := TX12) (N := 56) hx hb hU inlX12 hown hK hP mo0 hfo_230 rfl 0 (by decide) (hU _ wd_169) (fun _ h9 => h9) rfl dX12_lives_101 ?_
                refine lv_bipush (v := 40) hx hb dX12_lives_104 (by decide) ?_
                refine tk_ildP hx hb hK hP 0 ma_2 hfo_229 rfl (vp_in_nI (n := 40) (by decide) (by decide)) dX12_lives_106 ?_
                refine lv_topi (fun x_288 ex_288 => ?_)
                have bx_288 : (0 ≤ x_288.toInt ∧ x_288.toInt ≤ 255) := by rw [ex_288]; exact hbg_59.2.2.2.2.2.2.1 _ (by decide) (by decide) (by decide)
                refine tk_VvP (As := [.int 0, .int x_287, .int 0, .int 0, .int x_288]) (rest := []) (n := 5) hx hb hml hown hU hN hZ (s_X12_goes_k12 l (dC, dI) cI cL cZ cR cG cH Z kd L 14 f_223 hG o0 mo0 ko0 0 (by decide) x_287 (by constructor <;> omega) 0 (by decide) 0 (by decide) x_288 (by intro w23 w25 w27 w29 e23 e25 e27 e29; rw [hfo_230] at e23 e25 e27 e29; obtain rfl := Option.some.inj e23; obtain rfl := Option.some.inj e25; obtain rfl := Option.some.inj e27; obtain rfl := Option.some.inj e29; omega) (by (try rw [ti_0]) <;> omega) hT0 (by (try rw [ti_0]) <;> omega)) wd_886 wd_887 wd_888 wd_5 wd_889 (by decide +kernel) ⟨Nat.le_of_ble_eq_true rfl, Nat.le_of_ble_eq_true rfl⟩ hK hP hD hS mo0 hfo_230 12 rfl rfl rfl hl.1 rfl (Nat.le_of_ble_eq_true rfl) dX12_lives_107 ⟨Nat.le_of_ble_eq_true rfl, Nat.le_of_ble_eq_true rfl⟩ (fun f_290 H locs hw hP hD hS => ?_)
                obtain ⟨hG, hkc_291, hra_292, hfa_293, hpost_294, hTc_295⟩ := hw
                have hfo_297 : f_290 a_2 = .inl (cI, 1560, .inl g_59) := by rw [hkc_291 a_2 (by rw [ka_2]; decide) (by rw [ka_2]; decide) (by rw [ka_2]; decide) (by rw [ka_2]; decide) (by rw [ka_2]; decide) (by rw [ka_2]; decide) (by rw [ka_2]; decide) (by rw [ka_2]; decide) (by rw [ka_2]; decide) (by rw [ka_2]; decide) (by rw [ka_2]; decide) (by rw [ka_2]; decide)]; exact hfo_229
                have hfr0 : ∀ b, kd b ≠ 12 → kd b ≠ 579 → kd b ≠ 581 → kd b ≠ 583 → kd b ≠ 585 → kd b ≠ 587 → kd b ≠ 588 → kd b ≠ 589 → kd b ≠ 590 → kd b ≠ 591 → kd b ≠ 592 → kd b ≠ 593 → kd b ≠ 603 → f_290 b = f b := fun b q12 q579 q581 q583 q585 q587 q588 q589 q590 q591 q592 q593 q603 => (hkc_291 b q12 q579 q581 q583 q585 q587 q588 q590 q591 q592 q593 q603).trans (hfr0 b q12 q579 q581 q583 q585 q587 q588 q589 q590 q591 q592 q593 q603)
                have hrA12 : ∀ b, kd b = 12 → ∀ j, fldR (f_290 b) j = fldR (f b) j := fun b kb j => (hra_292 b kb j).trans (hrA12 b kb j)
                have hfA12 : ∀ b, kd b = 12 → ∀ j, j ≠ 23 → j ≠ 25 → j ≠ 26 → j ≠ 27 → j ≠ 29 → j ≠ 32 → fldI (f_290 b) j = fldI (f b) j := fun b kb j n23 n25 n26 n27 n29 n32 => (hfa_293 b kb j n27 n29 n32).trans (hfA12 b kb j n23 n25 n26 n27 n29 n32)
                obtain ⟨a_299, a_300, a_301, v_302, a_303, v_304, v_305, v_306, v_307, v_308, v_309, v_310, v_311, v_312, v_313, a_314, a_315, a_316, a_317, a_318, a_319, a_320, a_321, v_322, v_323, v_324, v_325, v_326, a_327, v_328, a_329, a_330, v_331, v_332, a_333, v_334, a_335, a_336, v_337, v_338, a_339, a_340, a_341, v_342, a_343, a_344, a_345, a_346, a_347, a_348, a_349, a_350, a_351, v_352, v_353, a_354, hfo_298, ⟨ma_299, ka_299⟩, ⟨ma_300, ka_300⟩, ⟨ma_301, ka_301⟩, bv_302, ⟨ma_303, ka_303⟩, bv_304, bv_305, bv_310, bv_311, bv_312, ⟨ma_314, ka_314⟩, ⟨ma_315, ka_315⟩, ⟨ma_316, ka_316⟩, ⟨ma_317, ka_317⟩, ⟨ma_318, ka_318⟩, ⟨ma_319, ka_319⟩, ⟨ma_320, ka_320⟩, ⟨ma_321, ka_321⟩, bv_322, bv_324, bv_326, ⟨ma_327, ka_327⟩, bv_328, ⟨ma_329, ka_329⟩, ⟨ma_330, ka_330⟩, bv_331, ⟨ma_333, ka_333⟩, bv_334, ⟨ma_335, ka_335⟩, ⟨ma_336, ka_336⟩, bv_337, ⟨ma_339, ka_339⟩, ⟨ma_340, ka_340⟩, ⟨ma_341, ka_341⟩, bv_342, ⟨ma_343, ka_343⟩, ⟨ma_344, ka_344⟩, ⟨ma_345, ka_345⟩, ⟨ma_346, ka_346⟩, ⟨ma_347, ka_347⟩, ⟨ma_348, ka_348⟩, ⟨ma_349, ka_349⟩, ⟨ma_350, ka_350⟩, ⟨ma_351, ka_351⟩, bv_352, ⟨ma_354, ka_354⟩⟩ := un_12 (hG _ mo0) ko0
                have bv_306 : ((-2147483648) ≤ v_306.toInt ∧ v_306.toInt ≤ 2147483647) := ⟨i32_lo _, i32_hi _⟩
                have bv_307 : ((-2147483648) ≤ v_307.toInt ∧ v_307.toInt ≤ 2147483647) := ⟨i32_lo _, i32_hi _⟩
                have bv_308 : ((-2147483648) ≤ v_308.toInt ∧ v_308.toInt ≤ 2147483647) := ⟨i32_lo _, i32_hi _⟩
                have bv_309 : ((-2147483648) ≤ v_309.toInt ∧ v_309.toInt ≤ 2147483647) := ⟨i32_lo _, i32_hi _⟩
                have bv_313 : ((-2147483648) ≤ v_313.toInt ∧ v_313.toInt ≤ 2147483647) := ⟨i32_lo _, i32_hi _⟩
                have bv_323 : ((-2147483648) ≤ v_323.toInt ∧ v_323.toInt ≤ 2147483647) := ⟨i32_lo _, i32_hi _⟩
                have bv_325 : ((-2147483648) ≤ v_325.toInt ∧ v_325.toInt ≤ 2147483647) := ⟨i32_lo _, i32_hi _⟩
                have bv_332 : ((-2147483648) ≤ v_332.toInt ∧ v_332.toInt ≤ 2147483647) := ⟨i32_lo _, i32_hi _⟩
                have bv_338 : ((-2147483648) ≤ v_338.toInt ∧ v_338.toInt ≤ 2147483647) := ⟨i32_lo _, i32_hi _⟩
                have bv_353 : ((-2147483648) ≤ v_353.toInt ∧ v_353.toInt ≤ 2147483647) := ⟨i32_lo _, i32_hi _⟩
                obtain ⟨rfl, rfl, rfl, rfl, rfl, rfl, rfl, rfl, rfl, rfl, rfl, rfl, rfl, rfl, rfl, rfl, rfl, rfl, rfl, rfl, rfl, rfl, rfl, rfl, rfl, rfl, rfl, rfl, rfl, rfl, rfl⟩ := re_12 hfo_1 hfo_298 (hrA12 o0 ko0)
                obtain rfl := ri_12_3 hfo_1 hfo_298 (hfA12 o0 ko0 3 (by decide) (by decide) (by decide) (by decide) (by decide) (by decide))
                obtain rfl := ri_12_5 hfo_1 hfo_298 (hfA12 o0 ko0 5 (by decide) (by decide) (by decide) (by decide) (by decide) (by decide))
                obtain rfl := ri_12_6 hfo_1 hfo_298 (hfA12 o0 ko0 6 (by decide) (by decide) (by decide) (by decide) (by decide) (by decide))
                obtain rfl := ri_12_11 hfo_1 hfo_298 (hfA12 o0 ko0 11 (by decide) (by decide) (by decide) (by decide) (by decide) (by decide))
                obtain rfl := ri_12_12 hfo_1 hfo_298 (hfA12 o0 ko0 12 (by decide) (by decide) (by decide) (by decide) (by decide) (by decide))
                obtain rfl := ri_12_13 hfo_1 hfo_298 (hfA12 o0 ko0 13 (by decide) (by decide) (by decide) (by decide) (by decide) (by decide))
                obtain rfl := ri_12_14 hfo_1 hfo_298 (hfA12 o0 ko0 14 (by decide) (by decide) (by decide) (by decide) (by decide) (by decide))
                obtain rfl := ri_12_33 hfo_1 hfo_298 (hfA12 o0 ko0 33 (by decide) (by decide) (by decide) (by decide) (by decide) (by decide))
                obtain rfl := ri_12_35 hfo_1 hfo_298 (hfA12 o0 ko0 35 (by decide) (by decide) (by decide) (by decide) (by decide) (by decide))
                obtain rfl := ri_12_38 hfo_1 hfo_298 (hfA12 o0 ko0 38 (by decide) (by decide) (by decide) (by decide) (by decide) (by decide))
                obtain rfl := ri_12_43 hfo_1 hfo_298 (hfA12 o0 ko0 43 (by decide) (by decide) (by decide) (by decide) (by decide) (by decide))
                obtain rfl := ri_12_53 hfo_1 hfo_298 (hfA12 o0 ko0 53 (by decide) (by decide) (by decide) (by decide) (by decide) (by decide))
                obtain rfl := ri_12_23 hfo_230 hfo_298 (hfa_293 o0 ko0 23 (by decide) (by decide) (by decide))
                obtain rfl := ri_12_25 hfo_230 hfo_298 (hfa_293 o0 ko0 25 (by decide) (by decide) (by decide))
                have hqhpost_294 := hpost_294 v_256 v_256 v_258 v_326 v_122 v_328 (by rw [hfo_230]; rfl) (by rw [hfo_230]; rfl) (by rw [hfo_230]; rfl) (by rw [hfo_298]; rfl) (by rw [hfo_298]; rfl) (by rw [hfo_298]; rfl)
                try rw [ti_0] at hqhpost_294
                refine lv_aload_n hx hb dX12_lives_110 rfl (lv_at hl 2 rfl) ?_
                refine tk_getP (D := (dC, dI)) (ci := 12) (v := .int v_326) (C := RX12) (T := TX12) (N := 56) hx hb hU inlX12 hown hK hP mo0 hfo_298 rfl 27 (by decide) (hU _ wd_873) (fun _ h9 => h9) rfl dX12_lives_111 ?_
                refine lv_if_eq (tgt := 119) hx hb dX12_lives_114 (by decide) (fun c_355 => ?_) (fun c_355 => ?_)
                · skip
                  rw [← Int32.toInt_inj, ti_0] at c_355
                  obtain ⟨x_356, ex_356⟩ : ∃ y : Int32, y_88 + 1 = y := ⟨_, rfl⟩
                  have hx_356 : x_356.toInt = y_88.toInt + 1 := by rw [← ex_356, ad_I (by rw [ti_1]; omega) (by rw [ti_1]; omega), ti_1]
                  have bx_356 : (1 ≤ x_356.toInt ∧ x_356.toInt ≤ 584) := by constructor <;> omega
                  refine lv_iinc (v := x_356) (lv' := [(5, .int x_356), (4, .int x_77), (0, .ref o0), (1, .int p1), (2, .int p2), (3, .int p3)]) hx hb dX12_lives_119 hl (k := 0) rfl ex_356 (by decide) rfl (fun ls hl => ?_)
                  refine lv_goto (tgt := 61) hx hb dX12_lives_122 (by decide) ?_
                  exact ih_hloop_87 x_356 (by constructor <;> omega) f_290 hG _ _ hP hS hD hfr0 hrA12 hfA12 hfo_297 hTc_295 v_328 (by rw [hfo_298]; rfl) (by omega) (by omega) (by omega) ls (lv_sub hl [0, 1, 2, 3, 4, 5] rfl)
                · skip
                  rw [← Int32.toInt_inj, ti_0] at c_355
                  refine lv_iconst (v := 1) hx hb dX12_lives_117 (by decide) ?_
                  exact W.iret (v := 1) hx hb hr (fun t ht hW => ⟨⟨1, f_290, rfl, ⟨hG, (by decide), hfr0, hrA12, hfA12, (by intro w29 z29 e29 d29; rw [hfo_1] at e29; rw [hfo_298] at d29; obtain rfl := Option.some.inj e29; obtain rfl := Option.some.inj d29; (try rw [ti_1]) <;> omega), hTc_295⟩, by rw [ht]; exact hP, va_K.moved hW.alike hK, pl_in hD⟩, hS.F ht⟩) hS.2.2 dX12_lives_118
          exact hloop_87 585 0 (by decide) f hG _ _ hP hS hD hfr0 hrA12 hfA12 hfo_58 hT0 v_31 (by rw [hfo_1]; rfl) (by (try rw [ti_0]) <;> omega) (by (try rw [ti_0]) <;> omega) (by (try rw [ti_0]) <;> omega) ls hl
        · skip
          rw [← Int32.toInt_inj, ti_0] at c_76
          refine lv_iconst (v := (-1)) hx hb dX12_lives_49 (by decide) ?_
          exact W.iret (v := (-1)) hx hb hr (fun t ht hW => ⟨⟨(-1), f, rfl, ⟨hG, (by decide), hfr0, hrA12, hfA12, (by intro w29 z29 e29 d29; rw [hfo_1] at e29; rw [hfo_1] at d29; obtain rfl := Option.some.inj e29; obtain rfl := Option.some.inj d29; (try rw [ti_m1]) <;> omega), hT0⟩, by rw [ht]; exact hP, va_K.moved hW.alike hK, pl_in hD⟩, hS.F ht⟩) hS.2.2 dX12_lives_50
set_option maxHeartbeats 8000000 in
set_option maxRecDepth 100000 in
theorem s_X12_agreeing_k12 (l : Launch) (D : va_G) (cI cL cZ cR cG cH : ClassId) (Z : zT) (kd : Nat → Nat) (L : List Nat) (f : Nat → va_E) (hG : GI (okc cI cL cZ cR cG cH L kd) kd L f) (o0 : Nat) (mo0 : o0 ∈ L) (ko0 : kd o0 = 12) (p1 : Int32) (bp1 : (0 ≤ p1.toInt ∧ p1.toInt ≤ 72)) (hxpre0 : ∀ b9 g9, fldR (f o0) 0 = some b9 → f b9 = .inl (cI, 1560, .inl g9) → p1.toInt ≤ (g9 0).toInt + (g9 0).toInt * (g9 0).toInt) : mPI l D cI cL cZ cR cG cH Z yX12_agreeing cX12_agreeing 6 (some .int) 6 152 [.ref o0, .int p1] L f (fun (r : Int32) (f9 : Nat → va_E) => GI (okc cI cL cZ cR cG cH L kd) kd L f9 ∧ ((-2147483648) ≤ r.toInt ∧ r.toInt ≤ 2147483647) ∧ (∀ b, kd b ≠ 12 → kd b ≠ 589 → kd b ≠ 597 → kd b ≠ 598 → kd b ≠ 599 → f9 b = f b) ∧ (∀ b, kd b = 12 → ∀ j, fldR (f9 b) j = fldR (f b) j) ∧ (∀ b, kd b = 12 → ∀ j, j ≠ 23 → j ≠ 43 → fldI (f9 b) j = fldI (f b) j)) := by
  obtain ⟨dC, dI⟩ := D
  refine Met.ofW (cc := cX12_agreeing) (maxL := 6) (ret := (some .int)) (by decide) rfl ?_
  intro p e s m args below meth c s₁ B hml hv
  obtain ⟨rfl, hP, hK, hD0, hN, hZ⟩ := hv
  have hx := B.exec
  have hb := B.bytes
  have hr := B.returns
  have hU : ∀ w ∈ wsU, w.before _ s = true := fun w h => atoms_spec (ws := wU yX12_agreeing cX12_agreeing 6 (some .int)) B.pre w (List.mem_cons_of_mem _ h)
  have hown : s.vm.findClass RX12 = some m.cls := findClass_of_methodNamed B.named
  have hlocks := B.notSynchronized
  have hD := pl_in hD0
  have hS : va_S (fun q => q ∈ L) s.heap s.heap [] := va_S.rf
  have hl := lv_entry ([.ref o0, .int p1]) (n := 6) (Nat.le_of_ble_eq_true rfl)
  rw [lg_entry_eq]
  generalize (lg_sl ([.ref o0, .int p1]) ++ List.replicate (6 - (lg_sl ([.ref o0, .int p1])).length) Slot.unset).toArray = ls at hl ⊢
  have hl : lv_has ls 6 [(0, .ref o0), (1, .int p1)] := hl
  have hfr0 : ∀ b, kd b ≠ 12 → kd b ≠ 589 → kd b ≠ 597 → kd b ≠ 598 → kd b ≠ 599 → f b = f b := fun _ _ _ _ _ _ => rfl
  have hrA12 : ∀ b, kd b = 12 → ∀ j, fldR (f b) j = fldR (f b) j := fun _ _ _ => rfl
  have hfA12 : ∀ b, kd b = 12 → ∀ j, j ≠ 23 → j ≠ 43 → fldI (f b) j = fldI (f b) j := fun _ _ _ _ _ => rfl
  obtain ⟨a_2, a_3, a_4, v_5, a_6, v_7, v_8, v_9, v_10, v_11, v_12, v_13, v_14, v_15, v_16, a_17, a_18, a_19, a_20, a_21, a_22, a_23, a_24, v_25, v_26, v_27, v_28, v_29, a_30, v_31, a_32, a_33, v_34, v_35, a_36, v_37, a_38, a_39, v_40, v_41, a_42, a_43, a_44, v_45, a_46, a_47, a_48, a_49, a_50, a_51, a_52, a_53, a_54, v_55, v_56, a_57, hfo_1, ⟨ma_2, ka_2⟩, ⟨ma_3, ka_3⟩, ⟨ma_4, ka_4⟩, bv_5, ⟨ma_6, ka_6⟩, bv_7, bv_8, bv_13, bv_14, bv_15, ⟨ma_17, ka_17⟩, ⟨ma_18, ka_18⟩, ⟨ma_19, ka_19⟩, ⟨ma_20, ka_20⟩, ⟨ma_21, ka_21⟩, ⟨ma_22, ka_22⟩, ⟨ma_23, ka_23⟩, ⟨ma_24, ka_24⟩, bv_25, bv_27, bv_29, ⟨ma_30, ka_30⟩, bv_31, ⟨ma_32, ka_32⟩, ⟨ma_33, ka_33⟩, bv_34, ⟨ma_36, ka_36⟩, bv_37, ⟨ma_38, ka_38⟩, ⟨ma_39, ka_39⟩, bv_40, ⟨ma_42, ka_42⟩, ⟨ma_43, ka_43⟩, ⟨ma_44, ka_44⟩, bv_45, ⟨ma_46, ka_46⟩, ⟨ma_47, ka_47⟩, ⟨ma_48, ka_48⟩, ⟨ma_49, ka_49⟩, ⟨ma_50, ka_50⟩, ⟨ma_51, ka_51⟩, ⟨ma_52, ka_52⟩, ⟨ma_53, ka_53⟩, ⟨ma_54, ka_54⟩, bv_55, ⟨ma_57, ka_57⟩⟩ := un_12 (hG _ mo0) ko0
  have bv_9 : ((-2147483648) ≤ v_9.toInt ∧ v_9.toInt ≤ 2147483647) := ⟨i32_lo _, i32_hi _⟩
  have bv_10 : ((-2147483648) ≤ v_10.toInt ∧ v_10.toInt ≤ 2147483647) := ⟨i32_lo _, i32_hi _⟩
  have bv_11 : ((-2147483648) ≤ v_11.toInt ∧ v_11.toInt ≤ 2147483647) := ⟨i32_lo _, i32_hi _⟩
  have bv_12 : ((-2147483648) ≤ v_12.toInt ∧ v_12.toInt ≤ 2147483647) := ⟨i32_lo _, i32_hi _⟩
  have bv_16 : ((-2147483648) ≤ v_16.toInt ∧ v_16.toInt ≤ 2147483647) := ⟨i32_lo _, i32_hi _⟩
  have bv_26 : ((-2147483648) ≤ v_26.toInt ∧ v_26.toInt ≤ 2147483647) := ⟨i32_lo _, i32_hi _⟩
  have bv_28 : ((-2147483648) ≤ v_28.toInt ∧ v_28.toInt ≤ 2147483647) := ⟨i32_lo _, i32_hi _⟩
  have bv_35 : ((-2147483648) ≤ v_35.toInt ∧ v_35.toInt ≤ 2147483647) := ⟨i32_lo _, i32_hi _⟩
  have bv_41 : ((-2147483648) ≤ v_41.toInt ∧ v_41.toInt ≤ 2147483647) := ⟨i32_lo _, i32_hi _⟩
  have bv_56 : ((-2147483648) ≤ v_56.toInt ∧ v_56.toInt ≤ 2147483647) := ⟨i32_lo _, i32_hi _⟩
  obtain ⟨g_59, hfo_58, hbg_59⟩ := un_575 (hG _ ma_2) ka_2
  have hlw0 := hxpre0 a_2 g_59 (by rw [hfo_1]; rfl) hfo_58
  have hsq := lw_sq (L := (g_59 0).toInt) (hbg_59.1 0 (by decide) (by decide) (by decide))
  refine lv_iconst (v := 0) hx hb dX12_agreeing_0 (by decide) ?_
  refine lv_istore_n (lv' := [(2, .int 0), (0, .ref o0), (1, .int p1)]) hx hb dX12_agreeing_1 rfl hl (by decide) rfl (fun ls hl => ?_)
  refine lv_iconst (v := 0) hx hb dX12_agreeing_2 (by decide) ?_
  refine lv_istore_n (lv' := [(3, .int 0), (2, .int 0), (0, .ref o0), (1, .int p1)]) hx hb dX12_agreeing_3 rfl hl (by decide) rfl (fun ls hl => ?_)
  have hloop_67 : ∀ (n : Nat), ∀ (y_68 : Int32), (0 ≤ y_68.toInt ∧ y_68.toInt ≤ 72) → ∀ (y_69 : Int32), ((-2147483648) ≤ y_69.toInt ∧ y_69.toInt ≤ 2147483647) → ∀ (f_71 : Nat → va_E), GI (okc cI cL cZ cR cG cH L kd) kd L f_71 → ∀ (H : Heap) (locs : List Loc), va_P (dC, dI) vwCl (va_pl L f_71) H → va_S (fun q => q ∈ L) s.heap H locs → va_D (fun q => q ∈ L) (va_pl L f_71) → (∀ b, kd b ≠ 12 → kd b ≠ 589 → kd b ≠ 597 → kd b ≠ 598 → kd b ≠ 599 → f_71 b = f b) → (∀ b, kd b = 12 → ∀ j, fldR (f_71 b) j = fldR (f b) j) → (∀ b, kd b = 12 → ∀ j, j ≠ 23 → j ≠ 43 → fldI (f_71 b) j = fldI (f b) j) → (f_71 a_2 = .inl (cI, 1560, .inl g_59)) → 72 - y_68.toInt < (n : Int) → ∀ (ls : Array Slot), lv_has ls 6 [(3, .int y_68), (2, .int y_69), (0, .ref o0), (1, .int p1)] → W p l e (headSpec (wU yX12_agreeing cX12_agreeing 6 (some .int)) { frames := 6, cells := 0, slots := 0, locals := 152 }).room s m [.ref o0, .int p1].toArray below meth c H locs 0 0 (MQ below (va_Qi (fun (r : Int32) (f9 : Nat → va_E) => GI (okc cI cL cZ cR cG cH L kd) kd L f9 ∧ ((-2147483648) ≤ r.toInt ∧ r.toInt ≤ 2147483647) ∧ (∀ b, kd b ≠ 12 → kd b ≠ 589 → kd b ≠ 597 → kd b ≠ 598 → kd b ≠ 599 → f9 b = f b) ∧ (∀ b, kd b = 12 → ∀ j, fldR (f9 b) j = fldR (f b) j) ∧ (∀ b, kd b = 12 → ∀ j, j ≠ 23 → j ≠ 43 → fldI (f9 b) j = fldI (f b) j)) (qP (dC, dI) cI cL cZ cR cG cH L) (fun q => q ∈ L)) [.ref o0, .int p1].toArray s 0 0 (fun q => q ∈ L)) (F0 m 4 ls []) := by
    intro n
    induction n with
    | zero => intro y_68 by_68 y_69 by_69 f_71 hG H locs hP hS hD hfr0 hrA12 hfA12 hfo_72 hmuhloop_67 ls hl; exfalso; omega
    | succ n ih_hloop_67 =>
      intro y_68 by_68 y_69 by_69 f_71 hG H locs hP hS hD hfr0 hrA12 hfA12 hfo_72 hmuhloop_67 ls hl
      refine lv_iload_n hx hb dX12_agreeing_4 rfl (lv_at hl 0 rfl) ?_
      refine lv_iload_n hx hb dX12_agreeing_5 rfl (lv_at hl 3 rfl) ?_
      refine lv_icmp_ge (tgt := 145) hx hb dX12_agreeing_6 (by decide) (fun c_73 => ?_) (fun c_73 => ?_)
      · skip
        rw [Int32.le_iff_toInt_le] at c_73
        refine lv_iload_n hx hb dX12_agreeing_145 rfl (lv_at hl 1 rfl) ?_
        exact W.iret (v := y_69) hx hb hr (fun t ht hW => ⟨⟨y_69, f_71, rfl, ⟨hG, (by constructor <;> omega), hfr0, hrA12, hfA12⟩, by rw [ht]; exact hP, va_K.moved hW.alike hK, pl_in hD⟩, hS.F ht⟩) hS.2.2 dX12_agreeing_146
      · skip
        rw [Int32.le_iff_toInt_le] at c_73
        refine lv_aload_n hx hb dX12_agreeing_9 rfl (lv_at hl 2 rfl) ?_
        refine lv_iload_n hx hb dX12_agreeing_10 rfl (lv_at hl 0 rfl) ?_
        obtain ⟨a_75, a_76, a_77, v_78, a_79, v_80, v_81, v_82, v_83, v_84, v_85, v_86, v_87, v_88, v_89, a_90, a_91, a_92, a_93, a_94, a_95, a_96, a_97, v_98, v_99, v_100, v_101, v_102, a_103, v_104, a_105, a_106, v_107, v_108, a_109, v_110, a_111, a_112, v_113, v_114, a_115, a_116, a_117, v_118, a_119, a_120, a_121, a_122, a_123, a_124, a_125, a_126, a_127, v_128, v_129, a_130, hfo_74, ⟨ma_75, ka_75⟩, ⟨ma_76, ka_76⟩, ⟨ma_77, ka_77⟩, bv_78, ⟨ma_79, ka_79⟩, bv_80, bv_81, bv_86, bv_87, bv_88, ⟨ma_90, ka_90⟩, ⟨ma_91, ka_91⟩, ⟨ma_92, ka_92⟩, ⟨ma_93, ka_93⟩, ⟨ma_94, ka_94⟩, ⟨ma_95, ka_95⟩, ⟨ma_96, ka_96⟩, ⟨ma_97, ka_97⟩, bv_98, bv_100, bv_102, ⟨ma_103, ka_103⟩, bv_104, ⟨ma_105, ka_105⟩, ⟨ma_106, ka_106⟩, bv_107, ⟨ma_109, ka_109⟩, bv_110, ⟨ma_111, ka_111⟩, ⟨ma_112, ka_112⟩, bv_113, ⟨ma_115, ka_115⟩, ⟨ma_116, ka_116⟩, ⟨ma_117, ka_117⟩, bv_118, ⟨ma_119, ka_119⟩, ⟨ma_120, ka_120⟩, ⟨ma_121, ka_121⟩, ⟨ma_122, ka_122⟩, ⟨ma_123, ka_123⟩, ⟨ma_124, ka_124⟩, ⟨ma_125, ka_125⟩, ⟨ma_126, ka_126⟩, ⟨ma_127, ka_127⟩, bv_128, ⟨ma_130, ka_130⟩⟩ := un_12 (hG _ mo0) ko0
        have bv_82 : ((-2147483648) ≤ v_82.toInt ∧ v_82.toInt ≤ 2147483647) := ⟨i32_lo _, i32_hi _⟩
        have bv_83 : ((-2147483648) ≤ v_83.toInt ∧ v_83.toInt ≤ 2147483647) := ⟨i32_lo _, i32_hi _⟩
        have bv_84 : ((-2147483648) ≤ v_84.toInt ∧ v_84.toInt ≤ 2147483647) := ⟨i32_lo _, i32_hi _⟩
        have bv_85 : ((-2147483648) ≤ v_85.toInt ∧ v_85.toInt ≤ 2147483647) := ⟨i32_lo _, i32_hi _⟩
        have bv_89 : ((-2147483648) ≤ v_89.toInt ∧ v_89.toInt ≤ 2147483647) := ⟨i32_lo _, i32_hi _⟩
        have bv_99 : ((-2147483648) ≤ v_99.toInt ∧ v_99.toInt ≤ 2147483647) := ⟨i32_lo _, i32_hi _⟩
        have bv_101 : ((-2147483648) ≤ v_101.toInt ∧ v_101.toInt ≤ 2147483647) := ⟨i32_lo _, i32_hi _⟩
        have bv_108 : ((-2147483648) ≤ v_108.toInt ∧ v_108.toInt ≤ 2147483647) := ⟨i32_lo _, i32_hi _⟩
        have bv_114 : ((-2147483648) ≤ v_114.toInt ∧ v_114.toInt ≤ 2147483647) := ⟨i32_lo _, i32_hi _⟩
        have bv_129 : ((-2147483648) ≤ v_129.toInt ∧ v_129.toInt ≤ 2147483647) := ⟨i32_lo _, i32_hi _⟩
        obtain ⟨rfl, rfl, rfl, rfl, rfl, rfl, rfl, rfl, rfl, rfl, rfl, rfl, rfl, rfl, rfl, rfl, rfl, rfl, rfl, rfl, rfl, rfl, rfl, rfl, rfl, rfl, rfl, rfl, rfl, rfl, rfl⟩ := re_12 hfo_1 hfo_74 (hrA12 o0 ko0)
        obtain rfl := ri_12_3 hfo_1 hfo_74 (hfA12 o0 ko0 3 (by decide) (by decide))
        obtain rfl := ri_12_5 hfo_1 hfo_74 (hfA12 o0 ko0 5 (by decide) (by decide))
        obtain rfl := ri_12_6 hfo_1 hfo_74 (hfA12 o0 ko0 6 (by decide) (by decide))
        obtain rfl := ri_12_11 hfo_1 hfo_74 (hfA12 o0 ko0 11 (by decide) (by decide))
        obtain rfl := ri_12_12 hfo_1 hfo_74 (hfA12 o0 ko0 12 (by decide) (by decide))
        obtain rfl := ri_12_13 hfo_1 hfo_74 (hfA12 o0 ko0 13 (by decide) (by decide))
        obtain rfl := ri_12_14 hfo_1 hfo_74 (hfA12 o0 ko0 14 (by decide) (by decide))
        obtain rfl := ri_12_25 hfo_1 hfo_74 (hfA12 o0 ko0 25 (by decide) (by decide))
        obtain rfl := ri_12_27 hfo_1 hfo_74 (hfA12 o0 ko0 27 (by decide) (by decide))
        obtain rfl := ri_12_29 hfo_1 hfo_74 (hfA12 o0 ko0 29 (by decide) (by decide))
        obtain rfl := ri_12_32 hfo_1 hfo_74 (hfA12 o0 ko0 32 (by decide) (by decide))
        obtain rfl := ri_12_33 hfo_1 hfo_74 (hfA12 o0 ko0 33 (by decide) (by decide))
        obtain rfl := ri_12_35 hfo_1 hfo_74 (hfA12 o0 ko0 35 (by decide) (by decide))
        obtain rfl := ri_12_38 hfo_1 hfo_74 (hfA12 o0 ko0 38 (by decide) (by decide))
        obtain rfl := ri_12_53 hfo_1 hfo_74 (hfA12 o0 ko0 53 (by decide) (by decide))
        refine tk_VvP (As := [.int y_68]) (rest := []) (n := 1) hx hb hml hown hU hN hZ (s_X12_laysWord_k12 l (dC, dI) cI cL cZ cR cG cH Z kd L f_71 hG o0 mo0 ko0 y_68 (by constructor <;> omega) (fun b9 g9 h1 h2 => by rw [hfo_74] at h1; obtain rfl := Option.some.inj h1; rw [hfo_72] at h2; cases h2; omega)) wd_1173 wd_1174 wd_1175 wd_5 wd_1176 (by decide +kernel) ⟨Nat.le_of_ble_eq_true rfl, Nat.le_of_ble_eq_true rfl⟩ hK hP hD hS mo0 hfo_74 12 rfl rfl rfl hl.1 rfl (Nat.le_of_ble_eq_true rfl) dX12_agreeing_11 ⟨Nat.le_of_ble_eq_true rfl, Nat.le_of_ble_eq_true rfl⟩ (fun f_132 H locs hw hP hD hS => ?_)
        obtain ⟨hG, hkc_133, hra_134, hfa_135, hpost_136, hxp_137⟩ := hw
        have hfo_139 : f_132 a_2 = .inl (cI, 1560, .inl g_59) := by rw [hkc_133 a_2 (by rw [ka_2]; decide) (by rw [ka_2]; decide)]; exact hfo_72
        have hfr0 : ∀ b, kd b ≠ 12 → kd b ≠ 589 → kd b ≠ 597 → kd b ≠ 598 → kd b ≠ 599 → f_132 b = f b := fun b q12 q589 q597 q598 q599 => (hkc_133 b q12 q589).trans (hfr0 b q12 q589 q597 q598 q599)
        have hrA12 : ∀ b, kd b = 12 → ∀ j, fldR (f_132 b) j = fldR (f b) j := fun b kb j => (hra_134 b kb j).trans (hrA12 b kb j)
        have hfA12 : ∀ b, kd b = 12 → ∀ j, j ≠ 23 → j ≠ 43 → fldI (f_132 b) j = fldI (f b) j := fun b kb j n23 n43 => (hfa_135 b kb j n23).trans (hfA12 b kb j n23 n43)
        obtain ⟨a_141, a_142, a_143, v_144, a_145, v_146, v_147, v_148, v_149, v_150, v_151, v_152, v_153, v_154, v_155, a_156, a_157, a_158, a_159, a_160, a_161, a_162, a_163, v_164, v_165, v_166, v_167, v_168, a_169, v_170, a_171, a_172, v_173, v_174, a_175, v_176, a_177, a_178, v_179, v_180, a_181, a_182, a_183, v_184, a_185, a_186, a_187, a_188, a_189, a_190, a_191, a_192, a_193, v_194, v_195, a_196, hfo_140, ⟨ma_141, ka_141⟩, ⟨ma_142, ka_142⟩, ⟨ma_143, ka_143⟩, bv_144, ⟨ma_145, ka_145⟩, bv_146, bv_147, bv_152, bv_153, bv_154, ⟨ma_156, ka_156⟩, ⟨ma_157, ka_157⟩, ⟨ma_158, ka_158⟩, ⟨ma_159, ka_159⟩, ⟨ma_160, ka_160⟩, ⟨ma_161, ka_161⟩, ⟨ma_162, ka_162⟩, ⟨ma_163, ka_163⟩, bv_164, bv_166, bv_168, ⟨ma_169, ka_169⟩, bv_170, ⟨ma_171, ka_171⟩, ⟨ma_172, ka_172⟩, bv_173, ⟨ma_175, ka_175⟩, bv_176, ⟨ma_177, ka_177⟩, ⟨ma_178, ka_178⟩, bv_179, ⟨ma_181, ka_181⟩, ⟨ma_182, ka_182⟩, ⟨ma_183, ka_183⟩, bv_184, ⟨ma_185, ka_185⟩, ⟨ma_186, ka_186⟩, ⟨ma_187, ka_187⟩, ⟨ma_188, ka_188⟩, ⟨ma_189, ka_189⟩, ⟨ma_190, ka_190⟩, ⟨ma_191, ka_191⟩, ⟨ma_192, ka_192⟩, ⟨ma_193, ka_193⟩, bv_194, ⟨ma_196, ka_196⟩⟩ := un_12 (hG _ mo0) ko0
        have bv_148 : ((-2147483648) ≤ v_148.toInt ∧ v_148.toInt ≤ 2147483647) := ⟨i32_lo _, i32_hi _⟩
        have bv_149 : ((-2147483648) ≤ v_149.toInt ∧ v_149.toInt ≤ 2147483647) := ⟨i32_lo _, i32_hi _⟩
        have bv_150 : ((-2147483648) ≤ v_150.toInt ∧ v_150.toInt ≤ 2147483647) := ⟨i32_lo _, i32_hi _⟩
        have bv_151 : ((-2147483648) ≤ v_151.toInt ∧ v_151.toInt ≤ 2147483647) := ⟨i32_lo _, i32_hi _⟩
        have bv_155 : ((-2147483648) ≤ v_155.toInt ∧ v_155.toInt ≤ 2147483647) := ⟨i32_lo _, i32_hi _⟩
        have bv_165 : ((-2147483648) ≤ v_165.toInt ∧ v_165.toInt ≤ 2147483647) := ⟨i32_lo _, i32_hi _⟩
        have bv_167 : ((-2147483648) ≤ v_167.toInt ∧ v_167.toInt ≤ 2147483647) := ⟨i32_lo _, i32_hi _⟩
        have bv_174 : ((-2147483648) ≤ v_174.toInt ∧ v_174.toInt ≤ 2147483647) := ⟨i32_lo _, i32_hi _⟩
        have bv_180 : ((-2147483648) ≤ v_180.toInt ∧ v_180.toInt ≤ 2147483647) := ⟨i32_lo _, i32_hi _⟩
        have bv_195 : ((-2147483648) ≤ v_195.toInt ∧ v_195.toInt ≤ 2147483647) := ⟨i32_lo _, i32_hi _⟩
        obtain ⟨rfl, rfl, rfl, rfl, rfl, rfl, rfl, rfl, rfl, rfl, rfl, rfl, rfl, rfl, rfl, rfl, rfl, rfl, rfl, rfl, rfl, rfl, rfl, rfl, rfl, rfl, rfl, rfl, rfl, rfl, rfl⟩ := re_12 hfo_1 hfo_140 (hrA12 o0 ko0)
        obtain rfl := ri_12_3 hfo_1 hfo_140 (hfA12 o0 ko0 3 (by decide) (by decide))
        obtain rfl := ri_12_5 hfo_1 hfo_140 (hfA12 o0 ko0 5 (by decide) (by decide))
        obtain rfl := ri_12_6 hfo_1 hfo_140 (hfA12 o0 ko0 6 (by decide) (by decide))
        obtain rfl := ri_12_11 hfo_1 hfo_140 (hfA12 o0 ko0 11 (by decide) (by decide))
        obtain rfl := ri_12_12 hfo_1 hfo_140 (hfA12 o0 ko0 12 (by decide) (by decide))
        obtain rfl := ri_12_13 hfo_1 hfo_140 (hfA12 o0 ko0 13 (by decide) (by decide))
        obtain rfl := ri_12_14 hfo_1 hfo_140 (hfA12 o0 ko0 14 (by decide) (by decide))
        obtain rfl := ri_12_25 hfo_1 hfo_140 (hfA12 o0 ko0 25 (by decide) (by decide))
        obtain rfl := ri_12_27 hfo_1 hfo_140 (hfA12 o0 ko0 27 (by decide) (by decide))
        obtain rfl := ri_12_29 hfo_1 hfo_140 (hfA12 o0 ko0 29 (by decide) (by decide))
        obtain rfl := ri_12_32 hfo_1 hfo_140 (hfA12 o0 ko0 32 (by decide) (by decide))
        obtain rfl := ri_12_33 hfo_1 hfo_140 (hfA12 o0 ko0 33 (by decide) (by decide))
        obtain rfl := ri_12_35 hfo_1 hfo_140 (hfA12 o0 ko0 35 (by decide) (by decide))
        obtain rfl := ri_12_38 hfo_1 hfo_140 (hfA12 o0 ko0 38 (by decide) (by decide))
        obtain rfl := ri_12_53 hfo_1 hfo_140 (hfA12 o0 ko0 53 (by decide) (by decide))
        obtain rfl := ri_12_43 hfo_74 hfo_140 (hfa_135 o0 ko0 43 (by decide))
        have hqhpost_136 := hpost_136 v_98 v_164 (by rw [hfo_74]; rfl) (by rw [hfo_140]; rfl)
        have hlw2 := hxp_137 a_2 g_59 v_164 (by rw [hfo_74]; rfl) hfo_72 (by rw [hfo_140]; rfl)
        have hclc_197 : (1 ≤ v_164.toInt ∧ v_164.toInt ≤ 2) := by constructor <;> omega
        refine lv_aload_n hx hb dX12_agreeing_14 rfl (lv_at hl 2 rfl) ?_
        refine lv_aload_n hx hb dX12_agreeing_15 rfl (lv_at hl 2 rfl) ?_
        refine tk_getP (D := (dC, dI)) (ci := 12) (v := .int v_164) (C := RX12) (T := TX12) (N := 56) hx hb hU inlX12 hown hK hP mo0 hfo_140 rfl 23 (by decide) (hU _ wd_867) (fun _ h9 => h9) rfl dX12_agreeing_16 ?_
        refine tk_putP (D := (dC, dI)) (ci := 12) (v := .int v_164) (ty := .int) (C := RX12) (T := TX12) (N := 56) hx hb hU inlX12 tyX12 tyX12_ok nmX12 hown hK hP hD hS mo0 hfo_140 rfl 43 (by decide) (hU _ wd_572) (fun _ h9 => h9) rfl (by decide +kernel) rfl rfl (Nat.le_of_ble_eq_true rfl) dX12_agreeing_19 (fun H locs hP hD hS => ?_)
        obtain ⟨f_199, ef_199⟩ : ∃ y : Nat → va_E, y = va_up f_132 o0 (.inr (12, [.ref a_2, .ref a_3, .ref a_4, .int v_5, .ref a_6, .int v_7, .int v_8, .int v_148, .int v_149, .int v_150, .int v_151, .int v_13, .int v_14, .int v_15, .int v_16, .ref a_17, .ref a_18, .ref a_19, .ref a_20, .ref a_21, .ref a_22, .ref a_23, .ref a_24, .int v_164, .int v_165, .int v_27, .int v_167, .int v_29, .ref a_30, .int v_31, .ref a_32, .ref a_33, .int v_34, .int v_35, .ref a_36, .int v_37, .ref a_38, .ref a_39, .int v_40, .int v_180, .ref a_42, .ref a_43, .ref a_44, .int v_164, .ref a_46, .ref a_47, .ref a_48, .ref a_49, .ref a_50, .ref a_51, .ref a_52, .ref a_53, .ref a_54, .int v_55, .int v_195, .ref a_57])) := ⟨_, rfl⟩
        have hP : va_P (dC, dI) vwCl (va_pl L f_199) H := by rw [ef_199]; exact hP
        have hD : va_D (fun q => q ∈ L) (va_pl L f_199) := by rw [ef_199]; exact hD
        have hG : GI (okc cI cL cZ cR cG cH L kd) kd L f_199 := by rw [ef_199]; exact hG.set o0 (mk_12 ko0 ⟨a_2, a_3, a_4, v_5, a_6, v_7, v_8, v_148, v_149, v_150, v_151, v_13, v_14, v_15, v_16, a_17, a_18, a_19, a_20, a_21, a_22, a_23, a_24, v_164, v_165, v_27, v_167, v_29, a_30, v_31, a_32, a_33, v_34, v_35, a_36, v_37, a_38, a_39, v_40, v_180, a_42, a_43, a_44, v_164, a_46, a_47, a_48, a_49, a_50, a_51, a_52, a_53, a_54, v_55, v_195, a_57, rfl, ⟨ma_2, ka_2⟩, ⟨ma_3, ka_3⟩, ⟨ma_4, ka_4⟩, (by constructor <;> omega), ⟨ma_6, ka_6⟩, (by constructor <;> omega), (by constructor <;> omega), (by constructor <;> omega), (by constructor <;> omega), (by constructor <;> omega), ⟨ma_17, ka_17⟩, ⟨ma_18, ka_18⟩, ⟨ma_19, ka_19⟩, ⟨ma_20, ka_20⟩, ⟨ma_21, ka_21⟩, ⟨ma_22, ka_22⟩, ⟨ma_23, ka_23⟩, ⟨ma_24, ka_24⟩, (by constructor <;> omega), (by constructor <;> omega), (by constructor <;> omega), ⟨ma_30, ka_30⟩, (by constructor <;> omega), ⟨ma_32, ka_32⟩, ⟨ma_33, ka_33⟩, (by constructor <;> omega), ⟨ma_36, ka_36⟩, (by constructor <;> omega), ⟨ma_38, ka_38⟩, ⟨ma_39, ka_39⟩, (by constructor <;> omega), ⟨ma_42, ka_42⟩, ⟨ma_43, ka_43⟩, ⟨ma_44, ka_44⟩, (by constructor <;> omega), ⟨ma_46, ka_46⟩, ⟨ma_47, ka_47⟩, ⟨ma_48, ka_48⟩, ⟨ma_49, ka_49⟩, ⟨ma_50, ka_50⟩, ⟨ma_51, ka_51⟩, ⟨ma_52, ka_52⟩, ⟨ma_53, ka_53⟩, ⟨ma_54, ka_54⟩, (by constructor <;> omega), ⟨ma_57, ka_57⟩⟩)
        have hfo_200 : f_199 a_2 = .inl (cI, 1560, .inl g_59) := by rw [ef_199, up_ne (kd_ne ko0 ka_2 (by decide))]; exact hfo_139
        have hfr0 : ∀ b, kd b ≠ 12 → kd b ≠ 589 → kd b ≠ 597 → kd b ≠ 598 → kd b ≠ 599 → f_199 b = f b := fun b q12 q589 q597 q598 q599 => (congrFun ef_199 b).trans ((up_ne (fun e9 => q12 (by rw [e9]; exact ko0))).trans (hfr0 b q12 q589 q597 q598 q599))
        have hrA12 : ∀ b, kd b = 12 → ∀ j, fldR (f_199 b) j = fldR (f b) j := fun b kb j => ((congrArg (fun x => fldR x j) (congrFun ef_199 b)).trans (fra_up (fun j => by rw [hfo_140]; exact fr_set (k := 43) rfl rfl j) j b)).trans (hrA12 b kb j)
        have hfA12 : ∀ b, kd b = 12 → ∀ j, j ≠ 23 → j ≠ 43 → fldI (f_199 b) j = fldI (f b) j := fun b kb j n23 n43 => ((congrArg (fun x => fldI x j) (congrFun ef_199 b)).trans (fia_up (fun h9 => by rw [hfo_140]; exact fi_set (k := 43) rfl h9) n43 b)).trans (hfA12 b kb j n23 n43)
        have hfo_201 : f_199 o0 = .inr (12, [.ref a_2, .ref a_3, .ref a_4, .int v_5, .ref a_6, .int v_7, .int v_8, .int v_148, .int v_149, .int v_150, .int v_151, .int v_13, .int v_14, .int v_15, .int v_16, .ref a_17, .ref a_18, .ref a_19, .ref a_20, .ref a_21, .ref a_22, .ref a_23, .ref a_24, .int v_164, .int v_165, .int v_27, .int v_167, .int v_29, .ref a_30, .int v_31, .ref a_32, .ref a_33, .int v_34, .int v_35, .ref a_36, .int v_37, .ref a_38, .ref a_39, .int v_40, .int v_180, .ref a_42, .ref a_43, .ref a_44, .int v_164, .ref a_46, .ref a_47, .ref a_48, .ref a_49, .ref a_50, .ref a_51, .ref a_52, .ref a_53, .ref a_54, .int v_55, .int v_195, .ref a_57]) := by rw [ef_199]; exact up_self
        refine lv_iconst (v := 0) hx hb dX12_agreeing_22 (by decide) ?_
        refine lv_istore (lv' := [(4, .int 0), (3, .int y_68), (2, .int y_69), (0, .ref o0), (1, .int p1)]) hx hb dX12_agreeing_23 hl (by decide) rfl (fun ls hl => ?_)
        have hloop_220 : ∀ (n : Nat), ∀ (y_221 : Int32), (0 ≤ y_221.toInt ∧ y_221.toInt ≤ 2) → ∀ (f_223 : Nat → va_E), GI (okc cI cL cZ cR cG cH L kd) kd L f_223 → ∀ (H : Heap) (locs : List Loc), va_P (dC, dI) vwCl (va_pl L f_223) H → va_S (fun q => q ∈ L) s.heap H locs → va_D (fun q => q ∈ L) (va_pl L f_223) → (∀ b, kd b ≠ 12 → kd b ≠ 589 → kd b ≠ 597 → kd b ≠ 598 → kd b ≠ 599 → f_223 b = f b) → (∀ b, kd b = 12 → ∀ j, fldR (f_223 b) j = fldR (f b) j) → (∀ b, kd b = 12 → ∀ j, j ≠ 23 → j ≠ 43 → fldI (f_223 b) j = fldI (f b) j) → (f_223 a_2 = .inl (cI, 1560, .inl g_59)) → (f_223 o0 = .inr (12, [.ref a_2, .ref a_3, .ref a_4, .int v_5, .ref a_6, .int v_7, .int v_8, .int v_148, .int v_149, .int v_150, .int v_151, .int v_13, .int v_14, .int v_15, .int v_16, .ref a_17, .ref a_18, .ref a_19, .ref a_20, .ref a_21, .ref a_22, .ref a_23, .ref a_24, .int v_164, .int v_165, .int v_27, .int v_167, .int v_29, .ref a_30, .int v_31, .ref a_32, .ref a_33, .int v_34, .int v_35, .ref a_36, .int v_37, .ref a_38, .ref a_39, .int v_40, .int v_180, .ref a_42, .ref a_43, .ref a_44, .int v_164, .ref a_46, .ref a_47, .ref a_48, .ref a_49, .ref a_50, .ref a_51, .ref a_52, .ref a_53, .ref a_54, .int v_55, .int v_195, .ref a_57])) → 2 - y_221.toInt < (n : Int) → ∀ (ls : Array Slot), lv_has ls 6 [(4, .int y_221), (3, .int y_68), (2, .int y_69), (0, .ref o0), (1, .int p1)] → W p l e (headSpec (wU yX12_agreeing cX12_agreeing 6 (some .int)) { frames := 6, cells := 0, slots := 0, locals := 152 }).room s m [.ref o0, .int p1].toArray below meth c H locs 0 0 (MQ below (va_Qi (fun (r : Int32) (f9 : Nat → va_E) => GI (okc cI cL cZ cR cG cH L kd) kd L f9 ∧ ((-2147483648) ≤ r.toInt ∧ r.toInt ≤ 2147483647) ∧ (∀ b, kd b ≠ 12 → kd b ≠ 589 → kd b ≠ 597 → kd b ≠ 598 → kd b ≠ 599 → f9 b = f b) ∧ (∀ b, kd b = 12 → ∀ j, fldR (f9 b) j = fldR (f b) j) ∧ (∀ b, kd b = 12 → ∀ j, j ≠ 23 → j ≠ 43 → fldI (f9 b) j = fldI (f b) j)) (qP (dC, dI) cI cL cZ cR cG cH L) (fun q => q ∈ L)) [.ref o0, .int p1].toArray s 0 0 (fun q => q ∈ L)) (F0 m 25 ls []) := by
          intro n
          induction n with
          | zero => intro y_221 by_221 f_223 hG H locs hP hS hD hfr0 hrA12 hfA12 hfo_224 hfo_225 hmuhloop_220 ls hl; exfalso; omega
          | succ n ih_hloop_220 =>
            intro y_221 by_221 f_223 hG H locs hP hS hD hfr0 hrA12 hfA12 hfo_224 hfo_225 hmuhloop_220 ls hl
            refine lv_iload hx hb dX12_agreeing_25 (lv_at hl 0 rfl) ?_
            refine lv_aload_n hx hb dX12_agreeing_27 rfl (lv_at hl 3 rfl) ?_
            refine tk_getP (D := (dC, dI)) (ci := 12) (v := .int v_164) (C := RX12) (T := TX12) (N := 56) hx hb hU inlX12 hown hK hP mo0 hfo_225 rfl 23 (by decide) (hU _ wd_867) (fun _ h9 => h9) rfl dX12_agreeing_28 ?_
            refine lv_icmp_ge (tgt := 54) hx hb dX12_agreeing_31 (by decide) (fun c_226 => ?_) (fun c_226 => ?_)
            · skip
              rw [Int32.le_iff_toInt_le] at c_226
              refine lv_iconst (v := 0) hx hb dX12_agreeing_54 (by decide) ?_
              refine lv_istore (lv' := [(4, .int 0), (3, .int y_68), (2, .int y_69), (0, .ref o0), (1, .int p1)]) hx hb dX12_agreeing_55 hl (by decide) rfl (fun ls hl => ?_)
              have hloop_289 : ∀ (n : Nat), ∀ (y_290 : Int32), (0 ≤ y_290.toInt ∧ y_290.toInt ≤ 8) → ∀ (f_292 : Nat → va_E), GI (okc cI cL cZ cR cG cH L kd) kd L f_292 → ∀ (H : Heap) (locs : List Loc), va_P (dC, dI) vwCl (va_pl L f_292) H → va_S (fun q => q ∈ L) s.heap H locs → va_D (fun q => q ∈ L) (va_pl L f_292) → (∀ b, kd b ≠ 12 → kd b ≠ 589 → kd b ≠ 597 → kd b ≠ 598 → kd b ≠ 599 → f_292 b = f b) → (∀ b, kd b = 12 → ∀ j, fldR (f_292 b) j = fldR (f b) j) → (∀ b, kd b = 12 → ∀ j, j ≠ 23 → j ≠ 43 → fldI (f_292 b) j = fldI (f b) j) → (f_292 a_2 = .inl (cI, 1560, .inl g_59)) → ∀ (whloop_289_0_43 : Int32), fldI (f_292 o0) 43 = some whloop_289_0_43 → (0 ≤ whloop_289_0_43.toInt ∧ whloop_289_0_43.toInt ≤ 2) → 8 - y_290.toInt < (n : Int) → ∀ (ls : Array Slot), lv_has ls 6 [(4, .int y_290), (3, .int y_68), (2, .int y_69), (0, .ref o0), (1, .int p1)] → W p l e (headSpec (wU yX12_agreeing cX12_agreeing 6 (some .int)) { frames := 6, cells := 0, slots := 0, locals := 152 }).room s m [.ref o0, .int p1].toArray below meth c H locs 0 0 (MQ below (va_Qi (fun (r : Int32) (f9 : Nat → va_E) => GI (okc cI cL cZ cR cG cH L kd) kd L f9 ∧ ((-2147483648) ≤ r.toInt ∧ r.toInt ≤ 2147483647) ∧ (∀ b, kd b ≠ 12 → kd b ≠ 589 → kd b ≠ 597 → kd b ≠ 598 → kd b ≠ 599 → f9 b = f b) ∧ (∀ b, kd b = 12 → ∀ j, fldR (f9 b) j = fldR (f b) j) ∧ (∀ b, kd b = 12 → ∀ j, j ≠ 23 → j ≠ 43 → fldI (f9 b) j = fldI (f b) j)) (qP (dC, dI) cI cL cZ cR cG cH L) (fun q => q ∈ L)) [.ref o0, .int p1].toArray s 0 0 (fun q => q ∈ L)) (F0 m 57 ls []) := by
                intro n
                induction n with
                | zero => intro y_290 by_290 f_292 hG H locs hP hS hD hfr0 hrA12 hfA12 hfo_293 whloop_289_0_43 hghloop_289_0_43 hrelhloop_289_0 hmuhloop_289 ls hl; exfalso; omega
                | succ n ih_hloop_289 =>
                  intro y_290 by_290 f_292 hG H locs hP hS hD hfr0 hrA12 hfA12 hfo_293 whloop_289_0_43 hghloop_289_0_43 hrelhloop_289_0 hmuhloop_289 ls hl
                  obtain ⟨a_295, a_296, a_297, v_298, a_299, v_300, v_301, v_302, v_303, v_304, v_305, v_306, v_307, v_308, v_309, a_310, a_311, a_312, a_313, a_314, a_315, a_316, a_317, v_318, v_319, v_320, v_321, v_322, a_323, v_324, a_325, a_326, v_327, v_328, a_329, v_330, a_331, a_332, v_333, v_334, a_335, a_336, a_337, v_338, a_339, a_340, a_341, a_342, a_343, a_344, a_345, a_346, a_347, v_348, v_349, a_350, hfo_294, ⟨ma_295, ka_295⟩, ⟨ma_296, ka_296⟩, ⟨ma_297, ka_297⟩, bv_298, ⟨ma_299, ka_299⟩, bv_300, bv_301, bv_306, bv_307, bv_308, ⟨ma_310, ka_310⟩, ⟨ma_311, ka_311⟩, ⟨ma_312, ka_312⟩, ⟨ma_313, ka_313⟩, ⟨ma_314, ka_314⟩, ⟨ma_315, ka_315⟩, ⟨ma_316, ka_316⟩, ⟨ma_317, ka_317⟩, bv_318, bv_320, bv_322, ⟨ma_323, ka_323⟩, bv_324, ⟨ma_325, ka_325⟩, ⟨ma_326, ka_326⟩, bv_327, ⟨ma_329, ka_329⟩, bv_330, ⟨ma_331, ka_331⟩, ⟨ma_332, ka_332⟩, bv_333, ⟨ma_335, ka_335⟩, ⟨ma_336, ka_336⟩, ⟨ma_337, ka_337⟩, bv_338, ⟨ma_339, ka_339⟩, ⟨ma_340, ka_340⟩, ⟨ma_341, ka_341⟩, ⟨ma_342, ka_342⟩, ⟨ma_343, ka_343⟩, ⟨ma_344, ka_344⟩, ⟨ma_345, ka_345⟩, ⟨ma_346, ka_346⟩, ⟨ma_347, ka_347⟩, bv_348, ⟨ma_350, ka_350⟩⟩ := un_12 (hG _ mo0) ko0
                  have bv_302 : ((-2147483648) ≤ v_302.toInt ∧ v_302.toInt ≤ 2147483647) := ⟨i32_lo _, i32_hi _⟩
                  have bv_303 : ((-2147483648) ≤ v_303.toInt ∧ v_303.toInt ≤ 2147483647) := ⟨i32_lo _, i32_hi _⟩
                  have bv_304 : ((-2147483648) ≤ v_304.toInt ∧ v_304.toInt ≤ 2147483647) := ⟨i32_lo _, i32_hi _⟩
                  have bv_305 : ((-2147483648) ≤ v_305.toInt ∧ v_305.toInt ≤ 2147483647) := ⟨i32_lo _, i32_hi _⟩
                  have bv_309 : ((-2147483648) ≤ v_309.toInt ∧ v_309.toInt ≤ 2147483647) := ⟨i32_lo _, i32_hi _⟩
                  have bv_319 : ((-2147483648) ≤ v_319.toInt ∧ v_319.toInt ≤ 2147483647) := ⟨i32_lo _, i32_hi _⟩
                  have bv_321 : ((-2147483648) ≤ v_321.toInt ∧ v_321.toInt ≤ 2147483647) := ⟨i32_lo _, i32_hi _⟩
                  have bv_328 : ((-2147483648) ≤ v_328.toInt ∧ v_328.toInt ≤ 2147483647) := ⟨i32_lo _, i32_hi _⟩
                  have bv_334 : ((-2147483648) ≤ v_334.toInt ∧ v_334.toInt ≤ 2147483647) := ⟨i32_lo _, i32_hi _⟩
                  have bv_349 : ((-2147483648) ≤ v_349.toInt ∧ v_349.toInt ≤ 2147483647) := ⟨i32_lo _, i32_hi _⟩
                  obtain ⟨rfl, rfl, rfl, rfl, rfl, rfl, rfl, rfl, rfl, rfl, rfl, rfl, rfl, rfl, rfl, rfl, rfl, rfl, rfl, rfl, rfl, rfl, rfl, rfl, rfl, rfl, rfl, rfl, rfl, rfl, rfl⟩ := re_12 hfo_1 hfo_294 (hrA12 o0 ko0)
                  obtain rfl := ri_12_3 hfo_1 hfo_294 (hfA12 o0 ko0 3 (by decide) (by decide))
                  obtain rfl := ri_12_5 hfo_1 hfo_294 (hfA12 o0 ko0 5 (by decide) (by decide))
                  obtain rfl := ri_12_6 hfo_1 hfo_294 (hfA12 o0 ko0 6 (by decide) (by decide))
                  obtain rfl := ri_12_11 hfo_1 hfo_294 (hfA12 o0 ko0 11 (by decide) (by decide))
                  obtain rfl := ri_12_12 hfo_1 hfo_294 (hfA12 o0 ko0 12 (by decide) (by decide))
                  obtain rfl := ri_12_13 hfo_1 hfo_294 (hfA12 o0 ko0 13 (by decide) (by decide))
                  obtain rfl := ri_12_14 hfo_1 hfo_294 (hfA12 o0 ko0 14 (by decide) (by decide))
                  obtain rfl := ri_12_25 hfo_1 hfo_294 (hfA12 o0 ko0 25 (by decide) (by decide))
                  obtain rfl := ri_12_27 hfo_1 hfo_294 (hfA12 o0 ko0 27 (by decide) (by decide))
                  obtain rfl := ri_12_29 hfo_1 hfo_294 (hfA12 o0 ko0 29 (by decide) (by decide))
                  obtain rfl := ri_12_32 hfo_1 hfo_294 (hfA12 o0 ko0 32 (by decide) (by decide))
                  obtain rfl := ri_12_33 hfo_1 hfo_294 (hfA12 o0 ko0 33 (by decide) (by decide))
                  obtain rfl := ri_12_35 hfo_1 hfo_294 (hfA12 o0 ko0 35 (by decide) (by decide))
                  obtain rfl := ri_12_38 hfo_1 hfo_294 (hfA12 o0 ko0 38 (by decide) (by decide))
                  obtain rfl := ri_12_53 hfo_1 hfo_294 (hfA12 o0 ko0 53 (by decide) (by decide))
                  obtain rfl : v_338 = whloop_289_0_43 := by rw [hfo_294] at hghloop_289_0_43; exact Option.some.inj hghloop_289_0_43
                  refine lv_iload hx hb dX12_agreeing_57 (lv_at hl 0 rfl) ?_
                  refine lv_aload_n hx hb dX12_agreeing_59 rfl (lv_at hl 3 rfl) ?_
                  refine tk_getP (D := (dC, dI)) (ci := 12) (v := .int v_55) (C := RX12) (T := TX12) (N := 56) hx hb hU inlX12 hown hK hP mo0 hfo_294 rfl 53 (by decide) (hU _ wd_1241) (fun _ h9 => h9) rfl dX12_agreeing_60 ?_
                  refine lv_icmp_ge (tgt := 83) hx hb dX12_agreeing_63 (by decide) (fun c_351 => ?_) (fun c_351 => ?_)
                  · skip
                    rw [Int32.le_iff_toInt_le] at c_351
                    refine lv_iconst (v := 0) hx hb dX12_agreeing_83 (by decide) ?_
                    refine lv_istore (lv' := [(4, .int 0), (3, .int y_68), (2, .int y_69), (0, .ref o0), (1, .int p1)]) hx hb dX12_agreeing_84 hl (by decide) rfl (fun ls hl => ?_)
                    refine lv_iconst (v := 0) hx hb dX12_agreeing_86 (by decide) ?_
                    refine lv_istore (lv' := [(5, .int 0), (4, .int 0), (3, .int y_68), (2, .int y_69), (0, .ref o0), (1, .int p1)]) hx hb dX12_agreeing_87 hl (by decide) rfl (fun ls hl => ?_)
                    have hloop_355 : ∀ (n : Nat), ∀ (y_356 : Int32), (0 ≤ y_356.toInt ∧ y_356.toInt ≤ 2) → ∀ (y_357 : Int32), (0 ≤ y_357.toInt ∧ y_357.toInt ≤ 80) → ((y_356.toInt = 0 ∧ y_357.toInt = 0) ∨ (y_356.toInt = 1 ∧ y_357.toInt ≤ 8) ∨ (y_356.toInt = 2 ∧ y_357.toInt ≤ 80)) → 2 - y_356.toInt < (n : Int) → ∀ (ls : Array Slot), lv_has ls 6 [(5, .int y_356), (4, .int y_357), (3, .int y_68), (2, .int y_69), (0, .ref o0), (1, .int p1)] → W p l e (headSpec (wU yX12_agreeing cX12_agreeing 6 (some .int)) { frames := 6, cells := 0, slots := 0, locals := 152 }).room s m [.ref o0, .int p1].toArray below meth c H locs 0 0 (MQ below (va_Qi (fun (r : Int32) (f9 : Nat → va_E) => GI (okc cI cL cZ cR cG cH L kd) kd L f9 ∧ ((-2147483648) ≤ r.toInt ∧ r.toInt ≤ 2147483647) ∧ (∀ b, kd b ≠ 12 → kd b ≠ 589 → kd b ≠ 597 → kd b ≠ 598 → kd b ≠ 599 → f9 b = f b) ∧ (∀ b, kd b = 12 → ∀ j, fldR (f9 b) j = fldR (f b) j) ∧ (∀ b, kd b = 12 → ∀ j, j ≠ 23 → j ≠ 43 → fldI (f9 b) j = fldI (f b) j)) (qP (dC, dI) cI cL cZ cR cG cH L) (fun q => q ∈ L)) [.ref o0, .int p1].toArray s 0 0 (fun q => q ∈ L)) (F0 m 89 ls []) := by
                      intro n
                      induction n with
                      | zero => intro y_356 by_356 y_357 by_357 hrelhloop_355_0 hmuhloop_355 ls hl; exfalso; omega
                      | succ n ih_hloop_355 =>
                        intro y_356 by_356 y_357 by_357 hrelhloop_355_0 hmuhloop_355 ls hl
                        refine lv_iload hx hb dX12_agreeing_89 (lv_at hl 0 rfl) ?_
                        refine lv_aload_n hx hb dX12_agreeing_91 rfl (lv_at hl 4 rfl) ?_
                        refine tk_getP (D := (dC, dI)) (ci := 12) (v := .int v_338) (C := RX12) (T := TX12) (N := 56) hx hb hU inlX12 hown hK hP mo0 hfo_294 rfl 43 (by decide) (hU _ wd_572) (fun _ h9 => h9) rfl dX12_agreeing_92 ?_
                        refine lv_icmp_ge (tgt := 119) hx hb dX12_agreeing_95 (by decide) (fun c_358 => ?_) (fun c_358 => ?_)
                        · skip
                          rw [Int32.le_iff_toInt_le] at c_358
                          refine lv_iload_n hx hb dX12_agreeing_119 rfl (lv_at hl 3 rfl) ?_
                          refine lv_aload_n hx hb dX12_agreeing_120 rfl (lv_at hl 4 rfl) ?_
                          refine tk_getP (D := (dC, dI)) (ci := 12) (v := .ref a_50) (C := RX12) (T := TX12) (N := 56) hx hb hU inlX12 hown hK hP mo0 hfo_294 rfl 48 (by decide) (hU _ wd_199) (fun _ h9 => h9) rfl dX12_agreeing_121 ?_
                          refine lv_iload_n hx hb dX12_agreeing_124 rfl (lv_at hl 2 rfl) ?_
                          obtain ⟨g_360, hfo_359, hbg_360⟩ := un_605 (hG _ ma_50) ka_50
                          obtain ⟨a_361, hga_361, ma_361, ka_361⟩ := hbg_360 (Int32.toNatClampNeg y_68) (in_lt (vp_in_iff.mpr (by constructor <;> omega)))
                          refine tk_aldA hx hb hK hP 5 ma_50 hfo_359 rfl (vp_in_iff.mpr (by constructor <;> omega)) hga_361 dX12_agreeing_125 ?_
                          refine lv_iload hx hb dX12_agreeing_126 (lv_at hl 1 rfl) ?_
                          obtain ⟨g_363, hfo_362, hbg_363⟩ := un_604 (hG _ ma_361) ka_361
                          refine tk_zldP hx hb hK hP 2 ma_361 hfo_362 rfl (vp_in_iff.mpr (by constructor <;> omega)) dX12_agreeing_128 ?_
                          refine lv_topi (fun x_364 ex_364 => ?_)
                          have bx_364 : (0 ≤ x_364.toInt ∧ x_364.toInt ≤ 1) := by rw [ex_364]; exact hbg_363 _
                          have hcut_366 : ∀ (y_365 : Int32), (0 ≤ y_365.toInt ∧ y_365.toInt ≤ 1) → ∀ (ls : Array Slot), lv_has ls 6 [(5, .int y_356), (4, .int y_357), (3, .int y_68), (2, .int y_69), (0, .ref o0), (1, .int p1)] → W p l e (headSpec (wU yX12_agreeing cX12_agreeing 6 (some .int)) { frames := 6, cells := 0, slots := 0, locals := 152 }).room s m [.ref o0, .int p1].toArray below meth c H locs 0 0 (MQ below (va_Qi (fun (r : Int32) (f9 : Nat → va_E) => GI (okc cI cL cZ cR cG cH L kd) kd L f9 ∧ ((-2147483648) ≤ r.toInt ∧ r.toInt ≤ 2147483647) ∧ (∀ b, kd b ≠ 12 → kd b ≠ 589 → kd b ≠ 597 → kd b ≠ 598 → kd b ≠ 599 → f9 b = f b) ∧ (∀ b, kd b = 12 → ∀ j, fldR (f9 b) j = fldR (f b) j) ∧ (∀ b, kd b = 12 → ∀ j, j ≠ 23 → j ≠ 43 → fldI (f9 b) j = fldI (f b) j)) (qP (dC, dI) cI cL cZ cR cG cH L) (fun q => q ∈ L)) [.ref o0, .int p1].toArray s 0 0 (fun q => q ∈ L)) (F0 m 137 ls [.int y_365, .int y_69]) := by
                            intro y_365 by_365 ls hl
                            refine lv_iadd hx hb dX12_agreeing_137 ?_
                            refine lv_topi (fun x_367 ex_367 => ?_)
                            have bx_367 : ((-2147483648) ≤ x_367.toInt ∧ x_367.toInt ≤ 2147483647) := ⟨i32_lo _, i32_hi _⟩
                            refine lv_istore_n (lv' := [(2, .int x_367), (5, .int y_356), (4, .int y_357), (3, .int y_68), (0, .ref o0), (1, .int p1)]) hx hb dX12_agreeing_138 rfl hl (by decide) rfl (fun ls hl => ?_)
                            obtain ⟨x_368, ex_368⟩ : ∃ y : Int32, y_68 + 1 = y := ⟨_, rfl⟩
                            have hx_368 : x_368.toInt = y_68.toInt + 1 := by rw [← ex_368, ad_I (by rw [ti_1]; omega) (by rw [ti_1]; omega), ti_1]
                            have bx_368 : (1 ≤ x_368.toInt ∧ x_368.toInt ≤ 72) := by constructor <;> omega
                            refine lv_iinc (v := x_368) (lv' := [(3, .int x_368), (2, .int x_367), (5, .int y_356), (4, .int y_357), (0, .ref o0), (1, .int p1)]) hx hb dX12_agreeing_139 hl (k := 3) rfl ex_368 (by decide) rfl (fun ls hl => ?_)
                            refine lv_goto (tgt := 4) hx hb dX12_agreeing_142 (by decide) ?_
                            exact ih_hloop_67 x_368 (by constructor <;> omega) x_367 (by constructor <;> omega) f_292 hG _ _ hP hS hD hfr0 hrA12 hfA12 hfo_293 (by omega) ls (lv_sub hl [0, 1, 4, 5] rfl)
                          refine lv_if_eq (tgt := 136) hx hb dX12_agreeing_129 (by decide) (fun c_369 => ?_) (fun c_369 => ?_)
                          · skip
                            rw [← Int32.toInt_inj, ti_0] at c_369
                            refine lv_iconst (v := 0) hx hb dX12_agreeing_136 (by decide) ?_
                            exact hcut_366 0 (by decide) ls (lv_sub hl [0, 1, 2, 3, 4, 5] rfl)
                          · skip
                            rw [← Int32.toInt_inj, ti_0] at c_369
                            refine lv_iconst (v := 1) hx hb dX12_agreeing_132 (by decide) ?_
                            refine lv_goto (tgt := 137) hx hb dX12_agreeing_133 (by decide) ?_
                            exact hcut_366 1 (by decide) ls (lv_sub hl [0, 1, 2, 3, 4, 5] rfl)
                        · skip
                          rw [Int32.le_iff_toInt_le] at c_358
                          refine lv_bipush (v := 9) hx hb dX12_agreeing_98 (by decide) ?_
                          refine lv_iload hx hb dX12_agreeing_100 (lv_at hl 1 rfl) ?_
                          refine lv_imul hx hb dX12_agreeing_102 ?_
                          refine lv_topi (fun x_370 ex_370 => ?_)
                          have hx_370 : x_370.toInt = 9 * y_357.toInt := by rw [ex_370, ml_I (by rw [ti_9]; omega) (by rw [ti_9]; omega), ti_9]
                          have bx_370 : (0 ≤ x_370.toInt ∧ x_370.toInt ≤ 720) := by constructor <;> omega
                          refine lv_aload_n hx hb dX12_agreeing_103 rfl (lv_at hl 4 rfl) ?_
                          refine tk_getP (D := (dC, dI)) (ci := 12) (v := .ref a_42) (C := RX12) (T := TX12) (N := 56) hx hb hU inlX12 hown hK hP mo0 hfo_294 rfl 40 (by decide) (hU _ wd_190) (fun _ h9 => h9) rfl dX12_agreeing_104 ?_
                          refine lv_iload hx hb dX12_agreeing_107 (lv_at hl 0 rfl) ?_
                          obtain ⟨g_372, hfo_371, hbg_372⟩ := un_597 (hG _ ma_42) ka_42
                          refine tk_ildP hx hb hK hP 0 ma_42 hfo_371 rfl (vp_in_iff.mpr (by constructor <;> omega)) dX12_agreeing_109 ?_
                          refine lv_topi (fun x_373 ex_373 => ?_)
                          have bx_373 : (0 ≤ x_373.toInt ∧ x_373.toInt ≤ 8) := by rw [ex_373]; exact hbg_372 _
                          refine lv_iadd hx hb dX12_agreeing_110 ?_
                          refine lv_topi (fun x_374 ex_374 => ?_)
                          have hx_374 : x_374.toInt = x_370.toInt + x_373.toInt := by rw [ex_374, ad_I (by omega) (by omega)]
                          have bx_374 : (0 ≤ x_374.toInt ∧ x_374.toInt ≤ 728) := by constructor <;> omega
                          have hclc_375 : (0 ≤ x_374.toInt ∧ x_374.toInt ≤ 80) := by constructor <;> omega
                          refine lv_istore (lv' := [(4, .int x_374), (5, .int y_356), (3, .int y_68), (2, .int y_69), (0, .ref o0), (1, .int p1)]) hx hb dX12_agreeing_111 hl (by decide) rfl (fun ls hl => ?_)
                          obtain ⟨x_376, ex_376⟩ : ∃ y : Int32, y_356 + 1 = y := ⟨_, rfl⟩
                          have hx_376 : x_376.toInt = y_356.toInt + 1 := by rw [← ex_376, ad_I (by rw [ti_1]; omega) (by rw [ti_1]; omega), ti_1]
                          have bx_376 : (1 ≤ x_376.toInt ∧ x_376.toInt ≤ 2) := by constructor <;> omega
                          refine lv_iinc (v := x_376) (lv' := [(5, .int x_376), (4, .int x_374), (3, .int y_68), (2, .int y_69), (0, .ref o0), (1, .int p1)]) hx hb dX12_agreeing_113 hl (k := 1) rfl ex_376 (by decide) rfl (fun ls hl => ?_)
                          refine lv_goto (tgt := 89) hx hb dX12_agreeing_116 (by decide) ?_
                          exact ih_hloop_355 x_376 (by constructor <;> omega) x_374 (by constructor <;> omega) (by omega) (by omega) ls (lv_sub hl [0, 1, 2, 3, 4, 5] rfl)
                    exact hloop_355 3 0 (by decide) 0 (by decide) (by (try rw [ti_0]) <;> omega) (by (try rw [ti_0]) <;> omega) ls hl
                  · skip
                    rw [Int32.le_iff_toInt_le] at c_351
                    refine lv_aload_n hx hb dX12_agreeing_66 rfl (lv_at hl 3 rfl) ?_
                    refine lv_aload_n hx hb dX12_agreeing_67 rfl (lv_at hl 3 rfl) ?_
                    refine tk_getP (D := (dC, dI)) (ci := 12) (v := .ref a_52) (C := RX12) (T := TX12) (N := 56) hx hb hU inlX12 hown hK hP mo0 hfo_294 rfl 50 (by decide) (hU _ wd_201) (fun _ h9 => h9) rfl dX12_agreeing_68 ?_
                    refine lv_iload hx hb dX12_agreeing_71 (lv_at hl 0 rfl) ?_
                    obtain ⟨g_378, hfo_377, hbg_378⟩ := un_607 (hG _ ma_52) ka_52
                    refine tk_ildP hx hb hK hP 0 ma_52 hfo_377 rfl (vp_in_iff.mpr (by constructor <;> omega)) dX12_agreeing_73 ?_
                    refine lv_topi (fun x_379 ex_379 => ?_)
                    have bx_379 : (0 ≤ x_379.toInt ∧ x_379.toInt ≤ 7) := by rw [ex_379]; exact hbg_378 _
                    refine tk_VvP (As := [.int x_379]) (rest := []) (n := 1) hx hb hml hown hU hN hZ (s_X12_age_k12 l (dC, dI) cI cL cZ cR cG cH Z kd L f_292 hG o0 mo0 ko0 x_379 (by constructor <;> omega)) wd_1119 wd_1120 wd_1121 wd_5 wd_1122 (by decide +kernel) ⟨Nat.le_of_ble_eq_true rfl, Nat.le_of_ble_eq_true rfl⟩ hK hP hD hS mo0 hfo_294 12 rfl rfl rfl hl.1 rfl (Nat.le_of_ble_eq_true rfl) dX12_agreeing_74 ⟨Nat.le_of_ble_eq_true rfl, Nat.le_of_ble_eq_true rfl⟩ (fun f_381 H locs hw hP hD hS => ?_)
                    obtain ⟨hG, hkc_382, hra_383, hfa_384, hpost_385⟩ := hw
                    have hfo_387 : f_381 a_2 = .inl (cI, 1560, .inl g_59) := by rw [hkc_382 a_2 (by rw [ka_2]; decide) (by rw [ka_2]; decide) (by rw [ka_2]; decide) (by rw [ka_2]; decide)]; exact hfo_293
                    have hfo_388 : f_381 a_52 = .inl (cI, 8, .inl g_378) := by rw [hkc_382 a_52 (by rw [ka_52]; decide) (by rw [ka_52]; decide) (by rw [ka_52]; decide) (by rw [ka_52]; decide)]; exact hfo_377
                    have hfr0 : ∀ b, kd b ≠ 12 → kd b ≠ 589 → kd b ≠ 597 → kd b ≠ 598 → kd b ≠ 599 → f_381 b = f b := fun b q12 q589 q597 q598 q599 => (hkc_382 b q12 q597 q598 q599).trans (hfr0 b q12 q589 q597 q598 q599)
                    have hrA12 : ∀ b, kd b = 12 → ∀ j, fldR (f_381 b) j = fldR (f b) j := fun b kb j => (hra_383 b kb j).trans (hrA12 b kb j)
                    have hfA12 : ∀ b, kd b = 12 → ∀ j, j ≠ 23 → j ≠ 43 → fldI (f_381 b) j = fldI (f b) j := fun b kb j n23 n43 => (hfa_384 b kb j n43).trans (hfA12 b kb j n23 n43)
                    obtain ⟨a_390, a_391, a_392, v_393, a_394, v_395, v_396, v_397, v_398, v_399, v_400, v_401, v_402, v_403, v_404, a_405, a_406, a_407, a_408, a_409, a_410, a_411, a_412, v_413, v_414, v_415, v_416, v_417, a_418, v_419, a_420, a_421, v_422, v_423, a_424, v_425, a_426, a_427, v_428, v_429, a_430, a_431, a_432, v_433, a_434, a_435, a_436, a_437, a_438, a_439, a_440, a_441, a_442, v_443, v_444, a_445, hfo_389, ⟨ma_390, ka_390⟩, ⟨ma_391, ka_391⟩, ⟨ma_392, ka_392⟩, bv_393, ⟨ma_394, ka_394⟩, bv_395, bv_396, bv_401, bv_402, bv_403, ⟨ma_405, ka_405⟩, ⟨ma_406, ka_406⟩, ⟨ma_407, ka_407⟩, ⟨ma_408, ka_408⟩, ⟨ma_409, ka_409⟩, ⟨ma_410, ka_410⟩, ⟨ma_411, ka_411⟩, ⟨ma_412, ka_412⟩, bv_413, bv_415, bv_417, ⟨ma_418, ka_418⟩, bv_419, ⟨ma_420, ka_420⟩, ⟨ma_421, ka_421⟩, bv_422, ⟨ma_424, ka_424⟩, bv_425, ⟨ma_426, ka_426⟩, ⟨ma_427, ka_427⟩, bv_428, ⟨ma_430, ka_430⟩, ⟨ma_431, ka_431⟩, ⟨ma_432, ka_432⟩, bv_433, ⟨ma_434, ka_434⟩, ⟨ma_435, ka_435⟩, ⟨ma_436, ka_436⟩, ⟨ma_437, ka_437⟩, ⟨ma_438, ka_438⟩, ⟨ma_439, ka_439⟩, ⟨ma_440, ka_440⟩, ⟨ma_441, ka_441⟩, ⟨ma_442, ka_442⟩, bv_443, ⟨ma_445, ka_445⟩⟩ := un_12 (hG _ mo0) ko0
                    have bv_397 : ((-2147483648) ≤ v_397.toInt ∧ v_397.toInt ≤ 2147483647) := ⟨i32_lo _, i32_hi _⟩
                    have bv_398 : ((-2147483648) ≤ v_398.toInt ∧ v_398.toInt ≤ 2147483647) := ⟨i32_lo _, i32_hi _⟩
                    have bv_399 : ((-2147483648) ≤ v_399.toInt ∧ v_399.toInt ≤ 2147483647) := ⟨i32_lo _, i32_hi _⟩
                    have bv_400 : ((-2147483648) ≤ v_400.toInt ∧ v_400.toInt ≤ 2147483647) := ⟨i32_lo _, i32_hi _⟩
                    have bv_404 : ((-2147483648) ≤ v_404.toInt ∧ v_404.toInt ≤ 2147483647) := ⟨i32_lo _, i32_hi _⟩
                    have bv_414 : ((-2147483648) ≤ v_414.toInt ∧ v_414.toInt ≤ 2147483647) := ⟨i32_lo _, i32_hi _⟩
                    have bv_416 : ((-2147483648) ≤ v_416.toInt ∧ v_416.toInt ≤ 2147483647) := ⟨i32_lo _, i32_hi _⟩
                    have bv_423 : ((-2147483648) ≤ v_423.toInt ∧ v_423.toInt ≤ 2147483647) := ⟨i32_lo _, i32_hi _⟩
                    have bv_429 : ((-2147483648) ≤ v_429.toInt ∧ v_429.toInt ≤ 2147483647) := ⟨i32_lo _, i32_hi _⟩
                    have bv_444 : ((-2147483648) ≤ v_444.toInt ∧ v_444.toInt ≤ 2147483647) := ⟨i32_lo _, i32_hi _⟩
                    obtain ⟨rfl, rfl, rfl, rfl, rfl, rfl, rfl, rfl, rfl, rfl, rfl, rfl, rfl, rfl, rfl, rfl, rfl, rfl, rfl, rfl, rfl, rfl, rfl, rfl, rfl, rfl, rfl, rfl, rfl, rfl, rfl⟩ := re_12 hfo_1 hfo_389 (hrA12 o0 ko0)
                    obtain rfl := ri_12_3 hfo_1 hfo_389 (hfA12 o0 ko0 3 (by decide) (by decide))
                    obtain rfl := ri_12_5 hfo_1 hfo_389 (hfA12 o0 ko0 5 (by decide) (by decide))
                    obtain rfl := ri_12_6 hfo_1 hfo_389 (hfA12 o0 ko0 6 (by decide) (by decide))
                    obtain rfl := ri_12_11 hfo_1 hfo_389 (hfA12 o0 ko0 11 (by decide) (by decide))
                    obtain rfl := ri_12_12 hfo_1 hfo_389 (hfA12 o0 ko0 12 (by decide) (by decide))
                    obtain rfl := ri_12_13 hfo_1 hfo_389 (hfA12 o0 ko0 13 (by decide) (by decide))
                    obtain rfl := ri_12_14 hfo_1 hfo_389 (hfA12 o0 ko0 14 (by decide) (by decide))
                    obtain rfl := ri_12_25 hfo_1 hfo_389 (hfA12 o0 ko0 25 (by decide) (by decide))
                    obtain rfl := ri_12_27 hfo_1 hfo_389 (hfA12 o0 ko0 27 (by decide) (by decide))
                    obtain rfl := ri_12_29 hfo_1 hfo_389 (hfA12 o0 ko0 29 (by decide) (by decide))
                    obtain rfl := ri_12_32 hfo_1 hfo_389 (hfA12 o0 ko0 32 (by decide) (by decide))
                    obtain rfl := ri_12_33 hfo_1 hfo_389 (hfA12 o0 ko0 33 (by decide) (by decide))
                    obtain rfl := ri_12_35 hfo_1 hfo_389 (hfA12 o0 ko0 35 (by decide) (by decide))
                    obtain rfl := ri_12_38 hfo_1 hfo_389 (hfA12 o0 ko0 38 (by decide) (by decide))
                    obtain rfl := ri_12_53 hfo_1 hfo_389 (hfA12 o0 ko0 53 (by decide) (by decide))
                    obtain rfl := ri_12_23 hfo_294 hfo_389 (hfa_384 o0 ko0 23 (by decide))
                    have hqhpost_385 := hpost_385 v_338 v_433 (by rw [hfo_294]; rfl) (by rw [hfo_389]; rfl)
                    obtain ⟨x_446, ex_446⟩ : ∃ y : Int32, y_290 + 1 = y := ⟨_, rfl⟩
                    have hx_446 : x_446.toInt = y_290.toInt + 1 := by rw [← ex_446, ad_I (by rw [ti_1]; omega) (by rw [ti_1]; omega), ti_1]
                    have bx_446 : (1 ≤ x_446.toInt ∧ x_446.toInt ≤ 8) := by constructor <;> omega
                    refine lv_iinc (v := x_446) (lv' := [(4, .int x_446), (3, .int y_68), (2, .int y_69), (0, .ref o0), (1, .int p1)]) hx hb dX12_agreeing_77 hl (k := 0) rfl ex_446 (by decide) rfl (fun ls hl => ?_)
                    refine lv_goto (tgt := 57) hx hb dX12_agreeing_80 (by decide) ?_
                    exact ih_hloop_289 x_446 (by constructor <;> omega) f_381 hG _ _ hP hS hD hfr0 hrA12 hfA12 hfo_387 v_433 (by rw [hfo_389]; rfl) (by omega) (by omega) ls (lv_sub hl [0, 1, 2, 3, 4] rfl)
              exact hloop_289 9 0 (by decide) f_223 hG _ _ hP hS hD hfr0 hrA12 hfA12 hfo_224 v_164 (by rw [hfo_225]; rfl) (by (try rw [ti_0]) <;> omega) (by (try rw [ti_0]) <;> omega) ls hl
            · skip
              rw [Int32.le_iff_toInt_le] at c_226
              refine lv_aload_n hx hb dX12_agreeing_34 rfl (lv_at hl 3 rfl) ?_
              refine tk_getP (D := (dC, dI)) (ci := 12) (v := .ref a_42) (C := RX12) (T := TX12) (N := 56) hx hb hU inlX12 hown hK hP mo0 hfo_225 rfl 40 (by decide) (hU _ wd_190) (fun _ h9 => h9) rfl dX12_agreeing_35 ?_
              refine lv_iload hx hb dX12_agreeing_38 (lv_at hl 0 rfl) ?_
              refine lv_aload_n hx hb dX12_agreeing_40 rfl (lv_at hl 3 rfl) ?_
              refine tk_getP (D := (dC, dI)) (ci := 12) (v := .ref a_23) (C := RX12) (T := TX12) (N := 56) hx hb hU inlX12 hown hK hP mo0 hfo_225 rfl 21 (by decide) (hU _ wd_181) (fun _ h9 => h9) rfl dX12_agreeing_41 ?_
              refine lv_iload hx hb dX12_agreeing_44 (lv_at hl 0 rfl) ?_
              obtain ⟨g_448, hfo_447, hbg_448⟩ := un_589 (hG _ ma_23) ka_23
              refine tk_ildP hx hb hK hP 0 ma_23 hfo_447 rfl (vp_in_iff.mpr (by constructor <;> omega)) dX12_agreeing_46 ?_
              refine lv_topi (fun x_449 ex_449 => ?_)
              have bx_449 : (0 ≤ x_449.toInt ∧ x_449.toInt ≤ 8) := by rw [ex_449]; exact hbg_448 _
              obtain ⟨g_451, hfo_450, hbg_451⟩ := un_597 (hG _ ma_42) ka_42
              refine tk_istP hx hb hK hP hD hS 0 ma_42 hfo_450 rfl (vp_in_iff.mpr (by constructor <;> omega)) dX12_agreeing_47 (fun H locs hP hD hS => ?_)
              obtain ⟨f_453, ef_453⟩ : ∃ y : Nat → va_E, y = va_up f_223 a_42 (.inl (cI, 16, .inl (upd g_451 (Int32.toNatClampNeg y_221) x_449))) := ⟨_, rfl⟩
              have hP : va_P (dC, dI) vwCl (va_pl L f_453) H := by rw [ef_453]; exact hP
              have hD : va_D (fun q => q ∈ L) (va_pl L f_453) := by rw [ef_453]; exact hD
              have hG : GI (okc cI cL cZ cR cG cH L kd) kd L f_453 := by rw [ef_453]; exact hG.set a_42 (mk_597 ka_42 ⟨_, rfl, okI_up hbg_451 (by constructor <;> omega) _⟩)
              have hfo_454 : f_453 a_2 = .inl (cI, 1560, .inl g_59) := by rw [ef_453, up_ne (kd_ne ka_42 ka_2 (by decide))]; exact hfo_224
              have hfo_455 : f_453 o0 = .inr (12, [.ref a_2, .ref a_3, .ref a_4, .int v_5, .ref a_6, .int v_7, .int v_8, .int v_148, .int v_149, .int v_150, .int v_151, .int v_13, .int v_14, .int v_15, .int v_16, .ref a_17, .ref a_18, .ref a_19, .ref a_20, .ref a_21, .ref a_22, .ref a_23, .ref a_24, .int v_164, .int v_165, .int v_27, .int v_167, .int v_29, .ref a_30, .int v_31, .ref a_32, .ref a_33, .int v_34, .int v_35, .ref a_36, .int v_37, .ref a_38, .ref a_39, .int v_40, .int v_180, .ref a_42, .ref a_43, .ref a_44, .int v_164, .ref a_46, .ref a_47, .ref a_48, .ref a_49, .ref a_50, .ref a_51, .ref a_52, .ref a_53, .ref a_54, .int v_55, .int v_195, .ref a_57]) := by rw [ef_453, up_ne (kd_ne ka_42 ko0 (by decide))]; exact hfo_225
              have hfo_456 : f_453 a_23 = .inl (cI, 16, .inl g_448) := by rw [ef_453, up_ne (kd_ne ka_42 ka_23 (by decide))]; exact hfo_447
              have hfr0 : ∀ b, kd b ≠ 12 → kd b ≠ 589 → kd b ≠ 597 → kd b ≠ 598 → kd b ≠ 599 → f_453 b = f b := fun b q12 q589 q597 q598 q599 => (congrFun ef_453 b).trans ((up_ne (fun e9 => q597 (by rw [e9]; exact ka_42))).trans (hfr0 b q12 q589 q597 q598 q599))
              have hrA12 : ∀ b, kd b = 12 → ∀ j, fldR (f_453 b) j = fldR (f b) j := fun b kb j => (congrArg (fun x => fldR x j) ((congrFun ef_453 b).trans (up_ne (kd_ne ka_42 kb (by decide))))).trans (hrA12 b kb j)
              have hfA12 : ∀ b, kd b = 12 → ∀ j, j ≠ 23 → j ≠ 43 → fldI (f_453 b) j = fldI (f b) j := fun b kb j n23 n43 => (congrArg (fun x => fldI x j) ((congrFun ef_453 b).trans (up_ne (kd_ne ka_42 kb (by decide))))).trans (hfA12 b kb j n23 n43)
              have hfo_457 : f_453 a_42 = .inl (cI, 16, .inl (upd g_451 (Int32.toNatClampNeg y_221) x_449)) := by rw [ef_453]; exact up_self
              obtain ⟨x_458, ex_458⟩ : ∃ y : Int32, y_221 + 1 = y := ⟨_, rfl⟩
              have hx_458 : x_458.toInt = y_221.toInt + 1 := by rw [← ex_458, ad_I (by rw [ti_1]; omega) (by rw [ti_1]; omega), ti_1]
              have bx_458 : (1 ≤ x_458.toInt ∧ x_458.toInt ≤ 2) := by constructor <;> omega
              refine lv_iinc (v := x_458) (lv' := [(4, .int x_458), (3, .int y_68), (2, .int y_69), (0, .ref o0), (1, .int p1)]) hx hb dX12_agreeing_48 hl (k := 0) rfl ex_458 (by decide) rfl (fun ls hl => ?_)
              refine lv_goto (tgt := 25) hx hb dX12_agreeing_51 (by decide) ?_
              exact ih_hloop_220 x_458 (by constructor <;> omega) f_453 hG _ _ hP hS hD hfr0 hrA12 hfA12 hfo_454 hfo_455 (by omega) ls (lv_sub hl [0, 1, 2, 3, 4] rfl)
        exact hloop_220 3 0 (by decide) f_199 hG _ _ hP hS hD hfr0 hrA12 hfA12 hfo_200 hfo_201 (by (try rw [ti_0]) <;> omega) ls hl
  exact hloop_67 73 0 (by decide) 0 (by decide) f hG _ _ hP hS hD hfr0 hrA12 hfA12 hfo_58 (by (try rw [ti_0]) <;> omega) ls hl
