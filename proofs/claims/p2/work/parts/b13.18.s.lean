set_option maxHeartbeats 8000000 in
set_option maxRecDepth 100000 in
theorem s_X12_forced_k12 (l : Launch) (D : va_G) (cI cL cZ cR cG cH : ClassId) (Z : zT) (kd : Nat → Nat) (L : List Nat) (f : Nat → va_E) (hG : GI (okc cI cL cZ cR cG cH L kd) kd L f) (o0 : Nat) (mo0 : o0 ∈ L) (ko0 : kd o0 = 12) (p1 : Int32) : mPI l D cI cL cZ cR cG cH Z yX12_forced cX12_forced 3 (some .int) 24 653 [.ref o0, .int p1] L f (fun (r : Int32) (f9 : Nat → va_E) => GI (okc cI cL cZ cR cG cH L kd) kd L f9 ∧ ((-2147483648) ≤ r.toInt ∧ r.toInt ≤ 2147483647) ∧ (∀ b, kd b ≠ 12 → kd b ≠ 579 → kd b ≠ 581 → kd b ≠ 583 → kd b ≠ 585 → kd b ≠ 587 → kd b ≠ 588 → kd b ≠ 589 → kd b ≠ 594 → f9 b = f b) ∧ (∀ b, kd b = 12 → ∀ j, fldR (f9 b) j = fldR (f b) j) ∧ (∀ b, kd b = 12 → ∀ j, j ≠ 23 → j ≠ 35 → fldI (f9 b) j = fldI (f b) j)) := by
  obtain ⟨dC, dI⟩ := D
  refine Met.ofW (cc := cX12_forced) (maxL := 3) (ret := (some .int)) (by decide) rfl ?_
  intro p e s m args below meth c s₁ B hml hv
  obtain ⟨rfl, hP, hK, hD0, hN, hZ⟩ := hv
  have hx := B.exec
  have hb := B.bytes
  have hr := B.returns
  have hU : ∀ w ∈ wsU, w.before _ s = true := fun w h => atoms_spec (ws := wU yX12_forced cX12_forced 3 (some .int)) B.pre w (List.mem_cons_of_mem _ h)
  have hown : s.vm.findClass RX12 = some m.cls := findClass_of_methodNamed B.named
  have hlocks := B.notSynchronized
  have hD := pl_in hD0
  have hS : va_S (fun q => q ∈ L) s.heap s.heap [] := va_S.rf
  have hl := lv_entry ([.ref o0, .int p1]) (n := 3) (Nat.le_of_ble_eq_true rfl)
  rw [lg_entry_eq]
  generalize (lg_sl ([.ref o0, .int p1]) ++ List.replicate (3 - (lg_sl ([.ref o0, .int p1])).length) Slot.unset).toArray = ls at hl ⊢
  have hl : lv_has ls 3 [(0, .ref o0), (1, .int p1)] := hl
  have bp1 : ((-2147483648) ≤ p1.toInt ∧ p1.toInt ≤ 2147483647) := ⟨i32_lo _, i32_hi _⟩
  have hfr0 : ∀ b, kd b ≠ 12 → kd b ≠ 579 → kd b ≠ 581 → kd b ≠ 583 → kd b ≠ 585 → kd b ≠ 587 → kd b ≠ 588 → kd b ≠ 589 → kd b ≠ 594 → f b = f b := fun _ _ _ _ _ _ _ _ _ _ => rfl
  have hrA12 : ∀ b, kd b = 12 → ∀ j, fldR (f b) j = fldR (f b) j := fun _ _ _ => rfl
  have hfA12 : ∀ b, kd b = 12 → ∀ j, j ≠ 23 → j ≠ 35 → fldI (f b) j = fldI (f b) j := fun _ _ _ _ _ => rfl
  refine lv_aload_n hx hb dX12_forced_0 rfl (lv_at hl 0 rfl) ?_
  obtain ⟨a_1, a_2, a_3, v_4, a_5, v_6, v_7, v_8, v_9, v_10, v_11, v_12, v_13, v_14, v_15, a_16, a_17, a_18, a_19, a_20, a_21, a_22, a_23, v_24, v_25, v_26, v_27, v_28, a_29, v_30, a_31, a_32, v_33, v_34, a_35, v_36, a_37, a_38, v_39, v_40, a_41, a_42, a_43, v_44, a_45, a_46, a_47, a_48, a_49, a_50, a_51, a_52, a_53, v_54, v_55, a_56, hfo_57, fa_58⟩ := un12 (hG _ mo0) ko0
  refine tk_ViP (As := []) (rest := []) (n := 0) hx hb hml hown hU hN hZ (s_X12_learn_k12 l (dC, dI) cI cL cZ cR cG cH Z kd L f hG o0 mo0 ko0) wd_1455 wd_1443 wd_1444 wd_5 wd_1445 (by decide +kernel) ⟨Nat.le_of_ble_eq_true rfl, Nat.le_of_ble_eq_true rfl⟩ hK hP hD hS mo0 hfo_57 12 rfl rfl rfl hl.1 rfl (Nat.le_of_ble_eq_true rfl) dX12_forced_1 ⟨Nat.le_of_ble_eq_true rfl, Nat.le_of_ble_eq_true rfl⟩ (fun x_59 f_60 H locs hw hP hD hS => ?_)
  obtain ⟨hG, bx_59, hkc_61, hra_62, hfa_63⟩ := hw
  have hfr0 : ∀ b, kd b ≠ 12 → kd b ≠ 579 → kd b ≠ 581 → kd b ≠ 583 → kd b ≠ 585 → kd b ≠ 587 → kd b ≠ 588 → kd b ≠ 589 → kd b ≠ 594 → f_60 b = f b := fun b q12 q579 q581 q583 q585 q587 q588 q589 q594 => (hkc_61 b q12 q579 q581 q583 q585 q587 q588 q589 q594).trans (hfr0 b q12 q579 q581 q583 q585 q587 q588 q589 q594)
  have hrA12 : ∀ b, kd b = 12 → ∀ j, fldR (f_60 b) j = fldR (f b) j := fun b kb j => (hra_62 b kb j).trans (hrA12 b kb j)
  have hfA12 : ∀ b, kd b = 12 → ∀ j, j ≠ 23 → j ≠ 35 → fldI (f_60 b) j = fldI (f b) j := fun b kb j n23 n35 => (hfa_63 b kb j n23 n35).trans (hfA12 b kb j n23 n35)
  obtain ⟨v_65, v_66, hfo_67, fa_68⟩ := op12_23_35 hfo_57 (hG _ mo0) ko0 (hra_62 o0 ko0) (hfa_63 o0 ko0)
  have bv_65 : (0 ≤ v_65.toInt ∧ v_65.toInt ≤ 12) := fa12_23 fa_68
  have bv_66 : (0 ≤ v_66.toInt ∧ v_66.toInt ≤ 8) := fa12_35 fa_68
  refine lv_istore_n (lv' := [(2, .int x_59), (0, .ref o0), (1, .int p1)]) hx hb dX12_forced_4 rfl hl (by decide) rfl (fun ls hl => ?_)
  refine lv_iload_n hx hb dX12_forced_5 rfl (lv_at hl 0 rfl) ?_
  refine lv_iconst (v := (-1)) hx hb dX12_forced_6 (by decide) ?_
  refine lv_icmp_eq (tgt := 26) hx hb dX12_forced_7 (by decide) (fun c_69 => ?_) (fun c_69 => ?_)
  · skip
    rw [← Int32.toInt_inj, ti_m1] at c_69
    refine lv_iconst (v := (-1)) hx hb dX12_forced_26 (by decide) ?_
    refine lv_goto (tgt := 41) hx hb dX12_forced_27 (by decide) ?_
    exact W.iret (v := (-1)) hx hb hr (fun t ht hW => ⟨⟨(-1), f_60, rfl, ⟨hG, (by decide), hfr0, hrA12, hfA12⟩, by rw [ht]; exact hP, va_K.moved hW.alike hK, pl_in hD⟩, hS.F ht⟩) hS.2.2 dX12_forced_41
  · skip
    rw [← Int32.toInt_inj, ti_m1] at c_69
    refine lv_aload_n hx hb dX12_forced_10 rfl (lv_at hl 1 rfl) ?_
    refine lv_iload_n hx hb dX12_forced_11 rfl (lv_at hl 2 rfl) ?_
    refine tk_ViP (As := [.int p1]) (rest := []) (n := 1) hx hb hml hown hU hN hZ (s_X12_isRule_k12 l (dC, dI) cI cL cZ cR cG cH Z kd L f_60 hG o0 mo0 ko0 p1) wd_1289 wd_1290 wd_1291 wd_5 wd_1292 (by decide +kernel) ⟨Nat.le_of_ble_eq_true rfl, Nat.le_of_ble_eq_true rfl⟩ hK hP hD hS mo0 hfo_67 12 rfl rfl rfl hl.1 rfl (Nat.le_of_ble_eq_true rfl) dX12_forced_12 ⟨Nat.le_of_ble_eq_true rfl, Nat.le_of_ble_eq_true rfl⟩ (fun x_70 f_71 H locs hw hP hD hS => ?_)
    obtain ⟨rfl, bx_70, relx_70⟩ := hw
    refine lv_if_eq (tgt := 26) hx hb dX12_forced_15 (by decide) (fun c_73 => ?_) (fun c_73 => ?_)
    · skip
      rw [← Int32.toInt_inj, ti_0] at c_73
      refine lv_iconst (v := (-1)) hx hb dX12_forced_26 (by decide) ?_
      refine lv_goto (tgt := 41) hx hb dX12_forced_27 (by decide) ?_
      exact W.iret (v := (-1)) hx hb hr (fun t ht hW => ⟨⟨(-1), f_60, rfl, ⟨hG, (by decide), hfr0, hrA12, hfA12⟩, by rw [ht]; exact hP, va_K.moved hW.alike hK, pl_in hD⟩, hS.F ht⟩) hS.2.2 dX12_forced_41
    · skip
      rw [← Int32.toInt_inj, ti_0] at c_73
      refine lv_iload_n hx hb dX12_forced_18 rfl (lv_at hl 0 rfl) ?_
      refine lv_iload_n hx hb dX12_forced_19 rfl (lv_at hl 2 rfl) ?_
      refine lv_ishr hx hb dX12_forced_20 ?_
      refine lv_topi (fun x_74 ex_74 => ?_)
      have bx_74 : ((-2147483648) ≤ x_74.toInt ∧ x_74.toInt ≤ 2147483647) := ⟨i32_lo _, i32_hi _⟩
      refine lv_iconst (v := 1) hx hb dX12_forced_21 (by decide) ?_
      refine lv_iand hx hb dX12_forced_22 ?_
      refine lv_topi (fun x_75 ex_75 => ?_)
      have bx_75 : (0 ≤ x_75.toInt ∧ x_75.toInt ≤ 1) := by rw [ex_75]; have h8 := an_C x_74 (m := 1) (by decide); rw [ti_1] at h8; exact h8
      refine lv_if_ne (tgt := 30) hx hb dX12_forced_23 (by decide) (fun c_76 => ?_) (fun c_76 => ?_)
      · skip
        rw [← Int32.toInt_inj, ti_0] at c_76
        refine lv_aload_n hx hb dX12_forced_30 rfl (lv_at hl 1 rfl) ?_
        refine lv_iload_n hx hb dX12_forced_31 rfl (lv_at hl 0 rfl) ?_
        refine lv_iconst (v := 1) hx hb dX12_forced_32 (by decide) ?_
        refine lv_iload_n hx hb dX12_forced_33 rfl (lv_at hl 2 rfl) ?_
        refine lv_ishl hx hb dX12_forced_34 ?_
        refine lv_topi (fun x_77 ex_77 => ?_)
        have bx_77 : (1 ≤ x_77.toInt ∧ x_77.toInt ≤ 128) := by rw [ex_77]; exact sh_7 (by constructor <;> omega)
        refine lv_iconst (v := (-1)) hx hb dX12_forced_35 (by decide) ?_
        refine lv_ixor hx hb dX12_forced_36 ?_
        refine lv_topi (fun x_78 ex_78 => ?_)
        have bx_78 : ((-2147483648) ≤ x_78.toInt ∧ x_78.toInt ≤ 2147483647) := ⟨i32_lo _, i32_hi _⟩
        refine lv_iand hx hb dX12_forced_37 ?_
        refine lv_topi (fun x_79 ex_79 => ?_)
        have bx_79 : ((-2147483648) ≤ x_79.toInt ∧ x_79.toInt ≤ 2147483647) := ⟨i32_lo _, i32_hi _⟩
        refine tk_ViP (As := [.int x_79]) (rest := []) (n := 1) hx hb hml hown hU hN hZ (s_X12_firstWrong_k12 l (dC, dI) cI cL cZ cR cG cH Z kd L f_60 hG o0 mo0 ko0 x_79) wd_1424 wd_1425 wd_1426 wd_5 wd_1427 (by decide +kernel) ⟨Nat.le_of_ble_eq_true rfl, Nat.le_of_ble_eq_true rfl⟩ hK hP hD hS mo0 hfo_67 12 rfl rfl rfl hl.1 rfl (Nat.le_of_ble_eq_true rfl) dX12_forced_38 ⟨Nat.le_of_ble_eq_true rfl, Nat.le_of_ble_eq_true rfl⟩ (fun x_80 f_81 H locs hw hP hD hS => ?_)
        obtain ⟨hG, bx_80, hkc_82, hra_83, hfa_84⟩ := hw
        have hfr0 : ∀ b, kd b ≠ 12 → kd b ≠ 579 → kd b ≠ 581 → kd b ≠ 583 → kd b ≠ 585 → kd b ≠ 587 → kd b ≠ 588 → kd b ≠ 589 → kd b ≠ 594 → f_81 b = f b := fun b q12 q579 q581 q583 q585 q587 q588 q589 q594 => (hkc_82 b q12 q579 q581 q583 q585 q587 q588 q589 q594).trans (hfr0 b q12 q579 q581 q583 q585 q587 q588 q589 q594)
        have hrA12 : ∀ b, kd b = 12 → ∀ j, fldR (f_81 b) j = fldR (f b) j := fun b kb j => (hra_83 b kb j).trans (hrA12 b kb j)
        have hfA12 : ∀ b, kd b = 12 → ∀ j, j ≠ 23 → j ≠ 35 → fldI (f_81 b) j = fldI (f b) j := fun b kb j n23 n35 => (hfa_84 b kb j n23 n35).trans (hfA12 b kb j n23 n35)
        obtain ⟨v_86, v_87, hfo_88, fa_89⟩ := op12_23_35 hfo_67 (hG _ mo0) ko0 (hra_83 o0 ko0) (hfa_84 o0 ko0)
        have bv_86 : (0 ≤ v_86.toInt ∧ v_86.toInt ≤ 12) := fa12_23 fa_89
        have bv_87 : (0 ≤ v_87.toInt ∧ v_87.toInt ≤ 8) := fa12_35 fa_89
        exact W.iret (v := x_80) hx hb hr (fun t ht hW => ⟨⟨x_80, f_81, rfl, ⟨hG, (by constructor <;> omega), hfr0, hrA12, hfA12⟩, by rw [ht]; exact hP, va_K.moved hW.alike hK, pl_in hD⟩, hS.F ht⟩) hS.2.2 dX12_forced_41
      · skip
        rw [← Int32.toInt_inj, ti_0] at c_76
        refine lv_iconst (v := (-1)) hx hb dX12_forced_26 (by decide) ?_
        refine lv_goto (tgt := 41) hx hb dX12_forced_27 (by decide) ?_
        exact W.iret (v := (-1)) hx hb hr (fun t ht hW => ⟨⟨(-1), f_60, rfl, ⟨hG, (by decide), hfr0, hrA12, hfA12⟩, by rw [ht]; exact hP, va_K.moved hW.alike hK, pl_in hD⟩, hS.F ht⟩) hS.2.2 dX12_forced_41
set_option maxHeartbeats 8000000 in
set_option maxRecDepth 100000 in
theorem s_X12_rule_k12 (l : Launch) (D : va_G) (cI cL cZ cR cG cH : ClassId) (Z : zT) (kd : Nat → Nat) (L : List Nat) (f : Nat → va_E) (hG : GI (okc cI cL cZ cR cG cH L kd) kd L f) (o0 : Nat) (mo0 : o0 ∈ L) (ko0 : kd o0 = 12) (p1 : Int32) (p2 : Int32) : mPI l D cI cL cZ cR cG cH Z yX12_rule cX12_rule 3 (some .int) 2 43 [.ref o0, .int p1, .int p2] L f (fun (r : Int32) (f9 : Nat → va_E) => f = f9 ∧ ((-2147483648) ≤ r.toInt ∧ r.toInt ≤ 2147483647)) := by
  obtain ⟨dC, dI⟩ := D
  refine Met.ofW (cc := cX12_rule) (maxL := 3) (ret := (some .int)) (by decide) rfl ?_
  intro p e s m args below meth c s₁ B hml hv
  obtain ⟨rfl, hP, hK, hD0, hN, hZ⟩ := hv
  have hx := B.exec
  have hb := B.bytes
  have hr := B.returns
  have hU : ∀ w ∈ wsU, w.before _ s = true := fun w h => atoms_spec (ws := wU yX12_rule cX12_rule 3 (some .int)) B.pre w (List.mem_cons_of_mem _ h)
  have hown : s.vm.findClass RX12 = some m.cls := findClass_of_methodNamed B.named
  have hlocks := B.notSynchronized
  have hD := pl_in hD0
  have hS : va_S (fun q => q ∈ L) s.heap s.heap [] := va_S.rf
  have hl := lv_entry ([.ref o0, .int p1, .int p2]) (n := 3) (Nat.le_of_ble_eq_true rfl)
  rw [lg_entry_eq]
  generalize (lg_sl ([.ref o0, .int p1, .int p2]) ++ List.replicate (3 - (lg_sl ([.ref o0, .int p1, .int p2])).length) Slot.unset).toArray = ls at hl ⊢
  have hl : lv_has ls 3 [(0, .ref o0), (1, .int p1), (2, .int p2)] := hl
  have bp1 : ((-2147483648) ≤ p1.toInt ∧ p1.toInt ≤ 2147483647) := ⟨i32_lo _, i32_hi _⟩
  have bp2 : ((-2147483648) ≤ p2.toInt ∧ p2.toInt ≤ 2147483647) := ⟨i32_lo _, i32_hi _⟩
  refine lv_aload_n hx hb dX12_rule_0 rfl (lv_at hl 0 rfl) ?_
  refine lv_iload_n hx hb dX12_rule_1 rfl (lv_at hl 1 rfl) ?_
  obtain ⟨a_1, a_2, a_3, v_4, a_5, v_6, v_7, v_8, v_9, v_10, v_11, v_12, v_13, v_14, v_15, a_16, a_17, a_18, a_19, a_20, a_21, a_22, a_23, v_24, v_25, v_26, v_27, v_28, a_29, v_30, a_31, a_32, v_33, v_34, a_35, v_36, a_37, a_38, v_39, v_40, a_41, a_42, a_43, v_44, a_45, a_46, a_47, a_48, a_49, a_50, a_51, a_52, a_53, v_54, v_55, a_56, hfo_57, fa_58⟩ := un12 (hG _ mo0) ko0
  obtain ⟨ma_1, ka_1⟩ := fa12_0 fa_58
  refine tk_ViP (As := [.int p1]) (rest := []) (n := 1) hx hb hml hown hU hN hZ (s_X12_isRule_k12 l (dC, dI) cI cL cZ cR cG cH Z kd L f hG o0 mo0 ko0 p1) wd_1289 wd_1290 wd_1291 wd_5 wd_1292 (by decide +kernel) ⟨Nat.le_of_ble_eq_true rfl, Nat.le_of_ble_eq_true rfl⟩ hK hP hD hS mo0 hfo_57 12 rfl rfl rfl hl.1 rfl (Nat.le_of_ble_eq_true rfl) dX12_rule_2 ⟨Nat.le_of_ble_eq_true rfl, Nat.le_of_ble_eq_true rfl⟩ (fun x_59 f_60 H locs hw hP hD hS => ?_)
  obtain ⟨rfl, bx_59, relx_59⟩ := hw
  refine lv_if_eq (tgt := 17) hx hb dX12_rule_5 (by decide) (fun c_62 => ?_) (fun c_62 => ?_)
  · skip
    rw [← Int32.toInt_inj, ti_0] at c_62
    refine lv_iconst (v := (-1)) hx hb dX12_rule_17 (by decide) ?_
    refine lv_goto (tgt := 46) hx hb dX12_rule_18 (by decide) ?_
    exact W.iret (v := (-1)) hx hb hr (fun t ht hW => ⟨⟨(-1), f, rfl, ⟨rfl, (by decide)⟩, by rw [ht]; exact hP, va_K.moved hW.alike hK, pl_in hD⟩, hS.F ht⟩) hS.2.2 dX12_rule_46
  · skip
    rw [← Int32.toInt_inj, ti_0] at c_62
    refine lv_iload_n hx hb dX12_rule_8 rfl (lv_at hl 2 rfl) ?_
    refine lv_iconst (v := 0) hx hb dX12_rule_9 (by decide) ?_
    refine lv_iconst (v := 4) hx hb dX12_rule_10 (by decide) ?_
    refine tk_SiP (As := [.int p2, .int 0, .int 4]) (rest := []) (n := 3) hx hb hml hown hU hN hZ (s_X12_isIn l (dC, dI) cI cL cZ cR cG cH Z kd L f hG p2 0 4) wd_227 wd_228 wd_5 wd_229 (by decide +kernel) ⟨Nat.le_of_ble_eq_true rfl, Nat.le_of_ble_eq_true rfl⟩ hK hP hD hS rfl hl.1 rfl (Nat.le_of_ble_eq_true rfl) dX12_rule_11 ⟨Nat.le_of_ble_eq_true rfl, Nat.le_of_ble_eq_true rfl⟩ (fun x_63 f_64 H locs hw hP hD hS => ?_)
    obtain ⟨rfl, bx_63, relx_63⟩ := hw
    try rw [ti_0] at relx_63
    try rw [ti_4] at relx_63
    refine lv_if_ne (tgt := 21) hx hb dX12_rule_14 (by decide) (fun c_66 => ?_) (fun c_66 => ?_)
    · skip
      rw [← Int32.toInt_inj, ti_0] at c_66
      refine lv_iload_n hx hb dX12_rule_21 rfl (lv_at hl 2 rfl) ?_
      refine lv_iconst (v := 4) hx hb dX12_rule_22 (by decide) ?_
      refine lv_icmp_ne (tgt := 40) hx hb dX12_rule_23 (by decide) (fun c_67 => ?_) (fun c_67 => ?_)
      · skip
        rw [← Int32.toInt_inj, ti_4] at c_67
        refine lv_aload_n hx hb dX12_rule_40 rfl (lv_at hl 0 rfl) ?_
        refine lv_iload_n hx hb dX12_rule_41 rfl (lv_at hl 1 rfl) ?_
        refine lv_iload_n hx hb dX12_rule_42 rfl (lv_at hl 2 rfl) ?_
        refine tk_ViP (As := [.int p1, .int p2]) (rest := []) (n := 2) hx hb hml hown hU hN hZ (s_X12_ofRule_k12 l (dC, dI) cI cL cZ cR cG cH Z kd L f hG o0 mo0 ko0 p1 (by constructor <;> omega) p2 (by constructor <;> omega)) wd_894 wd_895 wd_896 wd_5 wd_897 (by decide +kernel) ⟨Nat.le_of_ble_eq_true rfl, Nat.le_of_ble_eq_true rfl⟩ hK hP hD hS mo0 hfo_57 12 rfl rfl rfl hl.1 rfl (Nat.le_of_ble_eq_true rfl) dX12_rule_43 ⟨Nat.le_of_ble_eq_true rfl, Nat.le_of_ble_eq_true rfl⟩ (fun x_68 f_69 H locs hw hP hD hS => ?_)
        obtain ⟨rfl, bx_68⟩ := hw
        exact W.iret (v := x_68) hx hb hr (fun t ht hW => ⟨⟨x_68, f, rfl, ⟨rfl, (by constructor <;> omega)⟩, by rw [ht]; exact hP, va_K.moved hW.alike hK, pl_in hD⟩, hS.F ht⟩) hS.2.2 dX12_rule_46
      · skip
        rw [← Int32.toInt_inj, ti_4] at c_67
        refine lv_aload_n hx hb dX12_rule_26 rfl (lv_at hl 0 rfl) ?_
        refine tk_getP (D := (dC, dI)) (ci := 12) (v := .ref a_1) (C := RX12) (T := TX12) (N := 56) hx hb hU inlX12 hown hK hP mo0 hfo_57 rfl 0 (by decide) (hU _ wd_169) (fun _ h9 => h9) rfl dX12_rule_27 ?_
        refine lv_bipush (v := 40) hx hb dX12_rule_30 (by decide) ?_
        obtain ⟨g_72, hfo_71, hbg_72⟩ := un_575 (hG _ ma_1) ka_1
        refine tk_ildP hx hb hK hP 0 ma_1 hfo_71 rfl (vp_in_nI (n := 40) (by decide) (by decide)) dX12_rule_32 ?_
        refine lv_topi (fun x_73 ex_73 => ?_)
        have bx_73 : (0 ≤ x_73.toInt ∧ x_73.toInt ≤ 255) := by rw [ex_73]; exact hbg_72.2.2.2.2.2.2.1 _ (by decide) (by decide) (by decide)
        refine lv_iload_n hx hb dX12_rule_33 rfl (lv_at hl 1 rfl) ?_
        refine lv_ishr hx hb dX12_rule_34 ?_
        refine lv_topi (fun x_74 ex_74 => ?_)
        have bx_74 : ((-2147483648) ≤ x_74.toInt ∧ x_74.toInt ≤ 2147483647) := ⟨i32_lo _, i32_hi _⟩
        refine lv_iconst (v := 1) hx hb dX12_rule_35 (by decide) ?_
        refine lv_iand hx hb dX12_rule_36 ?_
        refine lv_topi (fun x_75 ex_75 => ?_)
        have bx_75 : (0 ≤ x_75.toInt ∧ x_75.toInt ≤ 1) := by rw [ex_75]; have h8 := an_C x_74 (m := 1) (by decide); rw [ti_1] at h8; exact h8
        refine lv_goto (tgt := 46) hx hb dX12_rule_37 (by decide) ?_
        exact W.iret (v := x_75) hx hb hr (fun t ht hW => ⟨⟨x_75, f, rfl, ⟨rfl, (by constructor <;> omega)⟩, by rw [ht]; exact hP, va_K.moved hW.alike hK, pl_in hD⟩, hS.F ht⟩) hS.2.2 dX12_rule_46
    · skip
      rw [← Int32.toInt_inj, ti_0] at c_66
      refine lv_iconst (v := (-1)) hx hb dX12_rule_17 (by decide) ?_
      refine lv_goto (tgt := 46) hx hb dX12_rule_18 (by decide) ?_
      exact W.iret (v := (-1)) hx hb hr (fun t ht hW => ⟨⟨(-1), f, rfl, ⟨rfl, (by decide)⟩, by rw [ht]; exact hP, va_K.moved hW.alike hK, pl_in hD⟩, hS.F ht⟩) hS.2.2 dX12_rule_46
set_option maxHeartbeats 8000000 in
set_option maxRecDepth 100000 in
theorem s_X12_image_k12 (l : Launch) (D : va_G) (cI cL cZ cR cG cH : ClassId) (Z : zT) (kd : Nat → Nat) (L : List Nat) (f : Nat → va_E) (hG : GI (okc cI cL cZ cR cG cH L kd) kd L f) (o0 : Nat) (mo0 : o0 ∈ L) (ko0 : kd o0 = 12) (p1 : Int32) (bp1 : (0 ≤ p1.toInt ∧ p1.toInt ≤ 1)) : mPI l D cI cL cZ cR cG cH Z yX12_image cX12_image 3 (some .boolean) 0 0 [.ref o0, .int p1] L f (fun (r : Int32) (f9 : Nat → va_E) => GI (okc cI cL cZ cR cG cH L kd) kd L f9 ∧ (0 ≤ r.toInt ∧ r.toInt ≤ 1) ∧ (∀ b, kd b ≠ 12 → kd b ≠ 575 → kd b ≠ 577 → f9 b = f b) ∧ (∀ b, kd b = 12 → ∀ j, fldR (f9 b) j = fldR (f b) j) ∧ (∀ b, kd b = 12 → ∀ j, j ≠ 3 → fldI (f9 b) j = fldI (f b) j) ∧ (∀ (w3 z3 : Int32), fldI (f o0) 3 = some w3 → fldI (f9 o0) 3 = some z3 → (1 ≤ p1.toInt ∧ r.toInt = 1 ∧ z3.toInt = 1) ∨ (p1.toInt = 0 ∧ r.toInt = w3.toInt ∧ z3.toInt = w3.toInt))) := by
  obtain ⟨dC, dI⟩ := D
  refine Met.ofW (cc := cX12_image) (maxL := 3) (ret := (some .boolean)) (by decide) rfl ?_
  intro p e s m args below meth c s₁ B hml hv
  obtain ⟨rfl, hP, hK, hD0, hN, hZ⟩ := hv
  have hx := B.exec
  have hb := B.bytes
  have hr := B.returns
  have hU : ∀ w ∈ wsU, w.before _ s = true := fun w h => atoms_spec (ws := wU yX12_image cX12_image 3 (some .boolean)) B.pre w (List.mem_cons_of_mem _ h)
  have hown : s.vm.findClass RX12 = some m.cls := findClass_of_methodNamed B.named
  have hlocks := B.notSynchronized
  have hD := pl_in hD0
  have hS : va_S (fun q => q ∈ L) s.heap s.heap [] := va_S.rf
  have hl := lv_entry ([.ref o0, .int p1]) (n := 3) (Nat.le_of_ble_eq_true rfl)
  rw [lg_entry_eq]
  generalize (lg_sl ([.ref o0, .int p1]) ++ List.replicate (3 - (lg_sl ([.ref o0, .int p1])).length) Slot.unset).toArray = ls at hl ⊢
  have hl : lv_has ls 3 [(0, .ref o0), (1, .int p1)] := hl
  have hfr0 : ∀ b, kd b ≠ 12 → kd b ≠ 575 → kd b ≠ 577 → f b = f b := fun _ _ _ _ => rfl
  have hrA12 : ∀ b, kd b = 12 → ∀ j, fldR (f b) j = fldR (f b) j := fun _ _ _ => rfl
  have hfA12 : ∀ b, kd b = 12 → ∀ j, j ≠ 3 → fldI (f b) j = fldI (f b) j := fun _ _ _ _ => rfl
  obtain ⟨a_1, a_2, a_3, v_4, a_5, v_6, v_7, v_8, v_9, v_10, v_11, v_12, v_13, v_14, v_15, a_16, a_17, a_18, a_19, a_20, a_21, a_22, a_23, v_24, v_25, v_26, v_27, v_28, a_29, v_30, a_31, a_32, v_33, v_34, a_35, v_36, a_37, a_38, v_39, v_40, a_41, a_42, a_43, v_44, a_45, a_46, a_47, a_48, a_49, a_50, a_51, a_52, a_53, v_54, v_55, a_56, hfo_57, fa_58⟩ := un12 (hG _ mo0) ko0
  obtain ⟨ma_1, ka_1⟩ := fa12_0 fa_58
  obtain ⟨ma_3, ka_3⟩ := fa12_2 fa_58
  have bv_4 : (0 ≤ v_4.toInt ∧ v_4.toInt ≤ 1) := fa12_3 fa_58
  refine lv_iload_n hx hb dX12_image_0 rfl (lv_at hl 1 rfl) ?_
  refine lv_if_ne (tgt := 13) hx hb dX12_image_1 (by decide) (fun c_59 => ?_) (fun c_59 => ?_)
  · skip
    rw [← Int32.toInt_inj, ti_0] at c_59
    refine lv_iconst (v := 0) hx hb dX12_image_13 (by decide) ?_
    refine lv_istore_n (lv' := [(2, .int 0), (0, .ref o0), (1, .int p1)]) hx hb dX12_image_14 rfl hl (by decide) rfl (fun ls hl => ?_)
    have hloop_75 : ∀ (n : Nat), ∀ (y_76 : Int32), (0 ≤ y_76.toInt ∧ y_76.toInt ≤ 1560) → ∀ (f_78 : Nat → va_E), GI (okc cI cL cZ cR cG cH L kd) kd L f_78 → ∀ (H : Heap) (locs : List Loc), va_P (dC, dI) vwCl (va_pl L f_78) H → va_S (fun q => q ∈ L) s.heap H locs → va_D (fun q => q ∈ L) (va_pl L f_78) → (∀ b, kd b ≠ 12 → kd b ≠ 575 → kd b ≠ 577 → f_78 b = f b) → (∀ b, kd b = 12 → ∀ j, fldR (f_78 b) j = fldR (f b) j) → (∀ b, kd b = 12 → ∀ j, j ≠ 3 → fldI (f_78 b) j = fldI (f b) j) → (f_78 o0 = .inr (12, [.ref a_1, .ref a_2, .ref a_3, .int v_4, .ref a_5, .int v_6, .int v_7, .int v_8, .int v_9, .int v_10, .int v_11, .int v_12, .int v_13, .int v_14, .int v_15, .ref a_16, .ref a_17, .ref a_18, .ref a_19, .ref a_20, .ref a_21, .ref a_22, .ref a_23, .int v_24, .int v_25, .int v_26, .int v_27, .int v_28, .ref a_29, .int v_30, .ref a_31, .ref a_32, .int v_33, .int v_34, .ref a_35, .int v_36, .ref a_37, .ref a_38, .int v_39, .int v_40, .ref a_41, .ref a_42, .ref a_43, .int v_44, .ref a_45, .ref a_46, .ref a_47, .ref a_48, .ref a_49, .ref a_50, .ref a_51, .ref a_52, .ref a_53, .int v_54, .int v_55, .ref a_56])) → 1560 - y_76.toInt < (n : Int) → ∀ (ls : Array Slot), lv_has ls 3 [(2, .int y_76), (0, .ref o0), (1, .int p1)] → W p l e (headSpec (wU yX12_image cX12_image 3 (some .boolean)) { frames := 0, cells := 0, slots := 0, locals := 0 }).room s m [.ref o0, .int p1].toArray below meth c H locs 0 0 (MQ below (va_Qi (fun (r : Int32) (f9 : Nat → va_E) => GI (okc cI cL cZ cR cG cH L kd) kd L f9 ∧ (0 ≤ r.toInt ∧ r.toInt ≤ 1) ∧ (∀ b, kd b ≠ 12 → kd b ≠ 575 → kd b ≠ 577 → f9 b = f b) ∧ (∀ b, kd b = 12 → ∀ j, fldR (f9 b) j = fldR (f b) j) ∧ (∀ b, kd b = 12 → ∀ j, j ≠ 3 → fldI (f9 b) j = fldI (f b) j) ∧ (∀ (w3 z3 : Int32), fldI (f o0) 3 = some w3 → fldI (f9 o0) 3 = some z3 → (1 ≤ p1.toInt ∧ r.toInt = 1 ∧ z3.toInt = 1) ∨ (p1.toInt = 0 ∧ r.toInt = w3.toInt ∧ z3.toInt = w3.toInt))) (qP (dC, dI) cI cL cZ cR cG cH L) (fun q => q ∈ L)) [.ref o0, .int p1].toArray s 0 0 (fun q => q ∈ L)) (F0 m 15 ls []) := by
      intro n
      induction n with
      | zero => intro y_76 by_76 f_78 hG H locs hP hS hD hfr0 hrA12 hfA12 hfo_79 hmuhloop_75 ls hl; exfalso; omega
      | succ n ih_hloop_75 =>
        intro y_76 by_76 f_78 hG H locs hP hS hD hfr0 hrA12 hfA12 hfo_79 hmuhloop_75 ls hl
        refine lv_iload_n hx hb dX12_image_15 rfl (lv_at hl 0 rfl) ?_
        refine lv_sipush (v := 1560) hx hb dX12_image_16 (by decide) ?_
        refine lv_icmp_ge (tgt := 59) hx hb dX12_image_19 (by decide) (fun c_80 => ?_) (fun c_80 => ?_)
        · skip
          rw [Int32.le_iff_toInt_le, ti_1560] at c_80
          refine lv_aload_n hx hb dX12_image_59 rfl (lv_at hl 1 rfl) ?_
          refine lv_iconst (v := 1) hx hb dX12_image_60 (by decide) ?_
          refine tk_putP (D := (dC, dI)) (ci := 12) (v := .int 1) (ty := .boolean) (C := RX12) (T := TX12) (N := 56) hx hb hU inlX12 tyX12 tyX12_ok nmX12 hown hK hP hD hS mo0 hfo_79 rfl 3 (by decide) (hU _ wd_1483) (fun _ h9 => h9) rfl (by decide +kernel) rfl rfl (Nat.le_of_ble_eq_true rfl) dX12_image_61 (fun H locs hP hD hS => ?_)
          have fa_81 := fu12_3 (y := 1) fa_58 (by decide)
          obtain ⟨f_83, ef_83⟩ : ∃ y : Nat → va_E, y = va_up f_78 o0 (.inr (12, [.ref a_1, .ref a_2, .ref a_3, .int 1, .ref a_5, .int v_6, .int v_7, .int v_8, .int v_9, .int v_10, .int v_11, .int v_12, .int v_13, .int v_14, .int v_15, .ref a_16, .ref a_17, .ref a_18, .ref a_19, .ref a_20, .ref a_21, .ref a_22, .ref a_23, .int v_24, .int v_25, .int v_26, .int v_27, .int v_28, .ref a_29, .int v_30, .ref a_31, .ref a_32, .int v_33, .int v_34, .ref a_35, .int v_36, .ref a_37, .ref a_38, .int v_39, .int v_40, .ref a_41, .ref a_42, .ref a_43, .int v_44, .ref a_45, .ref a_46, .ref a_47, .ref a_48, .ref a_49, .ref a_50, .ref a_51, .ref a_52, .ref a_53, .int v_54, .int v_55, .ref a_56])) := ⟨_, rfl⟩
          have hP : va_P (dC, dI) vwCl (va_pl L f_83) H := by rw [ef_83]; exact hP
          have hD : va_D (fun q => q ∈ L) (va_pl L f_83) := by rw [ef_83]; exact hD
          have hG : GI (okc cI cL cZ cR cG cH L kd) kd L f_83 := by rw [ef_83]; exact hG.set o0 (mk_12 ko0 (fo12 fa_81))
          have hfr0 : ∀ b, kd b ≠ 12 → kd b ≠ 575 → kd b ≠ 577 → f_83 b = f b := fun b q12 q575 q577 => (congrFun ef_83 b).trans ((up_ne (fun e9 => q12 (by rw [e9]; exact ko0))).trans (hfr0 b q12 q575 q577))
          have hrA12 : ∀ b, kd b = 12 → ∀ j, fldR (f_83 b) j = fldR (f b) j := fun b kb j => ((congrArg (fun x => fldR x j) (congrFun ef_83 b)).trans (fra_up (fun j => by rw [hfo_79]; exact fr_set (k := 3) rfl rfl) j b)).trans (hrA12 b kb j)
          have hfA12 : ∀ b, kd b = 12 → ∀ j, j ≠ 3 → fldI (f_83 b) j = fldI (f b) j := fun b kb j n3 => ((congrArg (fun x => fldI x j) (congrFun ef_83 b)).trans (fia_up (fun h9 => by rw [hfo_79]; exact fi_set (k := 3) rfl h9) n3 b)).trans (hfA12 b kb j n3)
          have hfo_84 : f_83 o0 = .inr (12, [.ref a_1, .ref a_2, .ref a_3, .int 1, .ref a_5, .int v_6, .int v_7, .int v_8, .int v_9, .int v_10, .int v_11, .int v_12, .int v_13, .int v_14, .int v_15, .ref a_16, .ref a_17, .ref a_18, .ref a_19, .ref a_20, .ref a_21, .ref a_22, .ref a_23, .int v_24, .int v_25, .int v_26, .int v_27, .int v_28, .ref a_29, .int v_30, .ref a_31, .ref a_32, .int v_33, .int v_34, .ref a_35, .int v_36, .ref a_37, .ref a_38, .int v_39, .int v_40, .ref a_41, .ref a_42, .ref a_43, .int v_44, .ref a_45, .ref a_46, .ref a_47, .ref a_48, .ref a_49, .ref a_50, .ref a_51, .ref a_52, .ref a_53, .int v_54, .int v_55, .ref a_56]) := by rw [ef_83]; exact up_self
          refine lv_iconst (v := 1) hx hb dX12_image_64 (by decide) ?_
          exact W.zret (v := 1) (ty := .boolean) hx hb hr rfl (fun t ht hW => ⟨⟨1, f_83, rfl, ⟨hG, (by decide), hfr0, hrA12, hfA12, (by intro w3 z3 e3 d3; rw [hfo_57] at e3; rw [hfo_84] at d3; obtain rfl := Option.some.inj e3; obtain rfl := Option.some.inj d3; (try rw [ti_1]) <;> omega)⟩, by rw [ht]; exact hP, va_K.moved hW.alike hK, pl_in hD⟩, hS.F ht⟩) hS.2.2 dX12_image_65
        · skip
          rw [Int32.le_iff_toInt_le, ti_1560] at c_80
          refine lv_iload_n hx hb dX12_image_22 rfl (lv_at hl 2 rfl) ?_
          refine lv_if_eq (tgt := 41) hx hb dX12_image_23 (by decide) (fun c_85 => ?_) (fun c_85 => ?_)
          · skip
            rw [← Int32.toInt_inj, ti_0] at c_85
            exfalso
            omega
          · skip
            rw [← Int32.toInt_inj, ti_0] at c_85
            refine lv_aload_n hx hb dX12_image_26 rfl (lv_at hl 1 rfl) ?_
            refine tk_getP (D := (dC, dI)) (ci := 12) (v := .ref a_3) (C := RX12) (T := TX12) (N := 56) hx hb hU inlX12 hown hK hP mo0 hfo_79 rfl 2 (by decide) (hU _ wd_171) (fun _ h9 => h9) rfl dX12_image_27 ?_
            refine lv_iload_n hx hb dX12_image_30 rfl (lv_at hl 0 rfl) ?_
            refine lv_aload_n hx hb dX12_image_31 rfl (lv_at hl 1 rfl) ?_
            refine tk_getP (D := (dC, dI)) (ci := 12) (v := .ref a_1) (C := RX12) (T := TX12) (N := 56) hx hb hU inlX12 hown hK hP mo0 hfo_79 rfl 0 (by decide) (hU _ wd_169) (fun _ h9 => h9) rfl dX12_image_32 ?_
            refine lv_iload_n hx hb dX12_image_35 rfl (lv_at hl 0 rfl) ?_
            obtain ⟨g_87, hfo_86, hbg_87⟩ := un_575 (hG _ ma_1) ka_1
            refine tk_ildP hx hb hK hP 0 ma_1 hfo_86 rfl (vp_in_iff.mpr (by constructor <;> omega)) dX12_image_36 ?_
            refine lv_topi (fun x_88 ex_88 => ?_)
            have bx_88 : ((-2147483648) ≤ x_88.toInt ∧ x_88.toInt ≤ 2147483647) := ⟨i32_lo _, i32_hi _⟩
            obtain ⟨g_90, hfo_89, hbg_90⟩ := un_577 (hG _ ma_3) ka_3
            refine tk_istP hx hb hK hP hD hS 0 ma_3 hfo_89 rfl (vp_in_iff.mpr (by constructor <;> omega)) dX12_image_37 (fun H locs hP hD hS => ?_)
            have hc9 := cl_I (i := y_76) (by omega)
            obtain ⟨f_92, ef_92⟩ : ∃ y : Nat → va_E, y = va_up f_78 a_3 (.inl (cI, 1560, .inl (upd g_90 (Int32.toNatClampNeg y_76) x_88))) := ⟨_, rfl⟩
            have hP : va_P (dC, dI) vwCl (va_pl L f_92) H := by rw [ef_92]; exact hP
            have hD : va_D (fun q => q ∈ L) (va_pl L f_92) := by rw [ef_92]; exact hD
            have hG : GI (okc cI cL cZ cR cG cH L kd) kd L f_92 := by rw [ef_92]; exact hG.set a_3 (mk_577 ka_3 ⟨_, rfl, hbg_90.1.up (fun h1 h2 h3 => by rw [ex_88]; exact hbg_87.1 _ h1 h2 h3), hbg_90.2.1.up (fun h1 h2 h3 => by rw [ex_88]; exact hbg_87.2.1 _ h1 h2 h3), hbg_90.2.2.1.up (fun h1 h2 h3 => by rw [ex_88]; exact hbg_87.2.2.1 _ h1 h2 h3), hbg_90.2.2.2.1.up (fun h1 h2 h3 => by rw [ex_88]; exact hbg_87.2.2.2.1 _ h1 h2 h3), hbg_90.2.2.2.2.1.up (fun h1 h2 h3 => by rw [ex_88]; exact hbg_87.2.2.2.2.1 _ h1 h2 h3), hbg_90.2.2.2.2.2.1.up (fun h1 h2 h3 => by rw [ex_88]; exact hbg_87.2.2.2.2.2.1 _ h1 h2 h3), hbg_90.2.2.2.2.2.2.1.up (fun h1 h2 h3 => by rw [ex_88]; exact hbg_87.2.2.2.2.2.2.1 _ h1 h2 h3), hbg_90.2.2.2.2.2.2.2.1.up (fun h1 h2 h3 => by rw [ex_88]; exact hbg_87.2.2.2.2.2.2.2.1 _ h1 h2 h3), hbg_90.2.2.2.2.2.2.2.2.1.up (fun h1 h2 h3 => by rw [ex_88]; exact hbg_87.2.2.2.2.2.2.2.2.1 _ h1 h2 h3), hbg_90.2.2.2.2.2.2.2.2.2.1.up (fun h1 h2 h3 => by rw [ex_88]; exact hbg_87.2.2.2.2.2.2.2.2.2.1 _ h1 h2 h3), hbg_90.2.2.2.2.2.2.2.2.2.2.1.up (fun h1 h2 h3 => by rw [ex_88]; exact hbg_87.2.2.2.2.2.2.2.2.2.2.1 _ h1 h2 h3), hbg_90.2.2.2.2.2.2.2.2.2.2.2.1.up (fun h1 h2 h3 => by rw [ex_88]; exact hbg_87.2.2.2.2.2.2.2.2.2.2.2.1 _ h1 h2 h3), hbg_90.2.2.2.2.2.2.2.2.2.2.2.2.1.up (fun h1 h2 h3 => by rw [ex_88]; exact hbg_87.2.2.2.2.2.2.2.2.2.2.2.2.1 _ h1 h2 h3), hbg_90.2.2.2.2.2.2.2.2.2.2.2.2.2.1.up (fun h1 h2 h3 => by rw [ex_88]; exact hbg_87.2.2.2.2.2.2.2.2.2.2.2.2.2.1 _ h1 h2 h3), hbg_90.2.2.2.2.2.2.2.2.2.2.2.2.2.2.1.up (fun h1 h2 h3 => by rw [ex_88]; exact hbg_87.2.2.2.2.2.2.2.2.2.2.2.2.2.2.1 _ h1 h2 h3), hbg_90.2.2.2.2.2.2.2.2.2.2.2.2.2.2.2.up (fun h1 h2 h3 => by rw [ex_88]; exact hbg_87.2.2.2.2.2.2.2.2.2.2.2.2.2.2.2 _ h1 h2 h3)⟩)
            have hfo_93 : f_92 o0 = .inr (12, [.ref a_1, .ref a_2, .ref a_3, .int v_4, .ref a_5, .int v_6, .int v_7, .int v_8, .int v_9, .int v_10, .int v_11, .int v_12, .int v_13, .int v_14, .int v_15, .ref a_16, .ref a_17, .ref a_18, .ref a_19, .ref a_20, .ref a_21, .ref a_22, .ref a_23, .int v_24, .int v_25, .int v_26, .int v_27, .int v_28, .ref a_29, .int v_30, .ref a_31, .ref a_32, .int v_33, .int v_34, .ref a_35, .int v_36, .ref a_37, .ref a_38, .int v_39, .int v_40, .ref a_41, .ref a_42, .ref a_43, .int v_44, .ref a_45, .ref a_46, .ref a_47, .ref a_48, .ref a_49, .ref a_50, .ref a_51, .ref a_52, .ref a_53, .int v_54, .int v_55, .ref a_56]) := by rw [ef_92, up_ne (kd_ne ka_3 ko0 (by decide))]; exact hfo_79
            have hfo_94 : f_92 a_1 = .inl (cI, 1560, .inl g_87) := by rw [ef_92, up_ne (kd_ne ka_3 ka_1 (by decide))]; exact hfo_86
            have hfr0 : ∀ b, kd b ≠ 12 → kd b ≠ 575 → kd b ≠ 577 → f_92 b = f b := fun b q12 q575 q577 => (congrFun ef_92 b).trans ((up_ne (fun e9 => q577 (by rw [e9]; exact ka_3))).trans (hfr0 b q12 q575 q577))
            have hrA12 : ∀ b, kd b = 12 → ∀ j, fldR (f_92 b) j = fldR (f b) j := fun b kb j => (congrArg (fun x => fldR x j) ((congrFun ef_92 b).trans (up_ne (kd_ne ka_3 kb (by decide))))).trans (hrA12 b kb j)
            have hfA12 : ∀ b, kd b = 12 → ∀ j, j ≠ 3 → fldI (f_92 b) j = fldI (f b) j := fun b kb j n3 => (congrArg (fun x => fldI x j) ((congrFun ef_92 b).trans (up_ne (kd_ne ka_3 kb (by decide))))).trans (hfA12 b kb j n3)
            have hfo_95 : f_92 a_3 = .inl (cI, 1560, .inl (upd g_90 (Int32.toNatClampNeg y_76) x_88)) := by rw [ef_92]; exact up_self
            refine lv_goto (tgt := 53) hx hb dX12_image_38 (by decide) ?_
            obtain ⟨x_96, ex_96⟩ : ∃ y : Int32, y_76 + 1 = y := ⟨_, rfl⟩
            have hx_96 : x_96.toInt = y_76.toInt + 1 := by rw [← ex_96, ad_I (by rw [ti_1]; omega) (by rw [ti_1]; omega), ti_1]
            have bx_96 : (1 ≤ x_96.toInt ∧ x_96.toInt ≤ 1560) := by constructor <;> omega
            refine lv_iinc (v := x_96) (lv' := [(2, .int x_96), (0, .ref o0), (1, .int p1)]) hx hb dX12_image_53 hl (k := 0) rfl ex_96 (by decide) rfl (fun ls hl => ?_)
            refine lv_goto (tgt := 15) hx hb dX12_image_56 (by decide) ?_
            exact ih_hloop_75 x_96 (by constructor <;> omega) f_92 hG _ _ hP hS hD hfr0 hrA12 hfA12 hfo_93 (by omega) ls (lv_sub hl [0, 1, 2] rfl)
    exact hloop_75 1561 0 (by decide) f hG _ _ hP hS hD hfr0 hrA12 hfA12 hfo_57 (by (try rw [ti_0]) <;> omega) ls hl
  · skip
    rw [← Int32.toInt_inj, ti_0] at c_59
    refine lv_aload_n hx hb dX12_image_4 rfl (lv_at hl 0 rfl) ?_
    refine tk_getP (D := (dC, dI)) (ci := 12) (v := .int v_4) (C := RX12) (T := TX12) (N := 56) hx hb hU inlX12 hown hK hP mo0 hfo_57 rfl 3 (by decide) (hU _ wd_1483) (fun _ h9 => h9) rfl dX12_image_5 ?_
    refine lv_if_ne (tgt := 13) hx hb dX12_image_8 (by decide) (fun c_97 => ?_) (fun c_97 => ?_)
    · skip
      rw [← Int32.toInt_inj, ti_0] at c_97
      refine lv_iconst (v := 0) hx hb dX12_image_13 (by decide) ?_
      refine lv_istore_n (lv' := [(2, .int 0), (0, .ref o0), (1, .int p1)]) hx hb dX12_image_14 rfl hl (by decide) rfl (fun ls hl => ?_)
      have hloop_113 : ∀ (n : Nat), ∀ (y_114 : Int32), (0 ≤ y_114.toInt ∧ y_114.toInt ≤ 1560) → ∀ (f_116 : Nat → va_E), GI (okc cI cL cZ cR cG cH L kd) kd L f_116 → ∀ (H : Heap) (locs : List Loc), va_P (dC, dI) vwCl (va_pl L f_116) H → va_S (fun q => q ∈ L) s.heap H locs → va_D (fun q => q ∈ L) (va_pl L f_116) → (∀ b, kd b ≠ 12 → kd b ≠ 575 → kd b ≠ 577 → f_116 b = f b) → (∀ b, kd b = 12 → ∀ j, fldR (f_116 b) j = fldR (f b) j) → (∀ b, kd b = 12 → ∀ j, j ≠ 3 → fldI (f_116 b) j = fldI (f b) j) → (f_116 o0 = .inr (12, [.ref a_1, .ref a_2, .ref a_3, .int v_4, .ref a_5, .int v_6, .int v_7, .int v_8, .int v_9, .int v_10, .int v_11, .int v_12, .int v_13, .int v_14, .int v_15, .ref a_16, .ref a_17, .ref a_18, .ref a_19, .ref a_20, .ref a_21, .ref a_22, .ref a_23, .int v_24, .int v_25, .int v_26, .int v_27, .int v_28, .ref a_29, .int v_30, .ref a_31, .ref a_32, .int v_33, .int v_34, .ref a_35, .int v_36, .ref a_37, .ref a_38, .int v_39, .int v_40, .ref a_41, .ref a_42, .ref a_43, .int v_44, .ref a_45, .ref a_46, .ref a_47, .ref a_48, .ref a_49, .ref a_50, .ref a_51, .ref a_52, .ref a_53, .int v_54, .int v_55, .ref a_56])) → 1560 - y_114.toInt < (n : Int) → ∀ (ls : Array Slot), lv_has ls 3 [(2, .int y_114), (0, .ref o0), (1, .int p1)] → W p l e (headSpec (wU yX12_image cX12_image 3 (some .boolean)) { frames := 0, cells := 0, slots := 0, locals := 0 }).room s m [.ref o0, .int p1].toArray below meth c H locs 0 0 (MQ below (va_Qi (fun (r : Int32) (f9 : Nat → va_E) => GI (okc cI cL cZ cR cG cH L kd) kd L f9 ∧ (0 ≤ r.toInt ∧ r.toInt ≤ 1) ∧ (∀ b, kd b ≠ 12 → kd b ≠ 575 → kd b ≠ 577 → f9 b = f b) ∧ (∀ b, kd b = 12 → ∀ j, fldR (f9 b) j = fldR (f b) j) ∧ (∀ b, kd b = 12 → ∀ j, j ≠ 3 → fldI (f9 b) j = fldI (f b) j) ∧ (∀ (w3 z3 : Int32), fldI (f o0) 3 = some w3 → fldI (f9 o0) 3 = some z3 → (1 ≤ p1.toInt ∧ r.toInt = 1 ∧ z3.toInt = 1) ∨ (p1.toInt = 0 ∧ r.toInt = w3.toInt ∧ z3.toInt = w3.toInt))) (qP (dC, dI) cI cL cZ cR cG cH L) (fun q => q ∈ L)) [.ref o0, .int p1].toArray s 0 0 (fun q => q ∈ L)) (F0 m 15 ls []) := by
        intro n
        induction n with
        | zero => intro y_114 by_114 f_116 hG H locs hP hS hD hfr0 hrA12 hfA12 hfo_117 hmuhloop_113 ls hl; exfalso; omega
        | succ n ih_hloop_113 =>
          intro y_114 by_114 f_116 hG H locs hP hS hD hfr0 hrA12 hfA12 hfo_117 hmuhloop_113 ls hl
          refine lv_iload_n hx hb dX12_image_15 rfl (lv_at hl 0 rfl) ?_
          refine lv_sipush (v := 1560) hx hb dX12_image_16 (by decide) ?_
          refine lv_icmp_ge (tgt := 59) hx hb dX12_image_19 (by decide) (fun c_118 => ?_) (fun c_118 => ?_)
          · skip
            rw [Int32.le_iff_toInt_le, ti_1560] at c_118
            refine lv_aload_n hx hb dX12_image_59 rfl (lv_at hl 1 rfl) ?_
            refine lv_iconst (v := 1) hx hb dX12_image_60 (by decide) ?_
            refine tk_putP (D := (dC, dI)) (ci := 12) (v := .int 1) (ty := .boolean) (C := RX12) (T := TX12) (N := 56) hx hb hU inlX12 tyX12 tyX12_ok nmX12 hown hK hP hD hS mo0 hfo_117 rfl 3 (by decide) (hU _ wd_1483) (fun _ h9 => h9) rfl (by decide +kernel) rfl rfl (Nat.le_of_ble_eq_true rfl) dX12_image_61 (fun H locs hP hD hS => ?_)
            have fa_119 := fu12_3 (y := 1) fa_58 (by decide)
            obtain ⟨f_121, ef_121⟩ : ∃ y : Nat → va_E, y = va_up f_116 o0 (.inr (12, [.ref a_1, .ref a_2, .ref a_3, .int 1, .ref a_5, .int v_6, .int v_7, .int v_8, .int v_9, .int v_10, .int v_11, .int v_12, .int v_13, .int v_14, .int v_15, .ref a_16, .ref a_17, .ref a_18, .ref a_19, .ref a_20, .ref a_21, .ref a_22, .ref a_23, .int v_24, .int v_25, .int v_26, .int v_27, .int v_28, .ref a_29, .int v_30, .ref a_31, .ref a_32, .int v_33, .int v_34, .ref a_35, .int v_36, .ref a_37, .ref a_38, .int v_39, .int v_40, .ref a_41, .ref a_42, .ref a_43, .int v_44, .ref a_45, .ref a_46, .ref a_47, .ref a_48, .ref a_49, .ref a_50, .ref a_51, .ref a_52, .ref a_53, .int v_54, .int v_55, .ref a_56])) := ⟨_, rfl⟩
            have hP : va_P (dC, dI) vwCl (va_pl L f_121) H := by rw [ef_121]; exact hP
            have hD : va_D (fun q => q ∈ L) (va_pl L f_121) := by rw [ef_121]; exact hD
            have hG : GI (okc cI cL cZ cR cG cH L kd) kd L f_121 := by rw [ef_121]; exact hG.set o0 (mk_12 ko0 (fo12 fa_119))
            have hfr0 : ∀ b, kd b ≠ 12 → kd b ≠ 575 → kd b ≠ 577 → f_121 b = f b := fun b q12 q575 q577 => (congrFun ef_121 b).trans ((up_ne (fun e9 => q12 (by rw [e9]; exact ko0))).trans (hfr0 b q12 q575 q577))
            have hrA12 : ∀ b, kd b = 12 → ∀ j, fldR (f_121 b) j = fldR (f b) j := fun b kb j => ((congrArg (fun x => fldR x j) (congrFun ef_121 b)).trans (fra_up (fun j => by rw [hfo_117]; exact fr_set (k := 3) rfl rfl) j b)).trans (hrA12 b kb j)
            have hfA12 : ∀ b, kd b = 12 → ∀ j, j ≠ 3 → fldI (f_121 b) j = fldI (f b) j := fun b kb j n3 => ((congrArg (fun x => fldI x j) (congrFun ef_121 b)).trans (fia_up (fun h9 => by rw [hfo_117]; exact fi_set (k := 3) rfl h9) n3 b)).trans (hfA12 b kb j n3)
            have hfo_122 : f_121 o0 = .inr (12, [.ref a_1, .ref a_2, .ref a_3, .int 1, .ref a_5, .int v_6, .int v_7, .int v_8, .int v_9, .int v_10, .int v_11, .int v_12, .int v_13, .int v_14, .int v_15, .ref a_16, .ref a_17, .ref a_18, .ref a_19, .ref a_20, .ref a_21, .ref a_22, .ref a_23, .int v_24, .int v_25, .int v_26, .int v_27, .int v_28, .ref a_29, .int v_30, .ref a_31, .ref a_32, .int v_33, .int v_34, .ref a_35, .int v_36, .ref a_37, .ref a_38, .int v_39, .int v_40, .ref a_41, .ref a_42, .ref a_43, .int v_44, .ref a_45, .ref a_46, .ref a_47, .ref a_48, .ref a_49, .ref a_50, .ref a_51, .ref a_52, .ref a_53, .int v_54, .int v_55, .ref a_56]) := by rw [ef_121]; exact up_self
            refine lv_iconst (v := 1) hx hb dX12_image_64 (by decide) ?_
            exact W.zret (v := 1) (ty := .boolean) hx hb hr rfl (fun t ht hW => ⟨⟨1, f_121, rfl, ⟨hG, (by decide), hfr0, hrA12, hfA12, (by intro w3 z3 e3 d3; rw [hfo_57] at e3; rw [hfo_122] at d3; obtain rfl := Option.some.inj e3; obtain rfl := Option.some.inj d3; (try rw [ti_1]) <;> omega)⟩, by rw [ht]; exact hP, va_K.moved hW.alike hK, pl_in hD⟩, hS.F ht⟩) hS.2.2 dX12_image_65
          · skip
            rw [Int32.le_iff_toInt_le, ti_1560] at c_118
            refine lv_iload_n hx hb dX12_image_22 rfl (lv_at hl 2 rfl) ?_
            refine lv_if_eq (tgt := 41) hx hb dX12_image_23 (by decide) (fun c_123 => ?_) (fun c_123 => ?_)
            · skip
              rw [← Int32.toInt_inj, ti_0] at c_123
              refine lv_aload_n hx hb dX12_image_41 rfl (lv_at hl 1 rfl) ?_
              refine tk_getP (D := (dC, dI)) (ci := 12) (v := .ref a_1) (C := RX12) (T := TX12) (N := 56) hx hb hU inlX12 hown hK hP mo0 hfo_117 rfl 0 (by decide) (hU _ wd_169) (fun _ h9 => h9) rfl dX12_image_42 ?_
              refine lv_iload_n hx hb dX12_image_45 rfl (lv_at hl 0 rfl) ?_
              refine lv_aload_n hx hb dX12_image_46 rfl (lv_at hl 1 rfl) ?_
              refine tk_getP (D := (dC, dI)) (ci := 12) (v := .ref a_3) (C := RX12) (T := TX12) (N := 56) hx hb hU inlX12 hown hK hP mo0 hfo_117 rfl 2 (by decide) (hU _ wd_171) (fun _ h9 => h9) rfl dX12_image_47 ?_
              refine lv_iload_n hx hb dX12_image_50 rfl (lv_at hl 0 rfl) ?_
              obtain ⟨g_125, hfo_124, hbg_125⟩ := un_577 (hG _ ma_3) ka_3
              refine tk_ildP hx hb hK hP 0 ma_3 hfo_124 rfl (vp_in_iff.mpr (by constructor <;> omega)) dX12_image_51 ?_
              refine lv_topi (fun x_126 ex_126 => ?_)
              have bx_126 : ((-2147483648) ≤ x_126.toInt ∧ x_126.toInt ≤ 2147483647) := ⟨i32_lo _, i32_hi _⟩
              obtain ⟨g_128, hfo_127, hbg_128⟩ := un_575 (hG _ ma_1) ka_1
              refine tk_istP hx hb hK hP hD hS 0 ma_1 hfo_127 rfl (vp_in_iff.mpr (by constructor <;> omega)) dX12_image_52 (fun H locs hP hD hS => ?_)
              have hc9 := cl_I (i := y_114) (by omega)
              obtain ⟨f_130, ef_130⟩ : ∃ y : Nat → va_E, y = va_up f_116 a_1 (.inl (cI, 1560, .inl (upd g_128 (Int32.toNatClampNeg y_114) x_126))) := ⟨_, rfl⟩
              have hP : va_P (dC, dI) vwCl (va_pl L f_130) H := by rw [ef_130]; exact hP
              have hD : va_D (fun q => q ∈ L) (va_pl L f_130) := by rw [ef_130]; exact hD
              have hG : GI (okc cI cL cZ cR cG cH L kd) kd L f_130 := by rw [ef_130]; exact hG.set a_1 (mk_575 ka_1 ⟨_, rfl, hbg_128.1.up (fun h1 h2 h3 => by rw [ex_126]; exact hbg_125.1 _ h1 h2 h3), hbg_128.2.1.up (fun h1 h2 h3 => by rw [ex_126]; exact hbg_125.2.1 _ h1 h2 h3), hbg_128.2.2.1.up (fun h1 h2 h3 => by rw [ex_126]; exact hbg_125.2.2.1 _ h1 h2 h3), hbg_128.2.2.2.1.up (fun h1 h2 h3 => by rw [ex_126]; exact hbg_125.2.2.2.1 _ h1 h2 h3), hbg_128.2.2.2.2.1.up (fun h1 h2 h3 => by rw [ex_126]; exact hbg_125.2.2.2.2.1 _ h1 h2 h3), hbg_128.2.2.2.2.2.1.up (fun h1 h2 h3 => by rw [ex_126]; exact hbg_125.2.2.2.2.2.1 _ h1 h2 h3), hbg_128.2.2.2.2.2.2.1.up (fun h1 h2 h3 => by rw [ex_126]; exact hbg_125.2.2.2.2.2.2.1 _ h1 h2 h3), hbg_128.2.2.2.2.2.2.2.1.up (fun h1 h2 h3 => by rw [ex_126]; exact hbg_125.2.2.2.2.2.2.2.1 _ h1 h2 h3), hbg_128.2.2.2.2.2.2.2.2.1.up (fun h1 h2 h3 => by rw [ex_126]; exact hbg_125.2.2.2.2.2.2.2.2.1 _ h1 h2 h3), hbg_128.2.2.2.2.2.2.2.2.2.1.up (fun h1 h2 h3 => by rw [ex_126]; exact hbg_125.2.2.2.2.2.2.2.2.2.1 _ h1 h2 h3), hbg_128.2.2.2.2.2.2.2.2.2.2.1.up (fun h1 h2 h3 => by rw [ex_126]; exact hbg_125.2.2.2.2.2.2.2.2.2.2.1 _ h1 h2 h3), hbg_128.2.2.2.2.2.2.2.2.2.2.2.1.up (fun h1 h2 h3 => by rw [ex_126]; exact hbg_125.2.2.2.2.2.2.2.2.2.2.2.1 _ h1 h2 h3), hbg_128.2.2.2.2.2.2.2.2.2.2.2.2.1.up (fun h1 h2 h3 => by rw [ex_126]; exact hbg_125.2.2.2.2.2.2.2.2.2.2.2.2.1 _ h1 h2 h3), hbg_128.2.2.2.2.2.2.2.2.2.2.2.2.2.1.up (fun h1 h2 h3 => by rw [ex_126]; exact hbg_125.2.2.2.2.2.2.2.2.2.2.2.2.2.1 _ h1 h2 h3), hbg_128.2.2.2.2.2.2.2.2.2.2.2.2.2.2.1.up (fun h1 h2 h3 => by rw [ex_126]; exact hbg_125.2.2.2.2.2.2.2.2.2.2.2.2.2.2.1 _ h1 h2 h3), hbg_128.2.2.2.2.2.2.2.2.2.2.2.2.2.2.2.up (fun h1 h2 h3 => by rw [ex_126]; exact hbg_125.2.2.2.2.2.2.2.2.2.2.2.2.2.2.2 _ h1 h2 h3)⟩)
              have hfo_131 : f_130 o0 = .inr (12, [.ref a_1, .ref a_2, .ref a_3, .int v_4, .ref a_5, .int v_6, .int v_7, .int v_8, .int v_9, .int v_10, .int v_11, .int v_12, .int v_13, .int v_14, .int v_15, .ref a_16, .ref a_17, .ref a_18, .ref a_19, .ref a_20, .ref a_21, .ref a_22, .ref a_23, .int v_24, .int v_25, .int v_26, .int v_27, .int v_28, .ref a_29, .int v_30, .ref a_31, .ref a_32, .int v_33, .int v_34, .ref a_35, .int v_36, .ref a_37, .ref a_38, .int v_39, .int v_40, .ref a_41, .ref a_42, .ref a_43, .int v_44, .ref a_45, .ref a_46, .ref a_47, .ref a_48, .ref a_49, .ref a_50, .ref a_51, .ref a_52, .ref a_53, .int v_54, .int v_55, .ref a_56]) := by rw [ef_130, up_ne (kd_ne ka_1 ko0 (by decide))]; exact hfo_117
              have hfo_132 : f_130 a_3 = .inl (cI, 1560, .inl g_125) := by rw [ef_130, up_ne (kd_ne ka_1 ka_3 (by decide))]; exact hfo_124
              have hfr0 : ∀ b, kd b ≠ 12 → kd b ≠ 575 → kd b ≠ 577 → f_130 b = f b := fun b q12 q575 q577 => (congrFun ef_130 b).trans ((up_ne (fun e9 => q575 (by rw [e9]; exact ka_1))).trans (hfr0 b q12 q575 q577))
              have hrA12 : ∀ b, kd b = 12 → ∀ j, fldR (f_130 b) j = fldR (f b) j := fun b kb j => (congrArg (fun x => fldR x j) ((congrFun ef_130 b).trans (up_ne (kd_ne ka_1 kb (by decide))))).trans (hrA12 b kb j)
              have hfA12 : ∀ b, kd b = 12 → ∀ j, j ≠ 3 → fldI (f_130 b) j = fldI (f b) j := fun b kb j n3 => (congrArg (fun x => fldI x j) ((congrFun ef_130 b).trans (up_ne (kd_ne ka_1 kb (by decide))))).trans (hfA12 b kb j n3)
              have hfo_133 : f_130 a_1 = .inl (cI, 1560, .inl (upd g_128 (Int32.toNatClampNeg y_114) x_126)) := by rw [ef_130]; exact up_self
              obtain ⟨x_134, ex_134⟩ : ∃ y : Int32, y_114 + 1 = y := ⟨_, rfl⟩
              have hx_134 : x_134.toInt = y_114.toInt + 1 := by rw [← ex_134, ad_I (by rw [ti_1]; omega) (by rw [ti_1]; omega), ti_1]
              have bx_134 : (1 ≤ x_134.toInt ∧ x_134.toInt ≤ 1560) := by constructor <;> omega
              refine lv_iinc (v := x_134) (lv' := [(2, .int x_134), (0, .ref o0), (1, .int p1)]) hx hb dX12_image_53 hl (k := 0) rfl ex_134 (by decide) rfl (fun ls hl => ?_)
              refine lv_goto (tgt := 15) hx hb dX12_image_56 (by decide) ?_
              exact ih_hloop_113 x_134 (by constructor <;> omega) f_130 hG _ _ hP hS hD hfr0 hrA12 hfA12 hfo_131 (by omega) ls (lv_sub hl [0, 1, 2] rfl)
            · skip
              rw [← Int32.toInt_inj, ti_0] at c_123
              exfalso
              omega
      exact hloop_113 1561 0 (by decide) f hG _ _ hP hS hD hfr0 hrA12 hfA12 hfo_57 (by (try rw [ti_0]) <;> omega) ls hl
    · skip
      rw [← Int32.toInt_inj, ti_0] at c_97
      refine lv_iconst (v := 0) hx hb dX12_image_11 (by decide) ?_
      exact W.zret (v := 0) (ty := .boolean) hx hb hr rfl (fun t ht hW => ⟨⟨0, f, rfl, ⟨hG, (by decide), hfr0, hrA12, hfA12, (by intro w3 z3 e3 d3; rw [hfo_57] at e3; rw [hfo_57] at d3; obtain rfl := Option.some.inj e3; obtain rfl := Option.some.inj d3; (try rw [ti_0]) <;> omega)⟩, by rw [ht]; exact hP, va_K.moved hW.alike hK, pl_in hD⟩, hS.F ht⟩) hS.2.2 dX12_image_12
set_option maxHeartbeats 8000000 in
set_option maxRecDepth 100000 in
theorem s_X12_look_k12 (l : Launch) (D : va_G) (cI cL cZ cR cG cH : ClassId) (Z : zT) (kd : Nat → Nat) (L : List Nat) (f : Nat → va_E) (hG : GI (okc cI cL cZ cR cG cH L kd) kd L f) (o0 : Nat) (mo0 : o0 ∈ L) (ko0 : kd o0 = 12) (p1 : Int32) : mPI l D cI cL cZ cR cG cH Z yX12_look cX12_look 2 (some .int) 1 22 [.ref o0, .int p1] L f (fun (r : Int32) (f9 : Nat → va_E) => f = f9 ∧ ((-2147483648) ≤ r.toInt ∧ r.toInt ≤ 2147483647)) := by
  obtain ⟨dC, dI⟩ := D
  refine Met.ofW (cc := cX12_look) (maxL := 2) (ret := (some .int)) (by decide) rfl ?_
  intro p e s m args below meth c s₁ B hml hv
  obtain ⟨rfl, hP, hK, hD0, hN, hZ⟩ := hv
  have hx := B.exec
  have hb := B.bytes
  have hr := B.returns
  have hU : ∀ w ∈ wsU, w.before _ s = true := fun w h => atoms_spec (ws := wU yX12_look cX12_look 2 (some .int)) B.pre w (List.mem_cons_of_mem _ h)
  have hown : s.vm.findClass RX12 = some m.cls := findClass_of_methodNamed B.named
  have hlocks := B.notSynchronized
  have hD := pl_in hD0
  have hS : va_S (fun q => q ∈ L) s.heap s.heap [] := va_S.rf
  have hl := lv_entry ([.ref o0, .int p1]) (n := 2) (Nat.le_of_ble_eq_true rfl)
  rw [lg_entry_eq]
  generalize (lg_sl ([.ref o0, .int p1]) ++ List.replicate (2 - (lg_sl ([.ref o0, .int p1])).length) Slot.unset).toArray = ls at hl ⊢
  have hl : lv_has ls 2 [(0, .ref o0), (1, .int p1)] := hl
  have bp1 : ((-2147483648) ≤ p1.toInt ∧ p1.toInt ≤ 2147483647) := ⟨i32_lo _, i32_hi _⟩
  refine lv_iload_n hx hb dX12_look_0 rfl (lv_at hl 1 rfl) ?_
  by_cases c_1 : p1 = 0
  · refine tk_topi (y := 0) c_1 ?_
    have tc_1 : p1.toInt = 0 := by rw [c_1]; rfl
    refine lv_tableIn (tgt := 48) hx hb dX12_look_1 (by decide) (by decide) rfl (by decide) ?_
    refine lv_aload_n hx hb dX12_look_48 rfl (lv_at hl 0 rfl) ?_
    obtain ⟨a_2, a_3, a_4, v_5, a_6, v_7, v_8, v_9, v_10, v_11, v_12, v_13, v_14, v_15, v_16, a_17, a_18, a_19, a_20, a_21, a_22, a_23, a_24, v_25, v_26, v_27, v_28, v_29, a_30, v_31, a_32, a_33, v_34, v_35, a_36, v_37, a_38, a_39, v_40, v_41, a_42, a_43, a_44, v_45, a_46, a_47, a_48, a_49, a_50, a_51, a_52, a_53, a_54, v_55, v_56, a_57, hfo_58, fa_59⟩ := un12 (hG _ mo0) ko0
    obtain ⟨ma_2, ka_2⟩ := fa12_0 fa_59
    refine tk_getP (D := (dC, dI)) (ci := 12) (v := .ref a_2) (C := RX12) (T := TX12) (N := 56) hx hb hU inlX12 hown hK hP mo0 hfo_58 rfl 0 (by decide) (hU _ wd_169) (fun _ h9 => h9) rfl dX12_look_49 ?_
    refine lv_iconst (v := 0) hx hb dX12_look_52 (by decide) ?_
    obtain ⟨g_61, hfo_60, hbg_61⟩ := un_575 (hG _ ma_2) ka_2
    refine tk_ildP hx hb hK hP 0 ma_2 hfo_60 rfl (vp_in_nI (n := 0) (by decide) (by decide)) dX12_look_53 ?_
    refine lv_topi (fun x_62 ex_62 => ?_)
    have bx_62 : (0 ≤ x_62.toInt ∧ x_62.toInt ≤ 8) := by rw [ex_62]; exact hbg_61.1 _ (by decide) (by decide) (by decide)
    exact W.iret (v := x_62) hx hb hr (fun t ht hW => ⟨⟨x_62, f, rfl, ⟨rfl, (by constructor <;> omega)⟩, by rw [ht]; exact hP, va_K.moved hW.alike hK, pl_in hD⟩, hS.F ht⟩) hS.2.2 dX12_look_54
  by_cases c_63 : p1 = 1
  · refine tk_topi (y := 1) c_63 ?_
    have tc_63 : p1.toInt = 1 := by rw [c_63]; rfl
    refine lv_tableIn (tgt := 55) hx hb dX12_look_1 (by decide) (by decide) rfl (by decide) ?_
    refine lv_aload_n hx hb dX12_look_55 rfl (lv_at hl 0 rfl) ?_
    obtain ⟨a_64, a_65, a_66, v_67, a_68, v_69, v_70, v_71, v_72, v_73, v_74, v_75, v_76, v_77, v_78, a_79, a_80, a_81, a_82, a_83, a_84, a_85, a_86, v_87, v_88, v_89, v_90, v_91, a_92, v_93, a_94, a_95, v_96, v_97, a_98, v_99, a_100, a_101, v_102, v_103, a_104, a_105, a_106, v_107, a_108, a_109, a_110, a_111, a_112, a_113, a_114, a_115, a_116, v_117, v_118, a_119, hfo_120, fa_121⟩ := un12 (hG _ mo0) ko0
    obtain ⟨ma_64, ka_64⟩ := fa12_0 fa_121
    refine tk_getP (D := (dC, dI)) (ci := 12) (v := .ref a_64) (C := RX12) (T := TX12) (N := 56) hx hb hU inlX12 hown hK hP mo0 hfo_120 rfl 0 (by decide) (hU _ wd_169) (fun _ h9 => h9) rfl dX12_look_56 ?_
    refine lv_bipush (v := 16) hx hb dX12_look_59 (by decide) ?_
    obtain ⟨g_123, hfo_122, hbg_123⟩ := un_575 (hG _ ma_64) ka_64
    refine tk_ildP hx hb hK hP 0 ma_64 hfo_122 rfl (vp_in_nI (n := 16) (by decide) (by decide)) dX12_look_61 ?_
    refine lv_topi (fun x_124 ex_124 => ?_)
    have bx_124 : (0 ≤ x_124.toInt ∧ x_124.toInt ≤ 20) := by rw [ex_124]; exact hbg_123.2.1 _ (by decide) (by decide) (by decide)
    exact W.iret (v := x_124) hx hb hr (fun t ht hW => ⟨⟨x_124, f, rfl, ⟨rfl, (by constructor <;> omega)⟩, by rw [ht]; exact hP, va_K.moved hW.alike hK, pl_in hD⟩, hS.F ht⟩) hS.2.2 dX12_look_62
  by_cases c_125 : p1 = 2
  · refine tk_topi (y := 2) c_125 ?_
    have tc_125 : p1.toInt = 2 := by rw [c_125]; rfl
    refine lv_tableIn (tgt := 63) hx hb dX12_look_1 (by decide) (by decide) rfl (by decide) ?_
    refine lv_aload_n hx hb dX12_look_63 rfl (lv_at hl 0 rfl) ?_
    obtain ⟨a_126, a_127, a_128, v_129, a_130, v_131, v_132, v_133, v_134, v_135, v_136, v_137, v_138, v_139, v_140, a_141, a_142, a_143, a_144, a_145, a_146, a_147, a_148, v_149, v_150, v_151, v_152, v_153, a_154, v_155, a_156, a_157, v_158, v_159, a_160, v_161, a_162, a_163, v_164, v_165, a_166, a_167, a_168, v_169, a_170, a_171, a_172, a_173, a_174, a_175, a_176, a_177, a_178, v_179, v_180, a_181, hfo_182, fa_183⟩ := un12 (hG _ mo0) ko0
    obtain ⟨ma_126, ka_126⟩ := fa12_0 fa_183
    refine tk_getP (D := (dC, dI)) (ci := 12) (v := .ref a_126) (C := RX12) (T := TX12) (N := 56) hx hb hU inlX12 hown hK hP mo0 hfo_182 rfl 0 (by decide) (hU _ wd_169) (fun _ h9 => h9) rfl dX12_look_64 ?_
    refine lv_bipush (v := 17) hx hb dX12_look_67 (by decide) ?_
    obtain ⟨g_185, hfo_184, hbg_185⟩ := un_575 (hG _ ma_126) ka_126
    refine tk_ildP hx hb hK hP 0 ma_126 hfo_184 rfl (vp_in_nI (n := 17) (by decide) (by decide)) dX12_look_69 ?_
    refine lv_topi (fun x_186 ex_186 => ?_)
    have bx_186 : (0 ≤ x_186.toInt ∧ x_186.toInt ≤ 8) := by rw [ex_186]; exact hbg_185.2.2.1 _ (by decide) (by decide) (by decide)
    exact W.iret (v := x_186) hx hb hr (fun t ht hW => ⟨⟨x_186, f, rfl, ⟨rfl, (by constructor <;> omega)⟩, by rw [ht]; exact hP, va_K.moved hW.alike hK, pl_in hD⟩, hS.F ht⟩) hS.2.2 dX12_look_70
  by_cases c_187 : p1 = 3
  · refine tk_topi (y := 3) c_187 ?_
    have tc_187 : p1.toInt = 3 := by rw [c_187]; rfl
    refine lv_tableIn (tgt := 71) hx hb dX12_look_1 (by decide) (by decide) rfl (by decide) ?_
    refine lv_aload_n hx hb dX12_look_71 rfl (lv_at hl 0 rfl) ?_
    obtain ⟨a_188, a_189, a_190, v_191, a_192, v_193, v_194, v_195, v_196, v_197, v_198, v_199, v_200, v_201, v_202, a_203, a_204, a_205, a_206, a_207, a_208, a_209, a_210, v_211, v_212, v_213, v_214, v_215, a_216, v_217, a_218, a_219, v_220, v_221, a_222, v_223, a_224, a_225, v_226, v_227, a_228, a_229, a_230, v_231, a_232, a_233, a_234, a_235, a_236, a_237, a_238, a_239, a_240, v_241, v_242, a_243, hfo_244, fa_245⟩ := un12 (hG _ mo0) ko0
    obtain ⟨ma_188, ka_188⟩ := fa12_0 fa_245
    refine tk_getP (D := (dC, dI)) (ci := 12) (v := .ref a_188) (C := RX12) (T := TX12) (N := 56) hx hb hU inlX12 hown hK hP mo0 hfo_244 rfl 0 (by decide) (hU _ wd_169) (fun _ h9 => h9) rfl dX12_look_72 ?_
    refine lv_bipush (v := 18) hx hb dX12_look_75 (by decide) ?_
    obtain ⟨g_247, hfo_246, hbg_247⟩ := un_575 (hG _ ma_188) ka_188
    refine tk_ildP hx hb hK hP 0 ma_188 hfo_246 rfl (vp_in_nI (n := 18) (by decide) (by decide)) dX12_look_77 ?_
    refine lv_topi (fun x_248 ex_248 => ?_)
    have bx_248 : (0 ≤ x_248.toInt ∧ x_248.toInt ≤ 12) := by rw [ex_248]; exact hbg_247.2.2.2.1 _ (by decide) (by decide) (by decide)
    exact W.iret (v := x_248) hx hb hr (fun t ht hW => ⟨⟨x_248, f, rfl, ⟨rfl, (by constructor <;> omega)⟩, by rw [ht]; exact hP, va_K.moved hW.alike hK, pl_in hD⟩, hS.F ht⟩) hS.2.2 dX12_look_78
  by_cases c_249 : p1 = 4
  · refine tk_topi (y := 4) c_249 ?_
    have tc_249 : p1.toInt = 4 := by rw [c_249]; rfl
    refine lv_tableIn (tgt := 79) hx hb dX12_look_1 (by decide) (by decide) rfl (by decide) ?_
    refine lv_aload_n hx hb dX12_look_79 rfl (lv_at hl 0 rfl) ?_
    obtain ⟨a_250, a_251, a_252, v_253, a_254, v_255, v_256, v_257, v_258, v_259, v_260, v_261, v_262, v_263, v_264, a_265, a_266, a_267, a_268, a_269, a_270, a_271, a_272, v_273, v_274, v_275, v_276, v_277, a_278, v_279, a_280, a_281, v_282, v_283, a_284, v_285, a_286, a_287, v_288, v_289, a_290, a_291, a_292, v_293, a_294, a_295, a_296, a_297, a_298, a_299, a_300, a_301, a_302, v_303, v_304, a_305, hfo_306, fa_307⟩ := un12 (hG _ mo0) ko0
    obtain ⟨ma_250, ka_250⟩ := fa12_0 fa_307
    refine tk_getP (D := (dC, dI)) (ci := 12) (v := .ref a_250) (C := RX12) (T := TX12) (N := 56) hx hb hU inlX12 hown hK hP mo0 hfo_306 rfl 0 (by decide) (hU _ wd_169) (fun _ h9 => h9) rfl dX12_look_80 ?_
    refine lv_bipush (v := 19) hx hb dX12_look_83 (by decide) ?_
    obtain ⟨g_309, hfo_308, hbg_309⟩ := un_575 (hG _ ma_250) ka_250
    refine tk_ildP hx hb hK hP 0 ma_250 hfo_308 rfl (vp_in_nI (n := 19) (by decide) (by decide)) dX12_look_85 ?_
    refine lv_topi (fun x_310 ex_310 => ?_)
    have bx_310 : (0 ≤ x_310.toInt ∧ x_310.toInt ≤ 8) := by rw [ex_310]; exact hbg_309.2.2.2.2.1 _ (by decide) (by decide) (by decide)
    exact W.iret (v := x_310) hx hb hr (fun t ht hW => ⟨⟨x_310, f, rfl, ⟨rfl, (by constructor <;> omega)⟩, by rw [ht]; exact hP, va_K.moved hW.alike hK, pl_in hD⟩, hS.F ht⟩) hS.2.2 dX12_look_86
  by_cases c_311 : p1 = 5
  · refine tk_topi (y := 5) c_311 ?_
    have tc_311 : p1.toInt = 5 := by rw [c_311]; rfl
    refine lv_tableIn (tgt := 87) hx hb dX12_look_1 (by decide) (by decide) rfl (by decide) ?_
    refine lv_aload_n hx hb dX12_look_87 rfl (lv_at hl 0 rfl) ?_
    obtain ⟨a_312, a_313, a_314, v_315, a_316, v_317, v_318, v_319, v_320, v_321, v_322, v_323, v_324, v_325, v_326, a_327, a_328, a_329, a_330, a_331, a_332, a_333, a_334, v_335, v_336, v_337, v_338, v_339, a_340, v_341, a_342, a_343, v_344, v_345, a_346, v_347, a_348, a_349, v_350, v_351, a_352, a_353, a_354, v_355, a_356, a_357, a_358, a_359, a_360, a_361, a_362, a_363, a_364, v_365, v_366, a_367, hfo_368, fa_369⟩ := un12 (hG _ mo0) ko0
    obtain ⟨ma_312, ka_312⟩ := fa12_0 fa_369
    refine tk_getP (D := (dC, dI)) (ci := 12) (v := .ref a_312) (C := RX12) (T := TX12) (N := 56) hx hb hU inlX12 hown hK hP mo0 hfo_368 rfl 0 (by decide) (hU _ wd_169) (fun _ h9 => h9) rfl dX12_look_88 ?_
    refine lv_bipush (v := 40) hx hb dX12_look_91 (by decide) ?_
    obtain ⟨g_371, hfo_370, hbg_371⟩ := un_575 (hG _ ma_312) ka_312
    refine tk_ildP hx hb hK hP 0 ma_312 hfo_370 rfl (vp_in_nI (n := 40) (by decide) (by decide)) dX12_look_93 ?_
    refine lv_topi (fun x_372 ex_372 => ?_)
    have bx_372 : (0 ≤ x_372.toInt ∧ x_372.toInt ≤ 255) := by rw [ex_372]; exact hbg_371.2.2.2.2.2.2.1 _ (by decide) (by decide) (by decide)
    exact W.iret (v := x_372) hx hb hr (fun t ht hW => ⟨⟨x_372, f, rfl, ⟨rfl, (by constructor <;> omega)⟩, by rw [ht]; exact hP, va_K.moved hW.alike hK, pl_in hD⟩, hS.F ht⟩) hS.2.2 dX12_look_94
  by_cases c_373 : p1 = 6
  · refine tk_topi (y := 6) c_373 ?_
    have tc_373 : p1.toInt = 6 := by rw [c_373]; rfl
    refine lv_tableIn (tgt := 95) hx hb dX12_look_1 (by decide) (by decide) rfl (by decide) ?_
    refine lv_aload_n hx hb dX12_look_95 rfl (lv_at hl 0 rfl) ?_
    obtain ⟨a_374, a_375, a_376, v_377, a_378, v_379, v_380, v_381, v_382, v_383, v_384, v_385, v_386, v_387, v_388, a_389, a_390, a_391, a_392, a_393, a_394, a_395, a_396, v_397, v_398, v_399, v_400, v_401, a_402, v_403, a_404, a_405, v_406, v_407, a_408, v_409, a_410, a_411, v_412, v_413, a_414, a_415, a_416, v_417, a_418, a_419, a_420, a_421, a_422, a_423, a_424, a_425, a_426, v_427, v_428, a_429, hfo_430, fa_431⟩ := un12 (hG _ mo0) ko0
    obtain ⟨ma_374, ka_374⟩ := fa12_0 fa_431
    refine tk_getP (D := (dC, dI)) (ci := 12) (v := .ref a_374) (C := RX12) (T := TX12) (N := 56) hx hb hU inlX12 hown hK hP mo0 hfo_430 rfl 0 (by decide) (hU _ wd_169) (fun _ h9 => h9) rfl dX12_look_96 ?_
    refine lv_bipush (v := 41) hx hb dX12_look_99 (by decide) ?_
    obtain ⟨g_433, hfo_432, hbg_433⟩ := un_575 (hG _ ma_374) ka_374
    refine tk_ildP hx hb hK hP 0 ma_374 hfo_432 rfl (vp_in_nI (n := 41) (by decide) (by decide)) dX12_look_101 ?_
    refine lv_topi (fun x_434 ex_434 => ?_)
    have bx_434 : (0 ≤ x_434.toInt ∧ x_434.toInt ≤ 1) := by rw [ex_434]; exact hbg_433.2.2.2.2.2.2.2.1 _ (by decide) (by decide) (by decide)
    exact W.iret (v := x_434) hx hb hr (fun t ht hW => ⟨⟨x_434, f, rfl, ⟨rfl, (by constructor <;> omega)⟩, by rw [ht]; exact hP, va_K.moved hW.alike hK, pl_in hD⟩, hS.F ht⟩) hS.2.2 dX12_look_102
  by_cases c_435 : p1 = 7
  · refine tk_topi (y := 7) c_435 ?_
    have tc_435 : p1.toInt = 7 := by rw [c_435]; rfl
    refine lv_tableIn (tgt := 103) hx hb dX12_look_1 (by decide) (by decide) rfl (by decide) ?_
    refine lv_aload_n hx hb dX12_look_103 rfl (lv_at hl 0 rfl) ?_
    obtain ⟨a_436, a_437, a_438, v_439, a_440, v_441, v_442, v_443, v_444, v_445, v_446, v_447, v_448, v_449, v_450, a_451, a_452, a_453, a_454, a_455, a_456, a_457, a_458, v_459, v_460, v_461, v_462, v_463, a_464, v_465, a_466, a_467, v_468, v_469, a_470, v_471, a_472, a_473, v_474, v_475, a_476, a_477, a_478, v_479, a_480, a_481, a_482, a_483, a_484, a_485, a_486, a_487, a_488, v_489, v_490, a_491, hfo_492, fa_493⟩ := un12 (hG _ mo0) ko0
    obtain ⟨ma_436, ka_436⟩ := fa12_0 fa_493
    refine tk_getP (D := (dC, dI)) (ci := 12) (v := .ref a_436) (C := RX12) (T := TX12) (N := 56) hx hb hU inlX12 hown hK hP mo0 hfo_492 rfl 0 (by decide) (hU _ wd_169) (fun _ h9 => h9) rfl dX12_look_104 ?_
    refine lv_bipush (v := 42) hx hb dX12_look_107 (by decide) ?_
    obtain ⟨g_495, hfo_494, hbg_495⟩ := un_575 (hG _ ma_436) ka_436
    refine tk_ildP hx hb hK hP 0 ma_436 hfo_494 rfl (vp_in_nI (n := 42) (by decide) (by decide)) dX12_look_109 ?_
    refine lv_topi (fun x_496 ex_496 => ?_)
    have bx_496 : (0 ≤ x_496.toInt ∧ x_496.toInt ≤ 12) := by rw [ex_496]; exact hbg_495.2.2.2.2.2.2.2.2.1 _ (by decide) (by decide) (by decide)
    exact W.iret (v := x_496) hx hb hr (fun t ht hW => ⟨⟨x_496, f, rfl, ⟨rfl, (by constructor <;> omega)⟩, by rw [ht]; exact hP, va_K.moved hW.alike hK, pl_in hD⟩, hS.F ht⟩) hS.2.2 dX12_look_110
  rw [← Int32.toInt_inj, ti_0] at c_1
  rw [← Int32.toInt_inj, ti_1] at c_63
  rw [← Int32.toInt_inj, ti_2] at c_125
  rw [← Int32.toInt_inj, ti_3] at c_187
  rw [← Int32.toInt_inj, ti_4] at c_249
  rw [← Int32.toInt_inj, ti_5] at c_311
  rw [← Int32.toInt_inj, ti_6] at c_373
  rw [← Int32.toInt_inj, ti_7] at c_435
  refine lv_tableOut (tgt := 111) hx hb dX12_look_1 (by omega) (by decide) ?_
  refine lv_iload_n hx hb dX12_look_111 rfl (lv_at hl 1 rfl) ?_
  refine lv_bipush (v := 10) hx hb dX12_look_112 (by decide) ?_
  refine lv_bipush (v := 15) hx hb dX12_look_114 (by decide) ?_
  refine tk_SiP (As := [.int p1, .int 10, .int 15]) (rest := []) (n := 3) hx hb hml hown hU hN hZ (s_X12_isIn l (dC, dI) cI cL cZ cR cG cH Z kd L f hG p1 10 15) wd_227 wd_228 wd_5 wd_229 (by decide +kernel) ⟨Nat.le_of_ble_eq_true rfl, Nat.le_of_ble_eq_true rfl⟩ hK hP hD hS rfl hl.1 rfl (Nat.le_of_ble_eq_true rfl) dX12_look_116 ⟨Nat.le_of_ble_eq_true rfl, Nat.le_of_ble_eq_true rfl⟩ (fun x_497 f_498 H locs hw hP hD hS => ?_)
  obtain ⟨rfl, bx_497, relx_497⟩ := hw
  try rw [ti_10] at relx_497
  try rw [ti_15] at relx_497
  refine lv_if_eq (tgt := 138) hx hb dX12_look_119 (by decide) (fun c_500 => ?_) (fun c_500 => ?_)
  · skip
    rw [← Int32.toInt_inj, ti_0] at c_500
    refine lv_iload_n hx hb dX12_look_138 rfl (lv_at hl 1 rfl) ?_
    refine lv_bipush (v := 20) hx hb dX12_look_139 (by decide) ?_
    refine lv_bipush (v := 19) hx hb dX12_look_141 (by decide) ?_
    refine lv_aload_n hx hb dX12_look_143 rfl (lv_at hl 0 rfl) ?_
    obtain ⟨a_501, a_502, a_503, v_504, a_505, v_506, v_507, v_508, v_509, v_510, v_511, v_512, v_513, v_514, v_515, a_516, a_517, a_518, a_519, a_520, a_521, a_522, a_523, v_524, v_525, v_526, v_527, v_528, a_529, v_530, a_531, a_532, v_533, v_534, a_535, v_536, a_537, a_538, v_539, v_540, a_541, a_542, a_543, v_544, a_545, a_546, a_547, a_548, a_549, a_550, a_551, a_552, a_553, v_554, v_555, a_556, hfo_557, fa_558⟩ := un12 (hG _ mo0) ko0
    obtain ⟨ma_501, ka_501⟩ := fa12_0 fa_558
    refine tk_getP (D := (dC, dI)) (ci := 12) (v := .ref a_501) (C := RX12) (T := TX12) (N := 56) hx hb hU inlX12 hown hK hP mo0 hfo_557 rfl 0 (by decide) (hU _ wd_169) (fun _ h9 => h9) rfl dX12_look_144 ?_
    refine lv_bipush (v := 18) hx hb dX12_look_147 (by decide) ?_
    obtain ⟨g_560, hfo_559, hbg_560⟩ := un_575 (hG _ ma_501) ka_501
    refine tk_ildP hx hb hK hP 0 ma_501 hfo_559 rfl (vp_in_nI (n := 18) (by decide) (by decide)) dX12_look_149 ?_
    refine lv_topi (fun x_561 ex_561 => ?_)
    have bx_561 : (0 ≤ x_561.toInt ∧ x_561.toInt ≤ 12) := by rw [ex_561]; exact hbg_560.2.2.2.1 _ (by decide) (by decide) (by decide)
    refine lv_iadd hx hb dX12_look_150 ?_
    refine lv_topi (fun x_562 ex_562 => ?_)
    have hx_562 : x_562.toInt = 19 + x_561.toInt := by rw [ex_562, ad_I (by rw [ti_19]; omega) (by rw [ti_19]; omega), ti_19]
    have bx_562 : (19 ≤ x_562.toInt ∧ x_562.toInt ≤ 31) := by constructor <;> omega
    refine tk_SiP (As := [.int p1, .int 20, .int x_562]) (rest := []) (n := 3) hx hb hml hown hU hN hZ (s_X12_isIn l (dC, dI) cI cL cZ cR cG cH Z kd L f hG p1 20 x_562) wd_227 wd_228 wd_5 wd_229 (by decide +kernel) ⟨Nat.le_of_ble_eq_true rfl, Nat.le_of_ble_eq_true rfl⟩ hK hP hD hS rfl hl.1 rfl (Nat.le_of_ble_eq_true rfl) dX12_look_151 ⟨Nat.le_of_ble_eq_true rfl, Nat.le_of_ble_eq_true rfl⟩ (fun x_563 f_564 H locs hw hP hD hS => ?_)
    obtain ⟨rfl, bx_563, relx_563⟩ := hw
    try rw [ti_20] at relx_563
    refine lv_if_eq (tgt := 173) hx hb dX12_look_154 (by decide) (fun c_566 => ?_) (fun c_566 => ?_)
    · skip
      rw [← Int32.toInt_inj, ti_0] at c_566
      refine lv_iload_n hx hb dX12_look_173 rfl (lv_at hl 1 rfl) ?_
      refine lv_bipush (v := 40) hx hb dX12_look_174 (by decide) ?_
      refine lv_bipush (v := 39) hx hb dX12_look_176 (by decide) ?_
      refine lv_aload_n hx hb dX12_look_178 rfl (lv_at hl 0 rfl) ?_
      refine tk_getP (D := (dC, dI)) (ci := 12) (v := .ref a_501) (C := RX12) (T := TX12) (N := 56) hx hb hU inlX12 hown hK hP mo0 hfo_557 rfl 0 (by decide) (hU _ wd_169) (fun _ h9 => h9) rfl dX12_look_179 ?_
      refine lv_bipush (v := 19) hx hb dX12_look_182 (by decide) ?_
      refine tk_ildP hx hb hK hP 0 ma_501 hfo_559 rfl (vp_in_nI (n := 19) (by decide) (by decide)) dX12_look_184 ?_
      refine lv_topi (fun x_567 ex_567 => ?_)
      have bx_567 : (0 ≤ x_567.toInt ∧ x_567.toInt ≤ 8) := by rw [ex_567]; exact hbg_560.2.2.2.2.1 _ (by decide) (by decide) (by decide)
      refine lv_iadd hx hb dX12_look_185 ?_
      refine lv_topi (fun x_568 ex_568 => ?_)
      have hx_568 : x_568.toInt = 39 + x_567.toInt := by rw [ex_568, ad_I (by rw [ti_39]; omega) (by rw [ti_39]; omega), ti_39]
      have bx_568 : (39 ≤ x_568.toInt ∧ x_568.toInt ≤ 47) := by constructor <;> omega
      refine tk_SiP (As := [.int p1, .int 40, .int x_568]) (rest := []) (n := 3) hx hb hml hown hU hN hZ (s_X12_isIn l (dC, dI) cI cL cZ cR cG cH Z kd L f hG p1 40 x_568) wd_227 wd_228 wd_5 wd_229 (by decide +kernel) ⟨Nat.le_of_ble_eq_true rfl, Nat.le_of_ble_eq_true rfl⟩ hK hP hD hS rfl hl.1 rfl (Nat.le_of_ble_eq_true rfl) dX12_look_186 ⟨Nat.le_of_ble_eq_true rfl, Nat.le_of_ble_eq_true rfl⟩ (fun x_569 f_570 H locs hw hP hD hS => ?_)
      obtain ⟨rfl, bx_569, relx_569⟩ := hw
      try rw [ti_40] at relx_569
      refine lv_if_eq (tgt := 209) hx hb dX12_look_189 (by decide) (fun c_572 => ?_) (fun c_572 => ?_)
      · skip
        rw [← Int32.toInt_inj, ti_0] at c_572
        refine lv_iload_n hx hb dX12_look_209 rfl (lv_at hl 1 rfl) ?_
        refine lv_bipush (v := 50) hx hb dX12_look_210 (by decide) ?_
        refine lv_bipush (v := 49) hx hb dX12_look_212 (by decide) ?_
        refine lv_aload_n hx hb dX12_look_214 rfl (lv_at hl 0 rfl) ?_
        refine tk_getP (D := (dC, dI)) (ci := 12) (v := .ref a_501) (C := RX12) (T := TX12) (N := 56) hx hb hU inlX12 hown hK hP mo0 hfo_557 rfl 0 (by decide) (hU _ wd_169) (fun _ h9 => h9) rfl dX12_look_215 ?_
        refine lv_bipush (v := 17) hx hb dX12_look_218 (by decide) ?_
        refine tk_ildP hx hb hK hP 0 ma_501 hfo_559 rfl (vp_in_nI (n := 17) (by decide) (by decide)) dX12_look_220 ?_
        refine lv_topi (fun x_573 ex_573 => ?_)
        have bx_573 : (0 ≤ x_573.toInt ∧ x_573.toInt ≤ 8) := by rw [ex_573]; exact hbg_560.2.2.1 _ (by decide) (by decide) (by decide)
        refine lv_iadd hx hb dX12_look_221 ?_
        refine lv_topi (fun x_574 ex_574 => ?_)
        have hx_574 : x_574.toInt = 49 + x_573.toInt := by rw [ex_574, ad_I (by rw [ti_49]; omega) (by rw [ti_49]; omega), ti_49]
        have bx_574 : (49 ≤ x_574.toInt ∧ x_574.toInt ≤ 57) := by constructor <;> omega
        refine tk_SiP (As := [.int p1, .int 50, .int x_574]) (rest := []) (n := 3) hx hb hml hown hU hN hZ (s_X12_isIn l (dC, dI) cI cL cZ cR cG cH Z kd L f hG p1 50 x_574) wd_227 wd_228 wd_5 wd_229 (by decide +kernel) ⟨Nat.le_of_ble_eq_true rfl, Nat.le_of_ble_eq_true rfl⟩ hK hP hD hS rfl hl.1 rfl (Nat.le_of_ble_eq_true rfl) dX12_look_222 ⟨Nat.le_of_ble_eq_true rfl, Nat.le_of_ble_eq_true rfl⟩ (fun x_575 f_576 H locs hw hP hD hS => ?_)
        obtain ⟨rfl, bx_575, relx_575⟩ := hw
        try rw [ti_50] at relx_575
        refine lv_if_eq (tgt := 243) hx hb dX12_look_225 (by decide) (fun c_578 => ?_) (fun c_578 => ?_)
        · skip
          rw [← Int32.toInt_inj, ti_0] at c_578
          refine lv_iconst (v := (-1)) hx hb dX12_look_243 (by decide) ?_
          exact W.iret (v := (-1)) hx hb hr (fun t ht hW => ⟨⟨(-1), f, rfl, ⟨rfl, (by decide)⟩, by rw [ht]; exact hP, va_K.moved hW.alike hK, pl_in hD⟩, hS.F ht⟩) hS.2.2 dX12_look_244
        · skip
          rw [← Int32.toInt_inj, ti_0] at c_578
          refine lv_aload_n hx hb dX12_look_228 rfl (lv_at hl 0 rfl) ?_
          refine tk_getP (D := (dC, dI)) (ci := 12) (v := .ref a_501) (C := RX12) (T := TX12) (N := 56) hx hb hU inlX12 hown hK hP mo0 hfo_557 rfl 0 (by decide) (hU _ wd_169) (fun _ h9 => h9) rfl dX12_look_229 ?_
          refine lv_bipush (v := 43) hx hb dX12_look_232 (by decide) ?_
          refine lv_iload_n hx hb dX12_look_234 rfl (lv_at hl 1 rfl) ?_
          refine lv_iadd hx hb dX12_look_235 ?_
          refine lv_topi (fun x_579 ex_579 => ?_)
          have hx_579 : x_579.toInt = 43 + p1.toInt := by rw [ex_579, ad_I (by rw [ti_43]; omega) (by rw [ti_43]; omega), ti_43]
          have bx_579 : (93 ≤ x_579.toInt ∧ x_579.toInt ≤ 100) := by constructor <;> omega
          refine lv_bipush (v := 50) hx hb dX12_look_236 (by decide) ?_
          refine lv_isub hx hb dX12_look_238 ?_
          refine lv_topi (fun x_580 ex_580 => ?_)
          have hx_580 : x_580.toInt = x_579.toInt - 50 := by rw [ex_580, sb_I (by rw [ti_50]; omega) (by rw [ti_50]; omega), ti_50]
          have bx_580 : (43 ≤ x_580.toInt ∧ x_580.toInt ≤ 50) := by constructor <;> omega
          refine tk_ildP hx hb hK hP 0 ma_501 hfo_559 rfl (vp_in_iff.mpr (by constructor <;> omega)) dX12_look_239 ?_
          refine lv_topi (fun x_581 ex_581 => ?_)
          have bx_581 : (0 ≤ x_581.toInt ∧ x_581.toInt ≤ 7) := by have hc9 := cl_I (i := x_580) (by omega); rw [ex_581]; exact hbg_560.2.2.2.2.2.2.2.2.2.1 _ (by omega) (by omega) (by omega)
          refine lv_goto (tgt := 244) hx hb dX12_look_240 (by decide) ?_
          exact W.iret (v := x_581) hx hb hr (fun t ht hW => ⟨⟨x_581, f, rfl, ⟨rfl, (by constructor <;> omega)⟩, by rw [ht]; exact hP, va_K.moved hW.alike hK, pl_in hD⟩, hS.F ht⟩) hS.2.2 dX12_look_244
      · skip
        rw [← Int32.toInt_inj, ti_0] at c_572
        refine lv_aload_n hx hb dX12_look_192 rfl (lv_at hl 0 rfl) ?_
        refine tk_getP (D := (dC, dI)) (ci := 12) (v := .ref a_501) (C := RX12) (T := TX12) (N := 56) hx hb hU inlX12 hown hK hP mo0 hfo_557 rfl 0 (by decide) (hU _ wd_169) (fun _ h9 => h9) rfl dX12_look_193 ?_
        refine lv_sipush (v := 156) hx hb dX12_look_196 (by decide) ?_
        refine lv_bipush (v := 8) hx hb dX12_look_199 (by decide) ?_
        refine lv_iload_n hx hb dX12_look_201 rfl (lv_at hl 1 rfl) ?_
        refine lv_bipush (v := 40) hx hb dX12_look_202 (by decide) ?_
        refine lv_isub hx hb dX12_look_204 ?_
        refine lv_topi (fun x_582 ex_582 => ?_)
        have hx_582 : x_582.toInt = p1.toInt - 40 := by rw [ex_582, sb_I (by rw [ti_40]; omega) (by rw [ti_40]; omega), ti_40]
        have bx_582 : (0 ≤ x_582.toInt ∧ x_582.toInt ≤ 7) := by constructor <;> omega
        refine lv_imul hx hb dX12_look_205 ?_
        refine lv_topi (fun x_583 ex_583 => ?_)
        have hx_583 : x_583.toInt = 8 * x_582.toInt := by rw [ex_583, ml_I (by rw [ti_8]; omega) (by rw [ti_8]; omega), ti_8]
        have bx_583 : (0 ≤ x_583.toInt ∧ x_583.toInt ≤ 56) := by constructor <;> omega
        refine lv_iadd hx hb dX12_look_206 ?_
        refine lv_topi (fun x_584 ex_584 => ?_)
        have hx_584 : x_584.toInt = 156 + x_583.toInt := by rw [ex_584, ad_I (by rw [ti_156]; omega) (by rw [ti_156]; omega), ti_156]
        have bx_584 : (156 ≤ x_584.toInt ∧ x_584.toInt ≤ 212) := by constructor <;> omega
        refine tk_ildP hx hb hK hP 0 ma_501 hfo_559 rfl (vp_in_iff.mpr (by constructor <;> omega)) dX12_look_207 ?_
        refine lv_topi (fun x_585 ex_585 => ?_)
        have bx_585 : (0 ≤ x_585.toInt ∧ x_585.toInt ≤ 6) := by have hc9 := cl_I (i := x_584) (by omega); rw [ex_585]; exact hbg_560.2.2.2.2.2.2.2.2.2.2.2.1 _ (by omega) (by omega) (by omega)
        exact W.iret (v := x_585) hx hb hr (fun t ht hW => ⟨⟨x_585, f, rfl, ⟨rfl, (by constructor <;> omega)⟩, by rw [ht]; exact hP, va_K.moved hW.alike hK, pl_in hD⟩, hS.F ht⟩) hS.2.2 dX12_look_208
    · skip
      rw [← Int32.toInt_inj, ti_0] at c_566
      refine lv_aload_n hx hb dX12_look_157 rfl (lv_at hl 0 rfl) ?_
      refine tk_getP (D := (dC, dI)) (ci := 12) (v := .ref a_501) (C := RX12) (T := TX12) (N := 56) hx hb hU inlX12 hown hK hP mo0 hfo_557 rfl 0 (by decide) (hU _ wd_169) (fun _ h9 => h9) rfl dX12_look_158 ?_
      refine lv_bipush (v := 60) hx hb dX12_look_161 (by decide) ?_
      refine lv_bipush (v := 8) hx hb dX12_look_163 (by decide) ?_
      refine lv_iload_n hx hb dX12_look_165 rfl (lv_at hl 1 rfl) ?_
      refine lv_bipush (v := 20) hx hb dX12_look_166 (by decide) ?_
      refine lv_isub hx hb dX12_look_168 ?_
      refine lv_topi (fun x_586 ex_586 => ?_)
      have hx_586 : x_586.toInt = p1.toInt - 20 := by rw [ex_586, sb_I (by rw [ti_20]; omega) (by rw [ti_20]; omega), ti_20]
      have bx_586 : (0 ≤ x_586.toInt ∧ x_586.toInt ≤ 11) := by constructor <;> omega
      refine lv_imul hx hb dX12_look_169 ?_
      refine lv_topi (fun x_587 ex_587 => ?_)
      have hx_587 : x_587.toInt = 8 * x_586.toInt := by rw [ex_587, ml_I (by rw [ti_8]; omega) (by rw [ti_8]; omega), ti_8]
      have bx_587 : (0 ≤ x_587.toInt ∧ x_587.toInt ≤ 88) := by constructor <;> omega
      refine lv_iadd hx hb dX12_look_170 ?_
      refine lv_topi (fun x_588 ex_588 => ?_)
      have hx_588 : x_588.toInt = 60 + x_587.toInt := by rw [ex_588, ad_I (by rw [ti_60]; omega) (by rw [ti_60]; omega), ti_60]
      have bx_588 : (60 ≤ x_588.toInt ∧ x_588.toInt ≤ 148) := by constructor <;> omega
      refine tk_ildP hx hb hK hP 0 ma_501 hfo_559 rfl (vp_in_iff.mpr (by constructor <;> omega)) dX12_look_171 ?_
      refine lv_topi (fun x_589 ex_589 => ?_)
      have bx_589 : (0 ≤ x_589.toInt ∧ x_589.toInt ≤ 6) := by have hc9 := cl_I (i := x_588) (by omega); rw [ex_589]; exact hbg_560.2.2.2.2.2.2.2.2.2.2.2.1 _ (by omega) (by omega) (by omega)
      exact W.iret (v := x_589) hx hb hr (fun t ht hW => ⟨⟨x_589, f, rfl, ⟨rfl, (by constructor <;> omega)⟩, by rw [ht]; exact hP, va_K.moved hW.alike hK, pl_in hD⟩, hS.F ht⟩) hS.2.2 dX12_look_172
  · skip
    rw [← Int32.toInt_inj, ti_0] at c_500
    refine lv_aload_n hx hb dX12_look_122 rfl (lv_at hl 0 rfl) ?_
    obtain ⟨a_590, a_591, a_592, v_593, a_594, v_595, v_596, v_597, v_598, v_599, v_600, v_601, v_602, v_603, v_604, a_605, a_606, a_607, a_608, a_609, a_610, a_611, a_612, v_613, v_614, v_615, v_616, v_617, a_618, v_619, a_620, a_621, v_622, v_623, a_624, v_625, a_626, a_627, v_628, v_629, a_630, a_631, a_632, v_633, a_634, a_635, a_636, a_637, a_638, a_639, a_640, a_641, a_642, v_643, v_644, a_645, hfo_646, fa_647⟩ := un12 (hG _ mo0) ko0
    obtain ⟨ma_590, ka_590⟩ := fa12_0 fa_647
    refine tk_getP (D := (dC, dI)) (ci := 12) (v := .ref a_590) (C := RX12) (T := TX12) (N := 56) hx hb hU inlX12 hown hK hP mo0 hfo_646 rfl 0 (by decide) (hU _ wd_169) (fun _ h9 => h9) rfl dX12_look_123 ?_
    refine lv_bipush (v := 10) hx hb dX12_look_126 (by decide) ?_
    refine lv_iload_n hx hb dX12_look_128 rfl (lv_at hl 1 rfl) ?_
    refine lv_iadd hx hb dX12_look_129 ?_
    refine lv_topi (fun x_648 ex_648 => ?_)
    have hx_648 : x_648.toInt = 10 + p1.toInt := by rw [ex_648, ad_I (by rw [ti_10]; omega) (by rw [ti_10]; omega), ti_10]
    have bx_648 : (20 ≤ x_648.toInt ∧ x_648.toInt ≤ 25) := by constructor <;> omega
    refine lv_bipush (v := 10) hx hb dX12_look_130 (by decide) ?_
    refine lv_isub hx hb dX12_look_132 ?_
    refine lv_topi (fun x_649 ex_649 => ?_)
    have hx_649 : x_649.toInt = x_648.toInt - 10 := by rw [ex_649, sb_I (by rw [ti_10]; omega) (by rw [ti_10]; omega), ti_10]
    have bx_649 : (10 ≤ x_649.toInt ∧ x_649.toInt ≤ 15) := by constructor <;> omega
    obtain ⟨g_651, hfo_650, hbg_651⟩ := un_575 (hG _ ma_590) ka_590
    refine tk_ildP hx hb hK hP 0 ma_590 hfo_650 rfl (vp_in_iff.mpr (by constructor <;> omega)) dX12_look_133 ?_
    refine lv_topi (fun x_652 ex_652 => ?_)
    have bx_652 : ((-2147483648) ≤ x_652.toInt ∧ x_652.toInt ≤ 2147483647) := ⟨i32_lo _, i32_hi _⟩
    refine tk_SiP (As := [.int x_652]) (rest := []) (n := 1) hx hb hml hown hU hN hZ (s_X12_count l (dC, dI) cI cL cZ cR cG cH Z kd L f hG x_652) wd_1380 wd_1381 wd_5 wd_1382 (by decide +kernel) ⟨Nat.le_of_ble_eq_true rfl, Nat.le_of_ble_eq_true rfl⟩ hK hP hD hS rfl hl.1 rfl (Nat.le_of_ble_eq_true rfl) dX12_look_134 ⟨Nat.le_of_ble_eq_true rfl, Nat.le_of_ble_eq_true rfl⟩ (fun x_653 f_654 H locs hw hP hD hS => ?_)
    obtain ⟨rfl, bx_653⟩ := hw
    exact W.iret (v := x_653) hx hb hr (fun t ht hW => ⟨⟨x_653, f, rfl, ⟨rfl, (by constructor <;> omega)⟩, by rw [ht]; exact hP, va_K.moved hW.alike hK, pl_in hD⟩, hS.F ht⟩) hS.2.2 dX12_look_137
