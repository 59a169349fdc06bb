set_option maxHeartbeats 8000000 in
set_option maxRecDepth 100000 in
theorem s_X12_idle_k12 (l : Launch) (D : va_G) (cI cL cZ cR cG cH : ClassId) (Z : zT) (kd : Nat → Nat) (L : List Nat) (f : Nat → va_E) (hG : GI (okc cI cL cZ cR cG cH L kd) kd L f) (o0 : Nat) (mo0 : o0 ∈ L) (ko0 : kd o0 = 12) (p1 : Int32) (p2 : Int32) (hpreo0 : ∀ (w29 : Int32), fldI (f o0) 29 = some w29 → w29.toInt ≤ 200) (hxtr0 : srel kd 592 f o0) : mPI l D cI cL cZ cR cG cH Z yX12_idle cX12_idle 3 (some .int) 26 725 [.ref o0, .int p1, .int p2] L f (fun (r : Int32) (f9 : Nat → va_E) => GI (okc cI cL cZ cR cG cH L kd) kd L f9 ∧ ((-2147483648) ≤ r.toInt ∧ r.toInt ≤ 2147483647) ∧ (∀ b, kd b ≠ 12 → kd b ≠ 579 → kd b ≠ 581 → kd b ≠ 583 → kd b ≠ 585 → kd b ≠ 587 → kd b ≠ 588 → kd b ≠ 589 → kd b ≠ 590 → kd b ≠ 591 → kd b ≠ 592 → kd b ≠ 593 → kd b ≠ 602 → kd b ≠ 603 → f9 b = f b) ∧ (∀ b, kd b = 12 → ∀ j, fldR (f9 b) j = fldR (f b) j) ∧ (∀ b, kd b = 12 → ∀ j, j ≠ 23 → j ≠ 25 → j ≠ 27 → j ≠ 29 → j ≠ 32 → j ≠ 33 → fldI (f9 b) j = fldI (f b) j) ∧ (∀ (w29 z29 : Int32), fldI (f o0) 29 = some w29 → fldI (f9 o0) 29 = some z29 → z29.toInt = w29.toInt) ∧ (srel kd 592 f9 o0)) := by
  obtain ⟨dC, dI⟩ := D
  refine Met.ofW (cc := cX12_idle) (maxL := 3) (ret := (some .int)) (by decide) rfl ?_
  intro p e s m args below meth c s₁ B hml hv
  obtain ⟨rfl, hP, hK, hD0, hN, hZ⟩ := hv
  have hx := B.exec
  have hb := B.bytes
  have hr := B.returns
  have hU : ∀ w ∈ wsU, w.before _ s = true := fun w h => atoms_spec (ws := wU yX12_idle cX12_idle 3 (some .int)) B.pre w (List.mem_cons_of_mem _ h)
  have hown : s.vm.findClass RX12 = some m.cls := findClass_of_methodNamed B.named
  have hlocks := B.notSynchronized
  have hD := pl_in hD0
  have hS : va_S (fun q => q ∈ L) s.heap s.heap [] := va_S.rf
  have hl := lv_entry ([.ref o0, .int p1, .int p2]) (n := 3) (Nat.le_of_ble_eq_true rfl)
  rw [lg_entry_eq]
  generalize (lg_sl ([.ref o0, .int p1, .int p2]) ++ List.replicate (3 - (lg_sl ([.ref o0, .int p1, .int p2])).length) Slot.unset).toArray = ls at hl ⊢
  have hl : lv_has ls 3 [(0, .ref o0), (1, .int p1), (2, .int p2)] := hl
  have bp1 : ((-2147483648) ≤ p1.toInt ∧ p1.toInt ≤ 2147483647) := ⟨i32_lo _, i32_hi _⟩
  have bp2 : ((-2147483648) ≤ p2.toInt ∧ p2.toInt ≤ 2147483647) := ⟨i32_lo _, i32_hi _⟩
  have hfr0 : ∀ b, kd b ≠ 12 → kd b ≠ 579 → kd b ≠ 581 → kd b ≠ 583 → kd b ≠ 585 → kd b ≠ 587 → kd b ≠ 588 → kd b ≠ 589 → kd b ≠ 590 → kd b ≠ 591 → kd b ≠ 592 → kd b ≠ 593 → kd b ≠ 602 → kd b ≠ 603 → f b = f b := fun _ _ _ _ _ _ _ _ _ _ _ _ _ _ _ => rfl
  have hrA12 : ∀ b, kd b = 12 → ∀ j, fldR (f b) j = fldR (f b) j := fun _ _ _ => rfl
  have hfA12 : ∀ b, kd b = 12 → ∀ j, j ≠ 23 → j ≠ 25 → j ≠ 27 → j ≠ 29 → j ≠ 32 → j ≠ 33 → fldI (f b) j = fldI (f b) j := fun _ _ _ _ _ _ _ _ _ => rfl
  obtain ⟨a_1, a_2, a_3, v_4, a_5, v_6, v_7, v_8, v_9, v_10, v_11, v_12, v_13, v_14, v_15, a_16, a_17, a_18, a_19, a_20, a_21, a_22, a_23, v_24, v_25, v_26, v_27, v_28, a_29, v_30, a_31, a_32, v_33, v_34, a_35, v_36, a_37, a_38, v_39, v_40, a_41, a_42, a_43, v_44, a_45, a_46, a_47, a_48, a_49, a_50, a_51, a_52, a_53, v_54, v_55, a_56, hfo_57, fa_58⟩ := un12 (hG _ mo0) ko0
  obtain ⟨ma_1, ka_1⟩ := fa12_0 fa_58
  have bv_30 : (0 ≤ v_30.toInt ∧ v_30.toInt ≤ 201) := fa12_29 fa_58
  have hpo0 := hpreo0 v_30 (by rw [hfo_57]; rfl)
  have hT0 := hxtr0
  refine lv_aload_n hx hb dX12_idle_0 rfl (lv_at hl 0 rfl) ?_
  refine lv_iload_n hx hb dX12_idle_1 rfl (lv_at hl 1 rfl) ?_
  refine tk_ViP (As := [.int p1]) (rest := []) (n := 1) hx hb hml hown hU hN hZ (s_X12_isUsed_k12 l (dC, dI) cI cL cZ cR cG cH Z kd L f hG o0 mo0 ko0 p1) wd_1350 wd_1351 wd_1352 wd_5 wd_1353 (by decide +kernel) ⟨Nat.le_of_ble_eq_true rfl, Nat.le_of_ble_eq_true rfl⟩ hK hP hD hS mo0 hfo_57 12 rfl rfl rfl hl.1 rfl (Nat.le_of_ble_eq_true rfl) dX12_idle_2 ⟨Nat.le_of_ble_eq_true rfl, Nat.le_of_ble_eq_true rfl⟩ (fun x_59 f_60 H locs hw hP hD hS => ?_)
  obtain ⟨rfl, bx_59, relx_59⟩ := hw
  refine lv_if_eq (tgt := 17) hx hb dX12_idle_5 (by decide) (fun c_62 => ?_) (fun c_62 => ?_)
  · skip
    rw [← Int32.toInt_inj, ti_0] at c_62
    refine lv_iconst (v := (-1)) hx hb dX12_idle_17 (by decide) ?_
    refine lv_goto (tgt := 55) hx hb dX12_idle_18 (by decide) ?_
    exact W.iret (v := (-1)) hx hb hr (fun t ht hW => ⟨⟨(-1), f, rfl, ⟨hG, (by decide), hfr0, hrA12, hfA12, (by intro w29 z29 e29 d29; rw [hfo_57] at e29; rw [hfo_57] at d29; obtain rfl := Option.some.inj e29; obtain rfl := Option.some.inj d29; (try rw [ti_m1]) <;> omega), hT0⟩, by rw [ht]; exact hP, va_K.moved hW.alike hK, pl_in hD⟩, hS.F ht⟩) hS.2.2 dX12_idle_55
  · skip
    rw [← Int32.toInt_inj, ti_0] at c_62
    refine lv_iload_n hx hb dX12_idle_8 rfl (lv_at hl 2 rfl) ?_
    refine lv_iconst (v := 1) hx hb dX12_idle_9 (by decide) ?_
    refine lv_iconst (v := 3) hx hb dX12_idle_10 (by decide) ?_
    refine tk_SiP (As := [.int p2, .int 1, .int 3]) (rest := []) (n := 3) hx hb hml hown hU hN hZ (s_X12_isIn l (dC, dI) cI cL cZ cR cG cH Z kd L f hG p2 1 3) wd_227 wd_228 wd_5 wd_229 (by decide +kernel) ⟨Nat.le_of_ble_eq_true rfl, Nat.le_of_ble_eq_true rfl⟩ hK hP hD hS rfl hl.1 rfl (Nat.le_of_ble_eq_true rfl) dX12_idle_11 ⟨Nat.le_of_ble_eq_true rfl, Nat.le_of_ble_eq_true rfl⟩ (fun x_63 f_64 H locs hw hP hD hS => ?_)
    obtain ⟨rfl, bx_63, relx_63⟩ := hw
    try rw [ti_1] at relx_63
    try rw [ti_3] at relx_63
    refine lv_if_ne (tgt := 21) hx hb dX12_idle_14 (by decide) (fun c_66 => ?_) (fun c_66 => ?_)
    · skip
      rw [← Int32.toInt_inj, ti_0] at c_66
      refine lv_aload_n hx hb dX12_idle_21 rfl (lv_at hl 0 rfl) ?_
      refine lv_aload_n hx hb dX12_idle_22 rfl (lv_at hl 0 rfl) ?_
      refine tk_getP (D := (dC, dI)) (ci := 12) (v := .ref a_1) (C := RX12) (T := TX12) (N := 56) hx hb hU inlX12 hown hK hP mo0 hfo_57 rfl 0 (by decide) (hU _ wd_169) (fun _ h9 => h9) rfl dX12_idle_23 ?_
      refine lv_bipush (v := 40) hx hb dX12_idle_26 (by decide) ?_
      obtain ⟨g_68, hfo_67, hbg_68⟩ := un_575 (hG _ ma_1) ka_1
      refine tk_ildP hx hb hK hP 0 ma_1 hfo_67 rfl (vp_in_nI (n := 40) (by decide) (by decide)) dX12_idle_28 ?_
      refine lv_topi (fun x_69 ex_69 => ?_)
      have bx_69 : (0 ≤ x_69.toInt ∧ x_69.toInt ≤ 255) := by rw [ex_69]; exact hbg_68.2.2.2.2.2.2.1 _ (by decide) (by decide) (by decide)
      refine lv_aload_n hx hb dX12_idle_29 rfl (lv_at hl 0 rfl) ?_
      refine tk_getP (D := (dC, dI)) (ci := 12) (v := .ref a_1) (C := RX12) (T := TX12) (N := 56) hx hb hU inlX12 hown hK hP mo0 hfo_57 rfl 0 (by decide) (hU _ wd_169) (fun _ h9 => h9) rfl dX12_idle_30 ?_
      refine lv_bipush (v := 40) hx hb dX12_idle_33 (by decide) ?_
      refine tk_ildP hx hb hK hP 0 ma_1 hfo_67 rfl (vp_in_nI (n := 40) (by decide) (by decide)) dX12_idle_35 ?_
      refine tk_topi (y := x_69) ex_69.symm ?_
      refine lv_iconst (v := 1) hx hb dX12_idle_36 (by decide) ?_
      refine lv_iload_n hx hb dX12_idle_37 rfl (lv_at hl 1 rfl) ?_
      refine lv_ishl hx hb dX12_idle_38 ?_
      refine lv_topi (fun x_70 ex_70 => ?_)
      have bx_70 : (1 ≤ x_70.toInt ∧ x_70.toInt ≤ 128) := by rw [ex_70]; exact sh_7 (by constructor <;> omega)
      refine lv_iconst (v := (-1)) hx hb dX12_idle_39 (by decide) ?_
      refine lv_ixor hx hb dX12_idle_40 ?_
      refine lv_topi (fun x_71 ex_71 => ?_)
      have bx_71 : ((-2147483648) ≤ x_71.toInt ∧ x_71.toInt ≤ 2147483647) := ⟨i32_lo _, i32_hi _⟩
      refine lv_iand hx hb dX12_idle_41 ?_
      refine lv_topi (fun x_72 ex_72 => ?_)
      have bx_72 : ((-2147483648) ≤ x_72.toInt ∧ x_72.toInt ≤ 2147483647) := ⟨i32_lo _, i32_hi _⟩
      refine lv_iload_n hx hb dX12_idle_42 rfl (lv_at hl 2 rfl) ?_
      refine tk_ViP (As := [.int x_69, .int x_72, .int p2]) (rest := []) (n := 3) hx hb hml hown hU hN hZ (s_X12_partsOf_k12 l (dC, dI) cI cL cZ cR cG cH Z kd L f hG o0 mo0 ko0 x_69 x_72 p2 (by constructor <;> omega) (by intro w29 e29; rw [hfo_57] at e29; obtain rfl := Option.some.inj e29; omega) hT0) wd_1334 wd_1335 wd_1336 wd_5 wd_1337 (by decide +kernel) ⟨Nat.le_of_ble_eq_true rfl, Nat.le_of_ble_eq_true rfl⟩ hK hP hD hS mo0 hfo_57 12 rfl rfl rfl hl.1 rfl (Nat.le_of_ble_eq_true rfl) dX12_idle_43 ⟨Nat.le_of_ble_eq_true rfl, Nat.le_of_ble_eq_true rfl⟩ (fun x_73 f_74 H locs hw hP hD hS => ?_)
      obtain ⟨hG, bx_73, hkc_75, hra_76, hfa_77, hpost_78, hTc_79⟩ := hw
      have hfo_81 : f_74 a_1 = .inl (cI, 1560, .inl g_68) := by rw [hkc_75 a_1 (by rw [ka_1]; decide) (by rw [ka_1]; decide) (by rw [ka_1]; decide) (by rw [ka_1]; decide) (by rw [ka_1]; decide) (by rw [ka_1]; decide) (by rw [ka_1]; decide) (by rw [ka_1]; decide) (by rw [ka_1]; decide) (by rw [ka_1]; decide) (by rw [ka_1]; decide) (by rw [ka_1]; decide) (by rw [ka_1]; decide) (by rw [ka_1]; decide)]; exact hfo_67
      have hfr0 : ∀ b, kd b ≠ 12 → kd b ≠ 579 → kd b ≠ 581 → kd b ≠ 583 → kd b ≠ 585 → kd b ≠ 587 → kd b ≠ 588 → kd b ≠ 589 → kd b ≠ 590 → kd b ≠ 591 → kd b ≠ 592 → kd b ≠ 593 → kd b ≠ 602 → kd b ≠ 603 → f_74 b = f b := fun b q12 q579 q581 q583 q585 q587 q588 q589 q590 q591 q592 q593 q602 q603 => (hkc_75 b q12 q579 q581 q583 q585 q587 q588 q589 q590 q591 q592 q593 q602 q603).trans (hfr0 b q12 q579 q581 q583 q585 q587 q588 q589 q590 q591 q592 q593 q602 q603)
      have hrA12 : ∀ b, kd b = 12 → ∀ j, fldR (f_74 b) j = fldR (f b) j := fun b kb j => (hra_76 b kb j).trans (hrA12 b kb j)
      have hfA12 : ∀ b, kd b = 12 → ∀ j, j ≠ 23 → j ≠ 25 → j ≠ 27 → j ≠ 29 → j ≠ 32 → j ≠ 33 → fldI (f_74 b) j = fldI (f b) j := fun b kb j n23 n25 n27 n29 n32 n33 => (hfa_77 b kb j n23 n25 n27 n29 n32 n33).trans (hfA12 b kb j n23 n25 n27 n29 n32 n33)
      obtain ⟨v_82, v_83, v_84, v_85, v_86, v_87, hfo_88, fa_89⟩ := op12_23_25_27_29_32_33 hfo_57 (hG _ mo0) ko0 (hra_76 o0 ko0) (hfa_77 o0 ko0)
      have bv_82 : (0 ≤ v_82.toInt ∧ v_82.toInt ≤ 12) := fa12_23 fa_89
      have bv_83 : (0 ≤ v_83.toInt ∧ v_83.toInt ≤ 4) := fa12_25 fa_89
      have bv_84 : (0 ≤ v_84.toInt ∧ v_84.toInt ≤ 1) := fa12_27 fa_89
      have bv_85 : (0 ≤ v_85.toInt ∧ v_85.toInt ≤ 201) := fa12_29 fa_89
      have bv_86 : (0 ≤ v_86.toInt ∧ v_86.toInt ≤ 6561) := fa12_32 fa_89
      have bv_87 : ((-2147483648) ≤ v_87.toInt ∧ v_87.toInt ≤ 2147483647) := ⟨i32_lo _, i32_hi _⟩
      have hqhpost_78 := hpost_78 v_30 v_85 (by rw [hfo_57]; rfl) (by rw [hfo_88]; rfl)
      refine lv_iconst (v := (-1)) hx hb dX12_idle_46 (by decide) ?_
      refine lv_icmp_ne (tgt := 54) hx hb dX12_idle_47 (by decide) (fun c_90 => ?_) (fun c_90 => ?_)
      · skip
        rw [← Int32.toInt_inj, ti_m1] at c_90
        refine lv_iconst (v := 0) hx hb dX12_idle_54 (by decide) ?_
        exact W.iret (v := 0) hx hb hr (fun t ht hW => ⟨⟨0, f_74, rfl, ⟨hG, (by decide), hfr0, hrA12, hfA12, (by intro w29 z29 e29 d29; rw [hfo_57] at e29; rw [hfo_88] at d29; obtain rfl := Option.some.inj e29; obtain rfl := Option.some.inj d29; (try rw [ti_0]) <;> omega), hTc_79⟩, by rw [ht]; exact hP, va_K.moved hW.alike hK, pl_in hD⟩, hS.F ht⟩) hS.2.2 dX12_idle_55
      · skip
        rw [← Int32.toInt_inj, ti_m1] at c_90
        refine lv_iconst (v := 1) hx hb dX12_idle_50 (by decide) ?_
        refine lv_goto (tgt := 55) hx hb dX12_idle_51 (by decide) ?_
        exact W.iret (v := 1) hx hb hr (fun t ht hW => ⟨⟨1, f_74, rfl, ⟨hG, (by decide), hfr0, hrA12, hfA12, (by intro w29 z29 e29 d29; rw [hfo_57] at e29; rw [hfo_88] at d29; obtain rfl := Option.some.inj e29; obtain rfl := Option.some.inj d29; (try rw [ti_1]) <;> omega), hTc_79⟩, by rw [ht]; exact hP, va_K.moved hW.alike hK, pl_in hD⟩, hS.F ht⟩) hS.2.2 dX12_idle_55
    · skip
      rw [← Int32.toInt_inj, ti_0] at c_66
      refine lv_iconst (v := (-1)) hx hb dX12_idle_17 (by decide) ?_
      refine lv_goto (tgt := 55) hx hb dX12_idle_18 (by decide) ?_
      exact W.iret (v := (-1)) hx hb hr (fun t ht hW => ⟨⟨(-1), f, rfl, ⟨hG, (by decide), hfr0, hrA12, hfA12, (by intro w29 z29 e29 d29; rw [hfo_57] at e29; rw [hfo_57] at d29; obtain rfl := Option.some.inj e29; obtain rfl := Option.some.inj d29; (try rw [ti_m1]) <;> omega), hT0⟩, by rw [ht]; exact hP, va_K.moved hW.alike hK, pl_in hD⟩, hS.F ht⟩) hS.2.2 dX12_idle_55
set_option maxHeartbeats 8000000 in
set_option maxRecDepth 100000 in
theorem s_X12_fewest_k12 (l : Launch) (D : va_G) (cI cL cZ cR cG cH : ClassId) (Z : zT) (kd : Nat → Nat) (L : List Nat) (f : Nat → va_E) (hG : GI (okc cI cL cZ cR cG cH L kd) kd L f) (o0 : Nat) (mo0 : o0 ∈ L) (ko0 : kd o0 = 12) (p1 : Int32) (hpreo0 : ∀ (w29 : Int32), fldI (f o0) 29 = some w29 → w29.toInt ≤ 200) (hxtr0 : srel kd 592 f o0) : mPI l D cI cL cZ cR cG cH Z yX12_fewest cX12_fewest 5 (some .int) 24 676 [.ref o0, .int p1] L f (fun (r : Int32) (f9 : Nat → va_E) => GI (okc cI cL cZ cR cG cH L kd) kd L f9 ∧ ((-2147483648) ≤ r.toInt ∧ r.toInt ≤ 2147483647) ∧ (∀ b, kd b ≠ 12 → kd b ≠ 579 → kd b ≠ 581 → kd b ≠ 583 → kd b ≠ 585 → kd b ≠ 587 → kd b ≠ 588 → kd b ≠ 589 → kd b ≠ 590 → kd b ≠ 591 → kd b ≠ 592 → kd b ≠ 593 → kd b ≠ 603 → f9 b = f b) ∧ (∀ b, kd b = 12 → ∀ j, fldR (f9 b) j = fldR (f b) j) ∧ (∀ b, kd b = 12 → ∀ j, j ≠ 23 → j ≠ 25 → j ≠ 27 → j ≠ 29 → j ≠ 32 → j ≠ 33 → fldI (f9 b) j = fldI (f b) j) ∧ (∀ (w29 z29 : Int32), fldI (f o0) 29 = some w29 → fldI (f9 o0) 29 = some z29 → z29.toInt = w29.toInt) ∧ (srel kd 592 f9 o0)) := by
  obtain ⟨dC, dI⟩ := D
  refine Met.ofW (cc := cX12_fewest) (maxL := 5) (ret := (some .int)) (by decide) rfl ?_
  intro p e s m args below meth c s₁ B hml hv
  obtain ⟨rfl, hP, hK, hD0, hN, hZ⟩ := hv
  have hx := B.exec
  have hb := B.bytes
  have hr := B.returns
  have hU : ∀ w ∈ wsU, w.before _ s = true := fun w h => atoms_spec (ws := wU yX12_fewest cX12_fewest 5 (some .int)) B.pre w (List.mem_cons_of_mem _ h)
  have hown : s.vm.findClass RX12 = some m.cls := findClass_of_methodNamed B.named
  have hlocks := B.notSynchronized
  have hD := pl_in hD0
  have hS : va_S (fun q => q ∈ L) s.heap s.heap [] := va_S.rf
  have hl := lv_entry ([.ref o0, .int p1]) (n := 5) (Nat.le_of_ble_eq_true rfl)
  rw [lg_entry_eq]
  generalize (lg_sl ([.ref o0, .int p1]) ++ List.replicate (5 - (lg_sl ([.ref o0, .int p1])).length) Slot.unset).toArray = ls at hl ⊢
  have hl : lv_has ls 5 [(0, .ref o0), (1, .int p1)] := hl
  have bp1 : ((-2147483648) ≤ p1.toInt ∧ p1.toInt ≤ 2147483647) := ⟨i32_lo _, i32_hi _⟩
  have hfr0 : ∀ b, kd b ≠ 12 → kd b ≠ 579 → kd b ≠ 581 → kd b ≠ 583 → kd b ≠ 585 → kd b ≠ 587 → kd b ≠ 588 → kd b ≠ 589 → kd b ≠ 590 → kd b ≠ 591 → kd b ≠ 592 → kd b ≠ 593 → kd b ≠ 603 → f b = f b := fun _ _ _ _ _ _ _ _ _ _ _ _ _ _ => rfl
  have hrA12 : ∀ b, kd b = 12 → ∀ j, fldR (f b) j = fldR (f b) j := fun _ _ _ => rfl
  have hfA12 : ∀ b, kd b = 12 → ∀ j, j ≠ 23 → j ≠ 25 → j ≠ 27 → j ≠ 29 → j ≠ 32 → j ≠ 33 → fldI (f b) j = fldI (f b) j := fun _ _ _ _ _ _ _ _ _ => rfl
  obtain ⟨a_1, a_2, a_3, v_4, a_5, v_6, v_7, v_8, v_9, v_10, v_11, v_12, v_13, v_14, v_15, a_16, a_17, a_18, a_19, a_20, a_21, a_22, a_23, v_24, v_25, v_26, v_27, v_28, a_29, v_30, a_31, a_32, v_33, v_34, a_35, v_36, a_37, a_38, v_39, v_40, a_41, a_42, a_43, v_44, a_45, a_46, a_47, a_48, a_49, a_50, a_51, a_52, a_53, v_54, v_55, a_56, hfo_57, fa_58⟩ := un12 (hG _ mo0) ko0
  obtain ⟨ma_1, ka_1⟩ := fa12_0 fa_58
  have bv_30 : (0 ≤ v_30.toInt ∧ v_30.toInt ≤ 201) := fa12_29 fa_58
  obtain ⟨ma_48, ka_48⟩ := fa12_47 fa_58
  have hpo0 := hpreo0 v_30 (by rw [hfo_57]; rfl)
  have hT0 := hxtr0
  refine lv_iload_n hx hb dX12_fewest_0 rfl (lv_at hl 1 rfl) ?_
  refine lv_iconst (v := 1) hx hb dX12_fewest_1 (by decide) ?_
  refine lv_iconst (v := 2) hx hb dX12_fewest_2 (by decide) ?_
  refine tk_SiP (As := [.int p1, .int 1, .int 2]) (rest := []) (n := 3) hx hb hml hown hU hN hZ (s_X12_isIn l (dC, dI) cI cL cZ cR cG cH Z kd L f hG p1 1 2) wd_227 wd_228 wd_5 wd_229 (by decide +kernel) ⟨Nat.le_of_ble_eq_true rfl, Nat.le_of_ble_eq_true rfl⟩ hK hP hD hS rfl hl.1 rfl (Nat.le_of_ble_eq_true rfl) dX12_fewest_3 ⟨Nat.le_of_ble_eq_true rfl, Nat.le_of_ble_eq_true rfl⟩ (fun x_59 f_60 H locs hw hP hD hS => ?_)
  obtain ⟨rfl, bx_59, relx_59⟩ := hw
  try rw [ti_1] at relx_59
  try rw [ti_2] at relx_59
  refine lv_if_ne (tgt := 11) hx hb dX12_fewest_6 (by decide) (fun c_62 => ?_) (fun c_62 => ?_)
  · skip
    rw [← Int32.toInt_inj, ti_0] at c_62
    refine lv_iconst (v := 0) hx hb dX12_fewest_11 (by decide) ?_
    refine lv_istore_n (lv' := [(2, .int 0), (0, .ref o0), (1, .int p1)]) hx hb dX12_fewest_12 rfl hl (by decide) rfl (fun ls hl => ?_)
    have hloop_78 : ∀ (n : Nat), ∀ (y_79 : Int32), (0 ≤ y_79.toInt ∧ y_79.toInt ≤ 256) → ∀ (f_81 : Nat → va_E), GI (okc cI cL cZ cR cG cH L kd) kd L f_81 → ∀ (H : Heap) (locs : List Loc), va_P (dC, dI) vwCl (va_pl L f_81) H → va_S (fun q => q ∈ L) s.heap H locs → va_D (fun q => q ∈ L) (va_pl L f_81) → (∀ b, kd b ≠ 12 → kd b ≠ 579 → kd b ≠ 581 → kd b ≠ 583 → kd b ≠ 585 → kd b ≠ 587 → kd b ≠ 588 → kd b ≠ 589 → kd b ≠ 590 → kd b ≠ 591 → kd b ≠ 592 → kd b ≠ 593 → kd b ≠ 603 → f_81 b = f b) → (∀ b, kd b = 12 → ∀ j, fldR (f_81 b) j = fldR (f b) j) → (∀ b, kd b = 12 → ∀ j, j ≠ 23 → j ≠ 25 → j ≠ 27 → j ≠ 29 → j ≠ 32 → j ≠ 33 → fldI (f_81 b) j = fldI (f b) j) → (f_81 o0 = .inr (12, [.ref a_1, .ref a_2, .ref a_3, .int v_4, .ref a_5, .int v_6, .int v_7, .int v_8, .int v_9, .int v_10, .int v_11, .int v_12, .int v_13, .int v_14, .int v_15, .ref a_16, .ref a_17, .ref a_18, .ref a_19, .ref a_20, .ref a_21, .ref a_22, .ref a_23, .int v_24, .int v_25, .int v_26, .int v_27, .int v_28, .ref a_29, .int v_30, .ref a_31, .ref a_32, .int v_33, .int v_34, .ref a_35, .int v_36, .ref a_37, .ref a_38, .int v_39, .int v_40, .ref a_41, .ref a_42, .ref a_43, .int v_44, .ref a_45, .ref a_46, .ref a_47, .ref a_48, .ref a_49, .ref a_50, .ref a_51, .ref a_52, .ref a_53, .int v_54, .int v_55, .ref a_56])) → srel kd 592 f_81 o0 → 256 - y_79.toInt < (n : Int) → ∀ (ls : Array Slot), lv_has ls 5 [(2, .int y_79), (0, .ref o0), (1, .int p1)] → W p l e (headSpec (wU yX12_fewest cX12_fewest 5 (some .int)) { frames := 24, cells := 0, slots := 0, locals := 676 }).room s m [.ref o0, .int p1].toArray below meth c H locs 0 0 (MQ below (va_Qi (fun (r : Int32) (f9 : Nat → va_E) => GI (okc cI cL cZ cR cG cH L kd) kd L f9 ∧ ((-2147483648) ≤ r.toInt ∧ r.toInt ≤ 2147483647) ∧ (∀ b, kd b ≠ 12 → kd b ≠ 579 → kd b ≠ 581 → kd b ≠ 583 → kd b ≠ 585 → kd b ≠ 587 → kd b ≠ 588 → kd b ≠ 589 → kd b ≠ 590 → kd b ≠ 591 → kd b ≠ 592 → kd b ≠ 593 → kd b ≠ 603 → f9 b = f b) ∧ (∀ b, kd b = 12 → ∀ j, fldR (f9 b) j = fldR (f b) j) ∧ (∀ b, kd b = 12 → ∀ j, j ≠ 23 → j ≠ 25 → j ≠ 27 → j ≠ 29 → j ≠ 32 → j ≠ 33 → fldI (f9 b) j = fldI (f b) j) ∧ (∀ (w29 z29 : Int32), fldI (f o0) 29 = some w29 → fldI (f9 o0) 29 = some z29 → z29.toInt = w29.toInt) ∧ (srel kd 592 f9 o0)) (qP (dC, dI) cI cL cZ cR cG cH L) (fun q => q ∈ L)) [.ref o0, .int p1].toArray s 0 0 (fun q => q ∈ L)) (F0 m 13 ls []) := by
      intro n
      induction n with
      | zero => intro y_79 by_79 f_81 hG H locs hP hS hD hfr0 hrA12 hfA12 hfo_82 hT0 hmuhloop_78 ls hl; exfalso; omega
      | succ n ih_hloop_78 =>
        intro y_79 by_79 f_81 hG H locs hP hS hD hfr0 hrA12 hfA12 hfo_82 hT0 hmuhloop_78 ls hl
        refine lv_iload_n hx hb dX12_fewest_13 rfl (lv_at hl 0 rfl) ?_
        refine lv_sipush (v := 256) hx hb dX12_fewest_14 (by decide) ?_
        refine lv_icmp_ge (tgt := 33) hx hb dX12_fewest_17 (by decide) (fun c_83 => ?_) (fun c_83 => ?_)
        · skip
          rw [Int32.le_iff_toInt_le, ti_256] at c_83
          refine lv_aload_n hx hb dX12_fewest_33 rfl (lv_at hl 1 rfl) ?_
          refine lv_iload_n hx hb dX12_fewest_34 rfl (lv_at hl 2 rfl) ?_
          refine tk_ViP (As := [.int p1]) (rest := []) (n := 1) hx hb hml hown hU hN hZ (s_X12_wordsUpTo_k12 l (dC, dI) cI cL cZ cR cG cH Z kd L f_81 hG o0 mo0 ko0 p1 (by constructor <;> omega)) wd_1169 wd_1170 wd_1171 wd_5 wd_1172 (by decide +kernel) ⟨Nat.le_of_ble_eq_true rfl, Nat.le_of_ble_eq_true rfl⟩ hK hP hD hS mo0 hfo_82 12 rfl rfl rfl hl.1 rfl (Nat.le_of_ble_eq_true rfl) dX12_fewest_35 ⟨Nat.le_of_ble_eq_true rfl, Nat.le_of_ble_eq_true rfl⟩ (fun x_84 f_85 H locs hw hP hD hS => ?_)
          obtain ⟨rfl, bx_84, hxp_86⟩ := hw
          obtain ⟨g_89, hfo_88, hbg_89⟩ := un_575 (hG _ ma_1) ka_1
          have hwu := hxp_86 a_1 g_89 (by rw [hfo_82]; rfl) hfo_88
          have hsq := lw_sq (L := (g_89 0).toInt) (hbg_89.1 0 (by decide) (by decide) (by decide))
          refine lv_istore_n (lv' := [(2, .int x_84), (0, .ref o0), (1, .int p1)]) hx hb dX12_fewest_38 rfl hl (by decide) rfl (fun ls hl => ?_)
          refine lv_iconst (v := 0) hx hb dX12_fewest_39 (by decide) ?_
          refine lv_istore_n (lv' := [(3, .int 0), (2, .int x_84), (0, .ref o0), (1, .int p1)]) hx hb dX12_fewest_40 rfl hl (by decide) rfl (fun ls hl => ?_)
          have hloop_103 : ∀ (n : Nat), ∀ (y_104 : Int32), (0 ≤ y_104.toInt ∧ y_104.toInt ≤ 584) → ∀ (f_106 : Nat → va_E), GI (okc cI cL cZ cR cG cH L kd) kd L f_106 → ∀ (H : Heap) (locs : List Loc), va_P (dC, dI) vwCl (va_pl L f_106) H → va_S (fun q => q ∈ L) s.heap H locs → va_D (fun q => q ∈ L) (va_pl L f_106) → (∀ b, kd b ≠ 12 → kd b ≠ 579 → kd b ≠ 581 → kd b ≠ 583 → kd b ≠ 585 → kd b ≠ 587 → kd b ≠ 588 → kd b ≠ 589 → kd b ≠ 590 → kd b ≠ 591 → kd b ≠ 592 → kd b ≠ 593 → kd b ≠ 603 → f_106 b = f b) → (∀ b, kd b = 12 → ∀ j, fldR (f_106 b) j = fldR (f b) j) → (∀ b, kd b = 12 → ∀ j, j ≠ 23 → j ≠ 25 → j ≠ 27 → j ≠ 29 → j ≠ 32 → j ≠ 33 → fldI (f_106 b) j = fldI (f b) j) → (f_106 a_1 = .inl (cI, 1560, .inl g_89)) → srel kd 592 f_106 o0 → ∀ (whloop_103_0_29 : Int32), fldI (f_106 o0) 29 = some whloop_103_0_29 → (whloop_103_0_29.toInt = v_30.toInt) → (0 ≤ whloop_103_0_29.toInt ∧ whloop_103_0_29.toInt ≤ 201) → 584 - y_104.toInt < (n : Int) → ∀ (ls : Array Slot), lv_has ls 5 [(3, .int y_104), (2, .int x_84), (0, .ref o0), (1, .int p1)] → W p l e (headSpec (wU yX12_fewest cX12_fewest 5 (some .int)) { frames := 24, cells := 0, slots := 0, locals := 676 }).room s m [.ref o0, .int p1].toArray below meth c H locs 0 0 (MQ below (va_Qi (fun (r : Int32) (f9 : Nat → va_E) => GI (okc cI cL cZ cR cG cH L kd) kd L f9 ∧ ((-2147483648) ≤ r.toInt ∧ r.toInt ≤ 2147483647) ∧ (∀ b, kd b ≠ 12 → kd b ≠ 579 → kd b ≠ 581 → kd b ≠ 583 → kd b ≠ 585 → kd b ≠ 587 → kd b ≠ 588 → kd b ≠ 589 → kd b ≠ 590 → kd b ≠ 591 → kd b ≠ 592 → kd b ≠ 593 → kd b ≠ 603 → f9 b = f b) ∧ (∀ b, kd b = 12 → ∀ j, fldR (f9 b) j = fldR (f b) j) ∧ (∀ b, kd b = 12 → ∀ j, j ≠ 23 → j ≠ 25 → j ≠ 27 → j ≠ 29 → j ≠ 32 → j ≠ 33 → fldI (f9 b) j = fldI (f b) j) ∧ (∀ (w29 z29 : Int32), fldI (f o0) 29 = some w29 → fldI (f9 o0) 29 = some z29 → z29.toInt = w29.toInt) ∧ (srel kd 592 f9 o0)) (qP (dC, dI) cI cL cZ cR cG cH L) (fun q => q ∈ L)) [.ref o0, .int p1].toArray s 0 0 (fun q => q ∈ L)) (F0 m 41 ls []) := by
            intro n
            induction n with
            | zero => intro y_104 by_104 f_106 hG H locs hP hS hD hfr0 hrA12 hfA12 hfo_107 hT0 whloop_103_0_29 hghloop_103_0_29 hrelhloop_103_0 hrelhloop_103_1 hmuhloop_103 ls hl; exfalso; omega
            | succ n ih_hloop_103 =>
              intro y_104 by_104 f_106 hG H locs hP hS hD hfr0 hrA12 hfA12 hfo_107 hT0 whloop_103_0_29 hghloop_103_0_29 hrelhloop_103_0 hrelhloop_103_1 hmuhloop_103 ls hl
              obtain ⟨v_108, v_109, v_110, v_111, v_112, v_113, hfo_114, fa_115⟩ := op12_23_25_27_29_32_33 hfo_57 (hG _ mo0) ko0 (hrA12 o0 ko0) (hfA12 o0 ko0)
              have bv_108 : (0 ≤ v_108.toInt ∧ v_108.toInt ≤ 12) := fa12_23 fa_115
              have bv_109 : (0 ≤ v_109.toInt ∧ v_109.toInt ≤ 4) := fa12_25 fa_115
              have bv_110 : (0 ≤ v_110.toInt ∧ v_110.toInt ≤ 1) := fa12_27 fa_115
              have bv_111 : (0 ≤ v_111.toInt ∧ v_111.toInt ≤ 201) := fa12_29 fa_115
              have bv_112 : (0 ≤ v_112.toInt ∧ v_112.toInt ≤ 6561) := fa12_32 fa_115
              have bv_113 : ((-2147483648) ≤ v_113.toInt ∧ v_113.toInt ≤ 2147483647) := ⟨i32_lo _, i32_hi _⟩
              obtain rfl : v_111 = whloop_103_0_29 := by rw [hfo_114] at hghloop_103_0_29; exact Option.some.inj hghloop_103_0_29
              refine lv_iload_n hx hb dX12_fewest_41 rfl (lv_at hl 0 rfl) ?_
              refine lv_iload_n hx hb dX12_fewest_42 rfl (lv_at hl 1 rfl) ?_
              refine lv_icmp_ge (tgt := 88) hx hb dX12_fewest_43 (by decide) (fun c_116 => ?_) (fun c_116 => ?_)
              · skip
                rw [Int32.le_iff_toInt_le] at c_116
                refine lv_aload_n hx hb dX12_fewest_88 rfl (lv_at hl 2 rfl) ?_
                refine tk_getP (D := (dC, dI)) (ci := 12) (v := .ref a_1) (C := RX12) (T := TX12) (N := 56) hx hb hU inlX12 hown hK hP mo0 hfo_114 rfl 0 (by decide) (hU _ wd_169) (fun _ h9 => h9) rfl dX12_fewest_89 ?_
                refine lv_bipush (v := 40) hx hb dX12_fewest_92 (by decide) ?_
                refine tk_ildP hx hb hK hP 0 ma_1 hfo_107 rfl (vp_in_nI (n := 40) (by decide) (by decide)) dX12_fewest_94 ?_
                refine lv_topi (fun x_117 ex_117 => ?_)
                have bx_117 : (0 ≤ x_117.toInt ∧ x_117.toInt ≤ 255) := by rw [ex_117]; exact hbg_89.2.2.2.2.2.2.1 _ (by decide) (by decide) (by decide)
                refine lv_istore_n (lv' := [(3, .int x_117), (2, .int x_84), (0, .ref o0), (1, .int p1)]) hx hb dX12_fewest_95 rfl hl (by decide) rfl (fun ls hl => ?_)
                refine lv_iconst (v := 0) hx hb dX12_fewest_96 (by decide) ?_
                refine lv_istore (lv' := [(4, .int 0), (3, .int x_117), (2, .int x_84), (0, .ref o0), (1, .int p1)]) hx hb dX12_fewest_97 hl (by decide) rfl (fun ls hl => ?_)
                have hloop_125 : ∀ (n : Nat), ∀ (y_126 : Int32), (0 ≤ y_126.toInt ∧ y_126.toInt ≤ 256) → ∀ (y_127 : Int32), ((-2147483648) ≤ y_127.toInt ∧ y_127.toInt ≤ 2147483647) → ∀ (H : Heap) (locs : List Loc), va_P (dC, dI) vwCl (va_pl L f_106) H → va_S (fun q => q ∈ L) s.heap H locs → 256 - y_126.toInt < (n : Int) → ∀ (ls : Array Slot), lv_has ls 5 [(4, .int y_126), (3, .int y_127), (2, .int x_84), (0, .ref o0), (1, .int p1)] → W p l e (headSpec (wU yX12_fewest cX12_fewest 5 (some .int)) { frames := 24, cells := 0, slots := 0, locals := 676 }).room s m [.ref o0, .int p1].toArray below meth c H locs 0 0 (MQ below (va_Qi (fun (r : Int32) (f9 : Nat → va_E) => GI (okc cI cL cZ cR cG cH L kd) kd L f9 ∧ ((-2147483648) ≤ r.toInt ∧ r.toInt ≤ 2147483647) ∧ (∀ b, kd b ≠ 12 → kd b ≠ 579 → kd b ≠ 581 → kd b ≠ 583 → kd b ≠ 585 → kd b ≠ 587 → kd b ≠ 588 → kd b ≠ 589 → kd b ≠ 590 → kd b ≠ 591 → kd b ≠ 592 → kd b ≠ 593 → kd b ≠ 603 → f9 b = f b) ∧ (∀ b, kd b = 12 → ∀ j, fldR (f9 b) j = fldR (f b) j) ∧ (∀ b, kd b = 12 → ∀ j, j ≠ 23 → j ≠ 25 → j ≠ 27 → j ≠ 29 → j ≠ 32 → j ≠ 33 → fldI (f9 b) j = fldI (f b) j) ∧ (∀ (w29 z29 : Int32), fldI (f o0) 29 = some w29 → fldI (f9 o0) 29 = some z29 → z29.toInt = w29.toInt) ∧ (srel kd 592 f9 o0)) (qP (dC, dI) cI cL cZ cR cG cH L) (fun q => q ∈ L)) [.ref o0, .int p1].toArray s 0 0 (fun q => q ∈ L)) (F0 m 99 ls []) := by
                  intro n
                  induction n with
                  | zero => intro y_126 by_126 y_127 by_127 H locs hP hS hmuhloop_125 ls hl; exfalso; omega
                  | succ n ih_hloop_125 =>
                    intro y_126 by_126 y_127 by_127 H locs hP hS hmuhloop_125 ls hl
                    refine lv_iload hx hb dX12_fewest_99 (lv_at hl 0 rfl) ?_
                    refine lv_aload_n hx hb dX12_fewest_101 rfl (lv_at hl 3 rfl) ?_
                    refine tk_getP (D := (dC, dI)) (ci := 12) (v := .ref a_1) (C := RX12) (T := TX12) (N := 56) hx hb hU inlX12 hown hK hP mo0 hfo_114 rfl 0 (by decide) (hU _ wd_169) (fun _ h9 => h9) rfl dX12_fewest_102 ?_
                    refine lv_bipush (v := 40) hx hb dX12_fewest_105 (by decide) ?_
                    refine tk_ildP hx hb hK hP 0 ma_1 hfo_107 rfl (vp_in_nI (n := 40) (by decide) (by decide)) dX12_fewest_107 ?_
                    refine tk_topi (y := x_117) ex_117.symm ?_
                    refine lv_icmp_gt (tgt := 157) hx hb dX12_fewest_108 (by decide) (fun c_129 => ?_) (fun c_129 => ?_)
                    · skip
                      rw [Int32.lt_iff_toInt_lt] at c_129
                      refine lv_iload_n hx hb dX12_fewest_157 rfl (lv_at hl 1 rfl) ?_
                      exact W.iret (v := y_127) hx hb hr (fun t ht hW => ⟨⟨y_127, f_106, rfl, ⟨hG, (by constructor <;> omega), hfr0, hrA12, hfA12, (by intro w29 z29 e29 d29; rw [hfo_57] at e29; rw [hfo_114] at d29; obtain rfl := Option.some.inj e29; obtain rfl := Option.some.inj d29; omega), hT0⟩, by rw [ht]; exact hP, va_K.moved hW.alike hK, pl_in hD⟩, hS.F ht⟩) hS.2.2 dX12_fewest_158
                    · skip
                      rw [Int32.lt_iff_toInt_lt] at c_129
                      refine lv_iload hx hb dX12_fewest_111 (lv_at hl 0 rfl) ?_
                      refine lv_aload_n hx hb dX12_fewest_113 rfl (lv_at hl 3 rfl) ?_
                      refine tk_getP (D := (dC, dI)) (ci := 12) (v := .ref a_1) (C := RX12) (T := TX12) (N := 56) hx hb hU inlX12 hown hK hP mo0 hfo_114 rfl 0 (by decide) (hU _ wd_169) (fun _ h9 => h9) rfl dX12_fewest_114 ?_
                      refine lv_bipush (v := 40) hx hb dX12_fewest_117 (by decide) ?_
                      refine tk_ildP hx hb hK hP 0 ma_1 hfo_107 rfl (vp_in_nI (n := 40) (by decide) (by decide)) dX12_fewest_119 ?_
                      refine tk_topi (y := x_117) ex_117.symm ?_
                      refine lv_iconst (v := (-1)) hx hb dX12_fewest_120 (by decide) ?_
                      refine lv_ixor hx hb dX12_fewest_121 ?_
                      refine lv_topi (fun x_130 ex_130 => ?_)
                      have bx_130 : ((-2147483648) ≤ x_130.toInt ∧ x_130.toInt ≤ 2147483647) := ⟨i32_lo _, i32_hi _⟩
                      refine lv_iand hx hb dX12_fewest_122 ?_
                      refine lv_topi (fun x_131 ex_131 => ?_)
                      have bx_131 : ((-2147483648) ≤ x_131.toInt ∧ x_131.toInt ≤ 2147483647) := ⟨i32_lo _, i32_hi _⟩
                      have hcut_134 : ∀ (y_132 : Int32), ((-2147483648) ≤ y_132.toInt ∧ y_132.toInt ≤ 2147483647) → ∀ (H : Heap) (locs : List Loc), va_P (dC, dI) vwCl (va_pl L f_106) H → va_S (fun q => q ∈ L) s.heap H locs → ∀ (ls : Array Slot), lv_has ls 5 [(4, .int y_126), (3, .int y_132), (2, .int x_84), (0, .ref o0), (1, .int p1)] → W p l e (headSpec (wU yX12_fewest cX12_fewest 5 (some .int)) { frames := 24, cells := 0, slots := 0, locals := 676 }).room s m [.ref o0, .int p1].toArray below meth c H locs 0 0 (MQ below (va_Qi (fun (r : Int32) (f9 : Nat → va_E) => GI (okc cI cL cZ cR cG cH L kd) kd L f9 ∧ ((-2147483648) ≤ r.toInt ∧ r.toInt ≤ 2147483647) ∧ (∀ b, kd b ≠ 12 → kd b ≠ 579 → kd b ≠ 581 → kd b ≠ 583 → kd b ≠ 585 → kd b ≠ 587 → kd b ≠ 588 → kd b ≠ 589 → kd b ≠ 590 → kd b ≠ 591 → kd b ≠ 592 → kd b ≠ 593 → kd b ≠ 603 → f9 b = f b) ∧ (∀ b, kd b = 12 → ∀ j, fldR (f9 b) j = fldR (f b) j) ∧ (∀ b, kd b = 12 → ∀ j, j ≠ 23 → j ≠ 25 → j ≠ 27 → j ≠ 29 → j ≠ 32 → j ≠ 33 → fldI (f9 b) j = fldI (f b) j) ∧ (∀ (w29 z29 : Int32), fldI (f o0) 29 = some w29 → fldI (f9 o0) 29 = some z29 → z29.toInt = w29.toInt) ∧ (srel kd 592 f9 o0)) (qP (dC, dI) cI cL cZ cR cG cH L) (fun q => q ∈ L)) [.ref o0, .int p1].toArray s 0 0 (fun q => q ∈ L)) (F0 m 151 ls []) := by
                        intro y_132 by_132 H locs hP hS ls hl
                        obtain ⟨x_135, ex_135⟩ : ∃ y : Int32, y_126 + 1 = y := ⟨_, rfl⟩
                        have hx_135 : x_135.toInt = y_126.toInt + 1 := by rw [← ex_135, ad_I (by rw [ti_1]; omega) (by rw [ti_1]; omega), ti_1]
                        have bx_135 : (1 ≤ x_135.toInt ∧ x_135.toInt ≤ 256) := by constructor <;> omega
                        refine lv_iinc (v := x_135) (lv' := [(4, .int x_135), (3, .int y_132), (2, .int x_84), (0, .ref o0), (1, .int p1)]) hx hb dX12_fewest_151 hl (k := 0) rfl ex_135 (by decide) rfl (fun ls hl => ?_)
                        refine lv_goto (tgt := 99) hx hb dX12_fewest_154 (by decide) ?_
                        exact ih_hloop_125 x_135 (by constructor <;> omega) y_132 (by constructor <;> omega) _ _ hP hS (by omega) ls (lv_sub hl [0, 1, 2, 3, 4] rfl)
                      refine lv_if_ne (tgt := 151) hx hb dX12_fewest_123 (by decide) (fun c_136 => ?_) (fun c_136 => ?_)
                      · skip
                        rw [← Int32.toInt_inj, ti_0] at c_136
                        exact hcut_134 y_127 (by constructor <;> omega) _ _ hP hS ls (lv_sub hl [0, 1, 2, 3, 4] rfl)
                      · skip
                        rw [← Int32.toInt_inj, ti_0] at c_136
                        refine lv_aload_n hx hb dX12_fewest_126 rfl (lv_at hl 3 rfl) ?_
                        refine tk_getP (D := (dC, dI)) (ci := 12) (v := .ref a_48) (C := RX12) (T := TX12) (N := 56) hx hb hU inlX12 hown hK hP mo0 hfo_114 rfl 47 (by decide) (hU _ wd_197) (fun _ h9 => h9) rfl dX12_fewest_127 ?_
                        refine lv_iload hx hb dX12_fewest_130 (lv_at hl 0 rfl) ?_
                        obtain ⟨g_138, hfo_137, hbg_138⟩ := un_603 (hG _ ma_48) ka_48
                        refine tk_zldP hx hb hK hP 2 ma_48 hfo_137 rfl (vp_in_iff.mpr (by constructor <;> omega)) dX12_fewest_132 ?_
                        refine lv_topi (fun x_139 ex_139 => ?_)
                        have bx_139 : (0 ≤ x_139.toInt ∧ x_139.toInt ≤ 1) := by rw [ex_139]; exact hbg_138 _
                        refine lv_if_ne (tgt := 151) hx hb dX12_fewest_133 (by decide) (fun c_140 => ?_) (fun c_140 => ?_)
                        · skip
                          rw [← Int32.toInt_inj, ti_0] at c_140
                          exact hcut_134 y_127 (by constructor <;> omega) _ _ hP hS ls (lv_sub hl [0, 1, 2, 3, 4] rfl)
                        · skip
                          rw [← Int32.toInt_inj, ti_0] at c_140
                          refine lv_iload hx hb dX12_fewest_136 (lv_at hl 0 rfl) ?_
                          refine tk_SiP (As := [.int y_126]) (rest := []) (n := 1) hx hb hml hown hU hN hZ (s_X12_count l (dC, dI) cI cL cZ cR cG cH Z kd L f_106 hG y_126) wd_1380 wd_1381 wd_5 wd_1382 (by decide +kernel) ⟨Nat.le_of_ble_eq_true rfl, Nat.le_of_ble_eq_true rfl⟩ hK hP hD hS rfl hl.1 rfl (Nat.le_of_ble_eq_true rfl) dX12_fewest_138 ⟨Nat.le_of_ble_eq_true rfl, Nat.le_of_ble_eq_true rfl⟩ (fun x_141 f_142 H locs hw hP hD hS => ?_)
                          obtain ⟨rfl, bx_141⟩ := hw
                          refine lv_iload_n hx hb dX12_fewest_141 rfl (lv_at hl 1 rfl) ?_
                          refine tk_SiP (As := [.int y_127]) (rest := [.int x_141]) (n := 1) hx hb hml hown hU hN hZ (s_X12_count l (dC, dI) cI cL cZ cR cG cH Z kd L f_106 hG y_127) wd_1380 wd_1381 wd_5 wd_1382 (by decide +kernel) ⟨Nat.le_of_ble_eq_true rfl, Nat.le_of_ble_eq_true rfl⟩ hK hP hD hS rfl hl.1 rfl (Nat.le_of_ble_eq_true rfl) dX12_fewest_142 ⟨Nat.le_of_ble_eq_true rfl, Nat.le_of_ble_eq_true rfl⟩ (fun x_144 f_145 H locs hw hP hD hS => ?_)
                          obtain ⟨rfl, bx_144⟩ := hw
                          refine lv_icmp_ge (tgt := 151) hx hb dX12_fewest_145 (by decide) (fun c_147 => ?_) (fun c_147 => ?_)
                          · skip
                            rw [Int32.le_iff_toInt_le] at c_147
                            exact hcut_134 y_127 (by constructor <;> omega) _ _ hP hS ls (lv_sub hl [0, 1, 2, 3, 4] rfl)
                          · skip
                            rw [Int32.le_iff_toInt_le] at c_147
                            refine lv_iload hx hb dX12_fewest_148 (lv_at hl 0 rfl) ?_
                            refine lv_istore_n (lv' := [(3, .int y_126), (4, .int y_126), (2, .int x_84), (0, .ref o0), (1, .int p1)]) hx hb dX12_fewest_150 rfl hl (by decide) rfl (fun ls hl => ?_)
                            exact hcut_134 y_126 (by constructor <;> omega) _ _ hP hS ls (lv_sub hl [1, 0, 2, 3, 4] rfl)
                exact hloop_125 257 0 (by decide) x_117 (by constructor <;> omega) _ _ hP hS (by (try rw [ti_0]) <;> omega) ls hl
              · skip
                rw [Int32.le_iff_toInt_le] at c_116
                refine lv_aload_n hx hb dX12_fewest_46 rfl (lv_at hl 2 rfl) ?_
                refine lv_iload_n hx hb dX12_fewest_47 rfl (lv_at hl 0 rfl) ?_
                refine tk_VvP (As := [.int y_104]) (rest := []) (n := 1) hx hb hml hown hU hN hZ (s_X12_laysWord_k12 l (dC, dI) cI cL cZ cR cG cH Z kd L f_106 hG o0 mo0 ko0 y_104 (by constructor <;> omega) (fun b9 g9 h1 h2 => by rw [hfo_114] at h1; obtain rfl := Option.some.inj h1; rw [hfo_107] at h2; cases h2; omega)) wd_1173 wd_1174 wd_1175 wd_5 wd_1176 (by decide +kernel) ⟨Nat.le_of_ble_eq_true rfl, Nat.le_of_ble_eq_true rfl⟩ hK hP hD hS mo0 hfo_114 12 rfl rfl rfl hl.1 rfl (Nat.le_of_ble_eq_true rfl) dX12_fewest_48 ⟨Nat.le_of_ble_eq_true rfl, Nat.le_of_ble_eq_true rfl⟩ (fun f_149 H locs hw hP hD hS => ?_)
                obtain ⟨hG, hkc_150, hra_151, hfa_152, hpost_153, hxp_154⟩ := hw
                have hfo_156 : f_149 a_1 = .inl (cI, 1560, .inl g_89) := by rw [hkc_150 a_1 (by rw [ka_1]; decide) (by rw [ka_1]; decide)]; exact hfo_107
                have hfr0 : ∀ b, kd b ≠ 12 → kd b ≠ 579 → kd b ≠ 581 → kd b ≠ 583 → kd b ≠ 585 → kd b ≠ 587 → kd b ≠ 588 → kd b ≠ 589 → kd b ≠ 590 → kd b ≠ 591 → kd b ≠ 592 → kd b ≠ 593 → kd b ≠ 603 → f_149 b = f b := fun b q12 q579 q581 q583 q585 q587 q588 q589 q590 q591 q592 q593 q603 => (hkc_150 b q12 q589).trans (hfr0 b q12 q579 q581 q583 q585 q587 q588 q589 q590 q591 q592 q593 q603)
                have hrA12 : ∀ b, kd b = 12 → ∀ j, fldR (f_149 b) j = fldR (f b) j := fun b kb j => (hra_151 b kb j).trans (hrA12 b kb j)
                have hfA12 : ∀ b, kd b = 12 → ∀ j, j ≠ 23 → j ≠ 25 → j ≠ 27 → j ≠ 29 → j ≠ 32 → j ≠ 33 → fldI (f_149 b) j = fldI (f b) j := fun b kb j n23 n25 n27 n29 n32 n33 => (hfa_152 b kb j n23).trans (hfA12 b kb j n23 n25 n27 n29 n32 n33)
                have hT0 : srel kd 592 f_149 o0 := hT0.keep (fun b q => hra_151 b q 30) (fun b q => hfa_152 b q 32 (by decide)) (fun b q => hfa_152 b q 33 (by decide)) (fun b q => hkc_150 b (by rw [q]; decide) (by rw [q]; decide))
                obtain ⟨v_157, hfo_158, fa_159⟩ := op12_23 hfo_114 (hG _ mo0) ko0 (hra_151 o0 ko0) (hfa_152 o0 ko0)
                have bv_157 : (0 ≤ v_157.toInt ∧ v_157.toInt ≤ 12) := fa12_23 fa_159
                have hqhpost_153 := hpost_153 v_108 v_157 (by rw [hfo_114]; rfl) (by rw [hfo_158]; rfl)
                have hlw2 := hxp_154 a_1 g_89 v_157 (by rw [hfo_114]; rfl) hfo_107 (by rw [hfo_158]; rfl)
                refine lv_aload_n hx hb dX12_fewest_51 rfl (lv_at hl 2 rfl) ?_
                refine lv_aload_n hx hb dX12_fewest_52 rfl (lv_at hl 2 rfl) ?_
                refine tk_getP (D := (dC, dI)) (ci := 12) (v := .ref a_1) (C := RX12) (T := TX12) (N := 56) hx hb hU inlX12 hown hK hP mo0 hfo_158 rfl 0 (by decide) (hU _ wd_169) (fun _ h9 => h9) rfl dX12_fewest_53 ?_
                refine lv_bipush (v := 40) hx hb dX12_fewest_56 (by decide) ?_
                refine tk_ildP hx hb hK hP 0 ma_1 hfo_156 rfl (vp_in_nI (n := 40) (by decide) (by decide)) dX12_fewest_58 ?_
                refine lv_topi (fun x_160 ex_160 => ?_)
                have bx_160 : (0 ≤ x_160.toInt ∧ x_160.toInt ≤ 255) := by rw [ex_160]; exact hbg_89.2.2.2.2.2.2.1 _ (by decide) (by decide) (by decide)
                refine tk_VvP (As := [.int x_160]) (rest := []) (n := 1) hx hb hml hown hU hN hZ (s_X12_marksAll_k12 l (dC, dI) cI cL cZ cR cG cH Z kd L f_149 hG o0 mo0 ko0 x_160 (by intro w23 w29 e23 e29; rw [hfo_158] at e23 e29; obtain rfl := Option.some.inj e23; obtain rfl := Option.some.inj e29; omega) hT0) wd_1243 wd_1244 wd_1245 wd_5 wd_1246 (by decide +kernel) ⟨Nat.le_of_ble_eq_true rfl, Nat.le_of_ble_eq_true rfl⟩ hK hP hD hS mo0 hfo_158 12 rfl rfl rfl hl.1 rfl (Nat.le_of_ble_eq_true rfl) dX12_fewest_59 ⟨Nat.le_of_ble_eq_true rfl, Nat.le_of_ble_eq_true rfl⟩ (fun f_162 H locs hw hP hD hS => ?_)
                obtain ⟨hG, hkc_163, hra_164, hfa_165, hpost_166, hTc_167⟩ := hw
                have hfo_169 : f_162 a_1 = .inl (cI, 1560, .inl g_89) := by rw [hkc_163 a_1 (by rw [ka_1]; decide) (by rw [ka_1]; decide) (by rw [ka_1]; decide) (by rw [ka_1]; decide) (by rw [ka_1]; decide) (by rw [ka_1]; decide) (by rw [ka_1]; decide) (by rw [ka_1]; decide) (by rw [ka_1]; decide) (by rw [ka_1]; decide) (by rw [ka_1]; decide) (by rw [ka_1]; decide)]; exact hfo_156
                have hfr0 : ∀ b, kd b ≠ 12 → kd b ≠ 579 → kd b ≠ 581 → kd b ≠ 583 → kd b ≠ 585 → kd b ≠ 587 → kd b ≠ 588 → kd b ≠ 589 → kd b ≠ 590 → kd b ≠ 591 → kd b ≠ 592 → kd b ≠ 593 → kd b ≠ 603 → f_162 b = f b := fun b q12 q579 q581 q583 q585 q587 q588 q589 q590 q591 q592 q593 q603 => (hkc_163 b q12 q579 q581 q583 q585 q587 q588 q590 q591 q592 q593 q603).trans (hfr0 b q12 q579 q581 q583 q585 q587 q588 q589 q590 q591 q592 q593 q603)
                have hrA12 : ∀ b, kd b = 12 → ∀ j, fldR (f_162 b) j = fldR (f b) j := fun b kb j => (hra_164 b kb j).trans (hrA12 b kb j)
                have hfA12 : ∀ b, kd b = 12 → ∀ j, j ≠ 23 → j ≠ 25 → j ≠ 27 → j ≠ 29 → j ≠ 32 → j ≠ 33 → fldI (f_162 b) j = fldI (f b) j := fun b kb j n23 n25 n27 n29 n32 n33 => (hfa_165 b kb j n25 n27 n29 n32 n33).trans (hfA12 b kb j n23 n25 n27 n29 n32 n33)
                obtain ⟨v_170, v_171, v_172, v_173, v_174, hfo_175, fa_176⟩ := op12_25_27_29_32_33 hfo_158 (hG _ mo0) ko0 (hra_164 o0 ko0) (hfa_165 o0 ko0)
                have bv_170 : (0 ≤ v_170.toInt ∧ v_170.toInt ≤ 4) := fa12_25 fa_176
                have bv_171 : (0 ≤ v_171.toInt ∧ v_171.toInt ≤ 1) := fa12_27 fa_176
                have bv_172 : (0 ≤ v_172.toInt ∧ v_172.toInt ≤ 201) := fa12_29 fa_176
                have bv_173 : (0 ≤ v_173.toInt ∧ v_173.toInt ≤ 6561) := fa12_32 fa_176
                have bv_174 : ((-2147483648) ≤ v_174.toInt ∧ v_174.toInt ≤ 2147483647) := ⟨i32_lo _, i32_hi _⟩
                have hqhpost_166 := hpost_166 v_111 v_172 (by rw [hfo_158]; rfl) (by rw [hfo_175]; rfl)
                refine lv_aload_n hx hb dX12_fewest_62 rfl (lv_at hl 2 rfl) ?_
                refine lv_iconst (v := 4) hx hb dX12_fewest_63 (by decide) ?_
                refine tk_VvP (As := [.int 4]) (rest := []) (n := 1) hx hb hml hown hU hN hZ (s_X12_sets_k12 l (dC, dI) cI cL cZ cR cG cH Z kd L f_162 hG o0 mo0 ko0 4 (by decide)) wd_868 wd_869 wd_870 wd_5 wd_871 (by decide +kernel) ⟨Nat.le_of_ble_eq_true rfl, Nat.le_of_ble_eq_true rfl⟩ hK hP hD hS mo0 hfo_175 12 rfl rfl rfl hl.1 rfl (Nat.le_of_ble_eq_true rfl) dX12_fewest_64 ⟨Nat.le_of_ble_eq_true rfl, Nat.le_of_ble_eq_true rfl⟩ (fun f_178 H locs hw hP hD hS => ?_)
                obtain ⟨hG, hkc_179, hra_180, hfa_181, hpost_182⟩ := hw
                have hfo_184 : f_178 a_1 = .inl (cI, 1560, .inl g_89) := by rw [hkc_179 a_1 (by rw [ka_1]; decide) (by rw [ka_1]; decide) (by rw [ka_1]; decide) (by rw [ka_1]; decide)]; exact hfo_169
                have hfr0 : ∀ b, kd b ≠ 12 → kd b ≠ 579 → kd b ≠ 581 → kd b ≠ 583 → kd b ≠ 585 → kd b ≠ 587 → kd b ≠ 588 → kd b ≠ 589 → kd b ≠ 590 → kd b ≠ 591 → kd b ≠ 592 → kd b ≠ 593 → kd b ≠ 603 → f_178 b = f b := fun b q12 q579 q581 q583 q585 q587 q588 q589 q590 q591 q592 q593 q603 => (hkc_179 b q12 q579 q581 q587).trans (hfr0 b q12 q579 q581 q583 q585 q587 q588 q589 q590 q591 q592 q593 q603)
                have hrA12 : ∀ b, kd b = 12 → ∀ j, fldR (f_178 b) j = fldR (f b) j := fun b kb j => (hra_180 b kb j).trans (hrA12 b kb j)
                have hfA12 : ∀ b, kd b = 12 → ∀ j, j ≠ 23 → j ≠ 25 → j ≠ 27 → j ≠ 29 → j ≠ 32 → j ≠ 33 → fldI (f_178 b) j = fldI (f b) j := fun b kb j n23 n25 n27 n29 n32 n33 => (hfa_181 b kb j n25 n27).trans (hfA12 b kb j n23 n25 n27 n29 n32 n33)
                have hTc_167 : srel kd 592 f_178 o0 := hTc_167.keep (fun b q => hra_180 b q 30) (fun b q => hfa_181 b q 32 (by decide) (by decide)) (fun b q => hfa_181 b q 33 (by decide) (by decide)) (fun b q => hkc_179 b (by rw [q]; decide) (by rw [q]; decide) (by rw [q]; decide) (by rw [q]; decide))
                obtain ⟨v_185, v_186, hfo_187, fa_188⟩ := op12_25_27 hfo_175 (hG _ mo0) ko0 (hra_180 o0 ko0) (hfa_181 o0 ko0)
                have bv_185 : (0 ≤ v_185.toInt ∧ v_185.toInt ≤ 4) := fa12_25 fa_188
                have bv_186 : (0 ≤ v_186.toInt ∧ v_186.toInt ≤ 1) := fa12_27 fa_188
                have hqhpost_182 := hpost_182 v_170 v_185 v_171 v_186 (by rw [hfo_175]; rfl) (by rw [hfo_175]; rfl) (by rw [hfo_187]; rfl) (by rw [hfo_187]; rfl)
                try rw [ti_4] at hqhpost_182
                refine lv_aload_n hx hb dX12_fewest_67 rfl (lv_at hl 2 rfl) ?_
                refine lv_iconst (v := 0) hx hb dX12_fewest_68 (by decide) ?_
                refine lv_aload_n hx hb dX12_fewest_69 rfl (lv_at hl 2 rfl) ?_
                refine tk_getP (D := (dC, dI)) (ci := 12) (v := .ref a_1) (C := RX12) (T := TX12) (N := 56) hx hb hU inlX12 hown hK hP mo0 hfo_187 rfl 0 (by decide) (hU _ wd_169) (fun _ h9 => h9) rfl dX12_fewest_70 ?_
                refine lv_bipush (v := 41) hx hb dX12_fewest_73 (by decide) ?_
                refine tk_ildP hx hb hK hP 0 ma_1 hfo_184 rfl (vp_in_nI (n := 41) (by decide) (by decide)) dX12_fewest_75 ?_
                refine lv_topi (fun x_189 ex_189 => ?_)
                have bx_189 : (0 ≤ x_189.toInt ∧ x_189.toInt ≤ 1) := by rw [ex_189]; exact hbg_89.2.2.2.2.2.2.2.1 _ (by decide) (by decide) (by decide)
                refine lv_iconst (v := 0) hx hb dX12_fewest_76 (by decide) ?_
                refine lv_iconst (v := 0) hx hb dX12_fewest_77 (by decide) ?_
                refine lv_iconst (v := 0) hx hb dX12_fewest_78 (by decide) ?_
                refine tk_VvP (As := [.int 0, .int x_189, .int 0, .int 0, .int 0]) (rest := []) (n := 5) hx hb hml hown hU hN hZ (s_X12_goes_k12 l (dC, dI) cI cL cZ cR cG cH Z kd L 14 f_178 hG o0 mo0 ko0 0 (by decide) x_189 (by constructor <;> omega) 0 (by decide) 0 (by decide) 0 (by intro w23 w25 w27 w29 e23 e25 e27 e29; rw [hfo_187] at e23 e25 e27 e29; obtain rfl := Option.some.inj e23; obtain rfl := Option.some.inj e25; obtain rfl := Option.some.inj e27; obtain rfl := Option.some.inj e29; (try rw [ti_0]) <;> omega) (by (try rw [ti_0]) <;> omega) hTc_167 (by (try rw [ti_0]) <;> omega)) wd_886 wd_887 wd_888 wd_5 wd_889 (by decide +kernel) ⟨Nat.le_of_ble_eq_true rfl, Nat.le_of_ble_eq_true rfl⟩ hK hP hD hS mo0 hfo_187 12 rfl rfl rfl hl.1 rfl (Nat.le_of_ble_eq_true rfl) dX12_fewest_79 ⟨Nat.le_of_ble_eq_true rfl, Nat.le_of_ble_eq_true rfl⟩ (fun f_191 H locs hw hP hD hS => ?_)
                obtain ⟨hG, hkc_192, hra_193, hfa_194, hpost_195, hTc_196⟩ := hw
                have hfo_198 : f_191 a_1 = .inl (cI, 1560, .inl g_89) := by rw [hkc_192 a_1 (by rw [ka_1]; decide) (by rw [ka_1]; decide) (by rw [ka_1]; decide) (by rw [ka_1]; decide) (by rw [ka_1]; decide) (by rw [ka_1]; decide) (by rw [ka_1]; decide) (by rw [ka_1]; decide) (by rw [ka_1]; decide) (by rw [ka_1]; decide) (by rw [ka_1]; decide) (by rw [ka_1]; decide)]; exact hfo_184
                have hfr0 : ∀ b, kd b ≠ 12 → kd b ≠ 579 → kd b ≠ 581 → kd b ≠ 583 → kd b ≠ 585 → kd b ≠ 587 → kd b ≠ 588 → kd b ≠ 589 → kd b ≠ 590 → kd b ≠ 591 → kd b ≠ 592 → kd b ≠ 593 → kd b ≠ 603 → f_191 b = f b := fun b q12 q579 q581 q583 q585 q587 q588 q589 q590 q591 q592 q593 q603 => (hkc_192 b q12 q579 q581 q583 q585 q587 q588 q590 q591 q592 q593 q603).trans (hfr0 b q12 q579 q581 q583 q585 q587 q588 q589 q590 q591 q592 q593 q603)
                have hrA12 : ∀ b, kd b = 12 → ∀ j, fldR (f_191 b) j = fldR (f b) j := fun b kb j => (hra_193 b kb j).trans (hrA12 b kb j)
                have hfA12 : ∀ b, kd b = 12 → ∀ j, j ≠ 23 → j ≠ 25 → j ≠ 27 → j ≠ 29 → j ≠ 32 → j ≠ 33 → fldI (f_191 b) j = fldI (f b) j := fun b kb j n23 n25 n27 n29 n32 n33 => (hfa_194 b kb j n27 n29 n32).trans (hfA12 b kb j n23 n25 n27 n29 n32 n33)
                obtain ⟨v_199, v_200, v_201, hfo_202, fa_203⟩ := op12_27_29_32 hfo_187 (hG _ mo0) ko0 (hra_193 o0 ko0) (hfa_194 o0 ko0)
                have bv_199 : (0 ≤ v_199.toInt ∧ v_199.toInt ≤ 1) := fa12_27 fa_203
                have bv_200 : (0 ≤ v_200.toInt ∧ v_200.toInt ≤ 201) := fa12_29 fa_203
                have bv_201 : (0 ≤ v_201.toInt ∧ v_201.toInt ≤ 6561) := fa12_32 fa_203
                have hqhpost_195 := hpost_195 v_185 v_185 v_186 v_199 v_172 v_200 (by rw [hfo_187]; rfl) (by rw [hfo_187]; rfl) (by rw [hfo_187]; rfl) (by rw [hfo_202]; rfl) (by rw [hfo_202]; rfl) (by rw [hfo_202]; rfl)
                try rw [ti_0] at hqhpost_195
                obtain ⟨x_204, ex_204⟩ : ∃ y : Int32, y_104 + 1 = y := ⟨_, rfl⟩
                have hx_204 : x_204.toInt = y_104.toInt + 1 := by rw [← ex_204, ad_I (by rw [ti_1]; omega) (by rw [ti_1]; omega), ti_1]
                have bx_204 : (1 ≤ x_204.toInt ∧ x_204.toInt ≤ 584) := by constructor <;> omega
                refine lv_iinc (v := x_204) (lv' := [(3, .int x_204), (2, .int x_84), (0, .ref o0), (1, .int p1)]) hx hb dX12_fewest_82 hl (k := 0) rfl ex_204 (by decide) rfl (fun ls hl => ?_)
                refine lv_goto (tgt := 41) hx hb dX12_fewest_85 (by decide) ?_
                exact ih_hloop_103 x_204 (by constructor <;> omega) f_191 hG _ _ hP hS hD hfr0 hrA12 hfA12 hfo_198 hTc_196 v_200 (by rw [hfo_202]; rfl) (by omega) (by omega) (by omega) ls (lv_sub hl [0, 1, 2, 3] rfl)
          exact hloop_103 585 0 (by decide) f_81 hG _ _ hP hS hD hfr0 hrA12 hfA12 hfo_88 hT0 v_30 (by rw [hfo_82]; rfl) (by (try rw [ti_0]) <;> omega) (by (try rw [ti_0]) <;> omega) (by (try rw [ti_0]) <;> omega) ls hl
        · skip
          rw [Int32.le_iff_toInt_le, ti_256] at c_83
          refine lv_aload_n hx hb dX12_fewest_20 rfl (lv_at hl 1 rfl) ?_
          refine tk_getP (D := (dC, dI)) (ci := 12) (v := .ref a_48) (C := RX12) (T := TX12) (N := 56) hx hb hU inlX12 hown hK hP mo0 hfo_82 rfl 47 (by decide) (hU _ wd_197) (fun _ h9 => h9) rfl dX12_fewest_21 ?_
          refine lv_iload_n hx hb dX12_fewest_24 rfl (lv_at hl 0 rfl) ?_
          refine lv_iconst (v := 0) hx hb dX12_fewest_25 (by decide) ?_
          obtain ⟨g_206, hfo_205, hbg_206⟩ := un_603 (hG _ ma_48) ka_48
          refine tk_zstP hx hb hK hP hD hS 2 ma_48 hfo_205 rfl (vp_in_iff.mpr (by constructor <;> omega)) (bt_n (by decide)) dX12_fewest_26 (fun H locs hP hD hS => ?_)
          obtain ⟨f_208, ef_208⟩ : ∃ y : Nat → va_E, y = va_up f_81 a_48 (.inl (cZ, 256, .inl (upd g_206 (Int32.toNatClampNeg y_79) 0))) := ⟨_, rfl⟩
          have hP : va_P (dC, dI) vwCl (va_pl L f_208) H := by rw [ef_208]; exact hP
          have hD : va_D (fun q => q ∈ L) (va_pl L f_208) := by rw [ef_208]; exact hD
          have hG : GI (okc cI cL cZ cR cG cH L kd) kd L f_208 := by rw [ef_208]; exact hG.set a_48 (mk_603 ka_48 ⟨_, rfl, okI_up hbg_206 (by decide) _⟩)
          have hfo_209 : f_208 o0 = .inr (12, [.ref a_1, .ref a_2, .ref a_3, .int v_4, .ref a_5, .int v_6, .int v_7, .int v_8, .int v_9, .int v_10, .int v_11, .int v_12, .int v_13, .int v_14, .int v_15, .ref a_16, .ref a_17, .ref a_18, .ref a_19, .ref a_20, .ref a_21, .ref a_22, .ref a_23, .int v_24, .int v_25, .int v_26, .int v_27, .int v_28, .ref a_29, .int v_30, .ref a_31, .ref a_32, .int v_33, .int v_34, .ref a_35, .int v_36, .ref a_37, .ref a_38, .int v_39, .int v_40, .ref a_41, .ref a_42, .ref a_43, .int v_44, .ref a_45, .ref a_46, .ref a_47, .ref a_48, .ref a_49, .ref a_50, .ref a_51, .ref a_52, .ref a_53, .int v_54, .int v_55, .ref a_56]) := by rw [ef_208, up_ne (kd_ne ka_48 ko0 (by decide))]; exact hfo_82
          have hfr0 : ∀ b, kd b ≠ 12 → kd b ≠ 579 → kd b ≠ 581 → kd b ≠ 583 → kd b ≠ 585 → kd b ≠ 587 → kd b ≠ 588 → kd b ≠ 589 → kd b ≠ 590 → kd b ≠ 591 → kd b ≠ 592 → kd b ≠ 593 → kd b ≠ 603 → f_208 b = f b := fun b q12 q579 q581 q583 q585 q587 q588 q589 q590 q591 q592 q593 q603 => (congrFun ef_208 b).trans ((up_ne (fun e9 => q603 (by rw [e9]; exact ka_48))).trans (hfr0 b q12 q579 q581 q583 q585 q587 q588 q589 q590 q591 q592 q593 q603))
          have hrA12 : ∀ b, kd b = 12 → ∀ j, fldR (f_208 b) j = fldR (f b) j := fun b kb j => (congrArg (fun x => fldR x j) ((congrFun ef_208 b).trans (up_ne (kd_ne ka_48 kb (by decide))))).trans (hrA12 b kb j)
          have hfA12 : ∀ b, kd b = 12 → ∀ j, j ≠ 23 → j ≠ 25 → j ≠ 27 → j ≠ 29 → j ≠ 32 → j ≠ 33 → fldI (f_208 b) j = fldI (f b) j := fun b kb j n23 n25 n27 n29 n32 n33 => (congrArg (fun x => fldI x j) ((congrFun ef_208 b).trans (up_ne (kd_ne ka_48 kb (by decide))))).trans (hfA12 b kb j n23 n25 n27 n29 n32 n33)
          have hT0 : srel kd 592 f_208 o0 := by rw [ef_208]; exact hT0.keep (fun b q => congrArg (fun x => fldR x 30) (up_ne (kd_ne ka_48 q (by decide)))) (fun b q => congrArg (fun x => fldI x 32) (up_ne (kd_ne ka_48 q (by decide)))) (fun b q => congrArg (fun x => fldI x 33) (up_ne (kd_ne ka_48 q (by decide)))) (fun b q => up_ne (kd_ne ka_48 q (by decide)))
          have hfo_210 : f_208 a_48 = .inl (cZ, 256, .inl (upd g_206 (Int32.toNatClampNeg y_79) 0)) := by rw [ef_208]; exact up_self
          obtain ⟨x_211, ex_211⟩ : ∃ y : Int32, y_79 + 1 = y := ⟨_, rfl⟩
          have hx_211 : x_211.toInt = y_79.toInt + 1 := by rw [← ex_211, ad_I (by rw [ti_1]; omega) (by rw [ti_1]; omega), ti_1]
          have bx_211 : (1 ≤ x_211.toInt ∧ x_211.toInt ≤ 256) := by constructor <;> omega
          refine lv_iinc (v := x_211) (lv' := [(2, .int x_211), (0, .ref o0), (1, .int p1)]) hx hb dX12_fewest_27 hl (k := 0) rfl ex_211 (by decide) rfl (fun ls hl => ?_)
          refine lv_goto (tgt := 13) hx hb dX12_fewest_30 (by decide) ?_
          exact ih_hloop_78 x_211 (by constructor <;> omega) f_208 hG _ _ hP hS hD hfr0 hrA12 hfA12 hfo_209 hT0 (by omega) ls (lv_sub hl [0, 1, 2] rfl)
    exact hloop_78 257 0 (by decide) f hG _ _ hP hS hD hfr0 hrA12 hfA12 hfo_57 hT0 (by (try rw [ti_0]) <;> omega) ls hl
  · skip
    rw [← Int32.toInt_inj, ti_0] at c_62
    refine lv_iconst (v := (-1)) hx hb dX12_fewest_9 (by decide) ?_
    exact W.iret (v := (-1)) hx hb hr (fun t ht hW => ⟨⟨(-1), f, rfl, ⟨hG, (by decide), hfr0, hrA12, hfA12, (by intro w29 z29 e29 d29; rw [hfo_57] at e29; rw [hfo_57] at d29; obtain rfl := Option.some.inj e29; obtain rfl := Option.some.inj d29; (try rw [ti_m1]) <;> omega), hT0⟩, by rw [ht]; exact hP, va_K.moved hW.alike hK, pl_in hD⟩, hS.F ht⟩) hS.2.2 dX12_fewest_10
set_option maxHeartbeats 8000000 in
set_option maxRecDepth 100000 in
theorem s_X12_lives_k12 (l : Launch) (D : va_G) (cI cL cZ cR cG cH : ClassId) (Z : zT) (kd : Nat → Nat) (L : List Nat) (f : Nat → va_E) (hG : GI (okc cI cL cZ cR cG cH L kd) kd L f) (o0 : Nat) (mo0 : o0 ∈ L) (ko0 : kd o0 = 12) (p1 : Int32) (p2 : Int32) (p3 : Int32) (hpreo0 : ∀ (w29 : Int32), fldI (f o0) 29 = some w29 → w29.toInt ≤ 200) (hxtr0 : srel kd 592 f o0) : mPI l D cI cL cZ cR cG cH Z yX12_lives cX12_lives 6 (some .int) 23 655 [.ref o0, .int p1, .int p2, .int p3] L f (fun (r : Int32) (f9 : Nat → va_E) => GI (okc cI cL cZ cR cG cH L kd) kd L f9 ∧ ((-2147483648) ≤ r.toInt ∧ r.toInt ≤ 2147483647) ∧ (∀ b, kd b ≠ 12 → kd b ≠ 579 → kd b ≠ 581 → kd b ≠ 583 → kd b ≠ 585 → kd b ≠ 587 → kd b ≠ 588 → kd b ≠ 589 → kd b ≠ 590 → kd b ≠ 591 → kd b ≠ 592 → kd b ≠ 593 → kd b ≠ 603 → f9 b = f b) ∧ (∀ b, kd b = 12 → ∀ j, fldR (f9 b) j = fldR (f b) j) ∧ (∀ b, kd b = 12 → ∀ j, j ≠ 23 → j ≠ 25 → j ≠ 26 → j ≠ 27 → j ≠ 29 → j ≠ 32 → fldI (f9 b) j = fldI (f b) j) ∧ (∀ (w29 z29 : Int32), fldI (f o0) 29 = some w29 → fldI (f9 o0) 29 = some z29 → z29.toInt = w29.toInt) ∧ (srel kd 592 f9 o0)) := by
  obtain ⟨dC, dI⟩ := D
  refine Met.ofW (cc := cX12_lives) (maxL := 6) (ret := (some .int)) (by decide) rfl ?_
  intro p e s m args below meth c s₁ B hml hv
  obtain ⟨rfl, hP, hK, hD0, hN, hZ⟩ := hv
  have hx := B.exec
  have hb := B.bytes
  have hr := B.returns
  have hU : ∀ w ∈ wsU, w.before _ s = true := fun w h => atoms_spec (ws := wU yX12_lives cX12_lives 6 (some .int)) B.pre w (List.mem_cons_of_mem _ h)
  have hown : s.vm.findClass RX12 = some m.cls := findClass_of_methodNamed B.named
  have hlocks := B.notSynchronized
  have hD := pl_in hD0
  have hS : va_S (fun q => q ∈ L) s.heap s.heap [] := va_S.rf
  have hl := lv_entry ([.ref o0, .int p1, .int p2, .int p3]) (n := 6) (Nat.le_of_ble_eq_true rfl)
  rw [lg_entry_eq]
  generalize (lg_sl ([.ref o0, .int p1, .int p2, .int p3]) ++ List.replicate (6 - (lg_sl ([.ref o0, .int p1, .int p2, .int p3])).length) Slot.unset).toArray = ls at hl ⊢
  have hl : lv_has ls 6 [(0, .ref o0), (1, .int p1), (2, .int p2), (3, .int p3)] := hl
  have bp1 : ((-2147483648) ≤ p1.toInt ∧ p1.toInt ≤ 2147483647) := ⟨i32_lo _, i32_hi _⟩
  have bp2 : ((-2147483648) ≤ p2.toInt ∧ p2.toInt ≤ 2147483647) := ⟨i32_lo _, i32_hi _⟩
  have bp3 : ((-2147483648) ≤ p3.toInt ∧ p3.toInt ≤ 2147483647) := ⟨i32_lo _, i32_hi _⟩
  have hfr0 : ∀ b, kd b ≠ 12 → kd b ≠ 579 → kd b ≠ 581 → kd b ≠ 583 → kd b ≠ 585 → kd b ≠ 587 → kd b ≠ 588 → kd b ≠ 589 → kd b ≠ 590 → kd b ≠ 591 → kd b ≠ 592 → kd b ≠ 593 → kd b ≠ 603 → f b = f b := fun _ _ _ _ _ _ _ _ _ _ _ _ _ _ => rfl
  have hrA12 : ∀ b, kd b = 12 → ∀ j, fldR (f b) j = fldR (f b) j := fun _ _ _ => rfl
  have hfA12 : ∀ b, kd b = 12 → ∀ j, j ≠ 23 → j ≠ 25 → j ≠ 26 → j ≠ 27 → j ≠ 29 → j ≠ 32 → fldI (f b) j = fldI (f b) j := fun _ _ _ _ _ _ _ _ _ => rfl
  obtain ⟨a_1, a_2, a_3, v_4, a_5, v_6, v_7, v_8, v_9, v_10, v_11, v_12, v_13, v_14, v_15, a_16, a_17, a_18, a_19, a_20, a_21, a_22, a_23, v_24, v_25, v_26, v_27, v_28, a_29, v_30, a_31, a_32, v_33, v_34, a_35, v_36, a_37, a_38, v_39, v_40, a_41, a_42, a_43, v_44, a_45, a_46, a_47, a_48, a_49, a_50, a_51, a_52, a_53, v_54, v_55, a_56, hfo_57, fa_58⟩ := un12 (hG _ mo0) ko0
  obtain ⟨ma_1, ka_1⟩ := fa12_0 fa_58
  have bv_30 : (0 ≤ v_30.toInt ∧ v_30.toInt ≤ 201) := fa12_29 fa_58
  have hpo0 := hpreo0 v_30 (by rw [hfo_57]; rfl)
  have hT0 := hxtr0
  refine lv_iload_n hx hb dX12_lives_0 rfl (lv_at hl 1 rfl) ?_
  refine lv_iconst (v := 0) hx hb dX12_lives_1 (by decide) ?_
  refine lv_aload_n hx hb dX12_lives_2 rfl (lv_at hl 0 rfl) ?_
  refine tk_getP (D := (dC, dI)) (ci := 12) (v := .ref a_1) (C := RX12) (T := TX12) (N := 56) hx hb hU inlX12 hown hK hP mo0 hfo_57 rfl 0 (by decide) (hU _ wd_169) (fun _ h9 => h9) rfl dX12_lives_3 ?_
  refine lv_iconst (v := 0) hx hb dX12_lives_6 (by decide) ?_
  obtain ⟨g_60, hfo_59, hbg_60⟩ := un_575 (hG _ ma_1) ka_1
  refine tk_ildP hx hb hK hP 0 ma_1 hfo_59 rfl (vp_in_nI (n := 0) (by decide) (by decide)) dX12_lives_7 ?_
  refine lv_topi (fun x_61 ex_61 => ?_)
  have bx_61 : (0 ≤ x_61.toInt ∧ x_61.toInt ≤ 8) := by rw [ex_61]; exact hbg_60.1 _ (by decide) (by decide) (by decide)
  refine tk_SiP (As := [.int p1, .int 0, .int x_61]) (rest := []) (n := 3) hx hb hml hown hU hN hZ (s_X12_isIn l (dC, dI) cI cL cZ cR cG cH Z kd L f hG p1 0 x_61) wd_227 wd_228 wd_5 wd_229 (by decide +kernel) ⟨Nat.le_of_ble_eq_true rfl, Nat.le_of_ble_eq_true rfl⟩ hK hP hD hS rfl hl.1 rfl (Nat.le_of_ble_eq_true rfl) dX12_lives_8 ⟨Nat.le_of_ble_eq_true rfl, Nat.le_of_ble_eq_true rfl⟩ (fun x_62 f_63 H locs hw hP hD hS => ?_)
  obtain ⟨rfl, bx_62, relx_62⟩ := hw
  try rw [ti_0] at relx_62
  refine lv_if_eq (tgt := 49) hx hb dX12_lives_11 (by decide) (fun c_65 => ?_) (fun c_65 => ?_)
  · skip
    rw [← Int32.toInt_inj, ti_0] at c_65
    refine lv_iconst (v := (-1)) hx hb dX12_lives_49 (by decide) ?_
    exact W.iret (v := (-1)) hx hb hr (fun t ht hW => ⟨⟨(-1), f, rfl, ⟨hG, (by decide), hfr0, hrA12, hfA12, (by intro w29 z29 e29 d29; rw [hfo_57] at e29; rw [hfo_57] at d29; obtain rfl := Option.some.inj e29; obtain rfl := Option.some.inj d29; (try rw [ti_m1]) <;> omega), hT0⟩, by rw [ht]; exact hP, va_K.moved hW.alike hK, pl_in hD⟩, hS.F ht⟩) hS.2.2 dX12_lives_50
  · skip
    rw [← Int32.toInt_inj, ti_0] at c_65
    refine lv_iload_n hx hb dX12_lives_14 rfl (lv_at hl 2 rfl) ?_
    refine lv_iconst (v := 0) hx hb dX12_lives_15 (by decide) ?_
    refine lv_aload_n hx hb dX12_lives_16 rfl (lv_at hl 0 rfl) ?_
    refine tk_getP (D := (dC, dI)) (ci := 12) (v := .ref a_1) (C := RX12) (T := TX12) (N := 56) hx hb hU inlX12 hown hK hP mo0 hfo_57 rfl 0 (by decide) (hU _ wd_169) (fun _ h9 => h9) rfl dX12_lives_17 ?_
    refine lv_iconst (v := 0) hx hb dX12_lives_20 (by decide) ?_
    refine tk_ildP hx hb hK hP 0 ma_1 hfo_59 rfl (vp_in_nI (n := 0) (by decide) (by decide)) dX12_lives_21 ?_
    refine tk_topi (y := x_61) ex_61.symm ?_
    refine tk_SiP (As := [.int p2, .int 0, .int x_61]) (rest := []) (n := 3) hx hb hml hown hU hN hZ (s_X12_isIn l (dC, dI) cI cL cZ cR cG cH Z kd L f hG p2 0 x_61) wd_227 wd_228 wd_5 wd_229 (by decide +kernel) ⟨Nat.le_of_ble_eq_true rfl, Nat.le_of_ble_eq_true rfl⟩ hK hP hD hS rfl hl.1 rfl (Nat.le_of_ble_eq_true rfl) dX12_lives_22 ⟨Nat.le_of_ble_eq_true rfl, Nat.le_of_ble_eq_true rfl⟩ (fun x_66 f_67 H locs hw hP hD hS => ?_)
    obtain ⟨rfl, bx_66, relx_66⟩ := hw
    try rw [ti_0] at relx_66
    refine lv_if_eq (tgt := 49) hx hb dX12_lives_25 (by decide) (fun c_69 => ?_) (fun c_69 => ?_)
    · skip
      rw [← Int32.toInt_inj, ti_0] at c_69
      refine lv_iconst (v := (-1)) hx hb dX12_lives_49 (by decide) ?_
      exact W.iret (v := (-1)) hx hb hr (fun t ht hW => ⟨⟨(-1), f, rfl, ⟨hG, (by decide), hfr0, hrA12, hfA12, (by intro w29 z29 e29 d29; rw [hfo_57] at e29; rw [hfo_57] at d29; obtain rfl := Option.some.inj e29; obtain rfl := Option.some.inj d29; (try rw [ti_m1]) <;> omega), hT0⟩, by rw [ht]; exact hP, va_K.moved hW.alike hK, pl_in hD⟩, hS.F ht⟩) hS.2.2 dX12_lives_50
    · skip
      rw [← Int32.toInt_inj, ti_0] at c_69
      refine lv_aload_n hx hb dX12_lives_28 rfl (lv_at hl 0 rfl) ?_
      refine tk_getP (D := (dC, dI)) (ci := 12) (v := .ref a_1) (C := RX12) (T := TX12) (N := 56) hx hb hU inlX12 hown hK hP mo0 hfo_57 rfl 0 (by decide) (hU _ wd_169) (fun _ h9 => h9) rfl dX12_lives_29 ?_
      refine lv_iload_n hx hb dX12_lives_32 rfl (lv_at hl 1 rfl) ?_
      refine lv_iload_n hx hb dX12_lives_33 rfl (lv_at hl 2 rfl) ?_
      refine tk_SiP (As := [.ref a_1, .int p1, .int p2]) (rest := []) (n := 3) hx hb hml hown hU hN hZ (s_X12_hasPair_a575 l (dC, dI) cI cL cZ cR cG cH Z kd L f hG a_1 ma_1 ka_1 p1 (by constructor <;> omega) p2 (by constructor <;> omega)) wd_628 wd_629 wd_5 wd_630 (by decide +kernel) ⟨Nat.le_of_ble_eq_true rfl, Nat.le_of_ble_eq_true rfl⟩ hK hP hD hS rfl hl.1 rfl (Nat.le_of_ble_eq_true rfl) dX12_lives_34 ⟨Nat.le_of_ble_eq_true rfl, Nat.le_of_ble_eq_true rfl⟩ (fun x_70 f_71 H locs hw hP hD hS => ?_)
      obtain ⟨rfl, bx_70⟩ := hw
      refine lv_if_eq (tgt := 49) hx hb dX12_lives_37 (by decide) (fun c_73 => ?_) (fun c_73 => ?_)
      · skip
        rw [← Int32.toInt_inj, ti_0] at c_73
        refine lv_iconst (v := (-1)) hx hb dX12_lives_49 (by decide) ?_
        exact W.iret (v := (-1)) hx hb hr (fun t ht hW => ⟨⟨(-1), f, rfl, ⟨hG, (by decide), hfr0, hrA12, hfA12, (by intro w29 z29 e29 d29; rw [hfo_57] at e29; rw [hfo_57] at d29; obtain rfl := Option.some.inj e29; obtain rfl := Option.some.inj d29; (try rw [ti_m1]) <;> omega), hT0⟩, by rw [ht]; exact hP, va_K.moved hW.alike hK, pl_in hD⟩, hS.F ht⟩) hS.2.2 dX12_lives_50
      · skip
        rw [← Int32.toInt_inj, ti_0] at c_73
        refine lv_iload_n hx hb dX12_lives_40 rfl (lv_at hl 3 rfl) ?_
        refine lv_iconst (v := 1) hx hb dX12_lives_41 (by decide) ?_
        refine lv_iconst (v := 3) hx hb dX12_lives_42 (by decide) ?_
        refine tk_SiP (As := [.int p3, .int 1, .int 3]) (rest := []) (n := 3) hx hb hml hown hU hN hZ (s_X12_isIn l (dC, dI) cI cL cZ cR cG cH Z kd L f hG p3 1 3) wd_227 wd_228 wd_5 wd_229 (by decide +kernel) ⟨Nat.le_of_ble_eq_true rfl, Nat.le_of_ble_eq_true rfl⟩ hK hP hD hS rfl hl.1 rfl (Nat.le_of_ble_eq_true rfl) dX12_lives_43 ⟨Nat.le_of_ble_eq_true rfl, Nat.le_of_ble_eq_true rfl⟩ (fun x_74 f_75 H locs hw hP hD hS => ?_)
        obtain ⟨rfl, bx_74, relx_74⟩ := hw
        try rw [ti_1] at relx_74
        try rw [ti_3] at relx_74
        refine lv_if_ne (tgt := 51) hx hb dX12_lives_46 (by decide) (fun c_77 => ?_) (fun c_77 => ?_)
        · skip
          rw [← Int32.toInt_inj, ti_0] at c_77
          refine lv_aload_n hx hb dX12_lives_51 rfl (lv_at hl 0 rfl) ?_
          refine lv_iload_n hx hb dX12_lives_52 rfl (lv_at hl 3 rfl) ?_
          refine tk_ViP (As := [.int p3]) (rest := []) (n := 1) hx hb hml hown hU hN hZ (s_X12_wordsUpTo_k12 l (dC, dI) cI cL cZ cR cG cH Z kd L f hG o0 mo0 ko0 p3 (by constructor <;> omega)) wd_1169 wd_1170 wd_1171 wd_5 wd_1172 (by decide +kernel) ⟨Nat.le_of_ble_eq_true rfl, Nat.le_of_ble_eq_true rfl⟩ hK hP hD hS mo0 hfo_57 12 rfl rfl rfl hl.1 rfl (Nat.le_of_ble_eq_true rfl) dX12_lives_53 ⟨Nat.le_of_ble_eq_true rfl, Nat.le_of_ble_eq_true rfl⟩ (fun x_78 f_79 H locs hw hP hD hS => ?_)
          obtain ⟨rfl, bx_78, hxp_80⟩ := hw
          have hwu := hxp_80 a_1 g_60 (by rw [hfo_57]; rfl) hfo_59
          have hsq := lw_sq (L := (g_60 0).toInt) (hbg_60.1 0 (by decide) (by decide) (by decide))
          refine lv_istore (lv' := [(4, .int x_78), (0, .ref o0), (1, .int p1), (2, .int p2), (3, .int p3)]) hx hb dX12_lives_56 hl (by decide) rfl (fun ls hl => ?_)
          refine lv_iconst (v := 0) hx hb dX12_lives_58 (by decide) ?_
          refine lv_istore (lv' := [(5, .int 0), (4, .int x_78), (0, .ref o0), (1, .int p1), (2, .int p2), (3, .int p3)]) hx hb dX12_lives_59 hl (by decide) rfl (fun ls hl => ?_)
          have hloop_88 : ∀ (n : Nat), ∀ (y_89 : Int32), (0 ≤ y_89.toInt ∧ y_89.toInt ≤ 584) → ∀ (f_91 : Nat → va_E), GI (okc cI cL cZ cR cG cH L kd) kd L f_91 → ∀ (H : Heap) (locs : List Loc), va_P (dC, dI) vwCl (va_pl L f_91) H → va_S (fun q => q ∈ L) s.heap H locs → va_D (fun q => q ∈ L) (va_pl L f_91) → (∀ b, kd b ≠ 12 → kd b ≠ 579 → kd b ≠ 581 → kd b ≠ 583 → kd b ≠ 585 → kd b ≠ 587 → kd b ≠ 588 → kd b ≠ 589 → kd b ≠ 590 → kd b ≠ 591 → kd b ≠ 592 → kd b ≠ 593 → kd b ≠ 603 → f_91 b = f b) → (∀ b, kd b = 12 → ∀ j, fldR (f_91 b) j = fldR (f b) j) → (∀ b, kd b = 12 → ∀ j, j ≠ 23 → j ≠ 25 → j ≠ 26 → j ≠ 27 → j ≠ 29 → j ≠ 32 → fldI (f_91 b) j = fldI (f b) j) → (f_91 a_1 = .inl (cI, 1560, .inl g_60)) → srel kd 592 f_91 o0 → ∀ (whloop_88_0_29 : Int32), fldI (f_91 o0) 29 = some whloop_88_0_29 → (whloop_88_0_29.toInt = v_30.toInt) → (0 ≤ whloop_88_0_29.toInt ∧ whloop_88_0_29.toInt ≤ 201) → 584 - y_89.toInt < (n : Int) → ∀ (ls : Array Slot), lv_has ls 6 [(5, .int y_89), (4, .int x_78), (0, .ref o0), (1, .int p1), (2, .int p2), (3, .int p3)] → W p l e (headSpec (wU yX12_lives cX12_lives 6 (some .int)) { frames := 23, cells := 0, slots := 0, locals := 655 }).room s m [.ref o0, .int p1, .int p2, .int p3].toArray below meth c H locs 0 0 (MQ below (va_Qi (fun (r : Int32) (f9 : Nat → va_E) => GI (okc cI cL cZ cR cG cH L kd) kd L f9 ∧ ((-2147483648) ≤ r.toInt ∧ r.toInt ≤ 2147483647) ∧ (∀ b, kd b ≠ 12 → kd b ≠ 579 → kd b ≠ 581 → kd b ≠ 583 → kd b ≠ 585 → kd b ≠ 587 → kd b ≠ 588 → kd b ≠ 589 → kd b ≠ 590 → kd b ≠ 591 → kd b ≠ 592 → kd b ≠ 593 → kd b ≠ 603 → f9 b = f b) ∧ (∀ b, kd b = 12 → ∀ j, fldR (f9 b) j = fldR (f b) j) ∧ (∀ b, kd b = 12 → ∀ j, j ≠ 23 → j ≠ 25 → j ≠ 26 → j ≠ 27 → j ≠ 29 → j ≠ 32 → fldI (f9 b) j = fldI (f b) j) ∧ (∀ (w29 z29 : Int32), fldI (f o0) 29 = some w29 → fldI (f9 o0) 29 = some z29 → z29.toInt = w29.toInt) ∧ (srel kd 592 f9 o0)) (qP (dC, dI) cI cL cZ cR cG cH L) (fun q => q ∈ L)) [.ref o0, .int p1, .int p2, .int p3].toArray s 0 0 (fun q => q ∈ L)) (F0 m 61 ls []) := by
            intro n
            induction n with
            | zero => intro y_89 by_89 f_91 hG H locs hP hS hD hfr0 hrA12 hfA12 hfo_92 hT0 whloop_88_0_29 hghloop_88_0_29 hrelhloop_88_0 hrelhloop_88_1 hmuhloop_88 ls hl; exfalso; omega
            | succ n ih_hloop_88 =>
              intro y_89 by_89 f_91 hG H locs hP hS hD hfr0 hrA12 hfA12 hfo_92 hT0 whloop_88_0_29 hghloop_88_0_29 hrelhloop_88_0 hrelhloop_88_1 hmuhloop_88 ls hl
              obtain ⟨v_93, v_94, v_95, v_96, v_97, v_98, hfo_99, fa_100⟩ := op12_23_25_26_27_29_32 hfo_57 (hG _ mo0) ko0 (hrA12 o0 ko0) (hfA12 o0 ko0)
              have bv_93 : (0 ≤ v_93.toInt ∧ v_93.toInt ≤ 12) := fa12_23 fa_100
              have bv_94 : (0 ≤ v_94.toInt ∧ v_94.toInt ≤ 4) := fa12_25 fa_100
              have bv_95 : ((-2147483648) ≤ v_95.toInt ∧ v_95.toInt ≤ 2147483647) := ⟨i32_lo _, i32_hi _⟩
              have bv_96 : (0 ≤ v_96.toInt ∧ v_96.toInt ≤ 1) := fa12_27 fa_100
              have bv_97 : (0 ≤ v_97.toInt ∧ v_97.toInt ≤ 201) := fa12_29 fa_100
              have bv_98 : (0 ≤ v_98.toInt ∧ v_98.toInt ≤ 6561) := fa12_32 fa_100
              obtain rfl : v_97 = whloop_88_0_29 := by rw [hfo_99] at hghloop_88_0_29; exact Option.some.inj hghloop_88_0_29
              refine lv_iload hx hb dX12_lives_61 (lv_at hl 0 rfl) ?_
              refine lv_iload hx hb dX12_lives_63 (lv_at hl 1 rfl) ?_
              refine lv_icmp_ge (tgt := 125) hx hb dX12_lives_65 (by decide) (fun c_101 => ?_) (fun c_101 => ?_)
              · skip
                rw [Int32.le_iff_toInt_le] at c_101
                refine lv_iconst (v := 0) hx hb dX12_lives_125 (by decide) ?_
                exact W.iret (v := 0) hx hb hr (fun t ht hW => ⟨⟨0, f_91, rfl, ⟨hG, (by decide), hfr0, hrA12, hfA12, (by intro w29 z29 e29 d29; rw [hfo_57] at e29; rw [hfo_99] at d29; obtain rfl := Option.some.inj e29; obtain rfl := Option.some.inj d29; (try rw [ti_0]) <;> omega), hT0⟩, by rw [ht]; exact hP, va_K.moved hW.alike hK, pl_in hD⟩, hS.F ht⟩) hS.2.2 dX12_lives_126
              · skip
                rw [Int32.le_iff_toInt_le] at c_101
                refine lv_aload_n hx hb dX12_lives_68 rfl (lv_at hl 2 rfl) ?_
                refine lv_iload hx hb dX12_lives_69 (lv_at hl 0 rfl) ?_
                refine tk_VvP (As := [.int y_89]) (rest := []) (n := 1) hx hb hml hown hU hN hZ (s_X12_laysWord_k12 l (dC, dI) cI cL cZ cR cG cH Z kd L f_91 hG o0 mo0 ko0 y_89 (by constructor <;> omega) (fun b9 g9 h1 h2 => by rw [hfo_99] at h1; obtain rfl := Option.some.inj h1; rw [hfo_92] at h2; cases h2; omega)) wd_1173 wd_1174 wd_1175 wd_5 wd_1176 (by decide +kernel) ⟨Nat.le_of_ble_eq_true rfl, Nat.le_of_ble_eq_true rfl⟩ hK hP hD hS mo0 hfo_99 12 rfl rfl rfl hl.1 rfl (Nat.le_of_ble_eq_true rfl) dX12_lives_71 ⟨Nat.le_of_ble_eq_true rfl, Nat.le_of_ble_eq_true rfl⟩ (fun f_103 H locs hw hP hD hS => ?_)
                obtain ⟨hG, hkc_104, hra_105, hfa_106, hpost_107, hxp_108⟩ := hw
                have hfo_110 : f_103 a_1 = .inl (cI, 1560, .inl g_60) := by rw [hkc_104 a_1 (by rw [ka_1]; decide) (by rw [ka_1]; decide)]; exact hfo_92
                have hfr0 : ∀ b, kd b ≠ 12 → kd b ≠ 579 → kd b ≠ 581 → kd b ≠ 583 → kd b ≠ 585 → kd b ≠ 587 → kd b ≠ 588 → kd b ≠ 589 → kd b ≠ 590 → kd b ≠ 591 → kd b ≠ 592 → kd b ≠ 593 → kd b ≠ 603 → f_103 b = f b := fun b q12 q579 q581 q583 q585 q587 q588 q589 q590 q591 q592 q593 q603 => (hkc_104 b q12 q589).trans (hfr0 b q12 q579 q581 q583 q585 q587 q588 q589 q590 q591 q592 q593 q603)
                have hrA12 : ∀ b, kd b = 12 → ∀ j, fldR (f_103 b) j = fldR (f b) j := fun b kb j => (hra_105 b kb j).trans (hrA12 b kb j)
                have hfA12 : ∀ b, kd b = 12 → ∀ j, j ≠ 23 → j ≠ 25 → j ≠ 26 → j ≠ 27 → j ≠ 29 → j ≠ 32 → fldI (f_103 b) j = fldI (f b) j := fun b kb j n23 n25 n26 n27 n29 n32 => (hfa_106 b kb j n23).trans (hfA12 b kb j n23 n25 n26 n27 n29 n32)
                have hT0 : srel kd 592 f_103 o0 := hT0.keep (fun b q => hra_105 b q 30) (fun b q => hfa_106 b q 32 (by decide)) (fun b q => hfa_106 b q 33 (by decide)) (fun b q => hkc_104 b (by rw [q]; decide) (by rw [q]; decide))
                obtain ⟨v_111, hfo_112, fa_113⟩ := op12_23 hfo_99 (hG _ mo0) ko0 (hra_105 o0 ko0) (hfa_106 o0 ko0)
                have bv_111 : (0 ≤ v_111.toInt ∧ v_111.toInt ≤ 12) := fa12_23 fa_113
                have hqhpost_107 := hpost_107 v_93 v_111 (by rw [hfo_99]; rfl) (by rw [hfo_112]; rfl)
                have hlw2 := hxp_108 a_1 g_60 v_111 (by rw [hfo_99]; rfl) hfo_92 (by rw [hfo_112]; rfl)
                refine lv_aload_n hx hb dX12_lives_74 rfl (lv_at hl 2 rfl) ?_
                refine lv_bipush (v := 9) hx hb dX12_lives_75 (by decide) ?_
                refine lv_iload_n hx hb dX12_lives_77 rfl (lv_at hl 3 rfl) ?_
                refine lv_imul hx hb dX12_lives_78 ?_
                refine lv_topi (fun x_114 ex_114 => ?_)
                have hx_114 : x_114.toInt = 9 * p1.toInt := by rw [ex_114, ml_I (by rw [ti_9]; omega) (by rw [ti_9]; omega), ti_9]
                have bx_114 : (0 ≤ x_114.toInt ∧ x_114.toInt ≤ 72) := by constructor <;> omega
                refine lv_iload_n hx hb dX12_lives_79 rfl (lv_at hl 4 rfl) ?_
                refine lv_iadd hx hb dX12_lives_80 ?_
                refine lv_topi (fun x_115 ex_115 => ?_)
                have hx_115 : x_115.toInt = x_114.toInt + p2.toInt := by rw [ex_115, ad_I (by omega) (by omega)]
                have bx_115 : (0 ≤ x_115.toInt ∧ x_115.toInt ≤ 80) := by constructor <;> omega
                refine tk_putP (D := (dC, dI)) (ci := 12) (v := .int x_115) (ty := .int) (C := RX12) (T := TX12) (N := 56) hx hb hU inlX12 tyX12 tyX12_ok nmX12 hown hK hP hD hS mo0 hfo_112 rfl 26 (by decide) (hU _ wd_906) (fun _ h9 => h9) rfl (by decide +kernel) rfl rfl (Nat.le_of_ble_eq_true rfl) dX12_lives_81 (fun H locs hP hD hS => ?_)
                have fa_116 := fu12_26 (y := x_115) fa_113
                obtain ⟨f_118, ef_118⟩ : ∃ y : Nat → va_E, y = va_up f_103 o0 (.inr (12, [.ref a_1, .ref a_2, .ref a_3, .int v_4, .ref a_5, .int v_6, .int v_7, .int v_8, .int v_9, .int v_10, .int v_11, .int v_12, .int v_13, .int v_14, .int v_15, .ref a_16, .ref a_17, .ref a_18, .ref a_19, .ref a_20, .ref a_21, .ref a_22, .ref a_23, .int v_111, .int v_25, .int v_94, .int x_115, .int v_96, .ref a_29, .int v_97, .ref a_31, .ref a_32, .int v_98, .int v_34, .ref a_35, .int v_36, .ref a_37, .ref a_38, .int v_39, .int v_40, .ref a_41, .ref a_42, .ref a_43, .int v_44, .ref a_45, .ref a_46, .ref a_47, .ref a_48, .ref a_49, .ref a_50, .ref a_51, .ref a_52, .ref a_53, .int v_54, .int v_55, .ref a_56])) := ⟨_, rfl⟩
                have hP : va_P (dC, dI) vwCl (va_pl L f_118) H := by rw [ef_118]; exact hP
                have hD : va_D (fun q => q ∈ L) (va_pl L f_118) := by rw [ef_118]; exact hD
                have hG : GI (okc cI cL cZ cR cG cH L kd) kd L f_118 := by rw [ef_118]; exact hG.set o0 (mk_12 ko0 (fo12 fa_116))
                have hfo_119 : f_118 a_1 = .inl (cI, 1560, .inl g_60) := by rw [ef_118, up_ne (kd_ne ko0 ka_1 (by decide))]; exact hfo_110
                have hfr0 : ∀ b, kd b ≠ 12 → kd b ≠ 579 → kd b ≠ 581 → kd b ≠ 583 → kd b ≠ 585 → kd b ≠ 587 → kd b ≠ 588 → kd b ≠ 589 → kd b ≠ 590 → kd b ≠ 591 → kd b ≠ 592 → kd b ≠ 593 → kd b ≠ 603 → f_118 b = f b := fun b q12 q579 q581 q583 q585 q587 q588 q589 q590 q591 q592 q593 q603 => (congrFun ef_118 b).trans ((up_ne (fun e9 => q12 (by rw [e9]; exact ko0))).trans (hfr0 b q12 q579 q581 q583 q585 q587 q588 q589 q590 q591 q592 q593 q603))
                have hrA12 : ∀ b, kd b = 12 → ∀ j, fldR (f_118 b) j = fldR (f b) j := fun b kb j => ((congrArg (fun x => fldR x j) (congrFun ef_118 b)).trans (fra_up (fun j => by rw [hfo_112]; exact fr_set (k := 26) rfl rfl) j b)).trans (hrA12 b kb j)
                have hfA12 : ∀ b, kd b = 12 → ∀ j, j ≠ 23 → j ≠ 25 → j ≠ 26 → j ≠ 27 → j ≠ 29 → j ≠ 32 → fldI (f_118 b) j = fldI (f b) j := fun b kb j n23 n25 n26 n27 n29 n32 => ((congrArg (fun x => fldI x j) (congrFun ef_118 b)).trans (fia_up (fun h9 => by rw [hfo_112]; exact fi_set (k := 26) rfl h9) n26 b)).trans (hfA12 b kb j n23 n25 n26 n27 n29 n32)
                have hT0 : srel kd 592 f_118 o0 := by rw [ef_118]; exact hT0.keep (fun b _ => fr_up (by rw [hfo_112]; rfl) b) (fun b _ => fk_up (by rw [hfo_112]; rfl) b) (fun b _ => fk_up (by rw [hfo_112]; rfl) b) (fun b q => up_ne (kd_ne ko0 q (by decide)))
                have hfo_120 : f_118 o0 = .inr (12, [.ref a_1, .ref a_2, .ref a_3, .int v_4, .ref a_5, .int v_6, .int v_7, .int v_8, .int v_9, .int v_10, .int v_11, .int v_12, .int v_13, .int v_14, .int v_15, .ref a_16, .ref a_17, .ref a_18, .ref a_19, .ref a_20, .ref a_21, .ref a_22, .ref a_23, .int v_111, .int v_25, .int v_94, .int x_115, .int v_96, .ref a_29, .int v_97, .ref a_31, .ref a_32, .int v_98, .int v_34, .ref a_35, .int v_36, .ref a_37, .ref a_38, .int v_39, .int v_40, .ref a_41, .ref a_42, .ref a_43, .int v_44, .ref a_45, .ref a_46, .ref a_47, .ref a_48, .ref a_49, .ref a_50, .ref a_51, .ref a_52, .ref a_53, .int v_54, .int v_55, .ref a_56]) := by rw [ef_118]; exact up_self
                refine lv_aload_n hx hb dX12_lives_84 rfl (lv_at hl 2 rfl) ?_
                refine lv_iconst (v := 3) hx hb dX12_lives_85 (by decide) ?_
                refine tk_VvP (As := [.int 3]) (rest := []) (n := 1) hx hb hml hown hU hN hZ (s_X12_sets_k12 l (dC, dI) cI cL cZ cR cG cH Z kd L f_118 hG o0 mo0 ko0 3 (by decide)) wd_868 wd_869 wd_870 wd_5 wd_871 (by decide +kernel) ⟨Nat.le_of_ble_eq_true rfl, Nat.le_of_ble_eq_true rfl⟩ hK hP hD hS mo0 hfo_120 12 rfl rfl rfl hl.1 rfl (Nat.le_of_ble_eq_true rfl) dX12_lives_86 ⟨Nat.le_of_ble_eq_true rfl, Nat.le_of_ble_eq_true rfl⟩ (fun f_122 H locs hw hP hD hS => ?_)
                obtain ⟨hG, hkc_123, hra_124, hfa_125, hpost_126⟩ := hw
                have hfo_128 : f_122 a_1 = .inl (cI, 1560, .inl g_60) := by rw [hkc_123 a_1 (by rw [ka_1]; decide) (by rw [ka_1]; decide) (by rw [ka_1]; decide) (by rw [ka_1]; decide)]; exact hfo_119
                have hfr0 : ∀ b, kd b ≠ 12 → kd b ≠ 579 → kd b ≠ 581 → kd b ≠ 583 → kd b ≠ 585 → kd b ≠ 587 → kd b ≠ 588 → kd b ≠ 589 → kd b ≠ 590 → kd b ≠ 591 → kd b ≠ 592 → kd b ≠ 593 → kd b ≠ 603 → f_122 b = f b := fun b q12 q579 q581 q583 q585 q587 q588 q589 q590 q591 q592 q593 q603 => (hkc_123 b q12 q579 q581 q587).trans (hfr0 b q12 q579 q581 q583 q585 q587 q588 q589 q590 q591 q592 q593 q603)
                have hrA12 : ∀ b, kd b = 12 → ∀ j, fldR (f_122 b) j = fldR (f b) j := fun b kb j => (hra_124 b kb j).trans (hrA12 b kb j)
                have hfA12 : ∀ b, kd b = 12 → ∀ j, j ≠ 23 → j ≠ 25 → j ≠ 26 → j ≠ 27 → j ≠ 29 → j ≠ 32 → fldI (f_122 b) j = fldI (f b) j := fun b kb j n23 n25 n26 n27 n29 n32 => (hfa_125 b kb j n25 n27).trans (hfA12 b kb j n23 n25 n26 n27 n29 n32)
                have hT0 : srel kd 592 f_122 o0 := hT0.keep (fun b q => hra_124 b q 30) (fun b q => hfa_125 b q 32 (by decide) (by decide)) (fun b q => hfa_125 b q 33 (by decide) (by decide)) (fun b q => hkc_123 b (by rw [q]; decide) (by rw [q]; decide) (by rw [q]; decide) (by rw [q]; decide))
                obtain ⟨v_129, v_130, hfo_131, fa_132⟩ := op12_25_27 hfo_120 (hG _ mo0) ko0 (hra_124 o0 ko0) (hfa_125 o0 ko0)
                have bv_129 : (0 ≤ v_129.toInt ∧ v_129.toInt ≤ 4) := fa12_25 fa_132
                have bv_130 : (0 ≤ v_130.toInt ∧ v_130.toInt ≤ 1) := fa12_27 fa_132
                have hqhpost_126 := hpost_126 v_94 v_129 v_96 v_130 (by rw [hfo_120]; rfl) (by rw [hfo_120]; rfl) (by rw [hfo_131]; rfl) (by rw [hfo_131]; rfl)
                try rw [ti_3] at hqhpost_126
                refine lv_aload_n hx hb dX12_lives_89 rfl (lv_at hl 2 rfl) ?_
                refine lv_iconst (v := 0) hx hb dX12_lives_90 (by decide) ?_
                refine lv_aload_n hx hb dX12_lives_91 rfl (lv_at hl 2 rfl) ?_
                refine tk_getP (D := (dC, dI)) (ci := 12) (v := .ref a_1) (C := RX12) (T := TX12) (N := 56) hx hb hU inlX12 hown hK hP mo0 hfo_131 rfl 0 (by decide) (hU _ wd_169) (fun _ h9 => h9) rfl dX12_lives_92 ?_
                refine lv_bipush (v := 41) hx hb dX12_lives_95 (by decide) ?_
                refine tk_ildP hx hb hK hP 0 ma_1 hfo_128 rfl (vp_in_nI (n := 41) (by decide) (by decide)) dX12_lives_97 ?_
                refine lv_topi (fun x_133 ex_133 => ?_)
                have bx_133 : (0 ≤ x_133.toInt ∧ x_133.toInt ≤ 1) := by rw [ex_133]; exact hbg_60.2.2.2.2.2.2.2.1 _ (by decide) (by decide) (by decide)
                refine lv_iconst (v := 0) hx hb dX12_lives_98 (by decide) ?_
                refine lv_iconst (v := 0) hx hb dX12_lives_99 (by decide) ?_
                refine lv_aload_n hx hb dX12_lives_100 rfl (lv_at hl 2 rfl) ?_
                refine tk_getP (D := (dC, dI)) (ci := 12) (v := .ref a_1) (C := RX12) (T := TX12) (N := 56) hx hb hU inlX12 hown hK hP mo0 hfo_131 rfl 0 (by decide) (hU _ wd_169) (fun _ h9 => h9) rfl dX12_lives_101 ?_
                refine lv_bipush (v := 40) hx hb dX12_lives_104 (by decide) ?_
                refine tk_ildP hx hb hK hP 0 ma_1 hfo_128 rfl (vp_in_nI (n := 40) (by decide) (by decide)) dX12_lives_106 ?_
                refine lv_topi (fun x_134 ex_134 => ?_)
                have bx_134 : (0 ≤ x_134.toInt ∧ x_134.toInt ≤ 255) := by rw [ex_134]; exact hbg_60.2.2.2.2.2.2.1 _ (by decide) (by decide) (by decide)
                refine tk_VvP (As := [.int 0, .int x_133, .int 0, .int 0, .int x_134]) (rest := []) (n := 5) hx hb hml hown hU hN hZ (s_X12_goes_k12 l (dC, dI) cI cL cZ cR cG cH Z kd L 14 f_122 hG o0 mo0 ko0 0 (by decide) x_133 (by constructor <;> omega) 0 (by decide) 0 (by decide) x_134 (by intro w23 w25 w27 w29 e23 e25 e27 e29; rw [hfo_131] at e23 e25 e27 e29; obtain rfl := Option.some.inj e23; obtain rfl := Option.some.inj e25; obtain rfl := Option.some.inj e27; obtain rfl := Option.some.inj e29; (try rw [ti_0]) <;> omega) (by (try rw [ti_0]) <;> omega) hT0 (by (try rw [ti_0]) <;> omega)) wd_886 wd_887 wd_888 wd_5 wd_889 (by decide +kernel) ⟨Nat.le_of_ble_eq_true rfl, Nat.le_of_ble_eq_true rfl⟩ hK hP hD hS mo0 hfo_131 12 rfl rfl rfl hl.1 rfl (Nat.le_of_ble_eq_true rfl) dX12_lives_107 ⟨Nat.le_of_ble_eq_true rfl, Nat.le_of_ble_eq_true rfl⟩ (fun f_136 H locs hw hP hD hS => ?_)
                obtain ⟨hG, hkc_137, hra_138, hfa_139, hpost_140, hTc_141⟩ := hw
                have hfo_143 : f_136 a_1 = .inl (cI, 1560, .inl g_60) := by rw [hkc_137 a_1 (by rw [ka_1]; decide) (by rw [ka_1]; decide) (by rw [ka_1]; decide) (by rw [ka_1]; decide) (by rw [ka_1]; decide) (by rw [ka_1]; decide) (by rw [ka_1]; decide) (by rw [ka_1]; decide) (by rw [ka_1]; decide) (by rw [ka_1]; decide) (by rw [ka_1]; decide) (by rw [ka_1]; decide)]; exact hfo_128
                have hfr0 : ∀ b, kd b ≠ 12 → kd b ≠ 579 → kd b ≠ 581 → kd b ≠ 583 → kd b ≠ 585 → kd b ≠ 587 → kd b ≠ 588 → kd b ≠ 589 → kd b ≠ 590 → kd b ≠ 591 → kd b ≠ 592 → kd b ≠ 593 → kd b ≠ 603 → f_136 b = f b := fun b q12 q579 q581 q583 q585 q587 q588 q589 q590 q591 q592 q593 q603 => (hkc_137 b q12 q579 q581 q583 q585 q587 q588 q590 q591 q592 q593 q603).trans (hfr0 b q12 q579 q581 q583 q585 q587 q588 q589 q590 q591 q592 q593 q603)
                have hrA12 : ∀ b, kd b = 12 → ∀ j, fldR (f_136 b) j = fldR (f b) j := fun b kb j => (hra_138 b kb j).trans (hrA12 b kb j)
                have hfA12 : ∀ b, kd b = 12 → ∀ j, j ≠ 23 → j ≠ 25 → j ≠ 26 → j ≠ 27 → j ≠ 29 → j ≠ 32 → fldI (f_136 b) j = fldI (f b) j := fun b kb j n23 n25 n26 n27 n29 n32 => (hfa_139 b kb j n27 n29 n32).trans (hfA12 b kb j n23 n25 n26 n27 n29 n32)
                obtain ⟨v_144, v_145, v_146, hfo_147, fa_148⟩ := op12_27_29_32 hfo_131 (hG _ mo0) ko0 (hra_138 o0 ko0) (hfa_139 o0 ko0)
                have bv_144 : (0 ≤ v_144.toInt ∧ v_144.toInt ≤ 1) := fa12_27 fa_148
                have bv_145 : (0 ≤ v_145.toInt ∧ v_145.toInt ≤ 201) := fa12_29 fa_148
                have bv_146 : (0 ≤ v_146.toInt ∧ v_146.toInt ≤ 6561) := fa12_32 fa_148
                have hqhpost_140 := hpost_140 v_129 v_129 v_130 v_144 v_97 v_145 (by rw [hfo_131]; rfl) (by rw [hfo_131]; rfl) (by rw [hfo_131]; rfl) (by rw [hfo_147]; rfl) (by rw [hfo_147]; rfl) (by rw [hfo_147]; rfl)
                try rw [ti_0] at hqhpost_140
                refine lv_aload_n hx hb dX12_lives_110 rfl (lv_at hl 2 rfl) ?_
                refine tk_getP (D := (dC, dI)) (ci := 12) (v := .int v_144) (C := RX12) (T := TX12) (N := 56) hx hb hU inlX12 hown hK hP mo0 hfo_147 rfl 27 (by decide) (hU _ wd_873) (fun _ h9 => h9) rfl dX12_lives_111 ?_
                refine lv_if_eq (tgt := 119) hx hb dX12_lives_114 (by decide) (fun c_149 => ?_) (fun c_149 => ?_)
                · skip
                  rw [← Int32.toInt_inj, ti_0] at c_149
                  obtain ⟨x_150, ex_150⟩ : ∃ y : Int32, y_89 + 1 = y := ⟨_, rfl⟩
                  have hx_150 : x_150.toInt = y_89.toInt + 1 := by rw [← ex_150, ad_I (by rw [ti_1]; omega) (by rw [ti_1]; omega), ti_1]
                  have bx_150 : (1 ≤ x_150.toInt ∧ x_150.toInt ≤ 584) := by constructor <;> omega
                  refine lv_iinc (v := x_150) (lv' := [(5, .int x_150), (4, .int x_78), (0, .ref o0), (1, .int p1), (2, .int p2), (3, .int p3)]) hx hb dX12_lives_119 hl (k := 0) rfl ex_150 (by decide) rfl (fun ls hl => ?_)
                  refine lv_goto (tgt := 61) hx hb dX12_lives_122 (by decide) ?_
                  exact ih_hloop_88 x_150 (by constructor <;> omega) f_136 hG _ _ hP hS hD hfr0 hrA12 hfA12 hfo_143 hTc_141 v_145 (by rw [hfo_147]; rfl) (by omega) (by omega) (by omega) ls (lv_sub hl [0, 1, 2, 3, 4, 5] rfl)
                · skip
                  rw [← Int32.toInt_inj, ti_0] at c_149
                  refine lv_iconst (v := 1) hx hb dX12_lives_117 (by decide) ?_
                  exact W.iret (v := 1) hx hb hr (fun t ht hW => ⟨⟨1, f_136, rfl, ⟨hG, (by decide), hfr0, hrA12, hfA12, (by intro w29 z29 e29 d29; rw [hfo_57] at e29; rw [hfo_147] at d29; obtain rfl := Option.some.inj e29; obtain rfl := Option.some.inj d29; (try rw [ti_1]) <;> omega), hTc_141⟩, by rw [ht]; exact hP, va_K.moved hW.alike hK, pl_in hD⟩, hS.F ht⟩) hS.2.2 dX12_lives_118
          exact hloop_88 585 0 (by decide) f hG _ _ hP hS hD hfr0 hrA12 hfA12 hfo_59 hT0 v_30 (by rw [hfo_57]; rfl) (by (try rw [ti_0]) <;> omega) (by (try rw [ti_0]) <;> omega) (by (try rw [ti_0]) <;> omega) ls hl
        · skip
          rw [← Int32.toInt_inj, ti_0] at c_77
          refine lv_iconst (v := (-1)) hx hb dX12_lives_49 (by decide) ?_
          exact W.iret (v := (-1)) hx hb hr (fun t ht hW => ⟨⟨(-1), f, rfl, ⟨hG, (by decide), hfr0, hrA12, hfA12, (by intro w29 z29 e29 d29; rw [hfo_57] at e29; rw [hfo_57] at d29; obtain rfl := Option.some.inj e29; obtain rfl := Option.some.inj d29; (try rw [ti_m1]) <;> omega), hT0⟩, by rw [ht]; exact hP, va_K.moved hW.alike hK, pl_in hD⟩, hS.F ht⟩) hS.2.2 dX12_lives_50
