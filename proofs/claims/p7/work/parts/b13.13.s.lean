set_option maxHeartbeats 8000000 in
set_option maxRecDepth 100000 in
theorem s_X12_parts_k12 (l : Launch) (D : va_G) (cI cL cZ cR cG cH : ClassId) (Z : zT) (kd : Nat → Nat) (L : List Nat) (f : Nat → va_E) (hG : GI (okc cI cL cZ cR cG cH L kd) kd L f) (o0 : Nat) (mo0 : o0 ∈ L) (ko0 : kd o0 = 12) (p1 : Int32) (p2 : Int32) (p3 : Int32) (hpreo0 : ∀ (w29 : Int32), fldI (f o0) 29 = some w29 → w29.toInt ≤ 200) (hxtr0 : srel kd 592 f o0) : mPI l D cI cL cZ cR cG cH Z yX12_parts cX12_parts 4 (some .int) 26 725 [.ref o0, .int p1, .int p2, .int p3] L f (fun (r : Int32) (f9 : Nat → va_E) => GI (okc cI cL cZ cR cG cH L kd) kd L f9 ∧ ((-2147483648) ≤ r.toInt ∧ r.toInt ≤ 2147483647) ∧ (∀ b, kd b ≠ 12 → kd b ≠ 579 → kd b ≠ 581 → kd b ≠ 583 → kd b ≠ 585 → kd b ≠ 587 → kd b ≠ 588 → kd b ≠ 589 → kd b ≠ 590 → kd b ≠ 591 → kd b ≠ 592 → kd b ≠ 593 → kd b ≠ 602 → kd b ≠ 603 → f9 b = f b) ∧ (∀ b, kd b = 12 → ∀ j, fldR (f9 b) j = fldR (f b) j) ∧ (∀ b, kd b = 12 → ∀ j, j ≠ 23 → j ≠ 25 → j ≠ 27 → j ≠ 29 → j ≠ 32 → j ≠ 33 → fldI (f9 b) j = fldI (f b) j) ∧ (∀ (w29 z29 : Int32), fldI (f o0) 29 = some w29 → fldI (f9 o0) 29 = some z29 → z29.toInt = w29.toInt) ∧ (srel kd 592 f9 o0)) := by
  obtain ⟨dC, dI⟩ := D
  refine Met.ofW (cc := cX12_parts) (maxL := 4) (ret := (some .int)) (by decide) rfl ?_
  intro p e s m args below meth c s₁ B hml hv
  obtain ⟨rfl, hP, hK, hD0, hN, hZ⟩ := hv
  have hx := B.exec
  have hb := B.bytes
  have hr := B.returns
  have hU : ∀ w ∈ wsU, w.before _ s = true := fun w h => atoms_spec (ws := wU yX12_parts cX12_parts 4 (some .int)) B.pre w (List.mem_cons_of_mem _ h)
  have hown : s.vm.findClass RX12 = some m.cls := findClass_of_methodNamed B.named
  have hlocks := B.notSynchronized
  have hD := pl_in hD0
  have hS : va_S (fun q => q ∈ L) s.heap s.heap [] := va_S.rf
  have hl := lv_entry ([.ref o0, .int p1, .int p2, .int p3]) (n := 4) (Nat.le_of_ble_eq_true rfl)
  rw [lg_entry_eq]
  generalize (lg_sl ([.ref o0, .int p1, .int p2, .int p3]) ++ List.replicate (4 - (lg_sl ([.ref o0, .int p1, .int p2, .int p3])).length) Slot.unset).toArray = ls at hl ⊢
  have hl : lv_has ls 4 [(0, .ref o0), (1, .int p1), (2, .int p2), (3, .int p3)] := hl
  have bp1 : ((-2147483648) ≤ p1.toInt ∧ p1.toInt ≤ 2147483647) := ⟨i32_lo _, i32_hi _⟩
  have bp2 : ((-2147483648) ≤ p2.toInt ∧ p2.toInt ≤ 2147483647) := ⟨i32_lo _, i32_hi _⟩
  have bp3 : ((-2147483648) ≤ p3.toInt ∧ p3.toInt ≤ 2147483647) := ⟨i32_lo _, i32_hi _⟩
  have hfr0 : ∀ b, kd b ≠ 12 → kd b ≠ 579 → kd b ≠ 581 → kd b ≠ 583 → kd b ≠ 585 → kd b ≠ 587 → kd b ≠ 588 → kd b ≠ 589 → kd b ≠ 590 → kd b ≠ 591 → kd b ≠ 592 → kd b ≠ 593 → kd b ≠ 602 → kd b ≠ 603 → f b = f b := fun _ _ _ _ _ _ _ _ _ _ _ _ _ _ _ => rfl
  have hrA12 : ∀ b, kd b = 12 → ∀ j, fldR (f b) j = fldR (f b) j := fun _ _ _ => rfl
  have hfA12 : ∀ b, kd b = 12 → ∀ j, j ≠ 23 → j ≠ 25 → j ≠ 27 → j ≠ 29 → j ≠ 32 → j ≠ 33 → fldI (f b) j = fldI (f b) j := fun _ _ _ _ _ _ _ _ _ => rfl
  obtain ⟨a_2, a_3, a_4, v_5, a_6, v_7, v_8, v_9, v_10, v_11, v_12, v_13, v_14, v_15, v_16, a_17, a_18, a_19, a_20, a_21, a_22, a_23, a_24, v_25, v_26, v_27, v_28, v_29, a_30, v_31, a_32, a_33, v_34, v_35, a_36, v_37, a_38, a_39, v_40, v_41, a_42, a_43, a_44, v_45, a_46, a_47, a_48, a_49, a_50, a_51, a_52, a_53, a_54, v_55, v_56, a_57, hfo_1, ⟨ma_2, ka_2⟩, ⟨ma_3, ka_3⟩, ⟨ma_4, ka_4⟩, bv_5, ⟨ma_6, ka_6⟩, bv_7, bv_8, bv_13, bv_14, bv_15, ⟨ma_17, ka_17⟩, ⟨ma_18, ka_18⟩, ⟨ma_19, ka_19⟩, ⟨ma_20, ka_20⟩, ⟨ma_21, ka_21⟩, ⟨ma_22, ka_22⟩, ⟨ma_23, ka_23⟩, ⟨ma_24, ka_24⟩, bv_25, bv_27, bv_29, ⟨ma_30, ka_30⟩, bv_31, ⟨ma_32, ka_32⟩, ⟨ma_33, ka_33⟩, bv_34, ⟨ma_36, ka_36⟩, bv_37, ⟨ma_38, ka_38⟩, ⟨ma_39, ka_39⟩, bv_40, ⟨ma_42, ka_42⟩, ⟨ma_43, ka_43⟩, ⟨ma_44, ka_44⟩, bv_45, ⟨ma_46, ka_46⟩, ⟨ma_47, ka_47⟩, ⟨ma_48, ka_48⟩, ⟨ma_49, ka_49⟩, ⟨ma_50, ka_50⟩, ⟨ma_51, ka_51⟩, ⟨ma_52, ka_52⟩, ⟨ma_53, ka_53⟩, ⟨ma_54, ka_54⟩, bv_55, ⟨ma_57, ka_57⟩⟩ := un_12 (hG _ mo0) ko0
  have bv_9 : ((-2147483648) ≤ v_9.toInt ∧ v_9.toInt ≤ 2147483647) := ⟨i32_lo _, i32_hi _⟩
  have bv_10 : ((-2147483648) ≤ v_10.toInt ∧ v_10.toInt ≤ 2147483647) := ⟨i32_lo _, i32_hi _⟩
  have bv_11 : ((-2147483648) ≤ v_11.toInt ∧ v_11.toInt ≤ 2147483647) := ⟨i32_lo _, i32_hi _⟩
  have bv_12 : ((-2147483648) ≤ v_12.toInt ∧ v_12.toInt ≤ 2147483647) := ⟨i32_lo _, i32_hi _⟩
  have bv_16 : ((-2147483648) ≤ v_16.toInt ∧ v_16.toInt ≤ 2147483647) := ⟨i32_lo _, i32_hi _⟩
  have bv_26 : ((-2147483648) ≤ v_26.toInt ∧ v_26.toInt ≤ 2147483647) := ⟨i32_lo _, i32_hi _⟩
  have bv_28 : ((-2147483648) ≤ v_28.toInt ∧ v_28.toInt ≤ 2147483647) := ⟨i32_lo _, i32_hi _⟩
  have bv_35 : ((-2147483648) ≤ v_35.toInt ∧ v_35.toInt ≤ 2147483647) := ⟨i32_lo _, i32_hi _⟩
  have bv_41 : ((-2147483648) ≤ v_41.toInt ∧ v_41.toInt ≤ 2147483647) := ⟨i32_lo _, i32_hi _⟩
  have bv_56 : ((-2147483648) ≤ v_56.toInt ∧ v_56.toInt ≤ 2147483647) := ⟨i32_lo _, i32_hi _⟩
  have hpo0 := hpreo0 v_31 (by rw [hfo_1]; rfl)
  have hT0 := hxtr0
  refine lv_iload_n hx hb dX12_parts_0 rfl (lv_at hl 1 rfl) ?_
  refine lv_iconst (v := 0) hx hb dX12_parts_1 (by decide) ?_
  refine lv_aload_n hx hb dX12_parts_2 rfl (lv_at hl 0 rfl) ?_
  refine tk_ViP (As := []) (rest := [.int 0, .int p1]) (n := 0) hx hb hml hown hU hN hZ (s_X12_allRules_k12 l (dC, dI) cI cL cZ cR cG cH Z kd L f hG o0 mo0 ko0) wd_686 wd_687 wd_688 wd_5 wd_689 (by decide +kernel) ⟨Nat.le_of_ble_eq_true rfl, Nat.le_of_ble_eq_true rfl⟩ hK hP hD hS mo0 hfo_1 12 rfl rfl rfl hl.1 rfl (Nat.le_of_ble_eq_true rfl) dX12_parts_3 ⟨Nat.le_of_ble_eq_true rfl, Nat.le_of_ble_eq_true rfl⟩ (fun x_58 f_59 H locs hw hP hD hS => ?_)
  obtain ⟨rfl, bx_58⟩ := hw
  refine tk_SiP (As := [.int p1, .int 0, .int x_58]) (rest := []) (n := 3) hx hb hml hown hU hN hZ (s_X12_isIn l (dC, dI) cI cL cZ cR cG cH Z kd L f hG p1 0 x_58) wd_227 wd_228 wd_5 wd_229 (by decide +kernel) ⟨Nat.le_of_ble_eq_true rfl, Nat.le_of_ble_eq_true rfl⟩ hK hP hD hS rfl hl.1 rfl (Nat.le_of_ble_eq_true rfl) dX12_parts_6 ⟨Nat.le_of_ble_eq_true rfl, Nat.le_of_ble_eq_true rfl⟩ (fun x_61 f_62 H locs hw hP hD hS => ?_)
  obtain ⟨rfl, bx_61, relx_61⟩ := hw
  try rw [ti_0] at relx_61
  refine lv_if_eq (tgt := 33) hx hb dX12_parts_9 (by decide) (fun c_64 => ?_) (fun c_64 => ?_)
  · skip
    rw [← Int32.toInt_inj, ti_0] at c_64
    refine lv_bipush (v := (-2)) hx hb dX12_parts_33 (by decide) ?_
    exact W.iret (v := (-2)) hx hb hr (fun t ht hW => ⟨⟨(-2), f, rfl, ⟨hG, (by decide), hfr0, hrA12, hfA12, (by intro w29 z29 e29 d29; rw [hfo_1] at e29; rw [hfo_1] at d29; obtain rfl := Option.some.inj e29; obtain rfl := Option.some.inj d29; (try rw [ti_m2]) <;> omega), hT0⟩, by rw [ht]; exact hP, va_K.moved hW.alike hK, pl_in hD⟩, hS.F ht⟩) hS.2.2 dX12_parts_35
  · skip
    rw [← Int32.toInt_inj, ti_0] at c_64
    refine lv_iload_n hx hb dX12_parts_12 rfl (lv_at hl 2 rfl) ?_
    refine lv_iconst (v := 0) hx hb dX12_parts_13 (by decide) ?_
    refine lv_aload_n hx hb dX12_parts_14 rfl (lv_at hl 0 rfl) ?_
    refine tk_ViP (As := []) (rest := [.int 0, .int p2]) (n := 0) hx hb hml hown hU hN hZ (s_X12_allRules_k12 l (dC, dI) cI cL cZ cR cG cH Z kd L f hG o0 mo0 ko0) wd_686 wd_687 wd_688 wd_5 wd_689 (by decide +kernel) ⟨Nat.le_of_ble_eq_true rfl, Nat.le_of_ble_eq_true rfl⟩ hK hP hD hS mo0 hfo_1 12 rfl rfl rfl hl.1 rfl (Nat.le_of_ble_eq_true rfl) dX12_parts_15 ⟨Nat.le_of_ble_eq_true rfl, Nat.le_of_ble_eq_true rfl⟩ (fun x_65 f_66 H locs hw hP hD hS => ?_)
    obtain ⟨rfl, bx_65⟩ := hw
    refine tk_SiP (As := [.int p2, .int 0, .int x_65]) (rest := []) (n := 3) hx hb hml hown hU hN hZ (s_X12_isIn l (dC, dI) cI cL cZ cR cG cH Z kd L f hG p2 0 x_65) wd_227 wd_228 wd_5 wd_229 (by decide +kernel) ⟨Nat.le_of_ble_eq_true rfl, Nat.le_of_ble_eq_true rfl⟩ hK hP hD hS rfl hl.1 rfl (Nat.le_of_ble_eq_true rfl) dX12_parts_18 ⟨Nat.le_of_ble_eq_true rfl, Nat.le_of_ble_eq_true rfl⟩ (fun x_68 f_69 H locs hw hP hD hS => ?_)
    obtain ⟨rfl, bx_68, relx_68⟩ := hw
    try rw [ti_0] at relx_68
    refine lv_if_eq (tgt := 33) hx hb dX12_parts_21 (by decide) (fun c_71 => ?_) (fun c_71 => ?_)
    · skip
      rw [← Int32.toInt_inj, ti_0] at c_71
      refine lv_bipush (v := (-2)) hx hb dX12_parts_33 (by decide) ?_
      exact W.iret (v := (-2)) hx hb hr (fun t ht hW => ⟨⟨(-2), f, rfl, ⟨hG, (by decide), hfr0, hrA12, hfA12, (by intro w29 z29 e29 d29; rw [hfo_1] at e29; rw [hfo_1] at d29; obtain rfl := Option.some.inj e29; obtain rfl := Option.some.inj d29; (try rw [ti_m2]) <;> omega), hT0⟩, by rw [ht]; exact hP, va_K.moved hW.alike hK, pl_in hD⟩, hS.F ht⟩) hS.2.2 dX12_parts_35
    · skip
      rw [← Int32.toInt_inj, ti_0] at c_71
      refine lv_iload_n hx hb dX12_parts_24 rfl (lv_at hl 3 rfl) ?_
      refine lv_iconst (v := 1) hx hb dX12_parts_25 (by decide) ?_
      refine lv_iconst (v := 3) hx hb dX12_parts_26 (by decide) ?_
      refine tk_SiP (As := [.int p3, .int 1, .int 3]) (rest := []) (n := 3) hx hb hml hown hU hN hZ (s_X12_isIn l (dC, dI) cI cL cZ cR cG cH Z kd L f hG p3 1 3) wd_227 wd_228 wd_5 wd_229 (by decide +kernel) ⟨Nat.le_of_ble_eq_true rfl, Nat.le_of_ble_eq_true rfl⟩ hK hP hD hS rfl hl.1 rfl (Nat.le_of_ble_eq_true rfl) dX12_parts_27 ⟨Nat.le_of_ble_eq_true rfl, Nat.le_of_ble_eq_true rfl⟩ (fun x_72 f_73 H locs hw hP hD hS => ?_)
      obtain ⟨rfl, bx_72, relx_72⟩ := hw
      try rw [ti_1] at relx_72
      try rw [ti_3] at relx_72
      refine lv_if_ne (tgt := 36) hx hb dX12_parts_30 (by decide) (fun c_75 => ?_) (fun c_75 => ?_)
      · skip
        rw [← Int32.toInt_inj, ti_0] at c_75
        refine lv_aload_n hx hb dX12_parts_36 rfl (lv_at hl 0 rfl) ?_
        refine lv_iload_n hx hb dX12_parts_37 rfl (lv_at hl 1 rfl) ?_
        refine lv_iload_n hx hb dX12_parts_38 rfl (lv_at hl 2 rfl) ?_
        refine lv_iload_n hx hb dX12_parts_39 rfl (lv_at hl 3 rfl) ?_
        refine tk_ViP (As := [.int p1, .int p2, .int p3]) (rest := []) (n := 3) hx hb hml hown hU hN hZ (s_X12_partsOf_k12 l (dC, dI) cI cL cZ cR cG cH Z kd L f hG o0 mo0 ko0 p1 p2 p3 (by constructor <;> omega) (by intro w29 e29; rw [hfo_1] at e29; obtain rfl := Option.some.inj e29; omega) hT0) wd_1334 wd_1335 wd_1336 wd_5 wd_1337 (by decide +kernel) ⟨Nat.le_of_ble_eq_true rfl, Nat.le_of_ble_eq_true rfl⟩ hK hP hD hS mo0 hfo_1 12 rfl rfl rfl hl.1 rfl (Nat.le_of_ble_eq_true rfl) dX12_parts_40 ⟨Nat.le_of_ble_eq_true rfl, Nat.le_of_ble_eq_true rfl⟩ (fun x_76 f_77 H locs hw hP hD hS => ?_)
        obtain ⟨hG, bx_76, hkc_78, hra_79, hfa_80, hpost_81, hTc_82⟩ := hw
        have hfr0 : ∀ b, kd b ≠ 12 → kd b ≠ 579 → kd b ≠ 581 → kd b ≠ 583 → kd b ≠ 585 → kd b ≠ 587 → kd b ≠ 588 → kd b ≠ 589 → kd b ≠ 590 → kd b ≠ 591 → kd b ≠ 592 → kd b ≠ 593 → kd b ≠ 602 → kd b ≠ 603 → f_77 b = f b := fun b q12 q579 q581 q583 q585 q587 q588 q589 q590 q591 q592 q593 q602 q603 => (hkc_78 b q12 q579 q581 q583 q585 q587 q588 q589 q590 q591 q592 q593 q602 q603).trans (hfr0 b q12 q579 q581 q583 q585 q587 q588 q589 q590 q591 q592 q593 q602 q603)
        have hrA12 : ∀ b, kd b = 12 → ∀ j, fldR (f_77 b) j = fldR (f b) j := fun b kb j => (hra_79 b kb j).trans (hrA12 b kb j)
        have hfA12 : ∀ b, kd b = 12 → ∀ j, j ≠ 23 → j ≠ 25 → j ≠ 27 → j ≠ 29 → j ≠ 32 → j ≠ 33 → fldI (f_77 b) j = fldI (f b) j := fun b kb j n23 n25 n27 n29 n32 n33 => (hfa_80 b kb j n23 n25 n27 n29 n32 n33).trans (hfA12 b kb j n23 n25 n27 n29 n32 n33)
        obtain ⟨a_85, a_86, a_87, v_88, a_89, v_90, v_91, v_92, v_93, v_94, v_95, v_96, v_97, v_98, v_99, a_100, a_101, a_102, a_103, a_104, a_105, a_106, a_107, v_108, v_109, v_110, v_111, v_112, a_113, v_114, a_115, a_116, v_117, v_118, a_119, v_120, a_121, a_122, v_123, v_124, a_125, a_126, a_127, v_128, a_129, a_130, a_131, a_132, a_133, a_134, a_135, a_136, a_137, v_138, v_139, a_140, hfo_84, ⟨ma_85, ka_85⟩, ⟨ma_86, ka_86⟩, ⟨ma_87, ka_87⟩, bv_88, ⟨ma_89, ka_89⟩, bv_90, bv_91, bv_96, bv_97, bv_98, ⟨ma_100, ka_100⟩, ⟨ma_101, ka_101⟩, ⟨ma_102, ka_102⟩, ⟨ma_103, ka_103⟩, ⟨ma_104, ka_104⟩, ⟨ma_105, ka_105⟩, ⟨ma_106, ka_106⟩, ⟨ma_107, ka_107⟩, bv_108, bv_110, bv_112, ⟨ma_113, ka_113⟩, bv_114, ⟨ma_115, ka_115⟩, ⟨ma_116, ka_116⟩, bv_117, ⟨ma_119, ka_119⟩, bv_120, ⟨ma_121, ka_121⟩, ⟨ma_122, ka_122⟩, bv_123, ⟨ma_125, ka_125⟩, ⟨ma_126, ka_126⟩, ⟨ma_127, ka_127⟩, bv_128, ⟨ma_129, ka_129⟩, ⟨ma_130, ka_130⟩, ⟨ma_131, ka_131⟩, ⟨ma_132, ka_132⟩, ⟨ma_133, ka_133⟩, ⟨ma_134, ka_134⟩, ⟨ma_135, ka_135⟩, ⟨ma_136, ka_136⟩, ⟨ma_137, ka_137⟩, bv_138, ⟨ma_140, ka_140⟩⟩ := un_12 (hG _ mo0) ko0
        have bv_92 : ((-2147483648) ≤ v_92.toInt ∧ v_92.toInt ≤ 2147483647) := ⟨i32_lo _, i32_hi _⟩
        have bv_93 : ((-2147483648) ≤ v_93.toInt ∧ v_93.toInt ≤ 2147483647) := ⟨i32_lo _, i32_hi _⟩
        have bv_94 : ((-2147483648) ≤ v_94.toInt ∧ v_94.toInt ≤ 2147483647) := ⟨i32_lo _, i32_hi _⟩
        have bv_95 : ((-2147483648) ≤ v_95.toInt ∧ v_95.toInt ≤ 2147483647) := ⟨i32_lo _, i32_hi _⟩
        have bv_99 : ((-2147483648) ≤ v_99.toInt ∧ v_99.toInt ≤ 2147483647) := ⟨i32_lo _, i32_hi _⟩
        have bv_109 : ((-2147483648) ≤ v_109.toInt ∧ v_109.toInt ≤ 2147483647) := ⟨i32_lo _, i32_hi _⟩
        have bv_111 : ((-2147483648) ≤ v_111.toInt ∧ v_111.toInt ≤ 2147483647) := ⟨i32_lo _, i32_hi _⟩
        have bv_118 : ((-2147483648) ≤ v_118.toInt ∧ v_118.toInt ≤ 2147483647) := ⟨i32_lo _, i32_hi _⟩
        have bv_124 : ((-2147483648) ≤ v_124.toInt ∧ v_124.toInt ≤ 2147483647) := ⟨i32_lo _, i32_hi _⟩
        have bv_139 : ((-2147483648) ≤ v_139.toInt ∧ v_139.toInt ≤ 2147483647) := ⟨i32_lo _, i32_hi _⟩
        obtain ⟨rfl, rfl, rfl, rfl, rfl, rfl, rfl, rfl, rfl, rfl, rfl, rfl, rfl, rfl, rfl, rfl, rfl, rfl, rfl, rfl, rfl, rfl, rfl, rfl, rfl, rfl, rfl, rfl, rfl, rfl, rfl⟩ := re_12 hfo_1 hfo_84 (hrA12 o0 ko0)
        obtain rfl := ri_12_3 hfo_1 hfo_84 (hfA12 o0 ko0 3 (by decide) (by decide) (by decide) (by decide) (by decide) (by decide))
        obtain rfl := ri_12_5 hfo_1 hfo_84 (hfA12 o0 ko0 5 (by decide) (by decide) (by decide) (by decide) (by decide) (by decide))
        obtain rfl := ri_12_6 hfo_1 hfo_84 (hfA12 o0 ko0 6 (by decide) (by decide) (by decide) (by decide) (by decide) (by decide))
        obtain rfl := ri_12_11 hfo_1 hfo_84 (hfA12 o0 ko0 11 (by decide) (by decide) (by decide) (by decide) (by decide) (by decide))
        obtain rfl := ri_12_12 hfo_1 hfo_84 (hfA12 o0 ko0 12 (by decide) (by decide) (by decide) (by decide) (by decide) (by decide))
        obtain rfl := ri_12_13 hfo_1 hfo_84 (hfA12 o0 ko0 13 (by decide) (by decide) (by decide) (by decide) (by decide) (by decide))
        obtain rfl := ri_12_14 hfo_1 hfo_84 (hfA12 o0 ko0 14 (by decide) (by decide) (by decide) (by decide) (by decide) (by decide))
        obtain rfl := ri_12_35 hfo_1 hfo_84 (hfA12 o0 ko0 35 (by decide) (by decide) (by decide) (by decide) (by decide) (by decide))
        obtain rfl := ri_12_38 hfo_1 hfo_84 (hfA12 o0 ko0 38 (by decide) (by decide) (by decide) (by decide) (by decide) (by decide))
        obtain rfl := ri_12_43 hfo_1 hfo_84 (hfA12 o0 ko0 43 (by decide) (by decide) (by decide) (by decide) (by decide) (by decide))
        obtain rfl := ri_12_53 hfo_1 hfo_84 (hfA12 o0 ko0 53 (by decide) (by decide) (by decide) (by decide) (by decide) (by decide))
        have hqhpost_81 := hpost_81 v_31 v_114 (by rw [hfo_1]; rfl) (by rw [hfo_84]; rfl)
        exact W.iret (v := x_76) hx hb hr (fun t ht hW => ⟨⟨x_76, f_77, rfl, ⟨hG, (by constructor <;> omega), hfr0, hrA12, hfA12, (by intro w29 z29 e29 d29; rw [hfo_1] at e29; rw [hfo_84] at d29; obtain rfl := Option.some.inj e29; obtain rfl := Option.some.inj d29; omega), hTc_82⟩, by rw [ht]; exact hP, va_K.moved hW.alike hK, pl_in hD⟩, hS.F ht⟩) hS.2.2 dX12_parts_43
      · skip
        rw [← Int32.toInt_inj, ti_0] at c_75
        refine lv_bipush (v := (-2)) hx hb dX12_parts_33 (by decide) ?_
        exact W.iret (v := (-2)) hx hb hr (fun t ht hW => ⟨⟨(-2), f, rfl, ⟨hG, (by decide), hfr0, hrA12, hfA12, (by intro w29 z29 e29 d29; rw [hfo_1] at e29; rw [hfo_1] at d29; obtain rfl := Option.some.inj e29; obtain rfl := Option.some.inj d29; (try rw [ti_m2]) <;> omega), hT0⟩, by rw [ht]; exact hP, va_K.moved hW.alike hK, pl_in hD⟩, hS.F ht⟩) hS.2.2 dX12_parts_35
set_option maxHeartbeats 8000000 in
set_option maxRecDepth 100000 in
theorem s_X12_idle_k12 (l : Launch) (D : va_G) (cI cL cZ cR cG cH : ClassId) (Z : zT) (kd : Nat → Nat) (L : List Nat) (f : Nat → va_E) (hG : GI (okc cI cL cZ cR cG cH L kd) kd L f) (o0 : Nat) (mo0 : o0 ∈ L) (ko0 : kd o0 = 12) (p1 : Int32) (p2 : Int32) (hpreo0 : ∀ (w29 : Int32), fldI (f o0) 29 = some w29 → w29.toInt ≤ 200) (hxtr0 : srel kd 592 f o0) : mPI l D cI cL cZ cR cG cH Z yX12_idle cX12_idle 3 (some .int) 26 725 [.ref o0, .int p1, .int p2] L f (fun (r : Int32) (f9 : Nat → va_E) => GI (okc cI cL cZ cR cG cH L kd) kd L f9 ∧ ((-2147483648) ≤ r.toInt ∧ r.toInt ≤ 2147483647) ∧ (∀ b, kd b ≠ 12 → kd b ≠ 579 → kd b ≠ 581 → kd b ≠ 583 → kd b ≠ 585 → kd b ≠ 587 → kd b ≠ 588 → kd b ≠ 589 → kd b ≠ 590 → kd b ≠ 591 → kd b ≠ 592 → kd b ≠ 593 → kd b ≠ 602 → kd b ≠ 603 → f9 b = f b) ∧ (∀ b, kd b = 12 → ∀ j, fldR (f9 b) j = fldR (f b) j) ∧ (∀ b, kd b = 12 → ∀ j, j ≠ 23 → j ≠ 25 → j ≠ 27 → j ≠ 29 → j ≠ 32 → j ≠ 33 → fldI (f9 b) j = fldI (f b) j) ∧ (∀ (w29 z29 : Int32), fldI (f o0) 29 = some w29 → fldI (f9 o0) 29 = some z29 → z29.toInt = w29.toInt) ∧ (srel kd 592 f9 o0)) := by
  obtain ⟨dC, dI⟩ := D
  refine Met.ofW (cc := cX12_idle) (maxL := 3) (ret := (some .int)) (by decide) rfl ?_
  intro p e s m args below meth c s₁ B hml hv
  obtain ⟨rfl, hP, hK, hD0, hN, hZ⟩ := hv
  have hx := B.exec
  have hb := B.bytes
  have hr := B.returns
  have hU : ∀ w ∈ wsU, w.before _ s = true := fun w h => atoms_spec (ws := wU yX12_idle cX12_idle 3 (some .int)) B.pre w (List.mem_cons_of_mem _ h)
  have hown : s.vm.findClass RX12 = some m.cls := findClass_of_methodNamed B.named
  have hlocks := B.notSynchronized
  have hD := pl_in hD0
  have hS : va_S (fun q => q ∈ L) s.heap s.heap [] := va_S.rf
  have hl := lv_entry ([.ref o0, .int p1, .int p2]) (n := 3) (Nat.le_of_ble_eq_true rfl)
  rw [lg_entry_eq]
  generalize (lg_sl ([.ref o0, .int p1, .int p2]) ++ List.replicate (3 - (lg_sl ([.ref o0, .int p1, .int p2])).length) Slot.unset).toArray = ls at hl ⊢
  have hl : lv_has ls 3 [(0, .ref o0), (1, .int p1), (2, .int p2)] := hl
  have bp1 : ((-2147483648) ≤ p1.toInt ∧ p1.toInt ≤ 2147483647) := ⟨i32_lo _, i32_hi _⟩
  have bp2 : ((-2147483648) ≤ p2.toInt ∧ p2.toInt ≤ 2147483647) := ⟨i32_lo _, i32_hi _⟩
  have hfr0 : ∀ b, kd b ≠ 12 → kd b ≠ 579 → kd b ≠ 581 → kd b ≠ 583 → kd b ≠ 585 → kd b ≠ 587 → kd b ≠ 588 → kd b ≠ 589 → kd b ≠ 590 → kd b ≠ 591 → kd b ≠ 592 → kd b ≠ 593 → kd b ≠ 602 → kd b ≠ 603 → f b = f b := fun _ _ _ _ _ _ _ _ _ _ _ _ _ _ _ => rfl
  have hrA12 : ∀ b, kd b = 12 → ∀ j, fldR (f b) j = fldR (f b) j := fun _ _ _ => rfl
  have hfA12 : ∀ b, kd b = 12 → ∀ j, j ≠ 23 → j ≠ 25 → j ≠ 27 → j ≠ 29 → j ≠ 32 → j ≠ 33 → fldI (f b) j = fldI (f b) j := fun _ _ _ _ _ _ _ _ _ => rfl
  obtain ⟨a_2, a_3, a_4, v_5, a_6, v_7, v_8, v_9, v_10, v_11, v_12, v_13, v_14, v_15, v_16, a_17, a_18, a_19, a_20, a_21, a_22, a_23, a_24, v_25, v_26, v_27, v_28, v_29, a_30, v_31, a_32, a_33, v_34, v_35, a_36, v_37, a_38, a_39, v_40, v_41, a_42, a_43, a_44, v_45, a_46, a_47, a_48, a_49, a_50, a_51, a_52, a_53, a_54, v_55, v_56, a_57, hfo_1, ⟨ma_2, ka_2⟩, ⟨ma_3, ka_3⟩, ⟨ma_4, ka_4⟩, bv_5, ⟨ma_6, ka_6⟩, bv_7, bv_8, bv_13, bv_14, bv_15, ⟨ma_17, ka_17⟩, ⟨ma_18, ka_18⟩, ⟨ma_19, ka_19⟩, ⟨ma_20, ka_20⟩, ⟨ma_21, ka_21⟩, ⟨ma_22, ka_22⟩, ⟨ma_23, ka_23⟩, ⟨ma_24, ka_24⟩, bv_25, bv_27, bv_29, ⟨ma_30, ka_30⟩, bv_31, ⟨ma_32, ka_32⟩, ⟨ma_33, ka_33⟩, bv_34, ⟨ma_36, ka_36⟩, bv_37, ⟨ma_38, ka_38⟩, ⟨ma_39, ka_39⟩, bv_40, ⟨ma_42, ka_42⟩, ⟨ma_43, ka_43⟩, ⟨ma_44, ka_44⟩, bv_45, ⟨ma_46, ka_46⟩, ⟨ma_47, ka_47⟩, ⟨ma_48, ka_48⟩, ⟨ma_49, ka_49⟩, ⟨ma_50, ka_50⟩, ⟨ma_51, ka_51⟩, ⟨ma_52, ka_52⟩, ⟨ma_53, ka_53⟩, ⟨ma_54, ka_54⟩, bv_55, ⟨ma_57, ka_57⟩⟩ := un_12 (hG _ mo0) ko0
  have bv_9 : ((-2147483648) ≤ v_9.toInt ∧ v_9.toInt ≤ 2147483647) := ⟨i32_lo _, i32_hi _⟩
  have bv_10 : ((-2147483648) ≤ v_10.toInt ∧ v_10.toInt ≤ 2147483647) := ⟨i32_lo _, i32_hi _⟩
  have bv_11 : ((-2147483648) ≤ v_11.toInt ∧ v_11.toInt ≤ 2147483647) := ⟨i32_lo _, i32_hi _⟩
  have bv_12 : ((-2147483648) ≤ v_12.toInt ∧ v_12.toInt ≤ 2147483647) := ⟨i32_lo _, i32_hi _⟩
  have bv_16 : ((-2147483648) ≤ v_16.toInt ∧ v_16.toInt ≤ 2147483647) := ⟨i32_lo _, i32_hi _⟩
  have bv_26 : ((-2147483648) ≤ v_26.toInt ∧ v_26.toInt ≤ 2147483647) := ⟨i32_lo _, i32_hi _⟩
  have bv_28 : ((-2147483648) ≤ v_28.toInt ∧ v_28.toInt ≤ 2147483647) := ⟨i32_lo _, i32_hi _⟩
  have bv_35 : ((-2147483648) ≤ v_35.toInt ∧ v_35.toInt ≤ 2147483647) := ⟨i32_lo _, i32_hi _⟩
  have bv_41 : ((-2147483648) ≤ v_41.toInt ∧ v_41.toInt ≤ 2147483647) := ⟨i32_lo _, i32_hi _⟩
  have bv_56 : ((-2147483648) ≤ v_56.toInt ∧ v_56.toInt ≤ 2147483647) := ⟨i32_lo _, i32_hi _⟩
  have hpo0 := hpreo0 v_31 (by rw [hfo_1]; rfl)
  have hT0 := hxtr0
  refine lv_aload_n hx hb dX12_idle_0 rfl (lv_at hl 0 rfl) ?_
  refine lv_iload_n hx hb dX12_idle_1 rfl (lv_at hl 1 rfl) ?_
  refine tk_ViP (As := [.int p1]) (rest := []) (n := 1) hx hb hml hown hU hN hZ (s_X12_isUsed_k12 l (dC, dI) cI cL cZ cR cG cH Z kd L f hG o0 mo0 ko0 p1) wd_1350 wd_1351 wd_1352 wd_5 wd_1353 (by decide +kernel) ⟨Nat.le_of_ble_eq_true rfl, Nat.le_of_ble_eq_true rfl⟩ hK hP hD hS mo0 hfo_1 12 rfl rfl rfl hl.1 rfl (Nat.le_of_ble_eq_true rfl) dX12_idle_2 ⟨Nat.le_of_ble_eq_true rfl, Nat.le_of_ble_eq_true rfl⟩ (fun x_58 f_59 H locs hw hP hD hS => ?_)
  obtain ⟨rfl, bx_58, relx_58⟩ := hw
  refine lv_if_eq (tgt := 17) hx hb dX12_idle_5 (by decide) (fun c_61 => ?_) (fun c_61 => ?_)
  · skip
    rw [← Int32.toInt_inj, ti_0] at c_61
    refine lv_iconst (v := (-1)) hx hb dX12_idle_17 (by decide) ?_
    refine lv_goto (tgt := 55) hx hb dX12_idle_18 (by decide) ?_
    exact W.iret (v := (-1)) hx hb hr (fun t ht hW => ⟨⟨(-1), f, rfl, ⟨hG, (by decide), hfr0, hrA12, hfA12, (by intro w29 z29 e29 d29; rw [hfo_1] at e29; rw [hfo_1] at d29; obtain rfl := Option.some.inj e29; obtain rfl := Option.some.inj d29; (try rw [ti_m1]) <;> omega), hT0⟩, by rw [ht]; exact hP, va_K.moved hW.alike hK, pl_in hD⟩, hS.F ht⟩) hS.2.2 dX12_idle_55
  · skip
    rw [← Int32.toInt_inj, ti_0] at c_61
    refine lv_iload_n hx hb dX12_idle_8 rfl (lv_at hl 2 rfl) ?_
    refine lv_iconst (v := 1) hx hb dX12_idle_9 (by decide) ?_
    refine lv_iconst (v := 3) hx hb dX12_idle_10 (by decide) ?_
    refine tk_SiP (As := [.int p2, .int 1, .int 3]) (rest := []) (n := 3) hx hb hml hown hU hN hZ (s_X12_isIn l (dC, dI) cI cL cZ cR cG cH Z kd L f hG p2 1 3) wd_227 wd_228 wd_5 wd_229 (by decide +kernel) ⟨Nat.le_of_ble_eq_true rfl, Nat.le_of_ble_eq_true rfl⟩ hK hP hD hS rfl hl.1 rfl (Nat.le_of_ble_eq_true rfl) dX12_idle_11 ⟨Nat.le_of_ble_eq_true rfl, Nat.le_of_ble_eq_true rfl⟩ (fun x_62 f_63 H locs hw hP hD hS => ?_)
    obtain ⟨rfl, bx_62, relx_62⟩ := hw
    try rw [ti_1] at relx_62
    try rw [ti_3] at relx_62
    refine lv_if_ne (tgt := 21) hx hb dX12_idle_14 (by decide) (fun c_65 => ?_) (fun c_65 => ?_)
    · skip
      rw [← Int32.toInt_inj, ti_0] at c_65
      refine lv_aload_n hx hb dX12_idle_21 rfl (lv_at hl 0 rfl) ?_
      refine lv_aload_n hx hb dX12_idle_22 rfl (lv_at hl 0 rfl) ?_
      refine tk_getP (D := (dC, dI)) (ci := 12) (v := .ref a_2) (C := RX12) (T := TX12) (N := 56) hx hb hU inlX12 hown hK hP mo0 hfo_1 rfl 0 (by decide) (hU _ wd_169) (fun _ h9 => h9) rfl dX12_idle_23 ?_
      refine lv_bipush (v := 40) hx hb dX12_idle_26 (by decide) ?_
      obtain ⟨g_67, hfo_66, hbg_67⟩ := un_575 (hG _ ma_2) ka_2
      refine tk_ildP hx hb hK hP 0 ma_2 hfo_66 rfl (vp_in_nI (n := 40) (by decide) (by decide)) dX12_idle_28 ?_
      refine lv_topi (fun x_68 ex_68 => ?_)
      have bx_68 : (0 ≤ x_68.toInt ∧ x_68.toInt ≤ 255) := by rw [ex_68]; exact hbg_67.2.2.2.2.2.2.1 _ (by decide) (by decide) (by decide)
      refine lv_aload_n hx hb dX12_idle_29 rfl (lv_at hl 0 rfl) ?_
      refine tk_getP (D := (dC, dI)) (ci := 12) (v := .ref a_2) (C := RX12) (T := TX12) (N := 56) hx hb hU inlX12 hown hK hP mo0 hfo_1 rfl 0 (by decide) (hU _ wd_169) (fun _ h9 => h9) rfl dX12_idle_30 ?_
      refine lv_bipush (v := 40) hx hb dX12_idle_33 (by decide) ?_
      refine tk_ildP hx hb hK hP 0 ma_2 hfo_66 rfl (vp_in_nI (n := 40) (by decide) (by decide)) dX12_idle_35 ?_
      refine tk_topi (y := x_68) ex_68.symm ?_
      refine lv_iconst (v := 1) hx hb dX12_idle_36 (by decide) ?_
      refine lv_iload_n hx hb dX12_idle_37 rfl (lv_at hl 1 rfl) ?_
      refine lv_ishl hx hb dX12_idle_38 ?_
      refine lv_topi (fun x_69 ex_69 => ?_)
      have bx_69 : (1 ≤ x_69.toInt ∧ x_69.toInt ≤ 128) := by rw [ex_69]; exact sh_7 (by constructor <;> omega)
      refine lv_iconst (v := (-1)) hx hb dX12_idle_39 (by decide) ?_
      refine lv_ixor hx hb dX12_idle_40 ?_
      refine lv_topi (fun x_70 ex_70 => ?_)
      have bx_70 : ((-2147483648) ≤ x_70.toInt ∧ x_70.toInt ≤ 2147483647) := ⟨i32_lo _, i32_hi _⟩
      refine lv_iand hx hb dX12_idle_41 ?_
      refine lv_topi (fun x_71 ex_71 => ?_)
      have bx_71 : ((-2147483648) ≤ x_71.toInt ∧ x_71.toInt ≤ 2147483647) := ⟨i32_lo _, i32_hi _⟩
      refine lv_iload_n hx hb dX12_idle_42 rfl (lv_at hl 2 rfl) ?_
      refine tk_ViP (As := [.int x_68, .int x_71, .int p2]) (rest := []) (n := 3) hx hb hml hown hU hN hZ (s_X12_partsOf_k12 l (dC, dI) cI cL cZ cR cG cH Z kd L f hG o0 mo0 ko0 x_68 x_71 p2 (by constructor <;> omega) (by intro w29 e29; rw [hfo_1] at e29; obtain rfl := Option.some.inj e29; omega) hT0) wd_1334 wd_1335 wd_1336 wd_5 wd_1337 (by decide +kernel) ⟨Nat.le_of_ble_eq_true rfl, Nat.le_of_ble_eq_true rfl⟩ hK hP hD hS mo0 hfo_1 12 rfl rfl rfl hl.1 rfl (Nat.le_of_ble_eq_true rfl) dX12_idle_43 ⟨Nat.le_of_ble_eq_true rfl, Nat.le_of_ble_eq_true rfl⟩ (fun x_72 f_73 H locs hw hP hD hS => ?_)
      obtain ⟨hG, bx_72, hkc_74, hra_75, hfa_76, hpost_77, hTc_78⟩ := hw
      have hfo_80 : f_73 a_2 = .inl (cI, 1560, .inl g_67) := by rw [hkc_74 a_2 (by rw [ka_2]; decide) (by rw [ka_2]; decide) (by rw [ka_2]; decide) (by rw [ka_2]; decide) (by rw [ka_2]; decide) (by rw [ka_2]; decide) (by rw [ka_2]; decide) (by rw [ka_2]; decide) (by rw [ka_2]; decide) (by rw [ka_2]; decide) (by rw [ka_2]; decide) (by rw [ka_2]; decide) (by rw [ka_2]; decide) (by rw [ka_2]; decide)]; exact hfo_66
      have hfr0 : ∀ b, kd b ≠ 12 → kd b ≠ 579 → kd b ≠ 581 → kd b ≠ 583 → kd b ≠ 585 → kd b ≠ 587 → kd b ≠ 588 → kd b ≠ 589 → kd b ≠ 590 → kd b ≠ 591 → kd b ≠ 592 → kd b ≠ 593 → kd b ≠ 602 → kd b ≠ 603 → f_73 b = f b := fun b q12 q579 q581 q583 q585 q587 q588 q589 q590 q591 q592 q593 q602 q603 => (hkc_74 b q12 q579 q581 q583 q585 q587 q588 q589 q590 q591 q592 q593 q602 q603).trans (hfr0 b q12 q579 q581 q583 q585 q587 q588 q589 q590 q591 q592 q593 q602 q603)
      have hrA12 : ∀ b, kd b = 12 → ∀ j, fldR (f_73 b) j = fldR (f b) j := fun b kb j => (hra_75 b kb j).trans (hrA12 b kb j)
      have hfA12 : ∀ b, kd b = 12 → ∀ j, j ≠ 23 → j ≠ 25 → j ≠ 27 → j ≠ 29 → j ≠ 32 → j ≠ 33 → fldI (f_73 b) j = fldI (f b) j := fun b kb j n23 n25 n27 n29 n32 n33 => (hfa_76 b kb j n23 n25 n27 n29 n32 n33).trans (hfA12 b kb j n23 n25 n27 n29 n32 n33)
      obtain ⟨a_82, a_83, a_84, v_85, a_86, v_87, v_88, v_89, v_90, v_91, v_92, v_93, v_94, v_95, v_96, a_97, a_98, a_99, a_100, a_101, a_102, a_103, a_104, v_105, v_106, v_107, v_108, v_109, a_110, v_111, a_112, a_113, v_114, v_115, a_116, v_117, a_118, a_119, v_120, v_121, a_122, a_123, a_124, v_125, a_126, a_127, a_128, a_129, a_130, a_131, a_132, a_133, a_134, v_135, v_136, a_137, hfo_81, ⟨ma_82, ka_82⟩, ⟨ma_83, ka_83⟩, ⟨ma_84, ka_84⟩, bv_85, ⟨ma_86, ka_86⟩, bv_87, bv_88, bv_93, bv_94, bv_95, ⟨ma_97, ka_97⟩, ⟨ma_98, ka_98⟩, ⟨ma_99, ka_99⟩, ⟨ma_100, ka_100⟩, ⟨ma_101, ka_101⟩, ⟨ma_102, ka_102⟩, ⟨ma_103, ka_103⟩, ⟨ma_104, ka_104⟩, bv_105, bv_107, bv_109, ⟨ma_110, ka_110⟩, bv_111, ⟨ma_112, ka_112⟩, ⟨ma_113, ka_113⟩, bv_114, ⟨ma_116, ka_116⟩, bv_117, ⟨ma_118, ka_118⟩, ⟨ma_119, ka_119⟩, bv_120, ⟨ma_122, ka_122⟩, ⟨ma_123, ka_123⟩, ⟨ma_124, ka_124⟩, bv_125, ⟨ma_126, ka_126⟩, ⟨ma_127, ka_127⟩, ⟨ma_128, ka_128⟩, ⟨ma_129, ka_129⟩, ⟨ma_130, ka_130⟩, ⟨ma_131, ka_131⟩, ⟨ma_132, ka_132⟩, ⟨ma_133, ka_133⟩, ⟨ma_134, ka_134⟩, bv_135, ⟨ma_137, ka_137⟩⟩ := un_12 (hG _ mo0) ko0
      have bv_89 : ((-2147483648) ≤ v_89.toInt ∧ v_89.toInt ≤ 2147483647) := ⟨i32_lo _, i32_hi _⟩
      have bv_90 : ((-2147483648) ≤ v_90.toInt ∧ v_90.toInt ≤ 2147483647) := ⟨i32_lo _, i32_hi _⟩
      have bv_91 : ((-2147483648) ≤ v_91.toInt ∧ v_91.toInt ≤ 2147483647) := ⟨i32_lo _, i32_hi _⟩
      have bv_92 : ((-2147483648) ≤ v_92.toInt ∧ v_92.toInt ≤ 2147483647) := ⟨i32_lo _, i32_hi _⟩
      have bv_96 : ((-2147483648) ≤ v_96.toInt ∧ v_96.toInt ≤ 2147483647) := ⟨i32_lo _, i32_hi _⟩
      have bv_106 : ((-2147483648) ≤ v_106.toInt ∧ v_106.toInt ≤ 2147483647) := ⟨i32_lo _, i32_hi _⟩
      have bv_108 : ((-2147483648) ≤ v_108.toInt ∧ v_108.toInt ≤ 2147483647) := ⟨i32_lo _, i32_hi _⟩
      have bv_115 : ((-2147483648) ≤ v_115.toInt ∧ v_115.toInt ≤ 2147483647) := ⟨i32_lo _, i32_hi _⟩
      have bv_121 : ((-2147483648) ≤ v_121.toInt ∧ v_121.toInt ≤ 2147483647) := ⟨i32_lo _, i32_hi _⟩
      have bv_136 : ((-2147483648) ≤ v_136.toInt ∧ v_136.toInt ≤ 2147483647) := ⟨i32_lo _, i32_hi _⟩
      obtain ⟨rfl, rfl, rfl, rfl, rfl, rfl, rfl, rfl, rfl, rfl, rfl, rfl, rfl, rfl, rfl, rfl, rfl, rfl, rfl, rfl, rfl, rfl, rfl, rfl, rfl, rfl, rfl, rfl, rfl, rfl, rfl⟩ := re_12 hfo_1 hfo_81 (hrA12 o0 ko0)
      obtain rfl := ri_12_3 hfo_1 hfo_81 (hfA12 o0 ko0 3 (by decide) (by decide) (by decide) (by decide) (by decide) (by decide))
      obtain rfl := ri_12_5 hfo_1 hfo_81 (hfA12 o0 ko0 5 (by decide) (by decide) (by decide) (by decide) (by decide) (by decide))
      obtain rfl := ri_12_6 hfo_1 hfo_81 (hfA12 o0 ko0 6 (by decide) (by decide) (by decide) (by decide) (by decide) (by decide))
      obtain rfl := ri_12_11 hfo_1 hfo_81 (hfA12 o0 ko0 11 (by decide) (by decide) (by decide) (by decide) (by decide) (by decide))
      obtain rfl := ri_12_12 hfo_1 hfo_81 (hfA12 o0 ko0 12 (by decide) (by decide) (by decide) (by decide) (by decide) (by decide))
      obtain rfl := ri_12_13 hfo_1 hfo_81 (hfA12 o0 ko0 13 (by decide) (by decide) (by decide) (by decide) (by decide) (by decide))
      obtain rfl := ri_12_14 hfo_1 hfo_81 (hfA12 o0 ko0 14 (by decide) (by decide) (by decide) (by decide) (by decide) (by decide))
      obtain rfl := ri_12_35 hfo_1 hfo_81 (hfA12 o0 ko0 35 (by decide) (by decide) (by decide) (by decide) (by decide) (by decide))
      obtain rfl := ri_12_38 hfo_1 hfo_81 (hfA12 o0 ko0 38 (by decide) (by decide) (by decide) (by decide) (by decide) (by decide))
      obtain rfl := ri_12_43 hfo_1 hfo_81 (hfA12 o0 ko0 43 (by decide) (by decide) (by decide) (by decide) (by decide) (by decide))
      obtain rfl := ri_12_53 hfo_1 hfo_81 (hfA12 o0 ko0 53 (by decide) (by decide) (by decide) (by decide) (by decide) (by decide))
      have hqhpost_77 := hpost_77 v_31 v_111 (by rw [hfo_1]; rfl) (by rw [hfo_81]; rfl)
      refine lv_iconst (v := (-1)) hx hb dX12_idle_46 (by decide) ?_
      refine lv_icmp_ne (tgt := 54) hx hb dX12_idle_47 (by decide) (fun c_138 => ?_) (fun c_138 => ?_)
      · skip
        rw [← Int32.toInt_inj, ti_m1] at c_138
        refine lv_iconst (v := 0) hx hb dX12_idle_54 (by decide) ?_
        exact W.iret (v := 0) hx hb hr (fun t ht hW => ⟨⟨0, f_73, rfl, ⟨hG, (by decide), hfr0, hrA12, hfA12, (by intro w29 z29 e29 d29; rw [hfo_1] at e29; rw [hfo_81] at d29; obtain rfl := Option.some.inj e29; obtain rfl := Option.some.inj d29; (try rw [ti_0]) <;> omega), hTc_78⟩, by rw [ht]; exact hP, va_K.moved hW.alike hK, pl_in hD⟩, hS.F ht⟩) hS.2.2 dX12_idle_55
      · skip
        rw [← Int32.toInt_inj, ti_m1] at c_138
        refine lv_iconst (v := 1) hx hb dX12_idle_50 (by decide) ?_
        refine lv_goto (tgt := 55) hx hb dX12_idle_51 (by decide) ?_
        exact W.iret (v := 1) hx hb hr (fun t ht hW => ⟨⟨1, f_73, rfl, ⟨hG, (by decide), hfr0, hrA12, hfA12, (by intro w29 z29 e29 d29; rw [hfo_1] at e29; rw [hfo_81] at d29; obtain rfl := Option.some.inj e29; obtain rfl := Option.some.inj d29; (try rw [ti_1]) <;> omega), hTc_78⟩, by rw [ht]; exact hP, va_K.moved hW.alike hK, pl_in hD⟩, hS.F ht⟩) hS.2.2 dX12_idle_55
    · skip
      rw [← Int32.toInt_inj, ti_0] at c_65
      refine lv_iconst (v := (-1)) hx hb dX12_idle_17 (by decide) ?_
      refine lv_goto (tgt := 55) hx hb dX12_idle_18 (by decide) ?_
      exact W.iret (v := (-1)) hx hb hr (fun t ht hW => ⟨⟨(-1), f, rfl, ⟨hG, (by decide), hfr0, hrA12, hfA12, (by intro w29 z29 e29 d29; rw [hfo_1] at e29; rw [hfo_1] at d29; obtain rfl := Option.some.inj e29; obtain rfl := Option.some.inj d29; (try rw [ti_m1]) <;> omega), hT0⟩, by rw [ht]; exact hP, va_K.moved hW.alike hK, pl_in hD⟩, hS.F ht⟩) hS.2.2 dX12_idle_55
set_option maxHeartbeats 8000000 in
set_option maxRecDepth 100000 in
theorem s_X12_fewest_k12 (l : Launch) (D : va_G) (cI cL cZ cR cG cH : ClassId) (Z : zT) (kd : Nat → Nat) (L : List Nat) (f : Nat → va_E) (hG : GI (okc cI cL cZ cR cG cH L kd) kd L f) (o0 : Nat) (mo0 : o0 ∈ L) (ko0 : kd o0 = 12) (p1 : Int32) (hpreo0 : ∀ (w29 : Int32), fldI (f o0) 29 = some w29 → w29.toInt ≤ 200) (hxtr0 : srel kd 592 f o0) : mPI l D cI cL cZ cR cG cH Z yX12_fewest cX12_fewest 5 (some .int) 24 676 [.ref o0, .int p1] L f (fun (r : Int32) (f9 : Nat → va_E) => GI (okc cI cL cZ cR cG cH L kd) kd L f9 ∧ ((-2147483648) ≤ r.toInt ∧ r.toInt ≤ 2147483647) ∧ (∀ b, kd b ≠ 12 → kd b ≠ 579 → kd b ≠ 581 → kd b ≠ 583 → kd b ≠ 585 → kd b ≠ 587 → kd b ≠ 588 → kd b ≠ 589 → kd b ≠ 590 → kd b ≠ 591 → kd b ≠ 592 → kd b ≠ 593 → kd b ≠ 603 → f9 b = f b) ∧ (∀ b, kd b = 12 → ∀ j, fldR (f9 b) j = fldR (f b) j) ∧ (∀ b, kd b = 12 → ∀ j, j ≠ 23 → j ≠ 25 → j ≠ 27 → j ≠ 29 → j ≠ 32 → j ≠ 33 → fldI (f9 b) j = fldI (f b) j) ∧ (∀ (w29 z29 : Int32), fldI (f o0) 29 = some w29 → fldI (f9 o0) 29 = some z29 → z29.toInt = w29.toInt) ∧ (srel kd 592 f9 o0)) := by
  obtain ⟨dC, dI⟩ := D
  refine Met.ofW (cc := cX12_fewest) (maxL := 5) (ret := (some .int)) (by decide) rfl ?_
  intro p e s m args below meth c s₁ B hml hv
  obtain ⟨rfl, hP, hK, hD0, hN, hZ⟩ := hv
  have hx := B.exec
  have hb := B.bytes
  have hr := B.returns
  have hU : ∀ w ∈ wsU, w.before _ s = true := fun w h => atoms_spec (ws := wU yX12_fewest cX12_fewest 5 (some .int)) B.pre w (List.mem_cons_of_mem _ h)
  have hown : s.vm.findClass RX12 = some m.cls := findClass_of_methodNamed B.named
  have hlocks := B.notSynchronized
  have hD := pl_in hD0
  have hS : va_S (fun q => q ∈ L) s.heap s.heap [] := va_S.rf
  have hl := lv_entry ([.ref o0, .int p1]) (n := 5) (Nat.le_of_ble_eq_true rfl)
  rw [lg_entry_eq]
  generalize (lg_sl ([.ref o0, .int p1]) ++ List.replicate (5 - (lg_sl ([.ref o0, .int p1])).length) Slot.unset).toArray = ls at hl ⊢
  have hl : lv_has ls 5 [(0, .ref o0), (1, .int p1)] := hl
  have bp1 : ((-2147483648) ≤ p1.toInt ∧ p1.toInt ≤ 2147483647) := ⟨i32_lo _, i32_hi _⟩
  have hfr0 : ∀ b, kd b ≠ 12 → kd b ≠ 579 → kd b ≠ 581 → kd b ≠ 583 → kd b ≠ 585 → kd b ≠ 587 → kd b ≠ 588 → kd b ≠ 589 → kd b ≠ 590 → kd b ≠ 591 → kd b ≠ 592 → kd b ≠ 593 → kd b ≠ 603 → f b = f b := fun _ _ _ _ _ _ _ _ _ _ _ _ _ _ => rfl
  have hrA12 : ∀ b, kd b = 12 → ∀ j, fldR (f b) j = fldR (f b) j := fun _ _ _ => rfl
  have hfA12 : ∀ b, kd b = 12 → ∀ j, j ≠ 23 → j ≠ 25 → j ≠ 27 → j ≠ 29 → j ≠ 32 → j ≠ 33 → fldI (f b) j = fldI (f b) j := fun _ _ _ _ _ _ _ _ _ => rfl
  obtain ⟨a_2, a_3, a_4, v_5, a_6, v_7, v_8, v_9, v_10, v_11, v_12, v_13, v_14, v_15, v_16, a_17, a_18, a_19, a_20, a_21, a_22, a_23, a_24, v_25, v_26, v_27, v_28, v_29, a_30, v_31, a_32, a_33, v_34, v_35, a_36, v_37, a_38, a_39, v_40, v_41, a_42, a_43, a_44, v_45, a_46, a_47, a_48, a_49, a_50, a_51, a_52, a_53, a_54, v_55, v_56, a_57, hfo_1, ⟨ma_2, ka_2⟩, ⟨ma_3, ka_3⟩, ⟨ma_4, ka_4⟩, bv_5, ⟨ma_6, ka_6⟩, bv_7, bv_8, bv_13, bv_14, bv_15, ⟨ma_17, ka_17⟩, ⟨ma_18, ka_18⟩, ⟨ma_19, ka_19⟩, ⟨ma_20, ka_20⟩, ⟨ma_21, ka_21⟩, ⟨ma_22, ka_22⟩, ⟨ma_23, ka_23⟩, ⟨ma_24, ka_24⟩, bv_25, bv_27, bv_29, ⟨ma_30, ka_30⟩, bv_31, ⟨ma_32, ka_32⟩, ⟨ma_33, ka_33⟩, bv_34, ⟨ma_36, ka_36⟩, bv_37, ⟨ma_38, ka_38⟩, ⟨ma_39, ka_39⟩, bv_40, ⟨ma_42, ka_42⟩, ⟨ma_43, ka_43⟩, ⟨ma_44, ka_44⟩, bv_45, ⟨ma_46, ka_46⟩, ⟨ma_47, ka_47⟩, ⟨ma_48, ka_48⟩, ⟨ma_49, ka_49⟩, ⟨ma_50, ka_50⟩, ⟨ma_51, ka_51⟩, ⟨ma_52, ka_52⟩, ⟨ma_53, ka_53⟩, ⟨ma_54, ka_54⟩, bv_55, ⟨ma_57, ka_57⟩⟩ := un_12 (hG _ mo0) ko0
  have bv_9 : ((-2147483648) ≤ v_9.toInt ∧ v_9.toInt ≤ 2147483647) := ⟨i32_lo _, i32_hi _⟩
  have bv_10 : ((-2147483648) ≤ v_10.toInt ∧ v_10.toInt ≤ 2147483647) := ⟨i32_lo _, i32_hi _⟩
  have bv_11 : ((-2147483648) ≤ v_11.toInt ∧ v_11.toInt ≤ 2147483647) := ⟨i32_lo _, i32_hi _⟩
  have bv_12 : ((-2147483648) ≤ v_12.toInt ∧ v_12.toInt ≤ 2147483647) := ⟨i32_lo _, i32_hi _⟩
  have bv_16 : ((-2147483648) ≤ v_16.toInt ∧ v_16.toInt ≤ 2147483647) := ⟨i32_lo _, i32_hi _⟩
  have bv_26 : ((-2147483648) ≤ v_26.toInt ∧ v_26.toInt ≤ 2147483647) := ⟨i32_lo _, i32_hi _⟩
  have bv_28 : ((-2147483648) ≤ v_28.toInt ∧ v_28.toInt ≤ 2147483647) := ⟨i32_lo _, i32_hi _⟩
  have bv_35 : ((-2147483648) ≤ v_35.toInt ∧ v_35.toInt ≤ 2147483647) := ⟨i32_lo _, i32_hi _⟩
  have bv_41 : ((-2147483648) ≤ v_41.toInt ∧ v_41.toInt ≤ 2147483647) := ⟨i32_lo _, i32_hi _⟩
  have bv_56 : ((-2147483648) ≤ v_56.toInt ∧ v_56.toInt ≤ 2147483647) := ⟨i32_lo _, i32_hi _⟩
  have hpo0 := hpreo0 v_31 (by rw [hfo_1]; rfl)
  have hT0 := hxtr0
  refine lv_iload_n hx hb dX12_fewest_0 rfl (lv_at hl 1 rfl) ?_
  refine lv_iconst (v := 1) hx hb dX12_fewest_1 (by decide) ?_
  refine lv_iconst (v := 2) hx hb dX12_fewest_2 (by decide) ?_
  refine tk_SiP (As := [.int p1, .int 1, .int 2]) (rest := []) (n := 3) hx hb hml hown hU hN hZ (s_X12_isIn l (dC, dI) cI cL cZ cR cG cH Z kd L f hG p1 1 2) wd_227 wd_228 wd_5 wd_229 (by decide +kernel) ⟨Nat.le_of_ble_eq_true rfl, Nat.le_of_ble_eq_true rfl⟩ hK hP hD hS rfl hl.1 rfl (Nat.le_of_ble_eq_true rfl) dX12_fewest_3 ⟨Nat.le_of_ble_eq_true rfl, Nat.le_of_ble_eq_true rfl⟩ (fun x_58 f_59 H locs hw hP hD hS => ?_)
  obtain ⟨rfl, bx_58, relx_58⟩ := hw
  try rw [ti_1] at relx_58
  try rw [ti_2] at relx_58
  refine lv_if_ne (tgt := 11) hx hb dX12_fewest_6 (by decide) (fun c_61 => ?_) (fun c_61 => ?_)
  · skip
    rw [← Int32.toInt_inj, ti_0] at c_61
    refine lv_iconst (v := 0) hx hb dX12_fewest_11 (by decide) ?_
    refine lv_istore_n (lv' := [(2, .int 0), (0, .ref o0), (1, .int p1)]) hx hb dX12_fewest_12 rfl hl (by decide) rfl (fun ls hl => ?_)
    have hloop_77 : ∀ (n : Nat), ∀ (y_78 : Int32), (0 ≤ y_78.toInt ∧ y_78.toInt ≤ 256) → ∀ (f_80 : Nat → va_E), GI (okc cI cL cZ cR cG cH L kd) kd L f_80 → ∀ (H : Heap) (locs : List Loc), va_P (dC, dI) vwCl (va_pl L f_80) H → va_S (fun q => q ∈ L) s.heap H locs → va_D (fun q => q ∈ L) (va_pl L f_80) → (∀ b, kd b ≠ 12 → kd b ≠ 579 → kd b ≠ 581 → kd b ≠ 583 → kd b ≠ 585 → kd b ≠ 587 → kd b ≠ 588 → kd b ≠ 589 → kd b ≠ 590 → kd b ≠ 591 → kd b ≠ 592 → kd b ≠ 593 → kd b ≠ 603 → f_80 b = f b) → (∀ b, kd b = 12 → ∀ j, fldR (f_80 b) j = fldR (f b) j) → (∀ b, kd b = 12 → ∀ j, j ≠ 23 → j ≠ 25 → j ≠ 27 → j ≠ 29 → j ≠ 32 → j ≠ 33 → fldI (f_80 b) j = fldI (f b) j) → (f_80 o0 = .inr (12, [.ref a_2, .ref a_3, .ref a_4, .int v_5, .ref a_6, .int v_7, .int v_8, .int v_9, .int v_10, .int v_11, .int v_12, .int v_13, .int v_14, .int v_15, .int v_16, .ref a_17, .ref a_18, .ref a_19, .ref a_20, .ref a_21, .ref a_22, .ref a_23, .ref a_24, .int v_25, .int v_26, .int v_27, .int v_28, .int v_29, .ref a_30, .int v_31, .ref a_32, .ref a_33, .int v_34, .int v_35, .ref a_36, .int v_37, .ref a_38, .ref a_39, .int v_40, .int v_41, .ref a_42, .ref a_43, .ref a_44, .int v_45, .ref a_46, .ref a_47, .ref a_48, .ref a_49, .ref a_50, .ref a_51, .ref a_52, .ref a_53, .ref a_54, .int v_55, .int v_56, .ref a_57])) → srel kd 592 f_80 o0 → 256 - y_78.toInt < (n : Int) → ∀ (ls : Array Slot), lv_has ls 5 [(2, .int y_78), (0, .ref o0), (1, .int p1)] → W p l e (headSpec (wU yX12_fewest cX12_fewest 5 (some .int)) { frames := 24, cells := 0, slots := 0, locals := 676 }).room s m [.ref o0, .int p1].toArray below meth c H locs 0 0 (MQ below (va_Qi (fun (r : Int32) (f9 : Nat → va_E) => GI (okc cI cL cZ cR cG cH L kd) kd L f9 ∧ ((-2147483648) ≤ r.toInt ∧ r.toInt ≤ 2147483647) ∧ (∀ b, kd b ≠ 12 → kd b ≠ 579 → kd b ≠ 581 → kd b ≠ 583 → kd b ≠ 585 → kd b ≠ 587 → kd b ≠ 588 → kd b ≠ 589 → kd b ≠ 590 → kd b ≠ 591 → kd b ≠ 592 → kd b ≠ 593 → kd b ≠ 603 → f9 b = f b) ∧ (∀ b, kd b = 12 → ∀ j, fldR (f9 b) j = fldR (f b) j) ∧ (∀ b, kd b = 12 → ∀ j, j ≠ 23 → j ≠ 25 → j ≠ 27 → j ≠ 29 → j ≠ 32 → j ≠ 33 → fldI (f9 b) j = fldI (f b) j) ∧ (∀ (w29 z29 : Int32), fldI (f o0) 29 = some w29 → fldI (f9 o0) 29 = some z29 → z29.toInt = w29.toInt) ∧ (srel kd 592 f9 o0)) (qP (dC, dI) cI cL cZ cR cG cH L) (fun q => q ∈ L)) [.ref o0, .int p1].toArray s 0 0 (fun q => q ∈ L)) (F0 m 13 ls []) := by
      intro n
      induction n with
      | zero => intro y_78 by_78 f_80 hG H locs hP hS hD hfr0 hrA12 hfA12 hfo_81 hT0 hmuhloop_77 ls hl; exfalso; omega
      | succ n ih_hloop_77 =>
        intro y_78 by_78 f_80 hG H locs hP hS hD hfr0 hrA12 hfA12 hfo_81 hT0 hmuhloop_77 ls hl
        refine lv_iload_n hx hb dX12_fewest_13 rfl (lv_at hl 0 rfl) ?_
        refine lv_sipush (v := 256) hx hb dX12_fewest_14 (by decide) ?_
        refine lv_icmp_ge (tgt := 33) hx hb dX12_fewest_17 (by decide) (fun c_82 => ?_) (fun c_82 => ?_)
        · skip
          rw [Int32.le_iff_toInt_le, ti_256] at c_82
          refine lv_aload_n hx hb dX12_fewest_33 rfl (lv_at hl 1 rfl) ?_
          refine lv_iload_n hx hb dX12_fewest_34 rfl (lv_at hl 2 rfl) ?_
          refine tk_ViP (As := [.int p1]) (rest := []) (n := 1) hx hb hml hown hU hN hZ (s_X12_wordsUpTo_k12 l (dC, dI) cI cL cZ cR cG cH Z kd L f_80 hG o0 mo0 ko0 p1 (by constructor <;> omega)) wd_1169 wd_1170 wd_1171 wd_5 wd_1172 (by decide +kernel) ⟨Nat.le_of_ble_eq_true rfl, Nat.le_of_ble_eq_true rfl⟩ hK hP hD hS mo0 hfo_81 12 rfl rfl rfl hl.1 rfl (Nat.le_of_ble_eq_true rfl) dX12_fewest_35 ⟨Nat.le_of_ble_eq_true rfl, Nat.le_of_ble_eq_true rfl⟩ (fun x_83 f_84 H locs hw hP hD hS => ?_)
          obtain ⟨rfl, bx_83, hxp_85⟩ := hw
          obtain ⟨g_88, hfo_87, hbg_88⟩ := un_575 (hG _ ma_2) ka_2
          have hwu := hxp_85 a_2 g_88 (by rw [hfo_81]; rfl) hfo_87
          have hsq := lw_sq (L := (g_88 0).toInt) (hbg_88.1 0 (by decide) (by decide) (by decide))
          refine lv_istore_n (lv' := [(2, .int x_83), (0, .ref o0), (1, .int p1)]) hx hb dX12_fewest_38 rfl hl (by decide) rfl (fun ls hl => ?_)
          refine lv_iconst (v := 0) hx hb dX12_fewest_39 (by decide) ?_
          refine lv_istore_n (lv' := [(3, .int 0), (2, .int x_83), (0, .ref o0), (1, .int p1)]) hx hb dX12_fewest_40 rfl hl (by decide) rfl (fun ls hl => ?_)
          have hloop_151 : ∀ (n : Nat), ∀ (y_152 : Int32), (0 ≤ y_152.toInt ∧ y_152.toInt ≤ 584) → ∀ (f_154 : Nat → va_E), GI (okc cI cL cZ cR cG cH L kd) kd L f_154 → ∀ (H : Heap) (locs : List Loc), va_P (dC, dI) vwCl (va_pl L f_154) H → va_S (fun q => q ∈ L) s.heap H locs → va_D (fun q => q ∈ L) (va_pl L f_154) → (∀ b, kd b ≠ 12 → kd b ≠ 579 → kd b ≠ 581 → kd b ≠ 583 → kd b ≠ 585 → kd b ≠ 587 → kd b ≠ 588 → kd b ≠ 589 → kd b ≠ 590 → kd b ≠ 591 → kd b ≠ 592 → kd b ≠ 593 → kd b ≠ 603 → f_154 b = f b) → (∀ b, kd b = 12 → ∀ j, fldR (f_154 b) j = fldR (f b) j) → (∀ b, kd b = 12 → ∀ j, j ≠ 23 → j ≠ 25 → j ≠ 27 → j ≠ 29 → j ≠ 32 → j ≠ 33 → fldI (f_154 b) j = fldI (f b) j) → (f_154 a_2 = .inl (cI, 1560, .inl g_88)) → srel kd 592 f_154 o0 → ∀ (whloop_151_0_29 : Int32), fldI (f_154 o0) 29 = some whloop_151_0_29 → (whloop_151_0_29.toInt = v_31.toInt) → (0 ≤ whloop_151_0_29.toInt ∧ whloop_151_0_29.toInt ≤ 201) → 584 - y_152.toInt < (n : Int) → ∀ (ls : Array Slot), lv_has ls 5 [(3, .int y_152), (2, .int x_83), (0, .ref o0), (1, .int p1)] → W p l e (headSpec (wU yX12_fewest cX12_fewest 5 (some .int)) { frames := 24, cells := 0, slots := 0, locals := 676 }).room s m [.ref o0, .int p1].toArray below meth c H locs 0 0 (MQ below (va_Qi (fun (r : Int32) (f9 : Nat → va_E) => GI (okc cI cL cZ cR cG cH L kd) kd L f9 ∧ ((-2147483648) ≤ r.toInt ∧ r.toInt ≤ 2147483647) ∧ (∀ b, kd b ≠ 12 → kd b ≠ 579 → kd b ≠ 581 → kd b ≠ 583 → kd b ≠ 585 → kd b ≠ 587 → kd b ≠ 588 → kd b ≠ 589 → kd b ≠ 590 → kd b ≠ 591 → kd b ≠ 592 → kd b ≠ 593 → kd b ≠ 603 → f9 b = f b) ∧ (∀ b, kd b = 12 → ∀ j, fldR (f9 b) j = fldR (f b) j) ∧ (∀ b, kd b = 12 → ∀ j, j ≠ 23 → j ≠ 25 → j ≠ 27 → j ≠ 29 → j ≠ 32 → j ≠ 33 → fldI (f9 b) j = fldI (f b) j) ∧ (∀ (w29 z29 : Int32), fldI (f o0) 29 = some w29 → fldI (f9 o0) 29 = some z29 → z29.toInt = w29.toInt) ∧ (srel kd 592 f9 o0)) (qP (dC, dI) cI cL cZ cR cG cH L) (fun q => q ∈ L)) [.ref o0, .int p1].toArray s 0 0 (fun q => q ∈ L)) (F0 m 41 ls []) := by
            intro n
            induction n with
            | zero => intro y_152 by_152 f_154 hG H locs hP hS hD hfr0 hrA12 hfA12 hfo_155 hT0 whloop_151_0_29 hghloop_151_0_29 hrelhloop_151_0 hrelhloop_151_1 hmuhloop_151 ls hl; exfalso; omega
            | succ n ih_hloop_151 =>
              intro y_152 by_152 f_154 hG H locs hP hS hD hfr0 hrA12 hfA12 hfo_155 hT0 whloop_151_0_29 hghloop_151_0_29 hrelhloop_151_0 hrelhloop_151_1 hmuhloop_151 ls hl
              obtain ⟨a_157, a_158, a_159, v_160, a_161, v_162, v_163, v_164, v_165, v_166, v_167, v_168, v_169, v_170, v_171, a_172, a_173, a_174, a_175, a_176, a_177, a_178, a_179, v_180, v_181, v_182, v_183, v_184, a_185, v_186, a_187, a_188, v_189, v_190, a_191, v_192, a_193, a_194, v_195, v_196, a_197, a_198, a_199, v_200, a_201, a_202, a_203, a_204, a_205, a_206, a_207, a_208, a_209, v_210, v_211, a_212, hfo_156, ⟨ma_157, ka_157⟩, ⟨ma_158, ka_158⟩, ⟨ma_159, ka_159⟩, bv_160, ⟨ma_161, ka_161⟩, bv_162, bv_163, bv_168, bv_169, bv_170, ⟨ma_172, ka_172⟩, ⟨ma_173, ka_173⟩, ⟨ma_174, ka_174⟩, ⟨ma_175, ka_175⟩, ⟨ma_176, ka_176⟩, ⟨ma_177, ka_177⟩, ⟨ma_178, ka_178⟩, ⟨ma_179, ka_179⟩, bv_180, bv_182, bv_184, ⟨ma_185, ka_185⟩, bv_186, ⟨ma_187, ka_187⟩, ⟨ma_188, ka_188⟩, bv_189, ⟨ma_191, ka_191⟩, bv_192, ⟨ma_193, ka_193⟩, ⟨ma_194, ka_194⟩, bv_195, ⟨ma_197, ka_197⟩, ⟨ma_198, ka_198⟩, ⟨ma_199, ka_199⟩, bv_200, ⟨ma_201, ka_201⟩, ⟨ma_202, ka_202⟩, ⟨ma_203, ka_203⟩, ⟨ma_204, ka_204⟩, ⟨ma_205, ka_205⟩, ⟨ma_206, ka_206⟩, ⟨ma_207, ka_207⟩, ⟨ma_208, ka_208⟩, ⟨ma_209, ka_209⟩, bv_210, ⟨ma_212, ka_212⟩⟩ := un_12 (hG _ mo0) ko0
              have bv_164 : ((-2147483648) ≤ v_164.toInt ∧ v_164.toInt ≤ 2147483647) := ⟨i32_lo _, i32_hi _⟩
              have bv_165 : ((-2147483648) ≤ v_165.toInt ∧ v_165.toInt ≤ 2147483647) := ⟨i32_lo _, i32_hi _⟩
              have bv_166 : ((-2147483648) ≤ v_166.toInt ∧ v_166.toInt ≤ 2147483647) := ⟨i32_lo _, i32_hi _⟩
              have bv_167 : ((-2147483648) ≤ v_167.toInt ∧ v_167.toInt ≤ 2147483647) := ⟨i32_lo _, i32_hi _⟩
              have bv_171 : ((-2147483648) ≤ v_171.toInt ∧ v_171.toInt ≤ 2147483647) := ⟨i32_lo _, i32_hi _⟩
              have bv_181 : ((-2147483648) ≤ v_181.toInt ∧ v_181.toInt ≤ 2147483647) := ⟨i32_lo _, i32_hi _⟩
              have bv_183 : ((-2147483648) ≤ v_183.toInt ∧ v_183.toInt ≤ 2147483647) := ⟨i32_lo _, i32_hi _⟩
              have bv_190 : ((-2147483648) ≤ v_190.toInt ∧ v_190.toInt ≤ 2147483647) := ⟨i32_lo _, i32_hi _⟩
              have bv_196 : ((-2147483648) ≤ v_196.toInt ∧ v_196.toInt ≤ 2147483647) := ⟨i32_lo _, i32_hi _⟩
              have bv_211 : ((-2147483648) ≤ v_211.toInt ∧ v_211.toInt ≤ 2147483647) := ⟨i32_lo _, i32_hi _⟩
              obtain ⟨rfl, rfl, rfl, rfl, rfl, rfl, rfl, rfl, rfl, rfl, rfl, rfl, rfl, rfl, rfl, rfl, rfl, rfl, rfl, rfl, rfl, rfl, rfl, rfl, rfl, rfl, rfl, rfl, rfl, rfl, rfl⟩ := re_12 hfo_1 hfo_156 (hrA12 o0 ko0)
              obtain rfl := ri_12_3 hfo_1 hfo_156 (hfA12 o0 ko0 3 (by decide) (by decide) (by decide) (by decide) (by decide) (by decide))
              obtain rfl := ri_12_5 hfo_1 hfo_156 (hfA12 o0 ko0 5 (by decide) (by decide) (by decide) (by decide) (by decide) (by decide))
              obtain rfl := ri_12_6 hfo_1 hfo_156 (hfA12 o0 ko0 6 (by decide) (by decide) (by decide) (by decide) (by decide) (by decide))
              obtain rfl := ri_12_11 hfo_1 hfo_156 (hfA12 o0 ko0 11 (by decide) (by decide) (by decide) (by decide) (by decide) (by decide))
              obtain rfl := ri_12_12 hfo_1 hfo_156 (hfA12 o0 ko0 12 (by decide) (by decide) (by decide) (by decide) (by decide) (by decide))
              obtain rfl := ri_12_13 hfo_1 hfo_156 (hfA12 o0 ko0 13 (by decide) (by decide) (by decide) (by decide) (by decide) (by decide))
              obtain rfl := ri_12_14 hfo_1 hfo_156 (hfA12 o0 ko0 14 (by decide) (by decide) (by decide) (by decide) (by decide) (by decide))
              obtain rfl := ri_12_35 hfo_1 hfo_156 (hfA12 o0 ko0 35 (by decide) (by decide) (by decide) (by decide) (by decide) (by decide))
              obtain rfl := ri_12_38 hfo_1 hfo_156 (hfA12 o0 ko0 38 (by decide) (by decide) (by decide) (by decide) (by decide) (by decide))
              obtain rfl := ri_12_43 hfo_1 hfo_156 (hfA12 o0 ko0 43 (by decide) (by decide) (by decide) (by decide) (by decide) (by decide))
              obtain rfl := ri_12_53 hfo_1 hfo_156 (hfA12 o0 ko0 53 (by decide) (by decide) (by decide) (by decide) (by decide) (by decide))
              obtain rfl : v_186 = whloop_151_0_29 := by rw [hfo_156] at hghloop_151_0_29; exact Option.some.inj hghloop_151_0_29
              refine lv_iload_n hx hb dX12_fewest_41 rfl (lv_at hl 0 rfl) ?_
              refine lv_iload_n hx hb dX12_fewest_42 rfl (lv_at hl 1 rfl) ?_
              refine lv_icmp_ge (tgt := 88) hx hb dX12_fewest_43 (by decide) (fun c_213 => ?_) (fun c_213 => ?_)
              · skip
                rw [Int32.le_iff_toInt_le] at c_213
                refine lv_aload_n hx hb dX12_fewest_88 rfl (lv_at hl 2 rfl) ?_
                refine tk_getP (D := (dC, dI)) (ci := 12) (v := .ref a_2) (C := RX12) (T := TX12) (N := 56) hx hb hU inlX12 hown hK hP mo0 hfo_156 rfl 0 (by decide) (hU _ wd_169) (fun _ h9 => h9) rfl dX12_fewest_89 ?_
                refine lv_bipush (v := 40) hx hb dX12_fewest_92 (by decide) ?_
                refine tk_ildP hx hb hK hP 0 ma_2 hfo_155 rfl (vp_in_nI (n := 40) (by decide) (by decide)) dX12_fewest_94 ?_
                refine lv_topi (fun x_214 ex_214 => ?_)
                have bx_214 : (0 ≤ x_214.toInt ∧ x_214.toInt ≤ 255) := by rw [ex_214]; exact hbg_88.2.2.2.2.2.2.1 _ (by decide) (by decide) (by decide)
                refine lv_istore_n (lv' := [(3, .int x_214), (2, .int x_83), (0, .ref o0), (1, .int p1)]) hx hb dX12_fewest_95 rfl hl (by decide) rfl (fun ls hl => ?_)
                refine lv_iconst (v := 0) hx hb dX12_fewest_96 (by decide) ?_
                refine lv_istore (lv' := [(4, .int 0), (3, .int x_214), (2, .int x_83), (0, .ref o0), (1, .int p1)]) hx hb dX12_fewest_97 hl (by decide) rfl (fun ls hl => ?_)
                have hloop_222 : ∀ (n : Nat), ∀ (y_223 : Int32), (0 ≤ y_223.toInt ∧ y_223.toInt ≤ 256) → ∀ (y_224 : Int32), ((-2147483648) ≤ y_224.toInt ∧ y_224.toInt ≤ 2147483647) → ∀ (H : Heap) (locs : List Loc), va_P (dC, dI) vwCl (va_pl L f_154) H → va_S (fun q => q ∈ L) s.heap H locs → 256 - y_223.toInt < (n : Int) → ∀ (ls : Array Slot), lv_has ls 5 [(4, .int y_223), (3, .int y_224), (2, .int x_83), (0, .ref o0), (1, .int p1)] → W p l e (headSpec (wU yX12_fewest cX12_fewest 5 (some .int)) { frames := 24, cells := 0, slots := 0, locals := 676 }).room s m [.ref o0, .int p1].toArray below meth c H locs 0 0 (MQ below (va_Qi (fun (r : Int32) (f9 : Nat → va_E) => GI (okc cI cL cZ cR cG cH L kd) kd L f9 ∧ ((-2147483648) ≤ r.toInt ∧ r.toInt ≤ 2147483647) ∧ (∀ b, kd b ≠ 12 → kd b ≠ 579 → kd b ≠ 581 → kd b ≠ 583 → kd b ≠ 585 → kd b ≠ 587 → kd b ≠ 588 → kd b ≠ 589 → kd b ≠ 590 → kd b ≠ 591 → kd b ≠ 592 → kd b ≠ 593 → kd b ≠ 603 → f9 b = f b) ∧ (∀ b, kd b = 12 → ∀ j, fldR (f9 b) j = fldR (f b) j) ∧ (∀ b, kd b = 12 → ∀ j, j ≠ 23 → j ≠ 25 → j ≠ 27 → j ≠ 29 → j ≠ 32 → j ≠ 33 → fldI (f9 b) j = fldI (f b) j) ∧ (∀ (w29 z29 : Int32), fldI (f o0) 29 = some w29 → fldI (f9 o0) 29 = some z29 → z29.toInt = w29.toInt) ∧ (srel kd 592 f9 o0)) (qP (dC, dI) cI cL cZ cR cG cH L) (fun q => q ∈ L)) [.ref o0, .int p1].toArray s 0 0 (fun q => q ∈ L)) (F0 m 99 ls []) := by
                  intro n
                  induction n with
                  | zero => intro y_223 by_223 y_224 by_224 H locs hP hS hmuhloop_222 ls hl; exfalso; omega
                  | succ n ih_hloop_222 =>
                    intro y_223 by_223 y_224 by_224 H locs hP hS hmuhloop_222 ls hl
                    refine lv_iload hx hb dX12_fewest_99 (lv_at hl 0 rfl) ?_
                    refine lv_aload_n hx hb dX12_fewest_101 rfl (lv_at hl 3 rfl) ?_
                    refine tk_getP (D := (dC, dI)) (ci := 12) (v := .ref a_2) (C := RX12) (T := TX12) (N := 56) hx hb hU inlX12 hown hK hP mo0 hfo_156 rfl 0 (by decide) (hU _ wd_169) (fun _ h9 => h9) rfl dX12_fewest_102 ?_
                    refine lv_bipush (v := 40) hx hb dX12_fewest_105 (by decide) ?_
                    refine tk_ildP hx hb hK hP 0 ma_2 hfo_155 rfl (vp_in_nI (n := 40) (by decide) (by decide)) dX12_fewest_107 ?_
                    refine tk_topi (y := x_214) ex_214.symm ?_
                    refine lv_icmp_gt (tgt := 157) hx hb dX12_fewest_108 (by decide) (fun c_226 => ?_) (fun c_226 => ?_)
                    · skip
                      rw [Int32.lt_iff_toInt_lt] at c_226
                      refine lv_iload_n hx hb dX12_fewest_157 rfl (lv_at hl 1 rfl) ?_
                      exact W.iret (v := y_224) hx hb hr (fun t ht hW => ⟨⟨y_224, f_154, rfl, ⟨hG, (by constructor <;> omega), hfr0, hrA12, hfA12, (by intro w29 z29 e29 d29; rw [hfo_1] at e29; rw [hfo_156] at d29; obtain rfl := Option.some.inj e29; obtain rfl := Option.some.inj d29; omega), hT0⟩, by rw [ht]; exact hP, va_K.moved hW.alike hK, pl_in hD⟩, hS.F ht⟩) hS.2.2 dX12_fewest_158
                    · skip
                      rw [Int32.lt_iff_toInt_lt] at c_226
                      refine lv_iload hx hb dX12_fewest_111 (lv_at hl 0 rfl) ?_
                      refine lv_aload_n hx hb dX12_fewest_113 rfl (lv_at hl 3 rfl) ?_
                      refine tk_getP (D := (dC, dI)) (ci := 12) (v := .ref a_2) (C := RX12) (T := TX12) (N := 56) hx hb hU inlX12 hown hK hP mo0 hfo_156 rfl 0 (by decide) (hU _ wd_169) (fun _ h9 => h9) rfl dX12_fewest_114 ?_
                      refine lv_bipush (v := 40) hx hb dX12_fewest_117 (by decide) ?_
                      refine tk_ildP hx hb hK hP 0 ma_2 hfo_155 rfl (vp_in_nI (n := 40) (by decide) (by decide)) dX12_fewest_119 ?_
                      refine tk_topi (y := x_214) ex_214.symm ?_
                      refine lv_iconst (v := (-1)) hx hb dX12_fewest_120 (by decide) ?_
                      refine lv_ixor hx hb dX12_fewest_121 ?_
                      refine lv_topi (fun x_227 ex_227 => ?_)
                      have bx_227 : ((-2147483648) ≤ x_227.toInt ∧ x_227.toInt ≤ 2147483647) := ⟨i32_lo _, i32_hi _⟩
                      refine lv_iand hx hb dX12_fewest_122 ?_
                      refine lv_topi (fun x_228 ex_228 => ?_)
                      have bx_228 : ((-2147483648) ≤ x_228.toInt ∧ x_228.toInt ≤ 2147483647) := ⟨i32_lo _, i32_hi _⟩
                      have hcut_231 : ∀ (y_229 : Int32), ((-2147483648) ≤ y_229.toInt ∧ y_229.toInt ≤ 2147483647) → ∀ (H : Heap) (locs : List Loc), va_P (dC, dI) vwCl (va_pl L f_154) H → va_S (fun q => q ∈ L) s.heap H locs → ∀ (ls : Array Slot), lv_has ls 5 [(4, .int y_223), (3, .int y_229), (2, .int x_83), (0, .ref o0), (1, .int p1)] → W p l e (headSpec (wU yX12_fewest cX12_fewest 5 (some .int)) { frames := 24, cells := 0, slots := 0, locals := 676 }).room s m [.ref o0, .int p1].toArray below meth c H locs 0 0 (MQ below (va_Qi (fun (r : Int32) (f9 : Nat → va_E) => GI (okc cI cL cZ cR cG cH L kd) kd L f9 ∧ ((-2147483648) ≤ r.toInt ∧ r.toInt ≤ 2147483647) ∧ (∀ b, kd b ≠ 12 → kd b ≠ 579 → kd b ≠ 581 → kd b ≠ 583 → kd b ≠ 585 → kd b ≠ 587 → kd b ≠ 588 → kd b ≠ 589 → kd b ≠ 590 → kd b ≠ 591 → kd b ≠ 592 → kd b ≠ 593 → kd b ≠ 603 → f9 b = f b) ∧ (∀ b, kd b = 12 → ∀ j, fldR (f9 b) j = fldR (f b) j) ∧ (∀ b, kd b = 12 → ∀ j, j ≠ 23 → j ≠ 25 → j ≠ 27 → j ≠ 29 → j ≠ 32 → j ≠ 33 → fldI (f9 b) j = fldI (f b) j) ∧ (∀ (w29 z29 : Int32), fldI (f o0) 29 = some w29 → fldI (f9 o0) 29 = some z29 → z29.toInt = w29.toInt) ∧ (srel kd 592 f9 o0)) (qP (dC, dI) cI cL cZ cR cG cH L) (fun q => q ∈ L)) [.ref o0, .int p1].toArray s 0 0 (fun q => q ∈ L)) (F0 m 151 ls []) := by
                        intro y_229 by_229 H locs hP hS ls hl
                        obtain ⟨x_232, ex_232⟩ : ∃ y : Int32, y_223 + 1 = y := ⟨_, rfl⟩
                        have hx_232 : x_232.toInt = y_223.toInt + 1 := by rw [← ex_232, ad_I (by rw [ti_1]; omega) (by rw [ti_1]; omega), ti_1]
                        have bx_232 : (1 ≤ x_232.toInt ∧ x_232.toInt ≤ 256) := by constructor <;> omega
                        refine lv_iinc (v := x_232) (lv' := [(4, .int x_232), (3, .int y_229), (2, .int x_83), (0, .ref o0), (1, .int p1)]) hx hb dX12_fewest_151 hl (k := 0) rfl ex_232 (by decide) rfl (fun ls hl => ?_)
                        refine lv_goto (tgt := 99) hx hb dX12_fewest_154 (by decide) ?_
                        exact ih_hloop_222 x_232 (by constructor <;> omega) y_229 (by constructor <;> omega) _ _ hP hS (by omega) ls (lv_sub hl [0, 1, 2, 3, 4] rfl)
                      refine lv_if_ne (tgt := 151) hx hb dX12_fewest_123 (by decide) (fun c_233 => ?_) (fun c_233 => ?_)
                      · skip
                        rw [← Int32.toInt_inj, ti_0] at c_233
                        exact hcut_231 y_224 (by constructor <;> omega) _ _ hP hS ls (lv_sub hl [0, 1, 2, 3, 4] rfl)
                      · skip
                        rw [← Int32.toInt_inj, ti_0] at c_233
                        refine lv_aload_n hx hb dX12_fewest_126 rfl (lv_at hl 3 rfl) ?_
                        refine tk_getP (D := (dC, dI)) (ci := 12) (v := .ref a_49) (C := RX12) (T := TX12) (N := 56) hx hb hU inlX12 hown hK hP mo0 hfo_156 rfl 47 (by decide) (hU _ wd_197) (fun _ h9 => h9) rfl dX12_fewest_127 ?_
                        refine lv_iload hx hb dX12_fewest_130 (lv_at hl 0 rfl) ?_
                        obtain ⟨g_235, hfo_234, hbg_235⟩ := un_603 (hG _ ma_49) ka_49
                        refine tk_zldP hx hb hK hP 2 ma_49 hfo_234 rfl (vp_in_iff.mpr (by constructor <;> omega)) dX12_fewest_132 ?_
                        refine lv_topi (fun x_236 ex_236 => ?_)
                        have bx_236 : (0 ≤ x_236.toInt ∧ x_236.toInt ≤ 1) := by rw [ex_236]; exact hbg_235 _
                        refine lv_if_ne (tgt := 151) hx hb dX12_fewest_133 (by decide) (fun c_237 => ?_) (fun c_237 => ?_)
                        · skip
                          rw [← Int32.toInt_inj, ti_0] at c_237
                          exact hcut_231 y_224 (by constructor <;> omega) _ _ hP hS ls (lv_sub hl [0, 1, 2, 3, 4] rfl)
                        · skip
                          rw [← Int32.toInt_inj, ti_0] at c_237
                          refine lv_iload hx hb dX12_fewest_136 (lv_at hl 0 rfl) ?_
                          refine tk_SiP (As := [.int y_223]) (rest := []) (n := 1) hx hb hml hown hU hN hZ (s_X12_count l (dC, dI) cI cL cZ cR cG cH Z kd L f_154 hG y_223) wd_1380 wd_1381 wd_5 wd_1382 (by decide +kernel) ⟨Nat.le_of_ble_eq_true rfl, Nat.le_of_ble_eq_true rfl⟩ hK hP hD hS rfl hl.1 rfl (Nat.le_of_ble_eq_true rfl) dX12_fewest_138 ⟨Nat.le_of_ble_eq_true rfl, Nat.le_of_ble_eq_true rfl⟩ (fun x_238 f_239 H locs hw hP hD hS => ?_)
                          obtain ⟨rfl, bx_238⟩ := hw
                          refine lv_iload_n hx hb dX12_fewest_141 rfl (lv_at hl 1 rfl) ?_
                          refine tk_SiP (As := [.int y_224]) (rest := [.int x_238]) (n := 1) hx hb hml hown hU hN hZ (s_X12_count l (dC, dI) cI cL cZ cR cG cH Z kd L f_154 hG y_224) wd_1380 wd_1381 wd_5 wd_1382 (by decide +kernel) ⟨Nat.le_of_ble_eq_true rfl, Nat.le_of_ble_eq_true rfl⟩ hK hP hD hS rfl hl.1 rfl (Nat.le_of_ble_eq_true rfl) dX12_fewest_142 ⟨Nat.le_of_ble_eq_true rfl, Nat.le_of_ble_eq_true rfl⟩ (fun x_241 f_242 H locs hw hP hD hS => ?_)
                          obtain ⟨rfl, bx_241⟩ := hw
                          refine lv_icmp_ge (tgt := 151) hx hb dX12_fewest_145 (by decide) (fun c_244 => ?_) (fun c_244 => ?_)
                          · skip
                            rw [Int32.le_iff_toInt_le] at c_244
                            exact hcut_231 y_224 (by constructor <;> omega) _ _ hP hS ls (lv_sub hl [0, 1, 2, 3, 4] rfl)
                          · skip
                            rw [Int32.le_iff_toInt_le] at c_244
                            refine lv_iload hx hb dX12_fewest_148 (lv_at hl 0 rfl) ?_
                            refine lv_istore_n (lv' := [(3, .int y_223), (4, .int y_223), (2, .int x_83), (0, .ref o0), (1, .int p1)]) hx hb dX12_fewest_150 rfl hl (by decide) rfl (fun ls hl => ?_)
                            exact hcut_231 y_223 (by constructor <;> omega) _ _ hP hS ls (lv_sub hl [1, 0, 2, 3, 4] rfl)
                exact hloop_222 257 0 (by decide) x_214 (by constructor <;> omega) _ _ hP hS (by (try rw [ti_0]) <;> omega) ls hl
              · skip
                rw [Int32.le_iff_toInt_le] at c_213
                refine lv_aload_n hx hb dX12_fewest_46 rfl (lv_at hl 2 rfl) ?_
                refine lv_iload_n hx hb dX12_fewest_47 rfl (lv_at hl 0 rfl) ?_
                refine tk_VvP (As := [.int y_152]) (rest := []) (n := 1) hx hb hml hown hU hN hZ (s_X12_laysWord_k12 l (dC, dI) cI cL cZ cR cG cH Z kd L f_154 hG o0 mo0 ko0 y_152 (by constructor <;> omega) (fun b9 g9 h1 h2 => by rw [hfo_156] at h1; obtain rfl := Option.some.inj h1; rw [hfo_155] at h2; cases h2; omega)) wd_1173 wd_1174 wd_1175 wd_5 wd_1176 (by decide +kernel) ⟨Nat.le_of_ble_eq_true rfl, Nat.le_of_ble_eq_true rfl⟩ hK hP hD hS mo0 hfo_156 12 rfl rfl rfl hl.1 rfl (Nat.le_of_ble_eq_true rfl) dX12_fewest_48 ⟨Nat.le_of_ble_eq_true rfl, Nat.le_of_ble_eq_true rfl⟩ (fun f_246 H locs hw hP hD hS => ?_)
                obtain ⟨hG, hkc_247, hra_248, hfa_249, hpost_250, hxp_251⟩ := hw
                have hfo_253 : f_246 a_2 = .inl (cI, 1560, .inl g_88) := by rw [hkc_247 a_2 (by rw [ka_2]; decide) (by rw [ka_2]; decide)]; exact hfo_155
                have hfr0 : ∀ b, kd b ≠ 12 → kd b ≠ 579 → kd b ≠ 581 → kd b ≠ 583 → kd b ≠ 585 → kd b ≠ 587 → kd b ≠ 588 → kd b ≠ 589 → kd b ≠ 590 → kd b ≠ 591 → kd b ≠ 592 → kd b ≠ 593 → kd b ≠ 603 → f_246 b = f b := fun b q12 q579 q581 q583 q585 q587 q588 q589 q590 q591 q592 q593 q603 => (hkc_247 b q12 q589).trans (hfr0 b q12 q579 q581 q583 q585 q587 q588 q589 q590 q591 q592 q593 q603)
                have hrA12 : ∀ b, kd b = 12 → ∀ j, fldR (f_246 b) j = fldR (f b) j := fun b kb j => (hra_248 b kb j).trans (hrA12 b kb j)
                have hfA12 : ∀ b, kd b = 12 → ∀ j, j ≠ 23 → j ≠ 25 → j ≠ 27 → j ≠ 29 → j ≠ 32 → j ≠ 33 → fldI (f_246 b) j = fldI (f b) j := fun b kb j n23 n25 n27 n29 n32 n33 => (hfa_249 b kb j n23).trans (hfA12 b kb j n23 n25 n27 n29 n32 n33)
                have hT0 : srel kd 592 f_246 o0 := hT0.keep (fun b q => hra_248 b q 30) (fun b q => hfa_249 b q 32 (by decide)) (fun b q => hfa_249 b q 33 (by decide)) (fun b q => hkc_247 b (by rw [q]; decide) (by rw [q]; decide))
                obtain ⟨a_255, a_256, a_257, v_258, a_259, v_260, v_261, v_262, v_263, v_264, v_265, v_266, v_267, v_268, v_269, a_270, a_271, a_272, a_273, a_274, a_275, a_276, a_277, v_278, v_279, v_280, v_281, v_282, a_283, v_284, a_285, a_286, v_287, v_288, a_289, v_290, a_291, a_292, v_293, v_294, a_295, a_296, a_297, v_298, a_299, a_300, a_301, a_302, a_303, a_304, a_305, a_306, a_307, v_308, v_309, a_310, hfo_254, ⟨ma_255, ka_255⟩, ⟨ma_256, ka_256⟩, ⟨ma_257, ka_257⟩, bv_258, ⟨ma_259, ka_259⟩, bv_260, bv_261, bv_266, bv_267, bv_268, ⟨ma_270, ka_270⟩, ⟨ma_271, ka_271⟩, ⟨ma_272, ka_272⟩, ⟨ma_273, ka_273⟩, ⟨ma_274, ka_274⟩, ⟨ma_275, ka_275⟩, ⟨ma_276, ka_276⟩, ⟨ma_277, ka_277⟩, bv_278, bv_280, bv_282, ⟨ma_283, ka_283⟩, bv_284, ⟨ma_285, ka_285⟩, ⟨ma_286, ka_286⟩, bv_287, ⟨ma_289, ka_289⟩, bv_290, ⟨ma_291, ka_291⟩, ⟨ma_292, ka_292⟩, bv_293, ⟨ma_295, ka_295⟩, ⟨ma_296, ka_296⟩, ⟨ma_297, ka_297⟩, bv_298, ⟨ma_299, ka_299⟩, ⟨ma_300, ka_300⟩, ⟨ma_301, ka_301⟩, ⟨ma_302, ka_302⟩, ⟨ma_303, ka_303⟩, ⟨ma_304, ka_304⟩, ⟨ma_305, ka_305⟩, ⟨ma_306, ka_306⟩, ⟨ma_307, ka_307⟩, bv_308, ⟨ma_310, ka_310⟩⟩ := un_12 (hG _ mo0) ko0
                have bv_262 : ((-2147483648) ≤ v_262.toInt ∧ v_262.toInt ≤ 2147483647) := ⟨i32_lo _, i32_hi _⟩
                have bv_263 : ((-2147483648) ≤ v_263.toInt ∧ v_263.toInt ≤ 2147483647) := ⟨i32_lo _, i32_hi _⟩
                have bv_264 : ((-2147483648) ≤ v_264.toInt ∧ v_264.toInt ≤ 2147483647) := ⟨i32_lo _, i32_hi _⟩
                have bv_265 : ((-2147483648) ≤ v_265.toInt ∧ v_265.toInt ≤ 2147483647) := ⟨i32_lo _, i32_hi _⟩
                have bv_269 : ((-2147483648) ≤ v_269.toInt ∧ v_269.toInt ≤ 2147483647) := ⟨i32_lo _, i32_hi _⟩
                have bv_279 : ((-2147483648) ≤ v_279.toInt ∧ v_279.toInt ≤ 2147483647) := ⟨i32_lo _, i32_hi _⟩
                have bv_281 : ((-2147483648) ≤ v_281.toInt ∧ v_281.toInt ≤ 2147483647) := ⟨i32_lo _, i32_hi _⟩
                have bv_288 : ((-2147483648) ≤ v_288.toInt ∧ v_288.toInt ≤ 2147483647) := ⟨i32_lo _, i32_hi _⟩
                have bv_294 : ((-2147483648) ≤ v_294.toInt ∧ v_294.toInt ≤ 2147483647) := ⟨i32_lo _, i32_hi _⟩
                have bv_309 : ((-2147483648) ≤ v_309.toInt ∧ v_309.toInt ≤ 2147483647) := ⟨i32_lo _, i32_hi _⟩
                obtain ⟨rfl, rfl, rfl, rfl, rfl, rfl, rfl, rfl, rfl, rfl, rfl, rfl, rfl, rfl, rfl, rfl, rfl, rfl, rfl, rfl, rfl, rfl, rfl, rfl, rfl, rfl, rfl, rfl, rfl, rfl, rfl⟩ := re_12 hfo_1 hfo_254 (hrA12 o0 ko0)
                obtain rfl := ri_12_3 hfo_1 hfo_254 (hfA12 o0 ko0 3 (by decide) (by decide) (by decide) (by decide) (by decide) (by decide))
                obtain rfl := ri_12_5 hfo_1 hfo_254 (hfA12 o0 ko0 5 (by decide) (by decide) (by decide) (by decide) (by decide) (by decide))
                obtain rfl := ri_12_6 hfo_1 hfo_254 (hfA12 o0 ko0 6 (by decide) (by decide) (by decide) (by decide) (by decide) (by decide))
                obtain rfl := ri_12_11 hfo_1 hfo_254 (hfA12 o0 ko0 11 (by decide) (by decide) (by decide) (by decide) (by decide) (by decide))
                obtain rfl := ri_12_12 hfo_1 hfo_254 (hfA12 o0 ko0 12 (by decide) (by decide) (by decide) (by decide) (by decide) (by decide))
                obtain rfl := ri_12_13 hfo_1 hfo_254 (hfA12 o0 ko0 13 (by decide) (by decide) (by decide) (by decide) (by decide) (by decide))
                obtain rfl := ri_12_14 hfo_1 hfo_254 (hfA12 o0 ko0 14 (by decide) (by decide) (by decide) (by decide) (by decide) (by decide))
                obtain rfl := ri_12_35 hfo_1 hfo_254 (hfA12 o0 ko0 35 (by decide) (by decide) (by decide) (by decide) (by decide) (by decide))
                obtain rfl := ri_12_38 hfo_1 hfo_254 (hfA12 o0 ko0 38 (by decide) (by decide) (by decide) (by decide) (by decide) (by decide))
                obtain rfl := ri_12_43 hfo_1 hfo_254 (hfA12 o0 ko0 43 (by decide) (by decide) (by decide) (by decide) (by decide) (by decide))
                obtain rfl := ri_12_53 hfo_1 hfo_254 (hfA12 o0 ko0 53 (by decide) (by decide) (by decide) (by decide) (by decide) (by decide))
                obtain rfl := ri_12_25 hfo_156 hfo_254 (hfa_249 o0 ko0 25 (by decide))
                obtain rfl := ri_12_27 hfo_156 hfo_254 (hfa_249 o0 ko0 27 (by decide))
                obtain rfl := ri_12_29 hfo_156 hfo_254 (hfa_249 o0 ko0 29 (by decide))
                obtain rfl := ri_12_32 hfo_156 hfo_254 (hfa_249 o0 ko0 32 (by decide))
                obtain rfl := ri_12_33 hfo_156 hfo_254 (hfa_249 o0 ko0 33 (by decide))
                have hqhpost_250 := hpost_250 v_180 v_278 (by rw [hfo_156]; rfl) (by rw [hfo_254]; rfl)
                have hlw2 := hxp_251 a_2 g_88 v_278 (by rw [hfo_156]; rfl) hfo_155 (by rw [hfo_254]; rfl)
                refine lv_aload_n hx hb dX12_fewest_51 rfl (lv_at hl 2 rfl) ?_
                refine lv_aload_n hx hb dX12_fewest_52 rfl (lv_at hl 2 rfl) ?_
                refine tk_getP (D := (dC, dI)) (ci := 12) (v := .ref a_2) (C := RX12) (T := TX12) (N := 56) hx hb hU inlX12 hown hK hP mo0 hfo_254 rfl 0 (by decide) (hU _ wd_169) (fun _ h9 => h9) rfl dX12_fewest_53 ?_
                refine lv_bipush (v := 40) hx hb dX12_fewest_56 (by decide) ?_
                refine tk_ildP hx hb hK hP 0 ma_2 hfo_253 rfl (vp_in_nI (n := 40) (by decide) (by decide)) dX12_fewest_58 ?_
                refine lv_topi (fun x_311 ex_311 => ?_)
                have bx_311 : (0 ≤ x_311.toInt ∧ x_311.toInt ≤ 255) := by rw [ex_311]; exact hbg_88.2.2.2.2.2.2.1 _ (by decide) (by decide) (by decide)
                refine tk_VvP (As := [.int x_311]) (rest := []) (n := 1) hx hb hml hown hU hN hZ (s_X12_marksAll_k12 l (dC, dI) cI cL cZ cR cG cH Z kd L f_246 hG o0 mo0 ko0 x_311 (by intro w23 w29 e23 e29; rw [hfo_254] at e23 e29; obtain rfl := Option.some.inj e23; obtain rfl := Option.some.inj e29; omega) hT0) wd_1243 wd_1244 wd_1245 wd_5 wd_1246 (by decide +kernel) ⟨Nat.le_of_ble_eq_true rfl, Nat.le_of_ble_eq_true rfl⟩ hK hP hD hS mo0 hfo_254 12 rfl rfl rfl hl.1 rfl (Nat.le_of_ble_eq_true rfl) dX12_fewest_59 ⟨Nat.le_of_ble_eq_true rfl, Nat.le_of_ble_eq_true rfl⟩ (fun f_313 H locs hw hP hD hS => ?_)
                obtain ⟨hG, hkc_314, hra_315, hfa_316, hpost_317, hTc_318⟩ := hw
                have hfo_320 : f_313 a_2 = .inl (cI, 1560, .inl g_88) := by rw [hkc_314 a_2 (by rw [ka_2]; decide) (by rw [ka_2]; decide) (by rw [ka_2]; decide) (by rw [ka_2]; decide) (by rw [ka_2]; decide) (by rw [ka_2]; decide) (by rw [ka_2]; decide) (by rw [ka_2]; decide) (by rw [ka_2]; decide) (by rw [ka_2]; decide) (by rw [ka_2]; decide) (by rw [ka_2]; decide)]; exact hfo_253
                have hfr0 : ∀ b, kd b ≠ 12 → kd b ≠ 579 → kd b ≠ 581 → kd b ≠ 583 → kd b ≠ 585 → kd b ≠ 587 → kd b ≠ 588 → kd b ≠ 589 → kd b ≠ 590 → kd b ≠ 591 → kd b ≠ 592 → kd b ≠ 593 → kd b ≠ 603 → f_313 b = f b := fun b q12 q579 q581 q583 q585 q587 q588 q589 q590 q591 q592 q593 q603 => (hkc_314 b q12 q579 q581 q583 q585 q587 q588 q590 q591 q592 q593 q603).trans (hfr0 b q12 q579 q581 q583 q585 q587 q588 q589 q590 q591 q592 q593 q603)
                have hrA12 : ∀ b, kd b = 12 → ∀ j, fldR (f_313 b) j = fldR (f b) j := fun b kb j => (hra_315 b kb j).trans (hrA12 b kb j)
                have hfA12 : ∀ b, kd b = 12 → ∀ j, j ≠ 23 → j ≠ 25 → j ≠ 27 → j ≠ 29 → j ≠ 32 → j ≠ 33 → fldI (f_313 b) j = fldI (f b) j := fun b kb j n23 n25 n27 n29 n32 n33 => (hfa_316 b kb j n25 n27 n29 n32 n33).trans (hfA12 b kb j n23 n25 n27 n29 n32 n33)
                obtain ⟨a_322, a_323, a_324, v_325, a_326, v_327, v_328, v_329, v_330, v_331, v_332, v_333, v_334, v_335, v_336, a_337, a_338, a_339, a_340, a_341, a_342, a_343, a_344, v_345, v_346, v_347, v_348, v_349, a_350, v_351, a_352, a_353, v_354, v_355, a_356, v_357, a_358, a_359, v_360, v_361, a_362, a_363, a_364, v_365, a_366, a_367, a_368, a_369, a_370, a_371, a_372, a_373, a_374, v_375, v_376, a_377, hfo_321, ⟨ma_322, ka_322⟩, ⟨ma_323, ka_323⟩, ⟨ma_324, ka_324⟩, bv_325, ⟨ma_326, ka_326⟩, bv_327, bv_328, bv_333, bv_334, bv_335, ⟨ma_337, ka_337⟩, ⟨ma_338, ka_338⟩, ⟨ma_339, ka_339⟩, ⟨ma_340, ka_340⟩, ⟨ma_341, ka_341⟩, ⟨ma_342, ka_342⟩, ⟨ma_343, ka_343⟩, ⟨ma_344, ka_344⟩, bv_345, bv_347, bv_349, ⟨ma_350, ka_350⟩, bv_351, ⟨ma_352, ka_352⟩, ⟨ma_353, ka_353⟩, bv_354, ⟨ma_356, ka_356⟩, bv_357, ⟨ma_358, ka_358⟩, ⟨ma_359, ka_359⟩, bv_360, ⟨ma_362, ka_362⟩, ⟨ma_363, ka_363⟩, ⟨ma_364, ka_364⟩, bv_365, ⟨ma_366, ka_366⟩, ⟨ma_367, ka_367⟩, ⟨ma_368, ka_368⟩, ⟨ma_369, ka_369⟩, ⟨ma_370, ka_370⟩, ⟨ma_371, ka_371⟩, ⟨ma_372, ka_372⟩, ⟨ma_373, ka_373⟩, ⟨ma_374, ka_374⟩, bv_375, ⟨ma_377, ka_377⟩⟩ := un_12 (hG _ mo0) ko0
                have bv_329 : ((-2147483648) ≤ v_329.toInt ∧ v_329.toInt ≤ 2147483647) := ⟨i32_lo _, i32_hi _⟩
                have bv_330 : ((-2147483648) ≤ v_330.toInt ∧ v_330.toInt ≤ 2147483647) := ⟨i32_lo _, i32_hi _⟩
                have bv_331 : ((-2147483648) ≤ v_331.toInt ∧ v_331.toInt ≤ 2147483647) := ⟨i32_lo _, i32_hi _⟩
                have bv_332 : ((-2147483648) ≤ v_332.toInt ∧ v_332.toInt ≤ 2147483647) := ⟨i32_lo _, i32_hi _⟩
                have bv_336 : ((-2147483648) ≤ v_336.toInt ∧ v_336.toInt ≤ 2147483647) := ⟨i32_lo _, i32_hi _⟩
                have bv_346 : ((-2147483648) ≤ v_346.toInt ∧ v_346.toInt ≤ 2147483647) := ⟨i32_lo _, i32_hi _⟩
                have bv_348 : ((-2147483648) ≤ v_348.toInt ∧ v_348.toInt ≤ 2147483647) := ⟨i32_lo _, i32_hi _⟩
                have bv_355 : ((-2147483648) ≤ v_355.toInt ∧ v_355.toInt ≤ 2147483647) := ⟨i32_lo _, i32_hi _⟩
                have bv_361 : ((-2147483648) ≤ v_361.toInt ∧ v_361.toInt ≤ 2147483647) := ⟨i32_lo _, i32_hi _⟩
                have bv_376 : ((-2147483648) ≤ v_376.toInt ∧ v_376.toInt ≤ 2147483647) := ⟨i32_lo _, i32_hi _⟩
                obtain ⟨rfl, rfl, rfl, rfl, rfl, rfl, rfl, rfl, rfl, rfl, rfl, rfl, rfl, rfl, rfl, rfl, rfl, rfl, rfl, rfl, rfl, rfl, rfl, rfl, rfl, rfl, rfl, rfl, rfl, rfl, rfl⟩ := re_12 hfo_1 hfo_321 (hrA12 o0 ko0)
                obtain rfl := ri_12_3 hfo_1 hfo_321 (hfA12 o0 ko0 3 (by decide) (by decide) (by decide) (by decide) (by decide) (by decide))
                obtain rfl := ri_12_5 hfo_1 hfo_321 (hfA12 o0 ko0 5 (by decide) (by decide) (by decide) (by decide) (by decide) (by decide))
                obtain rfl := ri_12_6 hfo_1 hfo_321 (hfA12 o0 ko0 6 (by decide) (by decide) (by decide) (by decide) (by decide) (by decide))
                obtain rfl := ri_12_11 hfo_1 hfo_321 (hfA12 o0 ko0 11 (by decide) (by decide) (by decide) (by decide) (by decide) (by decide))
                obtain rfl := ri_12_12 hfo_1 hfo_321 (hfA12 o0 ko0 12 (by decide) (by decide) (by decide) (by decide) (by decide) (by decide))
                obtain rfl := ri_12_13 hfo_1 hfo_321 (hfA12 o0 ko0 13 (by decide) (by decide) (by decide) (by decide) (by decide) (by decide))
                obtain rfl := ri_12_14 hfo_1 hfo_321 (hfA12 o0 ko0 14 (by decide) (by decide) (by decide) (by decide) (by decide) (by decide))
                obtain rfl := ri_12_35 hfo_1 hfo_321 (hfA12 o0 ko0 35 (by decide) (by decide) (by decide) (by decide) (by decide) (by decide))
                obtain rfl := ri_12_38 hfo_1 hfo_321 (hfA12 o0 ko0 38 (by decide) (by decide) (by decide) (by decide) (by decide) (by decide))
                obtain rfl := ri_12_43 hfo_1 hfo_321 (hfA12 o0 ko0 43 (by decide) (by decide) (by decide) (by decide) (by decide) (by decide))
                obtain rfl := ri_12_53 hfo_1 hfo_321 (hfA12 o0 ko0 53 (by decide) (by decide) (by decide) (by decide) (by decide) (by decide))
                obtain rfl := ri_12_23 hfo_254 hfo_321 (hfa_316 o0 ko0 23 (by decide) (by decide) (by decide) (by decide) (by decide))
                have hqhpost_317 := hpost_317 v_186 v_351 (by rw [hfo_254]; rfl) (by rw [hfo_321]; rfl)
                refine lv_aload_n hx hb dX12_fewest_62 rfl (lv_at hl 2 rfl) ?_
                refine lv_iconst (v := 4) hx hb dX12_fewest_63 (by decide) ?_
                refine tk_VvP (As := [.int 4]) (rest := []) (n := 1) hx hb hml hown hU hN hZ (s_X12_sets_k12 l (dC, dI) cI cL cZ cR cG cH Z kd L f_313 hG o0 mo0 ko0 4 (by decide)) wd_868 wd_869 wd_870 wd_5 wd_871 (by decide +kernel) ⟨Nat.le_of_ble_eq_true rfl, Nat.le_of_ble_eq_true rfl⟩ hK hP hD hS mo0 hfo_321 12 rfl rfl rfl hl.1 rfl (Nat.le_of_ble_eq_true rfl) dX12_fewest_64 ⟨Nat.le_of_ble_eq_true rfl, Nat.le_of_ble_eq_true rfl⟩ (fun f_379 H locs hw hP hD hS => ?_)
                obtain ⟨hG, hkc_380, hra_381, hfa_382, hpost_383⟩ := hw
                have hfo_385 : f_379 a_2 = .inl (cI, 1560, .inl g_88) := by rw [hkc_380 a_2 (by rw [ka_2]; decide) (by rw [ka_2]; decide) (by rw [ka_2]; decide) (by rw [ka_2]; decide)]; exact hfo_320
                have hfr0 : ∀ b, kd b ≠ 12 → kd b ≠ 579 → kd b ≠ 581 → kd b ≠ 583 → kd b ≠ 585 → kd b ≠ 587 → kd b ≠ 588 → kd b ≠ 589 → kd b ≠ 590 → kd b ≠ 591 → kd b ≠ 592 → kd b ≠ 593 → kd b ≠ 603 → f_379 b = f b := fun b q12 q579 q581 q583 q585 q587 q588 q589 q590 q591 q592 q593 q603 => (hkc_380 b q12 q579 q581 q587).trans (hfr0 b q12 q579 q581 q583 q585 q587 q588 q589 q590 q591 q592 q593 q603)
                have hrA12 : ∀ b, kd b = 12 → ∀ j, fldR (f_379 b) j = fldR (f b) j := fun b kb j => (hra_381 b kb j).trans (hrA12 b kb j)
                have hfA12 : ∀ b, kd b = 12 → ∀ j, j ≠ 23 → j ≠ 25 → j ≠ 27 → j ≠ 29 → j ≠ 32 → j ≠ 33 → fldI (f_379 b) j = fldI (f b) j := fun b kb j n23 n25 n27 n29 n32 n33 => (hfa_382 b kb j n25 n27).trans (hfA12 b kb j n23 n25 n27 n29 n32 n33)
                have hTc_318 : srel kd 592 f_379 o0 := hTc_318.keep (fun b q => hra_381 b q 30) (fun b q => hfa_382 b q 32 (by decide) (by decide)) (fun b q => hfa_382 b q 33 (by decide) (by decide)) (fun b q => hkc_380 b (by rw [q]; decide) (by rw [q]; decide) (by rw [q]; decide) (by rw [q]; decide))
                obtain ⟨a_387, a_388, a_389, v_390, a_391, v_392, v_393, v_394, v_395, v_396, v_397, v_398, v_399, v_400, v_401, a_402, a_403, a_404, a_405, a_406, a_407, a_408, a_409, v_410, v_411, v_412, v_413, v_414, a_415, v_416, a_417, a_418, v_419, v_420, a_421, v_422, a_423, a_424, v_425, v_426, a_427, a_428, a_429, v_430, a_431, a_432, a_433, a_434, a_435, a_436, a_437, a_438, a_439, v_440, v_441, a_442, hfo_386, ⟨ma_387, ka_387⟩, ⟨ma_388, ka_388⟩, ⟨ma_389, ka_389⟩, bv_390, ⟨ma_391, ka_391⟩, bv_392, bv_393, bv_398, bv_399, bv_400, ⟨ma_402, ka_402⟩, ⟨ma_403, ka_403⟩, ⟨ma_404, ka_404⟩, ⟨ma_405, ka_405⟩, ⟨ma_406, ka_406⟩, ⟨ma_407, ka_407⟩, ⟨ma_408, ka_408⟩, ⟨ma_409, ka_409⟩, bv_410, bv_412, bv_414, ⟨ma_415, ka_415⟩, bv_416, ⟨ma_417, ka_417⟩, ⟨ma_418, ka_418⟩, bv_419, ⟨ma_421, ka_421⟩, bv_422, ⟨ma_423, ka_423⟩, ⟨ma_424, ka_424⟩, bv_425, ⟨ma_427, ka_427⟩, ⟨ma_428, ka_428⟩, ⟨ma_429, ka_429⟩, bv_430, ⟨ma_431, ka_431⟩, ⟨ma_432, ka_432⟩, ⟨ma_433, ka_433⟩, ⟨ma_434, ka_434⟩, ⟨ma_435, ka_435⟩, ⟨ma_436, ka_436⟩, ⟨ma_437, ka_437⟩, ⟨ma_438, ka_438⟩, ⟨ma_439, ka_439⟩, bv_440, ⟨ma_442, ka_442⟩⟩ := un_12 (hG _ mo0) ko0
                have bv_394 : ((-2147483648) ≤ v_394.toInt ∧ v_394.toInt ≤ 2147483647) := ⟨i32_lo _, i32_hi _⟩
                have bv_395 : ((-2147483648) ≤ v_395.toInt ∧ v_395.toInt ≤ 2147483647) := ⟨i32_lo _, i32_hi _⟩
                have bv_396 : ((-2147483648) ≤ v_396.toInt ∧ v_396.toInt ≤ 2147483647) := ⟨i32_lo _, i32_hi _⟩
                have bv_397 : ((-2147483648) ≤ v_397.toInt ∧ v_397.toInt ≤ 2147483647) := ⟨i32_lo _, i32_hi _⟩
                have bv_401 : ((-2147483648) ≤ v_401.toInt ∧ v_401.toInt ≤ 2147483647) := ⟨i32_lo _, i32_hi _⟩
                have bv_411 : ((-2147483648) ≤ v_411.toInt ∧ v_411.toInt ≤ 2147483647) := ⟨i32_lo _, i32_hi _⟩
                have bv_413 : ((-2147483648) ≤ v_413.toInt ∧ v_413.toInt ≤ 2147483647) := ⟨i32_lo _, i32_hi _⟩
                have bv_420 : ((-2147483648) ≤ v_420.toInt ∧ v_420.toInt ≤ 2147483647) := ⟨i32_lo _, i32_hi _⟩
                have bv_426 : ((-2147483648) ≤ v_426.toInt ∧ v_426.toInt ≤ 2147483647) := ⟨i32_lo _, i32_hi _⟩
                have bv_441 : ((-2147483648) ≤ v_441.toInt ∧ v_441.toInt ≤ 2147483647) := ⟨i32_lo _, i32_hi _⟩
                obtain ⟨rfl, rfl, rfl, rfl, rfl, rfl, rfl, rfl, rfl, rfl, rfl, rfl, rfl, rfl, rfl, rfl, rfl, rfl, rfl, rfl, rfl, rfl, rfl, rfl, rfl, rfl, rfl, rfl, rfl, rfl, rfl⟩ := re_12 hfo_1 hfo_386 (hrA12 o0 ko0)
                obtain rfl := ri_12_3 hfo_1 hfo_386 (hfA12 o0 ko0 3 (by decide) (by decide) (by decide) (by decide) (by decide) (by decide))
                obtain rfl := ri_12_5 hfo_1 hfo_386 (hfA12 o0 ko0 5 (by decide) (by decide) (by decide) (by decide) (by decide) (by decide))
                obtain rfl := ri_12_6 hfo_1 hfo_386 (hfA12 o0 ko0 6 (by decide) (by decide) (by decide) (by decide) (by decide) (by decide))
                obtain rfl := ri_12_11 hfo_1 hfo_386 (hfA12 o0 ko0 11 (by decide) (by decide) (by decide) (by decide) (by decide) (by decide))
                obtain rfl := ri_12_12 hfo_1 hfo_386 (hfA12 o0 ko0 12 (by decide) (by decide) (by decide) (by decide) (by decide) (by decide))
                obtain rfl := ri_12_13 hfo_1 hfo_386 (hfA12 o0 ko0 13 (by decide) (by decide) (by decide) (by decide) (by decide) (by decide))
                obtain rfl := ri_12_14 hfo_1 hfo_386 (hfA12 o0 ko0 14 (by decide) (by decide) (by decide) (by decide) (by decide) (by decide))
                obtain rfl := ri_12_35 hfo_1 hfo_386 (hfA12 o0 ko0 35 (by decide) (by decide) (by decide) (by decide) (by decide) (by decide))
                obtain rfl := ri_12_38 hfo_1 hfo_386 (hfA12 o0 ko0 38 (by decide) (by decide) (by decide) (by decide) (by decide) (by decide))
                obtain rfl := ri_12_43 hfo_1 hfo_386 (hfA12 o0 ko0 43 (by decide) (by decide) (by decide) (by decide) (by decide) (by decide))
                obtain rfl := ri_12_53 hfo_1 hfo_386 (hfA12 o0 ko0 53 (by decide) (by decide) (by decide) (by decide) (by decide) (by decide))
                obtain rfl := ri_12_23 hfo_321 hfo_386 (hfa_382 o0 ko0 23 (by decide) (by decide))
                obtain rfl := ri_12_29 hfo_321 hfo_386 (hfa_382 o0 ko0 29 (by decide) (by decide))
                obtain rfl := ri_12_32 hfo_321 hfo_386 (hfa_382 o0 ko0 32 (by decide) (by decide))
                obtain rfl := ri_12_33 hfo_321 hfo_386 (hfa_382 o0 ko0 33 (by decide) (by decide))
                have hqhpost_383 := hpost_383 v_347 v_412 v_349 v_414 (by rw [hfo_321]; rfl) (by rw [hfo_321]; rfl) (by rw [hfo_386]; rfl) (by rw [hfo_386]; rfl)
                try rw [ti_4] at hqhpost_383
                refine lv_aload_n hx hb dX12_fewest_67 rfl (lv_at hl 2 rfl) ?_
                refine lv_iconst (v := 0) hx hb dX12_fewest_68 (by decide) ?_
                refine lv_aload_n hx hb dX12_fewest_69 rfl (lv_at hl 2 rfl) ?_
                refine tk_getP (D := (dC, dI)) (ci := 12) (v := .ref a_2) (C := RX12) (T := TX12) (N := 56) hx hb hU inlX12 hown hK hP mo0 hfo_386 rfl 0 (by decide) (hU _ wd_169) (fun _ h9 => h9) rfl dX12_fewest_70 ?_
                refine lv_bipush (v := 41) hx hb dX12_fewest_73 (by decide) ?_
                refine tk_ildP hx hb hK hP 0 ma_2 hfo_385 rfl (vp_in_nI (n := 41) (by decide) (by decide)) dX12_fewest_75 ?_
                refine lv_topi (fun x_443 ex_443 => ?_)
                have bx_443 : (0 ≤ x_443.toInt ∧ x_443.toInt ≤ 1) := by rw [ex_443]; exact hbg_88.2.2.2.2.2.2.2.1 _ (by decide) (by decide) (by decide)
                refine lv_iconst (v := 0) hx hb dX12_fewest_76 (by decide) ?_
                refine lv_iconst (v := 0) hx hb dX12_fewest_77 (by decide) ?_
                refine lv_iconst (v := 0) hx hb dX12_fewest_78 (by decide) ?_
                refine tk_VvP (As := [.int 0, .int x_443, .int 0, .int 0, .int 0]) (rest := []) (n := 5) hx hb hml hown hU hN hZ (s_X12_goes_k12 l (dC, dI) cI cL cZ cR cG cH Z kd L 14 f_379 hG o0 mo0 ko0 0 (by decide) x_443 (by constructor <;> omega) 0 (by decide) 0 (by decide) 0 (by intro w23 w25 w27 w29 e23 e25 e27 e29; rw [hfo_386] at e23 e25 e27 e29; obtain rfl := Option.some.inj e23; obtain rfl := Option.some.inj e25; obtain rfl := Option.some.inj e27; obtain rfl := Option.some.inj e29; omega) (by (try rw [ti_0]) <;> omega) hTc_318 (by (try rw [ti_0]) <;> omega)) wd_886 wd_887 wd_888 wd_5 wd_889 (by decide +kernel) ⟨Nat.le_of_ble_eq_true rfl, Nat.le_of_ble_eq_true rfl⟩ hK hP hD hS mo0 hfo_386 12 rfl rfl rfl hl.1 rfl (Nat.le_of_ble_eq_true rfl) dX12_fewest_79 ⟨Nat.le_of_ble_eq_true rfl, Nat.le_of_ble_eq_true rfl⟩ (fun f_445 H locs hw hP hD hS => ?_)
                obtain ⟨hG, hkc_446, hra_447, hfa_448, hpost_449, hTc_450⟩ := hw
                have hfo_452 : f_445 a_2 = .inl (cI, 1560, .inl g_88) := by rw [hkc_446 a_2 (by rw [ka_2]; decide) (by rw [ka_2]; decide) (by rw [ka_2]; decide) (by rw [ka_2]; decide) (by rw [ka_2]; decide) (by rw [ka_2]; decide) (by rw [ka_2]; decide) (by rw [ka_2]; decide) (by rw [ka_2]; decide) (by rw [ka_2]; decide) (by rw [ka_2]; decide) (by rw [ka_2]; decide)]; exact hfo_385
                have hfr0 : ∀ b, kd b ≠ 12 → kd b ≠ 579 → kd b ≠ 581 → kd b ≠ 583 → kd b ≠ 585 → kd b ≠ 587 → kd b ≠ 588 → kd b ≠ 589 → kd b ≠ 590 → kd b ≠ 591 → kd b ≠ 592 → kd b ≠ 593 → kd b ≠ 603 → f_445 b = f b := fun b q12 q579 q581 q583 q585 q587 q588 q589 q590 q591 q592 q593 q603 => (hkc_446 b q12 q579 q581 q583 q585 q587 q588 q590 q591 q592 q593 q603).trans (hfr0 b q12 q579 q581 q583 q585 q587 q588 q589 q590 q591 q592 q593 q603)
                have hrA12 : ∀ b, kd b = 12 → ∀ j, fldR (f_445 b) j = fldR (f b) j := fun b kb j => (hra_447 b kb j).trans (hrA12 b kb j)
                have hfA12 : ∀ b, kd b = 12 → ∀ j, j ≠ 23 → j ≠ 25 → j ≠ 27 → j ≠ 29 → j ≠ 32 → j ≠ 33 → fldI (f_445 b) j = fldI (f b) j := fun b kb j n23 n25 n27 n29 n32 n33 => (hfa_448 b kb j n27 n29 n32).trans (hfA12 b kb j n23 n25 n27 n29 n32 n33)
                obtain ⟨a_454, a_455, a_456, v_457, a_458, v_459, v_460, v_461, v_462, v_463, v_464, v_465, v_466, v_467, v_468, a_469, a_470, a_471, a_472, a_473, a_474, a_475, a_476, v_477, v_478, v_479, v_480, v_481, a_482, v_483, a_484, a_485, v_486, v_487, a_488, v_489, a_490, a_491, v_492, v_493, a_494, a_495, a_496, v_497, a_498, a_499, a_500, a_501, a_502, a_503, a_504, a_505, a_506, v_507, v_508, a_509, hfo_453, ⟨ma_454, ka_454⟩, ⟨ma_455, ka_455⟩, ⟨ma_456, ka_456⟩, bv_457, ⟨ma_458, ka_458⟩, bv_459, bv_460, bv_465, bv_466, bv_467, ⟨ma_469, ka_469⟩, ⟨ma_470, ka_470⟩, ⟨ma_471, ka_471⟩, ⟨ma_472, ka_472⟩, ⟨ma_473, ka_473⟩, ⟨ma_474, ka_474⟩, ⟨ma_475, ka_475⟩, ⟨ma_476, ka_476⟩, bv_477, bv_479, bv_481, ⟨ma_482, ka_482⟩, bv_483, ⟨ma_484, ka_484⟩, ⟨ma_485, ka_485⟩, bv_486, ⟨ma_488, ka_488⟩, bv_489, ⟨ma_490, ka_490⟩, ⟨ma_491, ka_491⟩, bv_492, ⟨ma_494, ka_494⟩, ⟨ma_495, ka_495⟩, ⟨ma_496, ka_496⟩, bv_497, ⟨ma_498, ka_498⟩, ⟨ma_499, ka_499⟩, ⟨ma_500, ka_500⟩, ⟨ma_501, ka_501⟩, ⟨ma_502, ka_502⟩, ⟨ma_503, ka_503⟩, ⟨ma_504, ka_504⟩, ⟨ma_505, ka_505⟩, ⟨ma_506, ka_506⟩, bv_507, ⟨ma_509, ka_509⟩⟩ := un_12 (hG _ mo0) ko0
                have bv_461 : ((-2147483648) ≤ v_461.toInt ∧ v_461.toInt ≤ 2147483647) := ⟨i32_lo _, i32_hi _⟩
                have bv_462 : ((-2147483648) ≤ v_462.toInt ∧ v_462.toInt ≤ 2147483647) := ⟨i32_lo _, i32_hi _⟩
                have bv_463 : ((-2147483648) ≤ v_463.toInt ∧ v_463.toInt ≤ 2147483647) := ⟨i32_lo _, i32_hi _⟩
                have bv_464 : ((-2147483648) ≤ v_464.toInt ∧ v_464.toInt ≤ 2147483647) := ⟨i32_lo _, i32_hi _⟩
                have bv_468 : ((-2147483648) ≤ v_468.toInt ∧ v_468.toInt ≤ 2147483647) := ⟨i32_lo _, i32_hi _⟩
                have bv_478 : ((-2147483648) ≤ v_478.toInt ∧ v_478.toInt ≤ 2147483647) := ⟨i32_lo _, i32_hi _⟩
                have bv_480 : ((-2147483648) ≤ v_480.toInt ∧ v_480.toInt ≤ 2147483647) := ⟨i32_lo _, i32_hi _⟩
                have bv_487 : ((-2147483648) ≤ v_487.toInt ∧ v_487.toInt ≤ 2147483647) := ⟨i32_lo _, i32_hi _⟩
                have bv_493 : ((-2147483648) ≤ v_493.toInt ∧ v_493.toInt ≤ 2147483647) := ⟨i32_lo _, i32_hi _⟩
                have bv_508 : ((-2147483648) ≤ v_508.toInt ∧ v_508.toInt ≤ 2147483647) := ⟨i32_lo _, i32_hi _⟩
                obtain ⟨rfl, rfl, rfl, rfl, rfl, rfl, rfl, rfl, rfl, rfl, rfl, rfl, rfl, rfl, rfl, rfl, rfl, rfl, rfl, rfl, rfl, rfl, rfl, rfl, rfl, rfl, rfl, rfl, rfl, rfl, rfl⟩ := re_12 hfo_1 hfo_453 (hrA12 o0 ko0)
                obtain rfl := ri_12_3 hfo_1 hfo_453 (hfA12 o0 ko0 3 (by decide) (by decide) (by decide) (by decide) (by decide) (by decide))
                obtain rfl := ri_12_5 hfo_1 hfo_453 (hfA12 o0 ko0 5 (by decide) (by decide) (by decide) (by decide) (by decide) (by decide))
                obtain rfl := ri_12_6 hfo_1 hfo_453 (hfA12 o0 ko0 6 (by decide) (by decide) (by decide) (by decide) (by decide) (by decide))
                obtain rfl := ri_12_11 hfo_1 hfo_453 (hfA12 o0 ko0 11 (by decide) (by decide) (by decide) (by decide) (by decide) (by decide))
                obtain rfl := ri_12_12 hfo_1 hfo_453 (hfA12 o0 ko0 12 (by decide) (by decide) (by decide) (by decide) (by decide) (by decide))
                obtain rfl := ri_12_13 hfo_1 hfo_453 (hfA12 o0 ko0 13 (by decide) (by decide) (by decide) (by decide) (by decide) (by decide))
                obtain rfl := ri_12_14 hfo_1 hfo_453 (hfA12 o0 ko0 14 (by decide) (by decide) (by decide) (by decide) (by decide) (by decide))
                obtain rfl := ri_12_35 hfo_1 hfo_453 (hfA12 o0 ko0 35 (by decide) (by decide) (by decide) (by decide) (by decide) (by decide))
                obtain rfl := ri_12_38 hfo_1 hfo_453 (hfA12 o0 ko0 38 (by decide) (by decide) (by decide) (by decide) (by decide) (by decide))
                obtain rfl := ri_12_43 hfo_1 hfo_453 (hfA12 o0 ko0 43 (by decide) (by decide) (by decide) (by decide) (by decide) (by decide))
                obtain rfl := ri_12_53 hfo_1 hfo_453 (hfA12 o0 ko0 53 (by decide) (by decide) (by decide) (by decide) (by decide) (by decide))
                obtain rfl := ri_12_23 hfo_386 hfo_453 (hfa_448 o0 ko0 23 (by decide) (by decide) (by decide))
                obtain rfl := ri_12_25 hfo_386 hfo_453 (hfa_448 o0 ko0 25 (by decide) (by decide) (by decide))
                obtain rfl := ri_12_33 hfo_386 hfo_453 (hfa_448 o0 ko0 33 (by decide) (by decide) (by decide))
                have hqhpost_449 := hpost_449 v_412 v_412 v_414 v_481 v_351 v_483 (by rw [hfo_386]; rfl) (by rw [hfo_386]; rfl) (by rw [hfo_386]; rfl) (by rw [hfo_453]; rfl) (by rw [hfo_453]; rfl) (by rw [hfo_453]; rfl)
                try rw [ti_0] at hqhpost_449
                obtain ⟨x_510, ex_510⟩ : ∃ y : Int32, y_152 + 1 = y := ⟨_, rfl⟩
                have hx_510 : x_510.toInt = y_152.toInt + 1 := by rw [← ex_510, ad_I (by rw [ti_1]; omega) (by rw [ti_1]; omega), ti_1]
                have bx_510 : (1 ≤ x_510.toInt ∧ x_510.toInt ≤ 584) := by constructor <;> omega
                refine lv_iinc (v := x_510) (lv' := [(3, .int x_510), (2, .int x_83), (0, .ref o0), (1, .int p1)]) hx hb dX12_fewest_82 hl (k := 0) rfl ex_510 (by decide) rfl (fun ls hl => ?_)
                refine lv_goto (tgt := 41) hx hb dX12_fewest_85 (by decide) ?_
                exact ih_hloop_151 x_510 (by constructor <;> omega) f_445 hG _ _ hP hS hD hfr0 hrA12 hfA12 hfo_452 hTc_450 v_483 (by rw [hfo_453]; rfl) (by omega) (by omega) (by omega) ls (lv_sub hl [0, 1, 2, 3] rfl)
          exact hloop_151 585 0 (by decide) f_80 hG _ _ hP hS hD hfr0 hrA12 hfA12 hfo_87 hT0 v_31 (by rw [hfo_81]; rfl) (by (try rw [ti_0]) <;> omega) (by (try rw [ti_0]) <;> omega) (by (try rw [ti_0]) <;> omega) ls hl
        · skip
          rw [Int32.le_iff_toInt_le, ti_256] at c_82
          refine lv_aload_n hx hb dX12_fewest_20 rfl (lv_at hl 1 rfl) ?_
          refine tk_getP (D := (dC, dI)) (ci := 12) (v := .ref a_49) (C := RX12) (T := TX12) (N := 56) hx hb hU inlX12 hown hK hP mo0 hfo_81 rfl 47 (by decide) (hU _ wd_197) (fun _ h9 => h9) rfl dX12_fewest_21 ?_
          refine lv_iload_n hx hb dX12_fewest_24 rfl (lv_at hl 0 rfl) ?_
          refine lv_iconst (v := 0) hx hb dX12_fewest_25 (by decide) ?_
          obtain ⟨g_512, hfo_511, hbg_512⟩ := un_603 (hG _ ma_49) ka_49
          refine tk_zstP hx hb hK hP hD hS 2 ma_49 hfo_511 rfl (vp_in_iff.mpr (by constructor <;> omega)) (bt_n (by decide)) dX12_fewest_26 (fun H locs hP hD hS => ?_)
          obtain ⟨f_514, ef_514⟩ : ∃ y : Nat → va_E, y = va_up f_80 a_49 (.inl (cZ, 256, .inl (upd g_512 (Int32.toNatClampNeg y_78) 0))) := ⟨_, rfl⟩
          have hP : va_P (dC, dI) vwCl (va_pl L f_514) H := by rw [ef_514]; exact hP
          have hD : va_D (fun q => q ∈ L) (va_pl L f_514) := by rw [ef_514]; exact hD
          have hG : GI (okc cI cL cZ cR cG cH L kd) kd L f_514 := by rw [ef_514]; exact hG.set a_49 (mk_603 ka_49 ⟨_, rfl, okI_up hbg_512 (by decide) _⟩)
          have hfo_515 : f_514 o0 = .inr (12, [.ref a_2, .ref a_3, .ref a_4, .int v_5, .ref a_6, .int v_7, .int v_8, .int v_9, .int v_10, .int v_11, .int v_12, .int v_13, .int v_14, .int v_15, .int v_16, .ref a_17, .ref a_18, .ref a_19, .ref a_20, .ref a_21, .ref a_22, .ref a_23, .ref a_24, .int v_25, .int v_26, .int v_27, .int v_28, .int v_29, .ref a_30, .int v_31, .ref a_32, .ref a_33, .int v_34, .int v_35, .ref a_36, .int v_37, .ref a_38, .ref a_39, .int v_40, .int v_41, .ref a_42, .ref a_43, .ref a_44, .int v_45, .ref a_46, .ref a_47, .ref a_48, .ref a_49, .ref a_50, .ref a_51, .ref a_52, .ref a_53, .ref a_54, .int v_55, .int v_56, .ref a_57]) := by rw [ef_514, up_ne (kd_ne ka_49 ko0 (by decide))]; exact hfo_81
          have hfr0 : ∀ b, kd b ≠ 12 → kd b ≠ 579 → kd b ≠ 581 → kd b ≠ 583 → kd b ≠ 585 → kd b ≠ 587 → kd b ≠ 588 → kd b ≠ 589 → kd b ≠ 590 → kd b ≠ 591 → kd b ≠ 592 → kd b ≠ 593 → kd b ≠ 603 → f_514 b = f b := fun b q12 q579 q581 q583 q585 q587 q588 q589 q590 q591 q592 q593 q603 => (congrFun ef_514 b).trans ((up_ne (fun e9 => q603 (by rw [e9]; exact ka_49))).trans (hfr0 b q12 q579 q581 q583 q585 q587 q588 q589 q590 q591 q592 q593 q603))
          have hrA12 : ∀ b, kd b = 12 → ∀ j, fldR (f_514 b) j = fldR (f b) j := fun b kb j => (congrArg (fun x => fldR x j) ((congrFun ef_514 b).trans (up_ne (kd_ne ka_49 kb (by decide))))).trans (hrA12 b kb j)
          have hfA12 : ∀ b, kd b = 12 → ∀ j, j ≠ 23 → j ≠ 25 → j ≠ 27 → j ≠ 29 → j ≠ 32 → j ≠ 33 → fldI (f_514 b) j = fldI (f b) j := fun b kb j n23 n25 n27 n29 n32 n33 => (congrArg (fun x => fldI x j) ((congrFun ef_514 b).trans (up_ne (kd_ne ka_49 kb (by decide))))).trans (hfA12 b kb j n23 n25 n27 n29 n32 n33)
          have hT0 : srel kd 592 f_514 o0 := by rw [ef_514]; exact hT0.keep (fun b q => congrArg (fun x => fldR x 30) (up_ne (kd_ne ka_49 q (by decide)))) (fun b q => congrArg (fun x => fldI x 32) (up_ne (kd_ne ka_49 q (by decide)))) (fun b q => congrArg (fun x => fldI x 33) (up_ne (kd_ne ka_49 q (by decide)))) (fun b q => up_ne (kd_ne ka_49 q (by decide)))
          have hfo_516 : f_514 a_49 = .inl (cZ, 256, .inl (upd g_512 (Int32.toNatClampNeg y_78) 0)) := by rw [ef_514]; exact up_self
          obtain ⟨x_517, ex_517⟩ : ∃ y : Int32, y_78 + 1 = y := ⟨_, rfl⟩
          have hx_517 : x_517.toInt = y_78.toInt + 1 := by rw [← ex_517, ad_I (by rw [ti_1]; omega) (by rw [ti_1]; omega), ti_1]
          have bx_517 : (1 ≤ x_517.toInt ∧ x_517.toInt ≤ 256) := by constructor <;> omega
          refine lv_iinc (v := x_517) (lv' := [(2, .int x_517), (0, .ref o0), (1, .int p1)]) hx hb dX12_fewest_27 hl (k := 0) rfl ex_517 (by decide) rfl (fun ls hl => ?_)
          refine lv_goto (tgt := 13) hx hb dX12_fewest_30 (by decide) ?_
          exact ih_hloop_77 x_517 (by constructor <;> omega) f_514 hG _ _ hP hS hD hfr0 hrA12 hfA12 hfo_515 hT0 (by omega) ls (lv_sub hl [0, 1, 2] rfl)
    exact hloop_77 257 0 (by decide) f hG _ _ hP hS hD hfr0 hrA12 hfA12 hfo_1 hT0 (by (try rw [ti_0]) <;> omega) ls hl
  · skip
    rw [← Int32.toInt_inj, ti_0] at c_61
    refine lv_iconst (v := (-1)) hx hb dX12_fewest_9 (by decide) ?_
    exact W.iret (v := (-1)) hx hb hr (fun t ht hW => ⟨⟨(-1), f, rfl, ⟨hG, (by decide), hfr0, hrA12, hfA12, (by intro w29 z29 e29 d29; rw [hfo_1] at e29; rw [hfo_1] at d29; obtain rfl := Option.some.inj e29; obtain rfl := Option.some.inj d29; (try rw [ti_m1]) <;> omega), hT0⟩, by rw [ht]; exact hP, va_K.moved hW.alike hK, pl_in hD⟩, hS.F ht⟩) hS.2.2 dX12_fewest_10
