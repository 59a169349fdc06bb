set_option maxHeartbeats 8000000 in
set_option maxRecDepth 100000 in
theorem s_X12_isX (l : Launch) (D : va_G) (cI cL cZ cR cG cH : ClassId) (Z : zT) (kd : Nat → Nat) (L : List Nat) (f : Nat → va_E) (hG : GI (okc cI cL cZ cR cG cH L kd) kd L f) (p0 : Int32) : mPI l D cI cL cZ cR cG cH Z yX12_isX cX12_isX 1 (some .boolean) 2 42 [.int p0] L f (fun (r : Int32) (f9 : Nat → va_E) => f = f9 ∧ (0 ≤ r.toInt ∧ r.toInt ≤ 1)) := by
  obtain ⟨dC, dI⟩ := D
  refine Met.ofW (cc := cX12_isX) (maxL := 1) (ret := (some .boolean)) (by decide) rfl ?_
  intro p e s m args below meth c s₁ B hml hv
  obtain ⟨rfl, hP, hK, hD0, hN, hZ⟩ := hv
  have hx := B.exec
  have hb := B.bytes
  have hr := B.returns
  have hU : ∀ w ∈ wsU, w.before _ s = true := fun w h => atoms_spec (ws := wU yX12_isX cX12_isX 1 (some .boolean)) B.pre w (List.mem_cons_of_mem _ h)
  have hown : s.vm.findClass RX12 = some m.cls := findClass_of_methodNamed B.named
  have hlocks := B.notSynchronized
  have hD := pl_in hD0
  have hS : va_S (fun q => q ∈ L) s.heap s.heap [] := va_S.rf
  have hl := lv_entry ([.int p0]) (n := 1) (Nat.le_of_ble_eq_true rfl)
  rw [lg_entry_eq]
  generalize (lg_sl ([.int p0]) ++ List.replicate (1 - (lg_sl ([.int p0])).length) Slot.unset).toArray = ls at hl ⊢
  have hl : lv_has ls 1 [(0, .int p0)] := hl
  have bp0 : ((-2147483648) ≤ p0.toInt ∧ p0.toInt ≤ 2147483647) := ⟨i32_lo _, i32_hi _⟩
  refine lv_iload_n hx hb dX12_isX_0 rfl (lv_at hl 0 rfl) ?_
  refine lv_bipush (v := 63) hx hb dX12_isX_1 (by decide) ?_
  refine lv_icmp_eq (tgt := 30) hx hb dX12_isX_3 (by decide) (fun c_1 => ?_) (fun c_1 => ?_)
  · skip
    rw [← Int32.toInt_inj, ti_63] at c_1
    refine lv_iconst (v := 1) hx hb dX12_isX_30 (by decide) ?_
    refine lv_goto (tgt := 35) hx hb dX12_isX_31 (by decide) ?_
    exact W.zret (v := 1) (ty := .boolean) hx hb hr rfl (fun t ht hW => ⟨⟨1, f, rfl, ⟨rfl, (by decide)⟩, by rw [ht]; exact hP, va_K.moved hW.alike hK, pl_in hD⟩, hS.F ht⟩) hS.2.2 dX12_isX_35
  · skip
    rw [← Int32.toInt_inj, ti_63] at c_1
    refine lv_iload_n hx hb dX12_isX_6 rfl (lv_at hl 0 rfl) ?_
    refine lv_bipush (v := 48) hx hb dX12_isX_7 (by decide) ?_
    refine lv_icmp_eq (tgt := 30) hx hb dX12_isX_9 (by decide) (fun c_2 => ?_) (fun c_2 => ?_)
    · skip
      rw [← Int32.toInt_inj, ti_48] at c_2
      refine lv_iconst (v := 1) hx hb dX12_isX_30 (by decide) ?_
      refine lv_goto (tgt := 35) hx hb dX12_isX_31 (by decide) ?_
      exact W.zret (v := 1) (ty := .boolean) hx hb hr rfl (fun t ht hW => ⟨⟨1, f, rfl, ⟨rfl, (by decide)⟩, by rw [ht]; exact hP, va_K.moved hW.alike hK, pl_in hD⟩, hS.F ht⟩) hS.2.2 dX12_isX_35
    · skip
      rw [← Int32.toInt_inj, ti_48] at c_2
      refine lv_iload_n hx hb dX12_isX_12 rfl (lv_at hl 0 rfl) ?_
      refine lv_bipush (v := 65) hx hb dX12_isX_13 (by decide) ?_
      refine lv_bipush (v := 70) hx hb dX12_isX_15 (by decide) ?_
      refine tk_SiP (As := [.int p0, .int 65, .int 70]) (rest := []) (n := 3) hx hb hml hown hU hN hZ (s_X12_isIn l (dC, dI) cI cL cZ cR cG cH Z kd L f hG p0 65 70) wd_227 wd_228 wd_5 wd_229 (by decide +kernel) ⟨Nat.le_of_ble_eq_true rfl, Nat.le_of_ble_eq_true rfl⟩ hK hP hD hS rfl hl.1 rfl (Nat.le_of_ble_eq_true rfl) dX12_isX_17 ⟨Nat.le_of_ble_eq_true rfl, Nat.le_of_ble_eq_true rfl⟩ (fun x_3 f_4 H locs hw hP hD hS => ?_)
      obtain ⟨rfl, bx_3, relx_3⟩ := hw
      try rw [ti_65] at relx_3
      try rw [ti_70] at relx_3
      refine lv_if_ne (tgt := 30) hx hb dX12_isX_20 (by decide) (fun c_6 => ?_) (fun c_6 => ?_)
      · skip
        rw [← Int32.toInt_inj, ti_0] at c_6
        refine lv_iconst (v := 1) hx hb dX12_isX_30 (by decide) ?_
        refine lv_goto (tgt := 35) hx hb dX12_isX_31 (by decide) ?_
        exact W.zret (v := 1) (ty := .boolean) hx hb hr rfl (fun t ht hW => ⟨⟨1, f, rfl, ⟨rfl, (by decide)⟩, by rw [ht]; exact hP, va_K.moved hW.alike hK, pl_in hD⟩, hS.F ht⟩) hS.2.2 dX12_isX_35
      · skip
        rw [← Int32.toInt_inj, ti_0] at c_6
        refine lv_iload_n hx hb dX12_isX_23 rfl (lv_at hl 0 rfl) ?_
        refine tk_SiP (As := [.int p0]) (rest := []) (n := 1) hx hb hml hown hU hN hZ (s_X12_isSmall l (dC, dI) cI cL cZ cR cG cH Z kd L f hG p0) wd_589 wd_590 wd_5 wd_591 (by decide +kernel) ⟨Nat.le_of_ble_eq_true rfl, Nat.le_of_ble_eq_true rfl⟩ hK hP hD hS rfl hl.1 rfl (Nat.le_of_ble_eq_true rfl) dX12_isX_24 ⟨Nat.le_of_ble_eq_true rfl, Nat.le_of_ble_eq_true rfl⟩ (fun x_7 f_8 H locs hw hP hD hS => ?_)
        obtain ⟨rfl, bx_7, relx_7⟩ := hw
        refine lv_if_eq (tgt := 34) hx hb dX12_isX_27 (by decide) (fun c_10 => ?_) (fun c_10 => ?_)
        · skip
          rw [← Int32.toInt_inj, ti_0] at c_10
          refine lv_iconst (v := 0) hx hb dX12_isX_34 (by decide) ?_
          exact W.zret (v := 0) (ty := .boolean) hx hb hr rfl (fun t ht hW => ⟨⟨0, f, rfl, ⟨rfl, (by decide)⟩, by rw [ht]; exact hP, va_K.moved hW.alike hK, pl_in hD⟩, hS.F ht⟩) hS.2.2 dX12_isX_35
        · skip
          rw [← Int32.toInt_inj, ti_0] at c_10
          refine lv_iconst (v := 1) hx hb dX12_isX_30 (by decide) ?_
          refine lv_goto (tgt := 35) hx hb dX12_isX_31 (by decide) ?_
          exact W.zret (v := 1) (ty := .boolean) hx hb hr rfl (fun t ht hW => ⟨⟨1, f, rfl, ⟨rfl, (by decide)⟩, by rw [ht]; exact hP, va_K.moved hW.alike hK, pl_in hD⟩, hS.F ht⟩) hS.2.2 dX12_isX_35
set_option maxHeartbeats 8000000 in
set_option maxRecDepth 100000 in
theorem s_X12_item_k12 (l : Launch) (D : va_G) (cI cL cZ cR cG cH : ClassId) (Z : zT) (kd : Nat → Nat) (L : List Nat) (f : Nat → va_E) (hG : GI (okc cI cL cZ cR cG cH L kd) kd L f) (o0 : Nat) (mo0 : o0 ∈ L) (ko0 : kd o0 = 12) (p1 : Int32) (bp1 : (600 ≤ p1.toInt ∧ p1.toInt ≤ 1556)) (hxtr0 : ∀ d9, fldR (f o0) 1 = some d9 → frel kd 576 7 f d9) : mPI l D cI cL cZ cR cG cH Z yX12_item cX12_item 3 (some .boolean) 4 83 [.ref o0, .int p1] L f (fun (r : Int32) (f9 : Nat → va_E) => GI (okc cI cL cZ cR cG cH L kd) kd L f9 ∧ (0 ≤ r.toInt ∧ r.toInt ≤ 1) ∧ (∀ b, kd b ≠ 12 → kd b ≠ 576 → f9 b = f b) ∧ (∀ b, kd b = 12 → ∀ j, fldR (f9 b) j = fldR (f b) j) ∧ (∀ b, kd b = 12 → ∀ j, j ≠ 6 → j ≠ 7 → j ≠ 8 → j ≠ 14 → fldI (f9 b) j = fldI (f b) j) ∧ (∀ (w6 z6 : Int32), fldI (f o0) 6 = some w6 → fldI (f9 o0) 6 = some z6 → w6.toInt ≤ z6.toInt) ∧ (∀ d9, fldR (f9 o0) 1 = some d9 → frel kd 576 7 f9 d9)) := by
  obtain ⟨dC, dI⟩ := D
  refine Met.ofW (cc := cX12_item) (maxL := 3) (ret := (some .boolean)) (by decide) rfl ?_
  intro p e s m args below meth c s₁ B hml hv
  obtain ⟨rfl, hP, hK, hD0, hN, hZ⟩ := hv
  have hx := B.exec
  have hb := B.bytes
  have hr := B.returns
  have hU : ∀ w ∈ wsU, w.before _ s = true := fun w h => atoms_spec (ws := wU yX12_item cX12_item 3 (some .boolean)) B.pre w (List.mem_cons_of_mem _ h)
  have hown : s.vm.findClass RX12 = some m.cls := findClass_of_methodNamed B.named
  have hlocks := B.notSynchronized
  have hD := pl_in hD0
  have hS : va_S (fun q => q ∈ L) s.heap s.heap [] := va_S.rf
  have hl := lv_entry ([.ref o0, .int p1]) (n := 3) (Nat.le_of_ble_eq_true rfl)
  rw [lg_entry_eq]
  generalize (lg_sl ([.ref o0, .int p1]) ++ List.replicate (3 - (lg_sl ([.ref o0, .int p1])).length) Slot.unset).toArray = ls at hl ⊢
  have hl : lv_has ls 3 [(0, .ref o0), (1, .int p1)] := hl
  have hfr0 : ∀ b, kd b ≠ 12 → kd b ≠ 576 → f b = f b := fun _ _ _ => rfl
  have hrA12 : ∀ b, kd b = 12 → ∀ j, fldR (f b) j = fldR (f b) j := fun _ _ _ => rfl
  have hfA12 : ∀ b, kd b = 12 → ∀ j, j ≠ 6 → j ≠ 7 → j ≠ 8 → j ≠ 14 → fldI (f b) j = fldI (f b) j := fun _ _ _ _ _ _ _ => rfl
  obtain ⟨a_2, a_3, a_4, v_5, a_6, v_7, v_8, v_9, v_10, v_11, v_12, v_13, v_14, v_15, v_16, a_17, a_18, a_19, a_20, a_21, a_22, a_23, a_24, v_25, v_26, v_27, v_28, v_29, a_30, v_31, a_32, a_33, v_34, v_35, a_36, v_37, a_38, a_39, v_40, v_41, a_42, a_43, a_44, v_45, a_46, a_47, a_48, a_49, a_50, a_51, a_52, a_53, a_54, v_55, v_56, a_57, hfo_1, ⟨ma_2, ka_2⟩, ⟨ma_3, ka_3⟩, ⟨ma_4, ka_4⟩, bv_5, ⟨ma_6, ka_6⟩, bv_7, bv_8, bv_13, bv_14, bv_15, ⟨ma_17, ka_17⟩, ⟨ma_18, ka_18⟩, ⟨ma_19, ka_19⟩, ⟨ma_20, ka_20⟩, ⟨ma_21, ka_21⟩, ⟨ma_22, ka_22⟩, ⟨ma_23, ka_23⟩, ⟨ma_24, ka_24⟩, bv_25, bv_27, bv_29, ⟨ma_30, ka_30⟩, bv_31, ⟨ma_32, ka_32⟩, ⟨ma_33, ka_33⟩, bv_34, ⟨ma_36, ka_36⟩, bv_37, ⟨ma_38, ka_38⟩, ⟨ma_39, ka_39⟩, bv_40, ⟨ma_42, ka_42⟩, ⟨ma_43, ka_43⟩, ⟨ma_44, ka_44⟩, bv_45, ⟨ma_46, ka_46⟩, ⟨ma_47, ka_47⟩, ⟨ma_48, ka_48⟩, ⟨ma_49, ka_49⟩, ⟨ma_50, ka_50⟩, ⟨ma_51, ka_51⟩, ⟨ma_52, ka_52⟩, ⟨ma_53, ka_53⟩, ⟨ma_54, ka_54⟩, bv_55, ⟨ma_57, ka_57⟩⟩ := un_12 (hG _ mo0) ko0
  have bv_9 : ((-2147483648) ≤ v_9.toInt ∧ v_9.toInt ≤ 2147483647) := ⟨i32_lo _, i32_hi _⟩
  have bv_10 : ((-2147483648) ≤ v_10.toInt ∧ v_10.toInt ≤ 2147483647) := ⟨i32_lo _, i32_hi _⟩
  have bv_11 : ((-2147483648) ≤ v_11.toInt ∧ v_11.toInt ≤ 2147483647) := ⟨i32_lo _, i32_hi _⟩
  have bv_12 : ((-2147483648) ≤ v_12.toInt ∧ v_12.toInt ≤ 2147483647) := ⟨i32_lo _, i32_hi _⟩
  have bv_16 : ((-2147483648) ≤ v_16.toInt ∧ v_16.toInt ≤ 2147483647) := ⟨i32_lo _, i32_hi _⟩
  have bv_26 : ((-2147483648) ≤ v_26.toInt ∧ v_26.toInt ≤ 2147483647) := ⟨i32_lo _, i32_hi _⟩
  have bv_28 : ((-2147483648) ≤ v_28.toInt ∧ v_28.toInt ≤ 2147483647) := ⟨i32_lo _, i32_hi _⟩
  have bv_35 : ((-2147483648) ≤ v_35.toInt ∧ v_35.toInt ≤ 2147483647) := ⟨i32_lo _, i32_hi _⟩
  have bv_41 : ((-2147483648) ≤ v_41.toInt ∧ v_41.toInt ≤ 2147483647) := ⟨i32_lo _, i32_hi _⟩
  have bv_56 : ((-2147483648) ≤ v_56.toInt ∧ v_56.toInt ≤ 2147483647) := ⟨i32_lo _, i32_hi _⟩
  have hT0 := hxtr0 a_3 (by rw [hfo_1]; rfl)
  have hM : ∀ z9, fldI (f o0) 6 = some z9 → v_8.toInt ≤ z9.toInt := fun z9 h9 => by rw [hfo_1] at h9; obtain rfl := Option.some.inj h9; exact Int.le_refl _
  refine lv_aload_n hx hb dX12_item_0 rfl (lv_at hl 0 rfl) ?_
  refine tk_ViP (As := []) (rest := []) (n := 0) hx hb hml hown hU hN hZ (s_X12_sign_k12 l (dC, dI) cI cL cZ cR cG cH Z kd L f hG o0 mo0 ko0) wd_573 wd_574 wd_575 wd_5 wd_576 (by decide +kernel) ⟨Nat.le_of_ble_eq_true rfl, Nat.le_of_ble_eq_true rfl⟩ hK hP hD hS mo0 hfo_1 12 rfl rfl rfl hl.1 rfl (Nat.le_of_ble_eq_true rfl) dX12_item_1 ⟨Nat.le_of_ble_eq_true rfl, Nat.le_of_ble_eq_true rfl⟩ (fun x_58 f_59 H locs hw hP hD hS => ?_)
  obtain ⟨hG, bx_58, hkc_60, hra_61, hfa_62, hpost_63⟩ := hw
  have hfr0 : ∀ b, kd b ≠ 12 → kd b ≠ 576 → f_59 b = f b := fun b q12 q576 => (hkc_60 b q12).trans (hfr0 b q12 q576)
  have hrA12 : ∀ b, kd b = 12 → ∀ j, fldR (f_59 b) j = fldR (f b) j := fun b kb j => (hra_61 b kb j).trans (hrA12 b kb j)
  have hfA12 : ∀ b, kd b = 12 → ∀ j, j ≠ 6 → j ≠ 7 → j ≠ 8 → j ≠ 14 → fldI (f_59 b) j = fldI (f b) j := fun b kb j n6 n7 n8 n14 => (hfa_62 b kb j n6).trans (hfA12 b kb j n6 n7 n8 n14)
  have hT0 : frel kd 576 7 f_59 a_3 := hT0.keep (fun b q => hkc_60 b (by rw [q]; decide))
  obtain ⟨a_66, a_67, a_68, v_69, a_70, v_71, v_72, v_73, v_74, v_75, v_76, v_77, v_78, v_79, v_80, a_81, a_82, a_83, a_84, a_85, a_86, a_87, a_88, v_89, v_90, v_91, v_92, v_93, a_94, v_95, a_96, a_97, v_98, v_99, a_100, v_101, a_102, a_103, v_104, v_105, a_106, a_107, a_108, v_109, a_110, a_111, a_112, a_113, a_114, a_115, a_116, a_117, a_118, v_119, v_120, a_121, hfo_65, ⟨ma_66, ka_66⟩, ⟨ma_67, ka_67⟩, ⟨ma_68, ka_68⟩, bv_69, ⟨ma_70, ka_70⟩, bv_71, bv_72, bv_77, bv_78, bv_79, ⟨ma_81, ka_81⟩, ⟨ma_82, ka_82⟩, ⟨ma_83, ka_83⟩, ⟨ma_84, ka_84⟩, ⟨ma_85, ka_85⟩, ⟨ma_86, ka_86⟩, ⟨ma_87, ka_87⟩, ⟨ma_88, ka_88⟩, bv_89, bv_91, bv_93, ⟨ma_94, ka_94⟩, bv_95, ⟨ma_96, ka_96⟩, ⟨ma_97, ka_97⟩, bv_98, ⟨ma_100, ka_100⟩, bv_101, ⟨ma_102, ka_102⟩, ⟨ma_103, ka_103⟩, bv_104, ⟨ma_106, ka_106⟩, ⟨ma_107, ka_107⟩, ⟨ma_108, ka_108⟩, bv_109, ⟨ma_110, ka_110⟩, ⟨ma_111, ka_111⟩, ⟨ma_112, ka_112⟩, ⟨ma_113, ka_113⟩, ⟨ma_114, ka_114⟩, ⟨ma_115, ka_115⟩, ⟨ma_116, ka_116⟩, ⟨ma_117, ka_117⟩, ⟨ma_118, ka_118⟩, bv_119, ⟨ma_121, ka_121⟩⟩ := un_12 (hG _ mo0) ko0
  have bv_73 : ((-2147483648) ≤ v_73.toInt ∧ v_73.toInt ≤ 2147483647) := ⟨i32_lo _, i32_hi _⟩
  have bv_74 : ((-2147483648) ≤ v_74.toInt ∧ v_74.toInt ≤ 2147483647) := ⟨i32_lo _, i32_hi _⟩
  have bv_75 : ((-2147483648) ≤ v_75.toInt ∧ v_75.toInt ≤ 2147483647) := ⟨i32_lo _, i32_hi _⟩
  have bv_76 : ((-2147483648) ≤ v_76.toInt ∧ v_76.toInt ≤ 2147483647) := ⟨i32_lo _, i32_hi _⟩
  have bv_80 : ((-2147483648) ≤ v_80.toInt ∧ v_80.toInt ≤ 2147483647) := ⟨i32_lo _, i32_hi _⟩
  have bv_90 : ((-2147483648) ≤ v_90.toInt ∧ v_90.toInt ≤ 2147483647) := ⟨i32_lo _, i32_hi _⟩
  have bv_92 : ((-2147483648) ≤ v_92.toInt ∧ v_92.toInt ≤ 2147483647) := ⟨i32_lo _, i32_hi _⟩
  have bv_99 : ((-2147483648) ≤ v_99.toInt ∧ v_99.toInt ≤ 2147483647) := ⟨i32_lo _, i32_hi _⟩
  have bv_105 : ((-2147483648) ≤ v_105.toInt ∧ v_105.toInt ≤ 2147483647) := ⟨i32_lo _, i32_hi _⟩
  have bv_120 : ((-2147483648) ≤ v_120.toInt ∧ v_120.toInt ≤ 2147483647) := ⟨i32_lo _, i32_hi _⟩
  obtain ⟨rfl, rfl, rfl, rfl, rfl, rfl, rfl, rfl, rfl, rfl, rfl, rfl, rfl, rfl, rfl, rfl, rfl, rfl, rfl, rfl, rfl, rfl, rfl, rfl, rfl, rfl, rfl, rfl, rfl, rfl, rfl⟩ := re_12 hfo_1 hfo_65 (hrA12 o0 ko0)
  obtain rfl := ri_12_3 hfo_1 hfo_65 (hfA12 o0 ko0 3 (by decide) (by decide) (by decide) (by decide))
  obtain rfl := ri_12_5 hfo_1 hfo_65 (hfA12 o0 ko0 5 (by decide) (by decide) (by decide) (by decide))
  obtain rfl := ri_12_11 hfo_1 hfo_65 (hfA12 o0 ko0 11 (by decide) (by decide) (by decide) (by decide))
  obtain rfl := ri_12_12 hfo_1 hfo_65 (hfA12 o0 ko0 12 (by decide) (by decide) (by decide) (by decide))
  obtain rfl := ri_12_13 hfo_1 hfo_65 (hfA12 o0 ko0 13 (by decide) (by decide) (by decide) (by decide))
  obtain rfl := ri_12_23 hfo_1 hfo_65 (hfA12 o0 ko0 23 (by decide) (by decide) (by decide) (by decide))
  obtain rfl := ri_12_25 hfo_1 hfo_65 (hfA12 o0 ko0 25 (by decide) (by decide) (by decide) (by decide))
  obtain rfl := ri_12_27 hfo_1 hfo_65 (hfA12 o0 ko0 27 (by decide) (by decide) (by decide) (by decide))
  obtain rfl := ri_12_29 hfo_1 hfo_65 (hfA12 o0 ko0 29 (by decide) (by decide) (by decide) (by decide))
  obtain rfl := ri_12_32 hfo_1 hfo_65 (hfA12 o0 ko0 32 (by decide) (by decide) (by decide) (by decide))
  obtain rfl := ri_12_33 hfo_1 hfo_65 (hfA12 o0 ko0 33 (by decide) (by decide) (by decide) (by decide))
  obtain rfl := ri_12_35 hfo_1 hfo_65 (hfA12 o0 ko0 35 (by decide) (by decide) (by decide) (by decide))
  obtain rfl := ri_12_38 hfo_1 hfo_65 (hfA12 o0 ko0 38 (by decide) (by decide) (by decide) (by decide))
  obtain rfl := ri_12_43 hfo_1 hfo_65 (hfA12 o0 ko0 43 (by decide) (by decide) (by decide) (by decide))
  obtain rfl := ri_12_53 hfo_1 hfo_65 (hfA12 o0 ko0 53 (by decide) (by decide) (by decide) (by decide))
  obtain rfl := ri_12_14 hfo_1 hfo_65 (hfa_62 o0 ko0 14 (by decide))
  have hqhpost_63 := hpost_63 v_8 v_72 (by rw [hfo_1]; rfl) (by rw [hfo_65]; rfl)
  have hMm_122 : ∀ z9, fldI (f_59 o0) 6 = some z9 → v_8.toInt ≤ z9.toInt := fun z9 h9 => by rw [hfo_65] at h9; obtain rfl := Option.some.inj h9; have h8 := hM v_8 (by rw [hfo_1]; rfl); omega
  refine lv_bipush (v := 63) hx hb dX12_item_4 (by decide) ?_
  have hcut_124 : ∀ (y_123 : Int32), (0 ≤ y_123.toInt ∧ y_123.toInt ≤ 1) → ∀ (ls : Array Slot), lv_has ls 3 [(0, .ref o0), (1, .int p1)] → W p l e (headSpec (wU yX12_item cX12_item 3 (some .boolean)) { frames := 4, cells := 0, slots := 0, locals := 83 }).room s m [.ref o0, .int p1].toArray below meth c H locs 0 0 (MQ below (va_Qi (fun (r : Int32) (f9 : Nat → va_E) => GI (okc cI cL cZ cR cG cH L kd) kd L f9 ∧ (0 ≤ r.toInt ∧ r.toInt ≤ 1) ∧ (∀ b, kd b ≠ 12 → kd b ≠ 576 → f9 b = f b) ∧ (∀ b, kd b = 12 → ∀ j, fldR (f9 b) j = fldR (f b) j) ∧ (∀ b, kd b = 12 → ∀ j, j ≠ 6 → j ≠ 7 → j ≠ 8 → j ≠ 14 → fldI (f9 b) j = fldI (f b) j) ∧ (∀ (w6 z6 : Int32), fldI (f o0) 6 = some w6 → fldI (f9 o0) 6 = some z6 → w6.toInt ≤ z6.toInt) ∧ (∀ d9, fldR (f9 o0) 1 = some d9 → frel kd 576 7 f9 d9)) (qP (dC, dI) cI cL cZ cR cG cH L) (fun q => q ∈ L)) [.ref o0, .int p1].toArray s 0 0 (fun q => q ∈ L)) (F0 m 14 ls [.int y_123]) := by
    intro y_123 by_123 ls hl
    refine lv_istore_n (lv' := [(2, .int y_123), (0, .ref o0), (1, .int p1)]) hx hb dX12_item_14 rfl hl (by decide) rfl (fun ls hl => ?_)
    refine lv_aload_n hx hb dX12_item_15 rfl (lv_at hl 1 rfl) ?_
    refine tk_ViP (As := []) (rest := []) (n := 0) hx hb hml hown hU hN hZ (s_X12_takesX_k12 l (dC, dI) cI cL cZ cR cG cH Z kd L f_59 hG o0 mo0 ko0) wd_650 wd_651 wd_652 wd_5 wd_653 (by decide +kernel) ⟨Nat.le_of_ble_eq_true rfl, Nat.le_of_ble_eq_true rfl⟩ hK hP hD hS mo0 hfo_65 12 rfl rfl rfl hl.1 rfl (Nat.le_of_ble_eq_true rfl) dX12_item_16 ⟨Nat.le_of_ble_eq_true rfl, Nat.le_of_ble_eq_true rfl⟩ (fun x_125 f_126 H locs hw hP hD hS => ?_)
    obtain ⟨hG, bx_125, hkc_127, hra_128, hfa_129, hpost_130⟩ := hw
    have hfr0 : ∀ b, kd b ≠ 12 → kd b ≠ 576 → f_126 b = f b := fun b q12 q576 => (hkc_127 b q12).trans (hfr0 b q12 q576)
    have hrA12 : ∀ b, kd b = 12 → ∀ j, fldR (f_126 b) j = fldR (f b) j := fun b kb j => (hra_128 b kb j).trans (hrA12 b kb j)
    have hfA12 : ∀ b, kd b = 12 → ∀ j, j ≠ 6 → j ≠ 7 → j ≠ 8 → j ≠ 14 → fldI (f_126 b) j = fldI (f b) j := fun b kb j n6 n7 n8 n14 => (hfa_129 b kb j n6 n7 n8 n14).trans (hfA12 b kb j n6 n7 n8 n14)
    have hT0 : frel kd 576 7 f_126 a_3 := hT0.keep (fun b q => hkc_127 b (by rw [q]; decide))
    obtain ⟨a_133, a_134, a_135, v_136, a_137, v_138, v_139, v_140, v_141, v_142, v_143, v_144, v_145, v_146, v_147, a_148, a_149, a_150, a_151, a_152, a_153, a_154, a_155, v_156, v_157, v_158, v_159, v_160, a_161, v_162, a_163, a_164, v_165, v_166, a_167, v_168, a_169, a_170, v_171, v_172, a_173, a_174, a_175, v_176, a_177, a_178, a_179, a_180, a_181, a_182, a_183, a_184, a_185, v_186, v_187, a_188, hfo_132, ⟨ma_133, ka_133⟩, ⟨ma_134, ka_134⟩, ⟨ma_135, ka_135⟩, bv_136, ⟨ma_137, ka_137⟩, bv_138, bv_139, bv_144, bv_145, bv_146, ⟨ma_148, ka_148⟩, ⟨ma_149, ka_149⟩, ⟨ma_150, ka_150⟩, ⟨ma_151, ka_151⟩, ⟨ma_152, ka_152⟩, ⟨ma_153, ka_153⟩, ⟨ma_154, ka_154⟩, ⟨ma_155, ka_155⟩, bv_156, bv_158, bv_160, ⟨ma_161, ka_161⟩, bv_162, ⟨ma_163, ka_163⟩, ⟨ma_164, ka_164⟩, bv_165, ⟨ma_167, ka_167⟩, bv_168, ⟨ma_169, ka_169⟩, ⟨ma_170, ka_170⟩, bv_171, ⟨ma_173, ka_173⟩, ⟨ma_174, ka_174⟩, ⟨ma_175, ka_175⟩, bv_176, ⟨ma_177, ka_177⟩, ⟨ma_178, ka_178⟩, ⟨ma_179, ka_179⟩, ⟨ma_180, ka_180⟩, ⟨ma_181, ka_181⟩, ⟨ma_182, ka_182⟩, ⟨ma_183, ka_183⟩, ⟨ma_184, ka_184⟩, ⟨ma_185, ka_185⟩, bv_186, ⟨ma_188, ka_188⟩⟩ := un_12 (hG _ mo0) ko0
    have bv_140 : ((-2147483648) ≤ v_140.toInt ∧ v_140.toInt ≤ 2147483647) := ⟨i32_lo _, i32_hi _⟩
    have bv_141 : ((-2147483648) ≤ v_141.toInt ∧ v_141.toInt ≤ 2147483647) := ⟨i32_lo _, i32_hi _⟩
    have bv_142 : ((-2147483648) ≤ v_142.toInt ∧ v_142.toInt ≤ 2147483647) := ⟨i32_lo _, i32_hi _⟩
    have bv_143 : ((-2147483648) ≤ v_143.toInt ∧ v_143.toInt ≤ 2147483647) := ⟨i32_lo _, i32_hi _⟩
    have bv_147 : ((-2147483648) ≤ v_147.toInt ∧ v_147.toInt ≤ 2147483647) := ⟨i32_lo _, i32_hi _⟩
    have bv_157 : ((-2147483648) ≤ v_157.toInt ∧ v_157.toInt ≤ 2147483647) := ⟨i32_lo _, i32_hi _⟩
    have bv_159 : ((-2147483648) ≤ v_159.toInt ∧ v_159.toInt ≤ 2147483647) := ⟨i32_lo _, i32_hi _⟩
    have bv_166 : ((-2147483648) ≤ v_166.toInt ∧ v_166.toInt ≤ 2147483647) := ⟨i32_lo _, i32_hi _⟩
    have bv_172 : ((-2147483648) ≤ v_172.toInt ∧ v_172.toInt ≤ 2147483647) := ⟨i32_lo _, i32_hi _⟩
    have bv_187 : ((-2147483648) ≤ v_187.toInt ∧ v_187.toInt ≤ 2147483647) := ⟨i32_lo _, i32_hi _⟩
    obtain ⟨rfl, rfl, rfl, rfl, rfl, rfl, rfl, rfl, rfl, rfl, rfl, rfl, rfl, rfl, rfl, rfl, rfl, rfl, rfl, rfl, rfl, rfl, rfl, rfl, rfl, rfl, rfl, rfl, rfl, rfl, rfl⟩ := re_12 hfo_1 hfo_132 (hrA12 o0 ko0)
    obtain rfl := ri_12_3 hfo_1 hfo_132 (hfA12 o0 ko0 3 (by decide) (by decide) (by decide) (by decide))
    obtain rfl := ri_12_5 hfo_1 hfo_132 (hfA12 o0 ko0 5 (by decide) (by decide) (by decide) (by decide))
    obtain rfl := ri_12_11 hfo_1 hfo_132 (hfA12 o0 ko0 11 (by decide) (by decide) (by decide) (by decide))
    obtain rfl := ri_12_12 hfo_1 hfo_132 (hfA12 o0 ko0 12 (by decide) (by decide) (by decide) (by decide))
    obtain rfl := ri_12_13 hfo_1 hfo_132 (hfA12 o0 ko0 13 (by decide) (by decide) (by decide) (by decide))
    obtain rfl := ri_12_23 hfo_1 hfo_132 (hfA12 o0 ko0 23 (by decide) (by decide) (by decide) (by decide))
    obtain rfl := ri_12_25 hfo_1 hfo_132 (hfA12 o0 ko0 25 (by decide) (by decide) (by decide) (by decide))
    obtain rfl := ri_12_27 hfo_1 hfo_132 (hfA12 o0 ko0 27 (by decide) (by decide) (by decide) (by decide))
    obtain rfl := ri_12_29 hfo_1 hfo_132 (hfA12 o0 ko0 29 (by decide) (by decide) (by decide) (by decide))
    obtain rfl := ri_12_32 hfo_1 hfo_132 (hfA12 o0 ko0 32 (by decide) (by decide) (by decide) (by decide))
    obtain rfl := ri_12_33 hfo_1 hfo_132 (hfA12 o0 ko0 33 (by decide) (by decide) (by decide) (by decide))
    obtain rfl := ri_12_35 hfo_1 hfo_132 (hfA12 o0 ko0 35 (by decide) (by decide) (by decide) (by decide))
    obtain rfl := ri_12_38 hfo_1 hfo_132 (hfA12 o0 ko0 38 (by decide) (by decide) (by decide) (by decide))
    obtain rfl := ri_12_43 hfo_1 hfo_132 (hfA12 o0 ko0 43 (by decide) (by decide) (by decide) (by decide))
    obtain rfl := ri_12_53 hfo_1 hfo_132 (hfA12 o0 ko0 53 (by decide) (by decide) (by decide) (by decide))
    have hqhpost_130 := hpost_130 v_72 v_139 (by rw [hfo_65]; rfl) (by rw [hfo_132]; rfl)
    have hMm_189 : ∀ z9, fldI (f_126 o0) 6 = some z9 → v_8.toInt ≤ z9.toInt := fun z9 h9 => by rw [hfo_132] at h9; obtain rfl := Option.some.inj h9; have h8 := hMm_122 v_72 (by rw [hfo_65]; rfl); omega
    refine lv_if_ne (tgt := 24) hx hb dX12_item_19 (by decide) (fun c_190 => ?_) (fun c_190 => ?_)
    · skip
      rw [← Int32.toInt_inj, ti_0] at c_190
      refine lv_aload_n hx hb dX12_item_24 rfl (lv_at hl 1 rfl) ?_
      refine tk_getP (D := (dC, dI)) (ci := 12) (v := .ref a_3) (C := RX12) (T := TX12) (N := 56) hx hb hU inlX12 hown hK hP mo0 hfo_132 rfl 1 (by decide) (hU _ wd_170) (fun _ h9 => h9) rfl dX12_item_25 ?_
      refine lv_iload_n hx hb dX12_item_28 rfl (lv_at hl 2 rfl) ?_
      refine lv_aload_n hx hb dX12_item_29 rfl (lv_at hl 1 rfl) ?_
      refine tk_getP (D := (dC, dI)) (ci := 12) (v := .int v_147) (C := RX12) (T := TX12) (N := 56) hx hb hU inlX12 hown hK hP mo0 hfo_132 rfl 14 (by decide) (hU _ wd_654) (fun _ h9 => h9) rfl dX12_item_30 ?_
      obtain ⟨g_192, hfo_191, hbg_192⟩ := un_576 (hG _ ma_3) ka_3
      refine tk_istP hx hb hK hP hD hS 0 ma_3 hfo_191 rfl (vp_in_iff.mpr (by constructor <;> omega)) dX12_item_33 (fun H locs hP hD hS => ?_)
      have hc9 := cl_I (i := p1) (by omega)
      obtain ⟨g_193, eqg_193⟩ : ∃ y : Nat → Int32, y = upd g_192 (Int32.toNatClampNeg p1) v_147 := ⟨_, rfl⟩
      rw [← eqg_193] at hP hD
      have hbg_193 : wOK g_193 := by rw [eqg_193]; exact ⟨hbg_192.1.up (fun h1 h2 h3 => by exfalso; omega), hbg_192.2.1.up (fun h1 h2 h3 => by exfalso; omega), hbg_192.2.2.1.up (fun h1 h2 h3 => by exfalso; omega), hbg_192.2.2.2.1.up (fun h1 h2 h3 => by exfalso; omega), hbg_192.2.2.2.2.1.up (fun h1 h2 h3 => by exfalso; omega), hbg_192.2.2.2.2.2.1.up (fun h1 h2 h3 => by exfalso; omega), hbg_192.2.2.2.2.2.2.1.up (fun h1 h2 h3 => by exfalso; omega), hbg_192.2.2.2.2.2.2.2.1.up (fun h1 h2 h3 => by exfalso; omega), hbg_192.2.2.2.2.2.2.2.2.1.up (fun h1 h2 h3 => by exfalso; omega), hbg_192.2.2.2.2.2.2.2.2.2.1.up (fun h1 h2 h3 => by exfalso; omega), hbg_192.2.2.2.2.2.2.2.2.2.2.1.up (fun h1 h2 h3 => by exfalso; omega), hbg_192.2.2.2.2.2.2.2.2.2.2.2.1.up (fun h1 h2 h3 => by exfalso; omega), hbg_192.2.2.2.2.2.2.2.2.2.2.2.2.1.up (fun h1 h2 h3 => by exfalso; omega), hbg_192.2.2.2.2.2.2.2.2.2.2.2.2.2.1.up (fun h1 h2 h3 => by exfalso; omega), hbg_192.2.2.2.2.2.2.2.2.2.2.2.2.2.2.1.up (fun h1 h2 h3 => by exfalso; omega), hbg_192.2.2.2.2.2.2.2.2.2.2.2.2.2.2.2.up (fun h1 h2 h3 => by exfalso; omega)⟩
      obtain ⟨f_195, ef_195⟩ : ∃ y : Nat → va_E, y = va_up f_126 a_3 (.inl (cI, 1560, .inl g_193)) := ⟨_, rfl⟩
      have hP : va_P (dC, dI) vwCl (va_pl L f_195) H := by rw [ef_195]; exact hP
      have hD : va_D (fun q => q ∈ L) (va_pl L f_195) := by rw [ef_195]; exact hD
      have hG : GI (okc cI cL cZ cR cG cH L kd) kd L f_195 := by rw [ef_195]; exact hG.set a_3 (mk_576 ka_3 ⟨_, rfl, hbg_193⟩)
      have hfo_196 : f_195 o0 = .inr (12, [.ref a_2, .ref a_3, .ref a_4, .int v_5, .ref a_6, .int v_7, .int v_139, .int v_140, .int v_141, .int v_142, .int v_143, .int v_13, .int v_14, .int v_15, .int v_147, .ref a_17, .ref a_18, .ref a_19, .ref a_20, .ref a_21, .ref a_22, .ref a_23, .ref a_24, .int v_25, .int v_157, .int v_27, .int v_159, .int v_29, .ref a_30, .int v_31, .ref a_32, .ref a_33, .int v_34, .int v_35, .ref a_36, .int v_37, .ref a_38, .ref a_39, .int v_40, .int v_172, .ref a_42, .ref a_43, .ref a_44, .int v_45, .ref a_46, .ref a_47, .ref a_48, .ref a_49, .ref a_50, .ref a_51, .ref a_52, .ref a_53, .ref a_54, .int v_55, .int v_187, .ref a_57]) := by rw [ef_195, up_ne (kd_ne ka_3 ko0 (by decide))]; exact hfo_132
      have hfr0 : ∀ b, kd b ≠ 12 → kd b ≠ 576 → f_195 b = f b := fun b q12 q576 => (congrFun ef_195 b).trans ((up_ne (fun e9 => q576 (by rw [e9]; exact ka_3))).trans (hfr0 b q12 q576))
      have hrA12 : ∀ b, kd b = 12 → ∀ j, fldR (f_195 b) j = fldR (f b) j := fun b kb j => (congrArg (fun x => fldR x j) ((congrFun ef_195 b).trans (up_ne (kd_ne ka_3 kb (by decide))))).trans (hrA12 b kb j)
      have hfA12 : ∀ b, kd b = 12 → ∀ j, j ≠ 6 → j ≠ 7 → j ≠ 8 → j ≠ 14 → fldI (f_195 b) j = fldI (f b) j := fun b kb j n6 n7 n8 n14 => (congrArg (fun x => fldI x j) ((congrFun ef_195 b).trans (up_ne (kd_ne ka_3 kb (by decide))))).trans (hfA12 b kb j n6 n7 n8 n14)
      have hT0 : frel kd 576 7 f_195 a_3 := by rw [ef_195]; exact frel.mk ka_3 up_self (by rw [eqg_193]; exact (hT0.get hfo_191).up (hbg_192.2.1 16 (by decide) (by decide) (by decide)).2 (by omega) (by omega) (by omega) (fun h9 => by exfalso; omega))
      have hMm_189 : ∀ z9, fldI (f_195 o0) 6 = some z9 → v_8.toInt ≤ z9.toInt := by rw [ef_195]; exact (fun z9 h9 => hMm_189 z9 (by rw [up_ne (kd_ne ka_3 ko0 (by decide))] at h9; exact h9))
      have hfo_197 : f_195 a_3 = .inl (cI, 1560, .inl g_193) := by rw [ef_195]; exact up_self
      have ql_198 : v_147 = g_193 (Int32.toNatClampNeg p1) := by rw [eqg_193, pk_us]
      refine lv_aload_n hx hb dX12_item_34 rfl (lv_at hl 1 rfl) ?_
      refine tk_getP (D := (dC, dI)) (ci := 12) (v := .ref a_3) (C := RX12) (T := TX12) (N := 56) hx hb hU inlX12 hown hK hP mo0 hfo_196 rfl 1 (by decide) (hU _ wd_170) (fun _ h9 => h9) rfl dX12_item_35 ?_
      refine lv_iload_n hx hb dX12_item_38 rfl (lv_at hl 2 rfl) ?_
      refine lv_iconst (v := 1) hx hb dX12_item_39 (by decide) ?_
      refine lv_iadd hx hb dX12_item_40 ?_
      refine lv_topi (fun x_199 ex_199 => ?_)
      have hx_199 : x_199.toInt = p1.toInt + 1 := by rw [ex_199, ad_I (by rw [ti_1]; omega) (by rw [ti_1]; omega), ti_1]
      have bx_199 : (601 ≤ x_199.toInt ∧ x_199.toInt ≤ 1557) := by constructor <;> omega
      refine lv_aload_n hx hb dX12_item_41 rfl (lv_at hl 1 rfl) ?_
      refine tk_getP (D := (dC, dI)) (ci := 12) (v := .int v_147) (C := RX12) (T := TX12) (N := 56) hx hb hU inlX12 hown hK hP mo0 hfo_196 rfl 14 (by decide) (hU _ wd_654) (fun _ h9 => h9) rfl dX12_item_42 ?_
      refine tk_istP hx hb hK hP hD hS 0 ma_3 hfo_197 rfl (vp_in_iff.mpr (by constructor <;> omega)) dX12_item_45 (fun H locs hP hD hS => ?_)
      have hc9 := cl_I (i := x_199) (by omega)
      obtain ⟨g_200, eqg_200⟩ : ∃ y : Nat → Int32, y = upd g_193 (Int32.toNatClampNeg x_199) v_147 := ⟨_, rfl⟩
      rw [← eqg_200] at hP hD
      have hbg_200 : wOK g_200 := by rw [eqg_200]; exact ⟨hbg_193.1.up (fun h1 h2 h3 => by exfalso; omega), hbg_193.2.1.up (fun h1 h2 h3 => by exfalso; omega), hbg_193.2.2.1.up (fun h1 h2 h3 => by exfalso; omega), hbg_193.2.2.2.1.up (fun h1 h2 h3 => by exfalso; omega), hbg_193.2.2.2.2.1.up (fun h1 h2 h3 => by exfalso; omega), hbg_193.2.2.2.2.2.1.up (fun h1 h2 h3 => by exfalso; omega), hbg_193.2.2.2.2.2.2.1.up (fun h1 h2 h3 => by exfalso; omega), hbg_193.2.2.2.2.2.2.2.1.up (fun h1 h2 h3 => by exfalso; omega), hbg_193.2.2.2.2.2.2.2.2.1.up (fun h1 h2 h3 => by exfalso; omega), hbg_193.2.2.2.2.2.2.2.2.2.1.up (fun h1 h2 h3 => by exfalso; omega), hbg_193.2.2.2.2.2.2.2.2.2.2.1.up (fun h1 h2 h3 => by exfalso; omega), hbg_193.2.2.2.2.2.2.2.2.2.2.2.1.up (fun h1 h2 h3 => by exfalso; omega), hbg_193.2.2.2.2.2.2.2.2.2.2.2.2.1.up (fun h1 h2 h3 => by exfalso; omega), hbg_193.2.2.2.2.2.2.2.2.2.2.2.2.2.1.up (fun h1 h2 h3 => by exfalso; omega), hbg_193.2.2.2.2.2.2.2.2.2.2.2.2.2.2.1.up (fun h1 h2 h3 => by exfalso; omega), hbg_193.2.2.2.2.2.2.2.2.2.2.2.2.2.2.2.up (fun h1 h2 h3 => by exfalso; omega)⟩
      obtain ⟨f_202, ef_202⟩ : ∃ y : Nat → va_E, y = va_up f_195 a_3 (.inl (cI, 1560, .inl g_200)) := ⟨_, rfl⟩
      have hP : va_P (dC, dI) vwCl (va_pl L f_202) H := by rw [ef_202]; exact hP
      have hD : va_D (fun q => q ∈ L) (va_pl L f_202) := by rw [ef_202]; exact hD
      have hG : GI (okc cI cL cZ cR cG cH L kd) kd L f_202 := by rw [ef_202]; exact hG.set a_3 (mk_576 ka_3 ⟨_, rfl, hbg_200⟩)
      have hfo_203 : f_202 o0 = .inr (12, [.ref a_2, .ref a_3, .ref a_4, .int v_5, .ref a_6, .int v_7, .int v_139, .int v_140, .int v_141, .int v_142, .int v_143, .int v_13, .int v_14, .int v_15, .int v_147, .ref a_17, .ref a_18, .ref a_19, .ref a_20, .ref a_21, .ref a_22, .ref a_23, .ref a_24, .int v_25, .int v_157, .int v_27, .int v_159, .int v_29, .ref a_30, .int v_31, .ref a_32, .ref a_33, .int v_34, .int v_35, .ref a_36, .int v_37, .ref a_38, .ref a_39, .int v_40, .int v_172, .ref a_42, .ref a_43, .ref a_44, .int v_45, .ref a_46, .ref a_47, .ref a_48, .ref a_49, .ref a_50, .ref a_51, .ref a_52, .ref a_53, .ref a_54, .int v_55, .int v_187, .ref a_57]) := by rw [ef_202, up_ne (kd_ne ka_3 ko0 (by decide))]; exact hfo_196
      have hfr0 : ∀ b, kd b ≠ 12 → kd b ≠ 576 → f_202 b = f b := fun b q12 q576 => (congrFun ef_202 b).trans ((up_ne (fun e9 => q576 (by rw [e9]; exact ka_3))).trans (hfr0 b q12 q576))
      have hrA12 : ∀ b, kd b = 12 → ∀ j, fldR (f_202 b) j = fldR (f b) j := fun b kb j => (congrArg (fun x => fldR x j) ((congrFun ef_202 b).trans (up_ne (kd_ne ka_3 kb (by decide))))).trans (hrA12 b kb j)
      have hfA12 : ∀ b, kd b = 12 → ∀ j, j ≠ 6 → j ≠ 7 → j ≠ 8 → j ≠ 14 → fldI (f_202 b) j = fldI (f b) j := fun b kb j n6 n7 n8 n14 => (congrArg (fun x => fldI x j) ((congrFun ef_202 b).trans (up_ne (kd_ne ka_3 kb (by decide))))).trans (hfA12 b kb j n6 n7 n8 n14)
      have hT0 : frel kd 576 7 f_202 a_3 := by rw [ef_202]; exact frel.mk ka_3 up_self (by rw [eqg_200]; exact (hT0.get hfo_197).up (hbg_193.2.1 16 (by decide) (by decide) (by decide)).2 (by omega) (by omega) (by omega) (fun h9 => by exfalso; omega))
      have hMm_189 : ∀ z9, fldI (f_202 o0) 6 = some z9 → v_8.toInt ≤ z9.toInt := by rw [ef_202]; exact (fun z9 h9 => hMm_189 z9 (by rw [up_ne (kd_ne ka_3 ko0 (by decide))] at h9; exact h9))
      have hfo_204 : f_202 a_3 = .inl (cI, 1560, .inl g_200) := by rw [ef_202]; exact up_self
      have ql_205 : v_147 = g_200 (Int32.toNatClampNeg x_199) := by rw [eqg_200, pk_us]
      refine lv_aload_n hx hb dX12_item_46 rfl (lv_at hl 1 rfl) ?_
      refine tk_getP (D := (dC, dI)) (ci := 12) (v := .ref a_3) (C := RX12) (T := TX12) (N := 56) hx hb hU inlX12 hown hK hP mo0 hfo_203 rfl 1 (by decide) (hU _ wd_170) (fun _ h9 => h9) rfl dX12_item_47 ?_
      refine lv_iload_n hx hb dX12_item_50 rfl (lv_at hl 2 rfl) ?_
      refine lv_iconst (v := 2) hx hb dX12_item_51 (by decide) ?_
      refine lv_iadd hx hb dX12_item_52 ?_
      refine lv_topi (fun x_206 ex_206 => ?_)
      have hx_206 : x_206.toInt = p1.toInt + 2 := by rw [ex_206, ad_I (by rw [ti_2]; omega) (by rw [ti_2]; omega), ti_2]
      have bx_206 : (602 ≤ x_206.toInt ∧ x_206.toInt ≤ 1558) := by constructor <;> omega
      refine lv_iload_n hx hb dX12_item_53 rfl (lv_at hl 0 rfl) ?_
      have hcut_208 : ∀ (y_207 : Int32), (0 ≤ y_207.toInt ∧ y_207.toInt ≤ 1) → ∀ (ls : Array Slot), lv_has ls 3 [(2, .int y_123), (0, .ref o0), (1, .int p1)] → W p l e (headSpec (wU yX12_item cX12_item 3 (some .boolean)) { frames := 4, cells := 0, slots := 0, locals := 83 }).room s m [.ref o0, .int p1].toArray below meth c H locs 0 0 (MQ below (va_Qi (fun (r : Int32) (f9 : Nat → va_E) => GI (okc cI cL cZ cR cG cH L kd) kd L f9 ∧ (0 ≤ r.toInt ∧ r.toInt ≤ 1) ∧ (∀ b, kd b ≠ 12 → kd b ≠ 576 → f9 b = f b) ∧ (∀ b, kd b = 12 → ∀ j, fldR (f9 b) j = fldR (f b) j) ∧ (∀ b, kd b = 12 → ∀ j, j ≠ 6 → j ≠ 7 → j ≠ 8 → j ≠ 14 → fldI (f9 b) j = fldI (f b) j) ∧ (∀ (w6 z6 : Int32), fldI (f o0) 6 = some w6 → fldI (f9 o0) 6 = some z6 → w6.toInt ≤ z6.toInt) ∧ (∀ d9, fldR (f9 o0) 1 = some d9 → frel kd 576 7 f9 d9)) (qP (dC, dI) cI cL cZ cR cG cH L) (fun q => q ∈ L)) [.ref o0, .int p1].toArray s 0 0 (fun q => q ∈ L)) (F0 m 62 ls [.int y_207, .int x_206, .ref a_3]) := by
        intro y_207 by_207 ls hl
        refine tk_istP hx hb hK hP hD hS 0 ma_3 hfo_204 rfl (vp_in_iff.mpr (by constructor <;> omega)) dX12_item_62 (fun H locs hP hD hS => ?_)
        have hc9 := cl_I (i := x_206) (by omega)
        obtain ⟨g_209, eqg_209⟩ : ∃ y : Nat → Int32, y = upd g_200 (Int32.toNatClampNeg x_206) y_207 := ⟨_, rfl⟩
        rw [← eqg_209] at hP hD
        have hbg_209 : wOK g_209 := by rw [eqg_209]; exact ⟨hbg_200.1.up (fun h1 h2 h3 => by exfalso; omega), hbg_200.2.1.up (fun h1 h2 h3 => by exfalso; omega), hbg_200.2.2.1.up (fun h1 h2 h3 => by exfalso; omega), hbg_200.2.2.2.1.up (fun h1 h2 h3 => by exfalso; omega), hbg_200.2.2.2.2.1.up (fun h1 h2 h3 => by exfalso; omega), hbg_200.2.2.2.2.2.1.up (fun h1 h2 h3 => by exfalso; omega), hbg_200.2.2.2.2.2.2.1.up (fun h1 h2 h3 => by exfalso; omega), hbg_200.2.2.2.2.2.2.2.1.up (fun h1 h2 h3 => by exfalso; omega), hbg_200.2.2.2.2.2.2.2.2.1.up (fun h1 h2 h3 => by exfalso; omega), hbg_200.2.2.2.2.2.2.2.2.2.1.up (fun h1 h2 h3 => by exfalso; omega), hbg_200.2.2.2.2.2.2.2.2.2.2.1.up (fun h1 h2 h3 => by exfalso; omega), hbg_200.2.2.2.2.2.2.2.2.2.2.2.1.up (fun h1 h2 h3 => by exfalso; omega), hbg_200.2.2.2.2.2.2.2.2.2.2.2.2.1.up (fun h1 h2 h3 => by exfalso; omega), hbg_200.2.2.2.2.2.2.2.2.2.2.2.2.2.1.up (fun h1 h2 h3 => by exfalso; omega), hbg_200.2.2.2.2.2.2.2.2.2.2.2.2.2.2.1.up (fun h1 h2 h3 => by exfalso; omega), hbg_200.2.2.2.2.2.2.2.2.2.2.2.2.2.2.2.up (fun h1 h2 h3 => by exfalso; omega)⟩
        obtain ⟨f_211, ef_211⟩ : ∃ y : Nat → va_E, y = va_up f_202 a_3 (.inl (cI, 1560, .inl g_209)) := ⟨_, rfl⟩
        have hP : va_P (dC, dI) vwCl (va_pl L f_211) H := by rw [ef_211]; exact hP
        have hD : va_D (fun q => q ∈ L) (va_pl L f_211) := by rw [ef_211]; exact hD
        have hG : GI (okc cI cL cZ cR cG cH L kd) kd L f_211 := by rw [ef_211]; exact hG.set a_3 (mk_576 ka_3 ⟨_, rfl, hbg_209⟩)
        have hfo_212 : f_211 o0 = .inr (12, [.ref a_2, .ref a_3, .ref a_4, .int v_5, .ref a_6, .int v_7, .int v_139, .int v_140, .int v_141, .int v_142, .int v_143, .int v_13, .int v_14, .int v_15, .int v_147, .ref a_17, .ref a_18, .ref a_19, .ref a_20, .ref a_21, .ref a_22, .ref a_23, .ref a_24, .int v_25, .int v_157, .int v_27, .int v_159, .int v_29, .ref a_30, .int v_31, .ref a_32, .ref a_33, .int v_34, .int v_35, .ref a_36, .int v_37, .ref a_38, .ref a_39, .int v_40, .int v_172, .ref a_42, .ref a_43, .ref a_44, .int v_45, .ref a_46, .ref a_47, .ref a_48, .ref a_49, .ref a_50, .ref a_51, .ref a_52, .ref a_53, .ref a_54, .int v_55, .int v_187, .ref a_57]) := by rw [ef_211, up_ne (kd_ne ka_3 ko0 (by decide))]; exact hfo_203
        have hfr0 : ∀ b, kd b ≠ 12 → kd b ≠ 576 → f_211 b = f b := fun b q12 q576 => (congrFun ef_211 b).trans ((up_ne (fun e9 => q576 (by rw [e9]; exact ka_3))).trans (hfr0 b q12 q576))
        have hrA12 : ∀ b, kd b = 12 → ∀ j, fldR (f_211 b) j = fldR (f b) j := fun b kb j => (congrArg (fun x => fldR x j) ((congrFun ef_211 b).trans (up_ne (kd_ne ka_3 kb (by decide))))).trans (hrA12 b kb j)
        have hfA12 : ∀ b, kd b = 12 → ∀ j, j ≠ 6 → j ≠ 7 → j ≠ 8 → j ≠ 14 → fldI (f_211 b) j = fldI (f b) j := fun b kb j n6 n7 n8 n14 => (congrArg (fun x => fldI x j) ((congrFun ef_211 b).trans (up_ne (kd_ne ka_3 kb (by decide))))).trans (hfA12 b kb j n6 n7 n8 n14)
        have hT0 : frel kd 576 7 f_211 a_3 := by rw [ef_211]; exact frel.mk ka_3 up_self (by rw [eqg_209]; exact (hT0.get hfo_204).up (hbg_200.2.1 16 (by decide) (by decide) (by decide)).2 (by omega) (by omega) (by omega) (fun h9 => by exfalso; omega))
        have hMm_189 : ∀ z9, fldI (f_211 o0) 6 = some z9 → v_8.toInt ≤ z9.toInt := by rw [ef_211]; exact (fun z9 h9 => hMm_189 z9 (by rw [up_ne (kd_ne ka_3 ko0 (by decide))] at h9; exact h9))
        have hfo_213 : f_211 a_3 = .inl (cI, 1560, .inl g_209) := by rw [ef_211]; exact up_self
        have ql_214 : y_207 = g_209 (Int32.toNatClampNeg x_206) := by rw [eqg_209, pk_us]
        refine lv_aload_n hx hb dX12_item_63 rfl (lv_at hl 1 rfl) ?_
        refine tk_ViP (As := []) (rest := []) (n := 0) hx hb hml hown hU hN hZ (s_X12_sign_k12 l (dC, dI) cI cL cZ cR cG cH Z kd L f_211 hG o0 mo0 ko0) wd_573 wd_574 wd_575 wd_5 wd_576 (by decide +kernel) ⟨Nat.le_of_ble_eq_true rfl, Nat.le_of_ble_eq_true rfl⟩ hK hP hD hS mo0 hfo_212 12 rfl rfl rfl hl.1 rfl (Nat.le_of_ble_eq_true rfl) dX12_item_64 ⟨Nat.le_of_ble_eq_true rfl, Nat.le_of_ble_eq_true rfl⟩ (fun x_215 f_216 H locs hw hP hD hS => ?_)
        obtain ⟨hG, bx_215, hkc_217, hra_218, hfa_219, hpost_220⟩ := hw
        have hfo_222 : f_216 a_3 = .inl (cI, 1560, .inl g_209) := by rw [hkc_217 a_3 (by rw [ka_3]; decide)]; exact hfo_213
        have hfr0 : ∀ b, kd b ≠ 12 → kd b ≠ 576 → f_216 b = f b := fun b q12 q576 => (hkc_217 b q12).trans (hfr0 b q12 q576)
        have hrA12 : ∀ b, kd b = 12 → ∀ j, fldR (f_216 b) j = fldR (f b) j := fun b kb j => (hra_218 b kb j).trans (hrA12 b kb j)
        have hfA12 : ∀ b, kd b = 12 → ∀ j, j ≠ 6 → j ≠ 7 → j ≠ 8 → j ≠ 14 → fldI (f_216 b) j = fldI (f b) j := fun b kb j n6 n7 n8 n14 => (hfa_219 b kb j n6).trans (hfA12 b kb j n6 n7 n8 n14)
        have hT0 : frel kd 576 7 f_216 a_3 := hT0.keep (fun b q => hkc_217 b (by rw [q]; decide))
        obtain ⟨a_224, a_225, a_226, v_227, a_228, v_229, v_230, v_231, v_232, v_233, v_234, v_235, v_236, v_237, v_238, a_239, a_240, a_241, a_242, a_243, a_244, a_245, a_246, v_247, v_248, v_249, v_250, v_251, a_252, v_253, a_254, a_255, v_256, v_257, a_258, v_259, a_260, a_261, v_262, v_263, a_264, a_265, a_266, v_267, a_268, a_269, a_270, a_271, a_272, a_273, a_274, a_275, a_276, v_277, v_278, a_279, hfo_223, ⟨ma_224, ka_224⟩, ⟨ma_225, ka_225⟩, ⟨ma_226, ka_226⟩, bv_227, ⟨ma_228, ka_228⟩, bv_229, bv_230, bv_235, bv_236, bv_237, ⟨ma_239, ka_239⟩, ⟨ma_240, ka_240⟩, ⟨ma_241, ka_241⟩, ⟨ma_242, ka_242⟩, ⟨ma_243, ka_243⟩, ⟨ma_244, ka_244⟩, ⟨ma_245, ka_245⟩, ⟨ma_246, ka_246⟩, bv_247, bv_249, bv_251, ⟨ma_252, ka_252⟩, bv_253, ⟨ma_254, ka_254⟩, ⟨ma_255, ka_255⟩, bv_256, ⟨ma_258, ka_258⟩, bv_259, ⟨ma_260, ka_260⟩, ⟨ma_261, ka_261⟩, bv_262, ⟨ma_264, ka_264⟩, ⟨ma_265, ka_265⟩, ⟨ma_266, ka_266⟩, bv_267, ⟨ma_268, ka_268⟩, ⟨ma_269, ka_269⟩, ⟨ma_270, ka_270⟩, ⟨ma_271, ka_271⟩, ⟨ma_272, ka_272⟩, ⟨ma_273, ka_273⟩, ⟨ma_274, ka_274⟩, ⟨ma_275, ka_275⟩, ⟨ma_276, ka_276⟩, bv_277, ⟨ma_279, ka_279⟩⟩ := un_12 (hG _ mo0) ko0
        have bv_231 : ((-2147483648) ≤ v_231.toInt ∧ v_231.toInt ≤ 2147483647) := ⟨i32_lo _, i32_hi _⟩
        have bv_232 : ((-2147483648) ≤ v_232.toInt ∧ v_232.toInt ≤ 2147483647) := ⟨i32_lo _, i32_hi _⟩
        have bv_233 : ((-2147483648) ≤ v_233.toInt ∧ v_233.toInt ≤ 2147483647) := ⟨i32_lo _, i32_hi _⟩
        have bv_234 : ((-2147483648) ≤ v_234.toInt ∧ v_234.toInt ≤ 2147483647) := ⟨i32_lo _, i32_hi _⟩
        have bv_238 : ((-2147483648) ≤ v_238.toInt ∧ v_238.toInt ≤ 2147483647) := ⟨i32_lo _, i32_hi _⟩
        have bv_248 : ((-2147483648) ≤ v_248.toInt ∧ v_248.toInt ≤ 2147483647) := ⟨i32_lo _, i32_hi _⟩
        have bv_250 : ((-2147483648) ≤ v_250.toInt ∧ v_250.toInt ≤ 2147483647) := ⟨i32_lo _, i32_hi _⟩
        have bv_257 : ((-2147483648) ≤ v_257.toInt ∧ v_257.toInt ≤ 2147483647) := ⟨i32_lo _, i32_hi _⟩
        have bv_263 : ((-2147483648) ≤ v_263.toInt ∧ v_263.toInt ≤ 2147483647) := ⟨i32_lo _, i32_hi _⟩
        have bv_278 : ((-2147483648) ≤ v_278.toInt ∧ v_278.toInt ≤ 2147483647) := ⟨i32_lo _, i32_hi _⟩
        obtain ⟨rfl, rfl, rfl, rfl, rfl, rfl, rfl, rfl, rfl, rfl, rfl, rfl, rfl, rfl, rfl, rfl, rfl, rfl, rfl, rfl, rfl, rfl, rfl, rfl, rfl, rfl, rfl, rfl, rfl, rfl, rfl⟩ := re_12 hfo_1 hfo_223 (hrA12 o0 ko0)
        obtain rfl := ri_12_3 hfo_1 hfo_223 (hfA12 o0 ko0 3 (by decide) (by decide) (by decide) (by decide))
        obtain rfl := ri_12_5 hfo_1 hfo_223 (hfA12 o0 ko0 5 (by decide) (by decide) (by decide) (by decide))
        obtain rfl := ri_12_11 hfo_1 hfo_223 (hfA12 o0 ko0 11 (by decide) (by decide) (by decide) (by decide))
        obtain rfl := ri_12_12 hfo_1 hfo_223 (hfA12 o0 ko0 12 (by decide) (by decide) (by decide) (by decide))
        obtain rfl := ri_12_13 hfo_1 hfo_223 (hfA12 o0 ko0 13 (by decide) (by decide) (by decide) (by decide))
        obtain rfl := ri_12_23 hfo_1 hfo_223 (hfA12 o0 ko0 23 (by decide) (by decide) (by decide) (by decide))
        obtain rfl := ri_12_25 hfo_1 hfo_223 (hfA12 o0 ko0 25 (by decide) (by decide) (by decide) (by decide))
        obtain rfl := ri_12_27 hfo_1 hfo_223 (hfA12 o0 ko0 27 (by decide) (by decide) (by decide) (by decide))
        obtain rfl := ri_12_29 hfo_1 hfo_223 (hfA12 o0 ko0 29 (by decide) (by decide) (by decide) (by decide))
        obtain rfl := ri_12_32 hfo_1 hfo_223 (hfA12 o0 ko0 32 (by decide) (by decide) (by decide) (by decide))
        obtain rfl := ri_12_33 hfo_1 hfo_223 (hfA12 o0 ko0 33 (by decide) (by decide) (by decide) (by decide))
        obtain rfl := ri_12_35 hfo_1 hfo_223 (hfA12 o0 ko0 35 (by decide) (by decide) (by decide) (by decide))
        obtain rfl := ri_12_38 hfo_1 hfo_223 (hfA12 o0 ko0 38 (by decide) (by decide) (by decide) (by decide))
        obtain rfl := ri_12_43 hfo_1 hfo_223 (hfA12 o0 ko0 43 (by decide) (by decide) (by decide) (by decide))
        obtain rfl := ri_12_53 hfo_1 hfo_223 (hfA12 o0 ko0 53 (by decide) (by decide) (by decide) (by decide))
        obtain rfl := ri_12_14 hfo_212 hfo_223 (hfa_219 o0 ko0 14 (by decide))
        have hqhpost_220 := hpost_220 v_139 v_230 (by rw [hfo_212]; rfl) (by rw [hfo_223]; rfl)
        have hMm_280 : ∀ z9, fldI (f_216 o0) 6 = some z9 → v_8.toInt ≤ z9.toInt := fun z9 h9 => by rw [hfo_223] at h9; obtain rfl := Option.some.inj h9; have h8 := hMm_189 v_139 (by rw [hfo_212]; rfl); omega
        refine lv_bipush (v := 58) hx hb dX12_item_67 (by decide) ?_
        refine lv_icmp_ne (tgt := 112) hx hb dX12_item_69 (by decide) (fun c_281 => ?_) (fun c_281 => ?_)
        · skip
          rw [← Int32.toInt_inj, ti_58] at c_281
          refine lv_aload_n hx hb dX12_item_112 rfl (lv_at hl 1 rfl) ?_
          refine tk_getP (D := (dC, dI)) (ci := 12) (v := .ref a_3) (C := RX12) (T := TX12) (N := 56) hx hb hU inlX12 hown hK hP mo0 hfo_223 rfl 1 (by decide) (hU _ wd_170) (fun _ h9 => h9) rfl dX12_item_113 ?_
          refine lv_iload_n hx hb dX12_item_116 rfl (lv_at hl 2 rfl) ?_
          refine lv_iconst (v := 3) hx hb dX12_item_117 (by decide) ?_
          refine lv_iadd hx hb dX12_item_118 ?_
          refine lv_topi (fun x_282 ex_282 => ?_)
          have hx_282 : x_282.toInt = p1.toInt + 3 := by rw [ex_282, ad_I (by rw [ti_3]; omega) (by rw [ti_3]; omega), ti_3]
          have bx_282 : (603 ≤ x_282.toInt ∧ x_282.toInt ≤ 1559) := by constructor <;> omega
          refine lv_aload_n hx hb dX12_item_119 rfl (lv_at hl 1 rfl) ?_
          refine tk_ViP (As := []) (rest := [.int x_282, .ref a_3]) (n := 0) hx hb hml hown hU hN hZ (s_X12_sign_k12 l (dC, dI) cI cL cZ cR cG cH Z kd L f_216 hG o0 mo0 ko0) wd_573 wd_574 wd_575 wd_5 wd_576 (by decide +kernel) ⟨Nat.le_of_ble_eq_true rfl, Nat.le_of_ble_eq_true rfl⟩ hK hP hD hS mo0 hfo_223 12 rfl rfl rfl hl.1 rfl (Nat.le_of_ble_eq_true rfl) dX12_item_120 ⟨Nat.le_of_ble_eq_true rfl, Nat.le_of_ble_eq_true rfl⟩ (fun x_283 f_284 H locs hw hP hD hS => ?_)
          obtain ⟨hG, bx_283, hkc_285, hra_286, hfa_287, hpost_288⟩ := hw
          have hfo_290 : f_284 a_3 = .inl (cI, 1560, .inl g_209) := by rw [hkc_285 a_3 (by rw [ka_3]; decide)]; exact hfo_222
          have hfr0 : ∀ b, kd b ≠ 12 → kd b ≠ 576 → f_284 b = f b := fun b q12 q576 => (hkc_285 b q12).trans (hfr0 b q12 q576)
          have hrA12 : ∀ b, kd b = 12 → ∀ j, fldR (f_284 b) j = fldR (f b) j := fun b kb j => (hra_286 b kb j).trans (hrA12 b kb j)
          have hfA12 : ∀ b, kd b = 12 → ∀ j, j ≠ 6 → j ≠ 7 → j ≠ 8 → j ≠ 14 → fldI (f_284 b) j = fldI (f b) j := fun b kb j n6 n7 n8 n14 => (hfa_287 b kb j n6).trans (hfA12 b kb j n6 n7 n8 n14)
          have hT0 : frel kd 576 7 f_284 a_3 := hT0.keep (fun b q => hkc_285 b (by rw [q]; decide))
          obtain ⟨a_292, a_293, a_294, v_295, a_296, v_297, v_298, v_299, v_300, v_301, v_302, v_303, v_304, v_305, v_306, a_307, a_308, a_309, a_310, a_311, a_312, a_313, a_314, v_315, v_316, v_317, v_318, v_319, a_320, v_321, a_322, a_323, v_324, v_325, a_326, v_327, a_328, a_329, v_330, v_331, a_332, a_333, a_334, v_335, a_336, a_337, a_338, a_339, a_340, a_341, a_342, a_343, a_344, v_345, v_346, a_347, hfo_291, ⟨ma_292, ka_292⟩, ⟨ma_293, ka_293⟩, ⟨ma_294, ka_294⟩, bv_295, ⟨ma_296, ka_296⟩, bv_297, bv_298, bv_303, bv_304, bv_305, ⟨ma_307, ka_307⟩, ⟨ma_308, ka_308⟩, ⟨ma_309, ka_309⟩, ⟨ma_310, ka_310⟩, ⟨ma_311, ka_311⟩, ⟨ma_312, ka_312⟩, ⟨ma_313, ka_313⟩, ⟨ma_314, ka_314⟩, bv_315, bv_317, bv_319, ⟨ma_320, ka_320⟩, bv_321, ⟨ma_322, ka_322⟩, ⟨ma_323, ka_323⟩, bv_324, ⟨ma_326, ka_326⟩, bv_327, ⟨ma_328, ka_328⟩, ⟨ma_329, ka_329⟩, bv_330, ⟨ma_332, ka_332⟩, ⟨ma_333, ka_333⟩, ⟨ma_334, ka_334⟩, bv_335, ⟨ma_336, ka_336⟩, ⟨ma_337, ka_337⟩, ⟨ma_338, ka_338⟩, ⟨ma_339, ka_339⟩, ⟨ma_340, ka_340⟩, ⟨ma_341, ka_341⟩, ⟨ma_342, ka_342⟩, ⟨ma_343, ka_343⟩, ⟨ma_344, ka_344⟩, bv_345, ⟨ma_347, ka_347⟩⟩ := un_12 (hG _ mo0) ko0
          have bv_299 : ((-2147483648) ≤ v_299.toInt ∧ v_299.toInt ≤ 2147483647) := ⟨i32_lo _, i32_hi _⟩
          have bv_300 : ((-2147483648) ≤ v_300.toInt ∧ v_300.toInt ≤ 2147483647) := ⟨i32_lo _, i32_hi _⟩
          have bv_301 : ((-2147483648) ≤ v_301.toInt ∧ v_301.toInt ≤ 2147483647) := ⟨i32_lo _, i32_hi _⟩
          have bv_302 : ((-2147483648) ≤ v_302.toInt ∧ v_302.toInt ≤ 2147483647) := ⟨i32_lo _, i32_hi _⟩
          have bv_306 : ((-2147483648) ≤ v_306.toInt ∧ v_306.toInt ≤ 2147483647) := ⟨i32_lo _, i32_hi _⟩
          have bv_316 : ((-2147483648) ≤ v_316.toInt ∧ v_316.toInt ≤ 2147483647) := ⟨i32_lo _, i32_hi _⟩
          have bv_318 : ((-2147483648) ≤ v_318.toInt ∧ v_318.toInt ≤ 2147483647) := ⟨i32_lo _, i32_hi _⟩
          have bv_325 : ((-2147483648) ≤ v_325.toInt ∧ v_325.toInt ≤ 2147483647) := ⟨i32_lo _, i32_hi _⟩
          have bv_331 : ((-2147483648) ≤ v_331.toInt ∧ v_331.toInt ≤ 2147483647) := ⟨i32_lo _, i32_hi _⟩
          have bv_346 : ((-2147483648) ≤ v_346.toInt ∧ v_346.toInt ≤ 2147483647) := ⟨i32_lo _, i32_hi _⟩
          obtain ⟨rfl, rfl, rfl, rfl, rfl, rfl, rfl, rfl, rfl, rfl, rfl, rfl, rfl, rfl, rfl, rfl, rfl, rfl, rfl, rfl, rfl, rfl, rfl, rfl, rfl, rfl, rfl, rfl, rfl, rfl, rfl⟩ := re_12 hfo_1 hfo_291 (hrA12 o0 ko0)
          obtain rfl := ri_12_3 hfo_1 hfo_291 (hfA12 o0 ko0 3 (by decide) (by decide) (by decide) (by decide))
          obtain rfl := ri_12_5 hfo_1 hfo_291 (hfA12 o0 ko0 5 (by decide) (by decide) (by decide) (by decide))
          obtain rfl := ri_12_11 hfo_1 hfo_291 (hfA12 o0 ko0 11 (by decide) (by decide) (by decide) (by decide))
          obtain rfl := ri_12_12 hfo_1 hfo_291 (hfA12 o0 ko0 12 (by decide) (by decide) (by decide) (by decide))
          obtain rfl := ri_12_13 hfo_1 hfo_291 (hfA12 o0 ko0 13 (by decide) (by decide) (by decide) (by decide))
          obtain rfl := ri_12_23 hfo_1 hfo_291 (hfA12 o0 ko0 23 (by decide) (by decide) (by decide) (by decide))
          obtain rfl := ri_12_25 hfo_1 hfo_291 (hfA12 o0 ko0 25 (by decide) (by decide) (by decide) (by decide))
          obtain rfl := ri_12_27 hfo_1 hfo_291 (hfA12 o0 ko0 27 (by decide) (by decide) (by decide) (by decide))
          obtain rfl := ri_12_29 hfo_1 hfo_291 (hfA12 o0 ko0 29 (by decide) (by decide) (by decide) (by decide))
          obtain rfl := ri_12_32 hfo_1 hfo_291 (hfA12 o0 ko0 32 (by decide) (by decide) (by decide) (by decide))
          obtain rfl := ri_12_33 hfo_1 hfo_291 (hfA12 o0 ko0 33 (by decide) (by decide) (by decide) (by decide))
          obtain rfl := ri_12_35 hfo_1 hfo_291 (hfA12 o0 ko0 35 (by decide) (by decide) (by decide) (by decide))
          obtain rfl := ri_12_38 hfo_1 hfo_291 (hfA12 o0 ko0 38 (by decide) (by decide) (by decide) (by decide))
          obtain rfl := ri_12_43 hfo_1 hfo_291 (hfA12 o0 ko0 43 (by decide) (by decide) (by decide) (by decide))
          obtain rfl := ri_12_53 hfo_1 hfo_291 (hfA12 o0 ko0 53 (by decide) (by decide) (by decide) (by decide))
          obtain rfl := ri_12_14 hfo_223 hfo_291 (hfa_287 o0 ko0 14 (by decide))
          have hqhpost_288 := hpost_288 v_230 v_298 (by rw [hfo_223]; rfl) (by rw [hfo_291]; rfl)
          have hMm_348 : ∀ z9, fldI (f_284 o0) 6 = some z9 → v_8.toInt ≤ z9.toInt := fun z9 h9 => by rw [hfo_291] at h9; obtain rfl := Option.some.inj h9; have h8 := hMm_280 v_230 (by rw [hfo_223]; rfl); omega
          refine lv_bipush (v := 42) hx hb dX12_item_123 (by decide) ?_
          have hcut_350 : ∀ (y_349 : Int32), (0 ≤ y_349.toInt ∧ y_349.toInt ≤ 1) → ∀ (ls : Array Slot), lv_has ls 3 [(2, .int y_123), (0, .ref o0), (1, .int p1)] → W p l e (headSpec (wU yX12_item cX12_item 3 (some .boolean)) { frames := 4, cells := 0, slots := 0, locals := 83 }).room s m [.ref o0, .int p1].toArray below meth c H locs 0 0 (MQ below (va_Qi (fun (r : Int32) (f9 : Nat → va_E) => GI (okc cI cL cZ cR cG cH L kd) kd L f9 ∧ (0 ≤ r.toInt ∧ r.toInt ≤ 1) ∧ (∀ b, kd b ≠ 12 → kd b ≠ 576 → f9 b = f b) ∧ (∀ b, kd b = 12 → ∀ j, fldR (f9 b) j = fldR (f b) j) ∧ (∀ b, kd b = 12 → ∀ j, j ≠ 6 → j ≠ 7 → j ≠ 8 → j ≠ 14 → fldI (f9 b) j = fldI (f b) j) ∧ (∀ (w6 z6 : Int32), fldI (f o0) 6 = some w6 → fldI (f9 o0) 6 = some z6 → w6.toInt ≤ z6.toInt) ∧ (∀ d9, fldR (f9 o0) 1 = some d9 → frel kd 576 7 f9 d9)) (qP (dC, dI) cI cL cZ cR cG cH L) (fun q => q ∈ L)) [.ref o0, .int p1].toArray s 0 0 (fun q => q ∈ L)) (F0 m 133 ls [.int y_349, .int x_282, .ref a_3]) := by
            intro y_349 by_349 ls hl
            refine tk_istP hx hb hK hP hD hS 0 ma_3 hfo_290 rfl (vp_in_iff.mpr (by constructor <;> omega)) dX12_item_133 (fun H locs hP hD hS => ?_)
            have hc9 := cl_I (i := x_282) (by omega)
            obtain ⟨g_351, eqg_351⟩ : ∃ y : Nat → Int32, y = upd g_209 (Int32.toNatClampNeg x_282) y_349 := ⟨_, rfl⟩
            rw [← eqg_351] at hP hD
            have hbg_351 : wOK g_351 := by rw [eqg_351]; exact ⟨hbg_209.1.up (fun h1 h2 h3 => by exfalso; omega), hbg_209.2.1.up (fun h1 h2 h3 => by exfalso; omega), hbg_209.2.2.1.up (fun h1 h2 h3 => by exfalso; omega), hbg_209.2.2.2.1.up (fun h1 h2 h3 => by exfalso; omega), hbg_209.2.2.2.2.1.up (fun h1 h2 h3 => by exfalso; omega), hbg_209.2.2.2.2.2.1.up (fun h1 h2 h3 => by exfalso; omega), hbg_209.2.2.2.2.2.2.1.up (fun h1 h2 h3 => by exfalso; omega), hbg_209.2.2.2.2.2.2.2.1.up (fun h1 h2 h3 => by exfalso; omega), hbg_209.2.2.2.2.2.2.2.2.1.up (fun h1 h2 h3 => by exfalso; omega), hbg_209.2.2.2.2.2.2.2.2.2.1.up (fun h1 h2 h3 => by exfalso; omega), hbg_209.2.2.2.2.2.2.2.2.2.2.1.up (fun h1 h2 h3 => by exfalso; omega), hbg_209.2.2.2.2.2.2.2.2.2.2.2.1.up (fun h1 h2 h3 => by exfalso; omega), hbg_209.2.2.2.2.2.2.2.2.2.2.2.2.1.up (fun h1 h2 h3 => by exfalso; omega), hbg_209.2.2.2.2.2.2.2.2.2.2.2.2.2.1.up (fun h1 h2 h3 => by exfalso; omega), hbg_209.2.2.2.2.2.2.2.2.2.2.2.2.2.2.1.up (fun h1 h2 h3 => by exfalso; omega), hbg_209.2.2.2.2.2.2.2.2.2.2.2.2.2.2.2.up (fun h1 h2 h3 => by exfalso; omega)⟩
            obtain ⟨f_353, ef_353⟩ : ∃ y : Nat → va_E, y = va_up f_284 a_3 (.inl (cI, 1560, .inl g_351)) := ⟨_, rfl⟩
            have hP : va_P (dC, dI) vwCl (va_pl L f_353) H := by rw [ef_353]; exact hP
            have hD : va_D (fun q => q ∈ L) (va_pl L f_353) := by rw [ef_353]; exact hD
            have hG : GI (okc cI cL cZ cR cG cH L kd) kd L f_353 := by rw [ef_353]; exact hG.set a_3 (mk_576 ka_3 ⟨_, rfl, hbg_351⟩)
            have hfo_354 : f_353 o0 = .inr (12, [.ref a_2, .ref a_3, .ref a_4, .int v_5, .ref a_6, .int v_7, .int v_298, .int v_299, .int v_300, .int v_301, .int v_302, .int v_13, .int v_14, .int v_15, .int v_147, .ref a_17, .ref a_18, .ref a_19, .ref a_20, .ref a_21, .ref a_22, .ref a_23, .ref a_24, .int v_25, .int v_316, .int v_27, .int v_318, .int v_29, .ref a_30, .int v_31, .ref a_32, .ref a_33, .int v_34, .int v_35, .ref a_36, .int v_37, .ref a_38, .ref a_39, .int v_40, .int v_331, .ref a_42, .ref a_43, .ref a_44, .int v_45, .ref a_46, .ref a_47, .ref a_48, .ref a_49, .ref a_50, .ref a_51, .ref a_52, .ref a_53, .ref a_54, .int v_55, .int v_346, .ref a_57]) := by rw [ef_353, up_ne (kd_ne ka_3 ko0 (by decide))]; exact hfo_291
            have hfr0 : ∀ b, kd b ≠ 12 → kd b ≠ 576 → f_353 b = f b := fun b q12 q576 => (congrFun ef_353 b).trans ((up_ne (fun e9 => q576 (by rw [e9]; exact ka_3))).trans (hfr0 b q12 q576))
            have hrA12 : ∀ b, kd b = 12 → ∀ j, fldR (f_353 b) j = fldR (f b) j := fun b kb j => (congrArg (fun x => fldR x j) ((congrFun ef_353 b).trans (up_ne (kd_ne ka_3 kb (by decide))))).trans (hrA12 b kb j)
            have hfA12 : ∀ b, kd b = 12 → ∀ j, j ≠ 6 → j ≠ 7 → j ≠ 8 → j ≠ 14 → fldI (f_353 b) j = fldI (f b) j := fun b kb j n6 n7 n8 n14 => (congrArg (fun x => fldI x j) ((congrFun ef_353 b).trans (up_ne (kd_ne ka_3 kb (by decide))))).trans (hfA12 b kb j n6 n7 n8 n14)
            have hT0 : frel kd 576 7 f_353 a_3 := by rw [ef_353]; exact frel.mk ka_3 up_self (by rw [eqg_351]; exact (hT0.get hfo_290).up (hbg_209.2.1 16 (by decide) (by decide) (by decide)).2 (by omega) (by omega) (by omega) (fun h9 => by exfalso; omega))
            have hMm_348 : ∀ z9, fldI (f_353 o0) 6 = some z9 → v_8.toInt ≤ z9.toInt := by rw [ef_353]; exact (fun z9 h9 => hMm_348 z9 (by rw [up_ne (kd_ne ka_3 ko0 (by decide))] at h9; exact h9))
            have hfo_355 : f_353 a_3 = .inl (cI, 1560, .inl g_351) := by rw [ef_353]; exact up_self
            have ql_356 : y_349 = g_351 (Int32.toNatClampNeg x_282) := by rw [eqg_351, pk_us]
            refine lv_aload_n hx hb dX12_item_134 rfl (lv_at hl 1 rfl) ?_
            refine tk_ViP (As := []) (rest := []) (n := 0) hx hb hml hown hU hN hZ (s_X12_sign_k12 l (dC, dI) cI cL cZ cR cG cH Z kd L f_353 hG o0 mo0 ko0) wd_573 wd_574 wd_575 wd_5 wd_576 (by decide +kernel) ⟨Nat.le_of_ble_eq_true rfl, Nat.le_of_ble_eq_true rfl⟩ hK hP hD hS mo0 hfo_354 12 rfl rfl rfl hl.1 rfl (Nat.le_of_ble_eq_true rfl) dX12_item_135 ⟨Nat.le_of_ble_eq_true rfl, Nat.le_of_ble_eq_true rfl⟩ (fun x_357 f_358 H locs hw hP hD hS => ?_)
            obtain ⟨hG, bx_357, hkc_359, hra_360, hfa_361, hpost_362⟩ := hw
            have hfo_364 : f_358 a_3 = .inl (cI, 1560, .inl g_351) := by rw [hkc_359 a_3 (by rw [ka_3]; decide)]; exact hfo_355
            have hfr0 : ∀ b, kd b ≠ 12 → kd b ≠ 576 → f_358 b = f b := fun b q12 q576 => (hkc_359 b q12).trans (hfr0 b q12 q576)
            have hrA12 : ∀ b, kd b = 12 → ∀ j, fldR (f_358 b) j = fldR (f b) j := fun b kb j => (hra_360 b kb j).trans (hrA12 b kb j)
            have hfA12 : ∀ b, kd b = 12 → ∀ j, j ≠ 6 → j ≠ 7 → j ≠ 8 → j ≠ 14 → fldI (f_358 b) j = fldI (f b) j := fun b kb j n6 n7 n8 n14 => (hfa_361 b kb j n6).trans (hfA12 b kb j n6 n7 n8 n14)
            have hT0 : frel kd 576 7 f_358 a_3 := hT0.keep (fun b q => hkc_359 b (by rw [q]; decide))
            obtain ⟨a_366, a_367, a_368, v_369, a_370, v_371, v_372, v_373, v_374, v_375, v_376, v_377, v_378, v_379, v_380, a_381, a_382, a_383, a_384, a_385, a_386, a_387, a_388, v_389, v_390, v_391, v_392, v_393, a_394, v_395, a_396, a_397, v_398, v_399, a_400, v_401, a_402, a_403, v_404, v_405, a_406, a_407, a_408, v_409, a_410, a_411, a_412, a_413, a_414, a_415, a_416, a_417, a_418, v_419, v_420, a_421, hfo_365, ⟨ma_366, ka_366⟩, ⟨ma_367, ka_367⟩, ⟨ma_368, ka_368⟩, bv_369, ⟨ma_370, ka_370⟩, bv_371, bv_372, bv_377, bv_378, bv_379, ⟨ma_381, ka_381⟩, ⟨ma_382, ka_382⟩, ⟨ma_383, ka_383⟩, ⟨ma_384, ka_384⟩, ⟨ma_385, ka_385⟩, ⟨ma_386, ka_386⟩, ⟨ma_387, ka_387⟩, ⟨ma_388, ka_388⟩, bv_389, bv_391, bv_393, ⟨ma_394, ka_394⟩, bv_395, ⟨ma_396, ka_396⟩, ⟨ma_397, ka_397⟩, bv_398, ⟨ma_400, ka_400⟩, bv_401, ⟨ma_402, ka_402⟩, ⟨ma_403, ka_403⟩, bv_404, ⟨ma_406, ka_406⟩, ⟨ma_407, ka_407⟩, ⟨ma_408, ka_408⟩, bv_409, ⟨ma_410, ka_410⟩, ⟨ma_411, ka_411⟩, ⟨ma_412, ka_412⟩, ⟨ma_413, ka_413⟩, ⟨ma_414, ka_414⟩, ⟨ma_415, ka_415⟩, ⟨ma_416, ka_416⟩, ⟨ma_417, ka_417⟩, ⟨ma_418, ka_418⟩, bv_419, ⟨ma_421, ka_421⟩⟩ := un_12 (hG _ mo0) ko0
            have bv_373 : ((-2147483648) ≤ v_373.toInt ∧ v_373.toInt ≤ 2147483647) := ⟨i32_lo _, i32_hi _⟩
            have bv_374 : ((-2147483648) ≤ v_374.toInt ∧ v_374.toInt ≤ 2147483647) := ⟨i32_lo _, i32_hi _⟩
            have bv_375 : ((-2147483648) ≤ v_375.toInt ∧ v_375.toInt ≤ 2147483647) := ⟨i32_lo _, i32_hi _⟩
            have bv_376 : ((-2147483648) ≤ v_376.toInt ∧ v_376.toInt ≤ 2147483647) := ⟨i32_lo _, i32_hi _⟩
            have bv_380 : ((-2147483648) ≤ v_380.toInt ∧ v_380.toInt ≤ 2147483647) := ⟨i32_lo _, i32_hi _⟩
            have bv_390 : ((-2147483648) ≤ v_390.toInt ∧ v_390.toInt ≤ 2147483647) := ⟨i32_lo _, i32_hi _⟩
            have bv_392 : ((-2147483648) ≤ v_392.toInt ∧ v_392.toInt ≤ 2147483647) := ⟨i32_lo _, i32_hi _⟩
            have bv_399 : ((-2147483648) ≤ v_399.toInt ∧ v_399.toInt ≤ 2147483647) := ⟨i32_lo _, i32_hi _⟩
            have bv_405 : ((-2147483648) ≤ v_405.toInt ∧ v_405.toInt ≤ 2147483647) := ⟨i32_lo _, i32_hi _⟩
            have bv_420 : ((-2147483648) ≤ v_420.toInt ∧ v_420.toInt ≤ 2147483647) := ⟨i32_lo _, i32_hi _⟩
            obtain ⟨rfl, rfl, rfl, rfl, rfl, rfl, rfl, rfl, rfl, rfl, rfl, rfl, rfl, rfl, rfl, rfl, rfl, rfl, rfl, rfl, rfl, rfl, rfl, rfl, rfl, rfl, rfl, rfl, rfl, rfl, rfl⟩ := re_12 hfo_1 hfo_365 (hrA12 o0 ko0)
            obtain rfl := ri_12_3 hfo_1 hfo_365 (hfA12 o0 ko0 3 (by decide) (by decide) (by decide) (by decide))
            obtain rfl := ri_12_5 hfo_1 hfo_365 (hfA12 o0 ko0 5 (by decide) (by decide) (by decide) (by decide))
            obtain rfl := ri_12_11 hfo_1 hfo_365 (hfA12 o0 ko0 11 (by decide) (by decide) (by decide) (by decide))
            obtain rfl := ri_12_12 hfo_1 hfo_365 (hfA12 o0 ko0 12 (by decide) (by decide) (by decide) (by decide))
            obtain rfl := ri_12_13 hfo_1 hfo_365 (hfA12 o0 ko0 13 (by decide) (by decide) (by decide) (by decide))
            obtain rfl := ri_12_23 hfo_1 hfo_365 (hfA12 o0 ko0 23 (by decide) (by decide) (by decide) (by decide))
            obtain rfl := ri_12_25 hfo_1 hfo_365 (hfA12 o0 ko0 25 (by decide) (by decide) (by decide) (by decide))
            obtain rfl := ri_12_27 hfo_1 hfo_365 (hfA12 o0 ko0 27 (by decide) (by decide) (by decide) (by decide))
            obtain rfl := ri_12_29 hfo_1 hfo_365 (hfA12 o0 ko0 29 (by decide) (by decide) (by decide) (by decide))
            obtain rfl := ri_12_32 hfo_1 hfo_365 (hfA12 o0 ko0 32 (by decide) (by decide) (by decide) (by decide))
            obtain rfl := ri_12_33 hfo_1 hfo_365 (hfA12 o0 ko0 33 (by decide) (by decide) (by decide) (by decide))
            obtain rfl := ri_12_35 hfo_1 hfo_365 (hfA12 o0 ko0 35 (by decide) (by decide) (by decide) (by decide))
            obtain rfl := ri_12_38 hfo_1 hfo_365 (hfA12 o0 ko0 38 (by decide) (by decide) (by decide) (by decide))
            obtain rfl := ri_12_43 hfo_1 hfo_365 (hfA12 o0 ko0 43 (by decide) (by decide) (by decide) (by decide))
            obtain rfl := ri_12_53 hfo_1 hfo_365 (hfA12 o0 ko0 53 (by decide) (by decide) (by decide) (by decide))
            obtain rfl := ri_12_14 hfo_354 hfo_365 (hfa_361 o0 ko0 14 (by decide))
            have hqhpost_362 := hpost_362 v_298 v_372 (by rw [hfo_354]; rfl) (by rw [hfo_365]; rfl)
            have hMm_422 : ∀ z9, fldI (f_358 o0) 6 = some z9 → v_8.toInt ≤ z9.toInt := fun z9 h9 => by rw [hfo_365] at h9; obtain rfl := Option.some.inj h9; have h8 := hMm_348 v_298 (by rw [hfo_354]; rfl); omega
            refine lv_bipush (v := 42) hx hb dX12_item_138 (by decide) ?_
            have hcut_426 : ∀ (f_424 : Nat → va_E), GI (okc cI cL cZ cR cG cH L kd) kd L f_424 → ∀ (H : Heap) (locs : List Loc), va_P (dC, dI) vwCl (va_pl L f_424) H → va_S (fun q => q ∈ L) s.heap H locs → va_D (fun q => q ∈ L) (va_pl L f_424) → (∀ b, kd b ≠ 12 → kd b ≠ 576 → f_424 b = f b) → (∀ b, kd b = 12 → ∀ j, fldR (f_424 b) j = fldR (f b) j) → (∀ b, kd b = 12 → ∀ j, j ≠ 6 → j ≠ 7 → j ≠ 8 → j ≠ 14 → fldI (f_424 b) j = fldI (f b) j) → (f_424 a_3 = .inl (cI, 1560, .inl g_351)) → frel kd 576 7 f_424 a_3 → ∀ z9, fldI (f_424 o0) 6 = some z9 → v_8.toInt ≤ z9.toInt → ∀ (ls : Array Slot), lv_has ls 3 [(2, .int y_123), (0, .ref o0), (1, .int p1)] → W p l e (headSpec (wU yX12_item cX12_item 3 (some .boolean)) { frames := 4, cells := 0, slots := 0, locals := 83 }).room s m [.ref o0, .int p1].toArray below meth c H locs 0 0 (MQ below (va_Qi (fun (r : Int32) (f9 : Nat → va_E) => GI (okc cI cL cZ cR cG cH L kd) kd L f9 ∧ (0 ≤ r.toInt ∧ r.toInt ≤ 1) ∧ (∀ b, kd b ≠ 12 → kd b ≠ 576 → f9 b = f b) ∧ (∀ b, kd b = 12 → ∀ j, fldR (f9 b) j = fldR (f b) j) ∧ (∀ b, kd b = 12 → ∀ j, j ≠ 6 → j ≠ 7 → j ≠ 8 → j ≠ 14 → fldI (f9 b) j = fldI (f b) j) ∧ (∀ (w6 z6 : Int32), fldI (f o0) 6 = some w6 → fldI (f9 o0) 6 = some z6 → w6.toInt ≤ z6.toInt) ∧ (∀ d9, fldR (f9 o0) 1 = some d9 → frel kd 576 7 f9 d9)) (qP (dC, dI) cI cL cZ cR cG cH L) (fun q => q ∈ L)) [.ref o0, .int p1].toArray s 0 0 (fun q => q ∈ L)) (F0 m 153 ls []) := by
              intro f_424 hG H locs hP hS hD hfr0 hrA12 hfA12 hfo_425 hT0 hMm_422 ls hl
              refine lv_iconst (v := 1) hx hb dX12_item_153 (by decide) ?_
              obtain ⟨a_428, a_429, a_430, v_431, a_432, v_433, v_434, v_435, v_436, v_437, v_438, v_439, v_440, v_441, v_442, a_443, a_444, a_445, a_446, a_447, a_448, a_449, a_450, v_451, v_452, v_453, v_454, v_455, a_456, v_457, a_458, a_459, v_460, v_461, a_462, v_463, a_464, a_465, v_466, v_467, a_468, a_469, a_470, v_471, a_472, a_473, a_474, a_475, a_476, a_477, a_478, a_479, a_480, v_481, v_482, a_483, hfo_427, ⟨ma_428, ka_428⟩, ⟨ma_429, ka_429⟩, ⟨ma_430, ka_430⟩, bv_431, ⟨ma_432, ka_432⟩, bv_433, bv_434, bv_439, bv_440, bv_441, ⟨ma_443, ka_443⟩, ⟨ma_444, ka_444⟩, ⟨ma_445, ka_445⟩, ⟨ma_446, ka_446⟩, ⟨ma_447, ka_447⟩, ⟨ma_448, ka_448⟩, ⟨ma_449, ka_449⟩, ⟨ma_450, ka_450⟩, bv_451, bv_453, bv_455, ⟨ma_456, ka_456⟩, bv_457, ⟨ma_458, ka_458⟩, ⟨ma_459, ka_459⟩, bv_460, ⟨ma_462, ka_462⟩, bv_463, ⟨ma_464, ka_464⟩, ⟨ma_465, ka_465⟩, bv_466, ⟨ma_468, ka_468⟩, ⟨ma_469, ka_469⟩, ⟨ma_470, ka_470⟩, bv_471, ⟨ma_472, ka_472⟩, ⟨ma_473, ka_473⟩, ⟨ma_474, ka_474⟩, ⟨ma_475, ka_475⟩, ⟨ma_476, ka_476⟩, ⟨ma_477, ka_477⟩, ⟨ma_478, ka_478⟩, ⟨ma_479, ka_479⟩, ⟨ma_480, ka_480⟩, bv_481, ⟨ma_483, ka_483⟩⟩ := un_12 (hG _ mo0) ko0
              have bv_435 : ((-2147483648) ≤ v_435.toInt ∧ v_435.toInt ≤ 2147483647) := ⟨i32_lo _, i32_hi _⟩
              have bv_436 : ((-2147483648) ≤ v_436.toInt ∧ v_436.toInt ≤ 2147483647) := ⟨i32_lo _, i32_hi _⟩
              have bv_437 : ((-2147483648) ≤ v_437.toInt ∧ v_437.toInt ≤ 2147483647) := ⟨i32_lo _, i32_hi _⟩
              have bv_438 : ((-2147483648) ≤ v_438.toInt ∧ v_438.toInt ≤ 2147483647) := ⟨i32_lo _, i32_hi _⟩
              have bv_442 : ((-2147483648) ≤ v_442.toInt ∧ v_442.toInt ≤ 2147483647) := ⟨i32_lo _, i32_hi _⟩
              have bv_452 : ((-2147483648) ≤ v_452.toInt ∧ v_452.toInt ≤ 2147483647) := ⟨i32_lo _, i32_hi _⟩
              have bv_454 : ((-2147483648) ≤ v_454.toInt ∧ v_454.toInt ≤ 2147483647) := ⟨i32_lo _, i32_hi _⟩
              have bv_461 : ((-2147483648) ≤ v_461.toInt ∧ v_461.toInt ≤ 2147483647) := ⟨i32_lo _, i32_hi _⟩
              have bv_467 : ((-2147483648) ≤ v_467.toInt ∧ v_467.toInt ≤ 2147483647) := ⟨i32_lo _, i32_hi _⟩
              have bv_482 : ((-2147483648) ≤ v_482.toInt ∧ v_482.toInt ≤ 2147483647) := ⟨i32_lo _, i32_hi _⟩
              obtain ⟨rfl, rfl, rfl, rfl, rfl, rfl, rfl, rfl, rfl, rfl, rfl, rfl, rfl, rfl, rfl, rfl, rfl, rfl, rfl, rfl, rfl, rfl, rfl, rfl, rfl, rfl, rfl, rfl, rfl, rfl, rfl⟩ := re_12 hfo_1 hfo_427 (hrA12 o0 ko0)
              obtain rfl := ri_12_3 hfo_1 hfo_427 (hfA12 o0 ko0 3 (by decide) (by decide) (by decide) (by decide))
              obtain rfl := ri_12_5 hfo_1 hfo_427 (hfA12 o0 ko0 5 (by decide) (by decide) (by decide) (by decide))
              obtain rfl := ri_12_11 hfo_1 hfo_427 (hfA12 o0 ko0 11 (by decide) (by decide) (by decide) (by decide))
              obtain rfl := ri_12_12 hfo_1 hfo_427 (hfA12 o0 ko0 12 (by decide) (by decide) (by decide) (by decide))
              obtain rfl := ri_12_13 hfo_1 hfo_427 (hfA12 o0 ko0 13 (by decide) (by decide) (by decide) (by decide))
              obtain rfl := ri_12_23 hfo_1 hfo_427 (hfA12 o0 ko0 23 (by decide) (by decide) (by decide) (by decide))
              obtain rfl := ri_12_25 hfo_1 hfo_427 (hfA12 o0 ko0 25 (by decide) (by decide) (by decide) (by decide))
              obtain rfl := ri_12_27 hfo_1 hfo_427 (hfA12 o0 ko0 27 (by decide) (by decide) (by decide) (by decide))
              obtain rfl := ri_12_29 hfo_1 hfo_427 (hfA12 o0 ko0 29 (by decide) (by decide) (by decide) (by decide))
              obtain rfl := ri_12_32 hfo_1 hfo_427 (hfA12 o0 ko0 32 (by decide) (by decide) (by decide) (by decide))
              obtain rfl := ri_12_33 hfo_1 hfo_427 (hfA12 o0 ko0 33 (by decide) (by decide) (by decide) (by decide))
              obtain rfl := ri_12_35 hfo_1 hfo_427 (hfA12 o0 ko0 35 (by decide) (by decide) (by decide) (by decide))
              obtain rfl := ri_12_38 hfo_1 hfo_427 (hfA12 o0 ko0 38 (by decide) (by decide) (by decide) (by decide))
              obtain rfl := ri_12_43 hfo_1 hfo_427 (hfA12 o0 ko0 43 (by decide) (by decide) (by decide) (by decide))
              obtain rfl := ri_12_53 hfo_1 hfo_427 (hfA12 o0 ko0 53 (by decide) (by decide) (by decide) (by decide))
              have hM9 := hMm_422 v_434 (by rw [hfo_427]; rfl)
              exact W.zret (v := 1) (ty := .boolean) hx hb hr rfl (fun t ht hW => ⟨⟨1, f_424, rfl, ⟨hG, (by decide), hfr0, hrA12, hfA12, (by intro w6 z6 e6 d6; rw [hfo_1] at e6; rw [hfo_427] at d6; obtain rfl := Option.some.inj e6; obtain rfl := Option.some.inj d6; (try rw [ti_1]) <;> omega), (fun d9 h9 => by rw [hfo_427] at h9; obtain rfl := Option.some.inj h9; exact hT0)⟩, by rw [ht]; exact hP, va_K.moved hW.alike hK, pl_in hD⟩, hS.F ht⟩) hS.2.2 dX12_item_154
            refine lv_icmp_ne (tgt := 153) hx hb dX12_item_140 (by decide) (fun c_484 => ?_) (fun c_484 => ?_)
            · skip
              rw [← Int32.toInt_inj, ti_42] at c_484
              exact hcut_426 f_358 hG _ _ hP hS hD hfr0 hrA12 hfA12 hfo_364 hT0 hMm_422 ls (lv_sub hl [0, 1, 2] rfl)
            · skip
              rw [← Int32.toInt_inj, ti_42] at c_484
              have hclc_485 : (0 ≤ v_372.toInt ∧ v_372.toInt ≤ 599) := by constructor <;> omega
              refine lv_aload_n hx hb dX12_item_143 rfl (lv_at hl 1 rfl) ?_
              refine lv_dup hx hb dX12_item_144 rfl ?_
              refine tk_getP (D := (dC, dI)) (ci := 12) (v := .int v_372) (C := RX12) (T := TX12) (N := 56) hx hb hU inlX12 hown hK hP mo0 hfo_365 rfl 6 (by decide) (hU _ wd_566) (fun _ h9 => h9) rfl dX12_item_145 ?_
              refine lv_iconst (v := 1) hx hb dX12_item_148 (by decide) ?_
              refine lv_iadd hx hb dX12_item_149 ?_
              refine lv_topi (fun x_486 ex_486 => ?_)
              have hx_486 : x_486.toInt = v_372.toInt + 1 := by rw [ex_486, ad_I (by rw [ti_1]; omega) (by rw [ti_1]; omega), ti_1]
              have bx_486 : (1 ≤ x_486.toInt ∧ x_486.toInt ≤ 600) := by constructor <;> omega
              refine tk_putP (D := (dC, dI)) (ci := 12) (v := .int x_486) (ty := .int) (C := RX12) (T := TX12) (N := 56) hx hb hU inlX12 tyX12 tyX12_ok nmX12 hown hK hP hD hS mo0 hfo_365 rfl 6 (by decide) (hU _ wd_566) (fun _ h9 => h9) rfl (by decide +kernel) rfl rfl (Nat.le_of_ble_eq_true rfl) dX12_item_150 (fun H locs hP hD hS => ?_)
              obtain ⟨f_488, ef_488⟩ : ∃ y : Nat → va_E, y = va_up f_358 o0 (.inr (12, [.ref a_2, .ref a_3, .ref a_4, .int v_5, .ref a_6, .int v_7, .int x_486, .int v_373, .int v_374, .int v_375, .int v_376, .int v_13, .int v_14, .int v_15, .int v_147, .ref a_17, .ref a_18, .ref a_19, .ref a_20, .ref a_21, .ref a_22, .ref a_23, .ref a_24, .int v_25, .int v_390, .int v_27, .int v_392, .int v_29, .ref a_30, .int v_31, .ref a_32, .ref a_33, .int v_34, .int v_35, .ref a_36, .int v_37, .ref a_38, .ref a_39, .int v_40, .int v_405, .ref a_42, .ref a_43, .ref a_44, .int v_45, .ref a_46, .ref a_47, .ref a_48, .ref a_49, .ref a_50, .ref a_51, .ref a_52, .ref a_53, .ref a_54, .int v_55, .int v_420, .ref a_57])) := ⟨_, rfl⟩
              have hP : va_P (dC, dI) vwCl (va_pl L f_488) H := by rw [ef_488]; exact hP
              have hD : va_D (fun q => q ∈ L) (va_pl L f_488) := by rw [ef_488]; exact hD
              have hG : GI (okc cI cL cZ cR cG cH L kd) kd L f_488 := by rw [ef_488]; exact hG.set o0 (mk_12 ko0 ⟨a_2, a_3, a_4, v_5, a_6, v_7, x_486, v_373, v_374, v_375, v_376, v_13, v_14, v_15, v_147, a_17, a_18, a_19, a_20, a_21, a_22, a_23, a_24, v_25, v_390, v_27, v_392, v_29, a_30, v_31, a_32, a_33, v_34, v_35, a_36, v_37, a_38, a_39, v_40, v_405, a_42, a_43, a_44, v_45, a_46, a_47, a_48, a_49, a_50, a_51, a_52, a_53, a_54, v_55, v_420, a_57, rfl, ⟨ma_2, ka_2⟩, ⟨ma_3, ka_3⟩, ⟨ma_4, ka_4⟩, (by constructor <;> omega), ⟨ma_6, ka_6⟩, (by constructor <;> omega), (by constructor <;> omega), (by constructor <;> omega), (by constructor <;> omega), (by constructor <;> omega), ⟨ma_17, ka_17⟩, ⟨ma_18, ka_18⟩, ⟨ma_19, ka_19⟩, ⟨ma_20, ka_20⟩, ⟨ma_21, ka_21⟩, ⟨ma_22, ka_22⟩, ⟨ma_23, ka_23⟩, ⟨ma_24, ka_24⟩, (by constructor <;> omega), (by constructor <;> omega), (by constructor <;> omega), ⟨ma_30, ka_30⟩, (by constructor <;> omega), ⟨ma_32, ka_32⟩, ⟨ma_33, ka_33⟩, (by constructor <;> omega), ⟨ma_36, ka_36⟩, (by constructor <;> omega), ⟨ma_38, ka_38⟩, ⟨ma_39, ka_39⟩, (by constructor <;> omega), ⟨ma_42, ka_42⟩, ⟨ma_43, ka_43⟩, ⟨ma_44, ka_44⟩, (by constructor <;> omega), ⟨ma_46, ka_46⟩, ⟨ma_47, ka_47⟩, ⟨ma_48, ka_48⟩, ⟨ma_49, ka_49⟩, ⟨ma_50, ka_50⟩, ⟨ma_51, ka_51⟩, ⟨ma_52, ka_52⟩, ⟨ma_53, ka_53⟩, ⟨ma_54, ka_54⟩, (by constructor <;> omega), ⟨ma_57, ka_57⟩⟩)
              have hfo_489 : f_488 a_3 = .inl (cI, 1560, .inl g_351) := by rw [ef_488, up_ne (kd_ne ko0 ka_3 (by decide))]; exact hfo_364
              have hfr0 : ∀ b, kd b ≠ 12 → kd b ≠ 576 → f_488 b = f b := fun b q12 q576 => (congrFun ef_488 b).trans ((up_ne (fun e9 => q12 (by rw [e9]; exact ko0))).trans (hfr0 b q12 q576))
              have hrA12 : ∀ b, kd b = 12 → ∀ j, fldR (f_488 b) j = fldR (f b) j := fun b kb j => ((congrArg (fun x => fldR x j) (congrFun ef_488 b)).trans (fra_up (fun j => by rw [hfo_365]; exact fr_set (k := 6) rfl rfl j) j b)).trans (hrA12 b kb j)
              have hfA12 : ∀ b, kd b = 12 → ∀ j, j ≠ 6 → j ≠ 7 → j ≠ 8 → j ≠ 14 → fldI (f_488 b) j = fldI (f b) j := fun b kb j n6 n7 n8 n14 => ((congrArg (fun x => fldI x j) (congrFun ef_488 b)).trans (fia_up (fun h9 => by rw [hfo_365]; exact fi_set (k := 6) rfl h9) n6 b)).trans (hfA12 b kb j n6 n7 n8 n14)
              have hT0 : frel kd 576 7 f_488 a_3 := by rw [ef_488]; exact hT0.keep (fun b q => up_ne (kd_ne ko0 q (by decide)))
              have hMm_422 : ∀ z9, fldI (f_488 o0) 6 = some z9 → v_8.toInt ≤ z9.toInt := by rw [ef_488]; exact (fun z9 h9 => by rw [up_self] at h9; obtain rfl := Option.some.inj h9; have h8 := hMm_422 v_372 (by rw [hfo_365]; rfl); omega)
              have hfo_490 : f_488 o0 = .inr (12, [.ref a_2, .ref a_3, .ref a_4, .int v_5, .ref a_6, .int v_7, .int x_486, .int v_373, .int v_374, .int v_375, .int v_376, .int v_13, .int v_14, .int v_15, .int v_147, .ref a_17, .ref a_18, .ref a_19, .ref a_20, .ref a_21, .ref a_22, .ref a_23, .ref a_24, .int v_25, .int v_390, .int v_27, .int v_392, .int v_29, .ref a_30, .int v_31, .ref a_32, .ref a_33, .int v_34, .int v_35, .ref a_36, .int v_37, .ref a_38, .ref a_39, .int v_40, .int v_405, .ref a_42, .ref a_43, .ref a_44, .int v_45, .ref a_46, .ref a_47, .ref a_48, .ref a_49, .ref a_50, .ref a_51, .ref a_52, .ref a_53, .ref a_54, .int v_55, .int v_420, .ref a_57]) := by rw [ef_488]; exact up_self
              exact hcut_426 f_488 hG _ _ hP hS hD hfr0 hrA12 hfA12 hfo_489 hT0 hMm_422 ls (lv_sub hl [0, 1, 2] rfl)
          refine lv_icmp_ne (tgt := 132) hx hb dX12_item_125 (by decide) (fun c_491 => ?_) (fun c_491 => ?_)
          · skip
            rw [← Int32.toInt_inj, ti_42] at c_491
            refine lv_iconst (v := 0) hx hb dX12_item_132 (by decide) ?_
            exact hcut_350 0 (by decide) ls (lv_sub hl [0, 1, 2] rfl)
          · skip
            rw [← Int32.toInt_inj, ti_42] at c_491
            refine lv_iconst (v := 1) hx hb dX12_item_128 (by decide) ?_
            refine lv_goto (tgt := 133) hx hb dX12_item_129 (by decide) ?_
            exact hcut_350 1 (by decide) ls (lv_sub hl [0, 1, 2] rfl)
        · skip
          rw [← Int32.toInt_inj, ti_58] at c_281
          have hclc_492 : (0 ≤ v_230.toInt ∧ v_230.toInt ≤ 599) := by constructor <;> omega
          refine lv_aload_n hx hb dX12_item_72 rfl (lv_at hl 1 rfl) ?_
          refine lv_dup hx hb dX12_item_73 rfl ?_
          refine tk_getP (D := (dC, dI)) (ci := 12) (v := .int v_230) (C := RX12) (T := TX12) (N := 56) hx hb hU inlX12 hown hK hP mo0 hfo_223 rfl 6 (by decide) (hU _ wd_566) (fun _ h9 => h9) rfl dX12_item_74 ?_
          refine lv_iconst (v := 1) hx hb dX12_item_77 (by decide) ?_
          refine lv_iadd hx hb dX12_item_78 ?_
          refine lv_topi (fun x_493 ex_493 => ?_)
          have hx_493 : x_493.toInt = v_230.toInt + 1 := by rw [ex_493, ad_I (by rw [ti_1]; omega) (by rw [ti_1]; omega), ti_1]
          have bx_493 : (1 ≤ x_493.toInt ∧ x_493.toInt ≤ 600) := by constructor <;> omega
          refine tk_putP (D := (dC, dI)) (ci := 12) (v := .int x_493) (ty := .int) (C := RX12) (T := TX12) (N := 56) hx hb hU inlX12 tyX12 tyX12_ok nmX12 hown hK hP hD hS mo0 hfo_223 rfl 6 (by decide) (hU _ wd_566) (fun _ h9 => h9) rfl (by decide +kernel) rfl rfl (Nat.le_of_ble_eq_true rfl) dX12_item_79 (fun H locs hP hD hS => ?_)
          obtain ⟨f_495, ef_495⟩ : ∃ y : Nat → va_E, y = va_up f_216 o0 (.inr (12, [.ref a_2, .ref a_3, .ref a_4, .int v_5, .ref a_6, .int v_7, .int x_493, .int v_231, .int v_232, .int v_233, .int v_234, .int v_13, .int v_14, .int v_15, .int v_147, .ref a_17, .ref a_18, .ref a_19, .ref a_20, .ref a_21, .ref a_22, .ref a_23, .ref a_24, .int v_25, .int v_248, .int v_27, .int v_250, .int v_29, .ref a_30, .int v_31, .ref a_32, .ref a_33, .int v_34, .int v_35, .ref a_36, .int v_37, .ref a_38, .ref a_39, .int v_40, .int v_263, .ref a_42, .ref a_43, .ref a_44, .int v_45, .ref a_46, .ref a_47, .ref a_48, .ref a_49, .ref a_50, .ref a_51, .ref a_52, .ref a_53, .ref a_54, .int v_55, .int v_278, .ref a_57])) := ⟨_, rfl⟩
          have hP : va_P (dC, dI) vwCl (va_pl L f_495) H := by rw [ef_495]; exact hP
          have hD : va_D (fun q => q ∈ L) (va_pl L f_495) := by rw [ef_495]; exact hD
          have hG : GI (okc cI cL cZ cR cG cH L kd) kd L f_495 := by rw [ef_495]; exact hG.set o0 (mk_12 ko0 ⟨a_2, a_3, a_4, v_5, a_6, v_7, x_493, v_231, v_232, v_233, v_234, v_13, v_14, v_15, v_147, a_17, a_18, a_19, a_20, a_21, a_22, a_23, a_24, v_25, v_248, v_27, v_250, v_29, a_30, v_31, a_32, a_33, v_34, v_35, a_36, v_37, a_38, a_39, v_40, v_263, a_42, a_43, a_44, v_45, a_46, a_47, a_48, a_49, a_50, a_51, a_52, a_53, a_54, v_55, v_278, a_57, rfl, ⟨ma_2, ka_2⟩, ⟨ma_3, ka_3⟩, ⟨ma_4, ka_4⟩, (by constructor <;> omega), ⟨ma_6, ka_6⟩, (by constructor <;> omega), (by constructor <;> omega), (by constructor <;> omega), (by constructor <;> omega), (by constructor <;> omega), ⟨ma_17, ka_17⟩, ⟨ma_18, ka_18⟩, ⟨ma_19, ka_19⟩, ⟨ma_20, ka_20⟩, ⟨ma_21, ka_21⟩, ⟨ma_22, ka_22⟩, ⟨ma_23, ka_23⟩, ⟨ma_24, ka_24⟩, (by constructor <;> omega), (by constructor <;> omega), (by constructor <;> omega), ⟨ma_30, ka_30⟩, (by constructor <;> omega), ⟨ma_32, ka_32⟩, ⟨ma_33, ka_33⟩, (by constructor <;> omega), ⟨ma_36, ka_36⟩, (by constructor <;> omega), ⟨ma_38, ka_38⟩, ⟨ma_39, ka_39⟩, (by constructor <;> omega), ⟨ma_42, ka_42⟩, ⟨ma_43, ka_43⟩, ⟨ma_44, ka_44⟩, (by constructor <;> omega), ⟨ma_46, ka_46⟩, ⟨ma_47, ka_47⟩, ⟨ma_48, ka_48⟩, ⟨ma_49, ka_49⟩, ⟨ma_50, ka_50⟩, ⟨ma_51, ka_51⟩, ⟨ma_52, ka_52⟩, ⟨ma_53, ka_53⟩, ⟨ma_54, ka_54⟩, (by constructor <;> omega), ⟨ma_57, ka_57⟩⟩)
          have hfo_496 : f_495 a_3 = .inl (cI, 1560, .inl g_209) := by rw [ef_495, up_ne (kd_ne ko0 ka_3 (by decide))]; exact hfo_222
          have hfr0 : ∀ b, kd b ≠ 12 → kd b ≠ 576 → f_495 b = f b := fun b q12 q576 => (congrFun ef_495 b).trans ((up_ne (fun e9 => q12 (by rw [e9]; exact ko0))).trans (hfr0 b q12 q576))
          have hrA12 : ∀ b, kd b = 12 → ∀ j, fldR (f_495 b) j = fldR (f b) j := fun b kb j => ((congrArg (fun x => fldR x j) (congrFun ef_495 b)).trans (fra_up (fun j => by rw [hfo_223]; exact fr_set (k := 6) rfl rfl j) j b)).trans (hrA12 b kb j)
          have hfA12 : ∀ b, kd b = 12 → ∀ j, j ≠ 6 → j ≠ 7 → j ≠ 8 → j ≠ 14 → fldI (f_495 b) j = fldI (f b) j := fun b kb j n6 n7 n8 n14 => ((congrArg (fun x => fldI x j) (congrFun ef_495 b)).trans (fia_up (fun h9 => by rw [hfo_223]; exact fi_set (k := 6) rfl h9) n6 b)).trans (hfA12 b kb j n6 n7 n8 n14)
          have hT0 : frel kd 576 7 f_495 a_3 := by rw [ef_495]; exact hT0.keep (fun b q => up_ne (kd_ne ko0 q (by decide)))
          have hMm_280 : ∀ z9, fldI (f_495 o0) 6 = some z9 → v_8.toInt ≤ z9.toInt := by rw [ef_495]; exact (fun z9 h9 => by rw [up_self] at h9; obtain rfl := Option.some.inj h9; have h8 := hMm_280 v_230 (by rw [hfo_223]; rfl); omega)
          have hfo_497 : f_495 o0 = .inr (12, [.ref a_2, .ref a_3, .ref a_4, .int v_5, .ref a_6, .int v_7, .int x_493, .int v_231, .int v_232, .int v_233, .int v_234, .int v_13, .int v_14, .int v_15, .int v_147, .ref a_17, .ref a_18, .ref a_19, .ref a_20, .ref a_21, .ref a_22, .ref a_23, .ref a_24, .int v_25, .int v_248, .int v_27, .int v_250, .int v_29, .ref a_30, .int v_31, .ref a_32, .ref a_33, .int v_34, .int v_35, .ref a_36, .int v_37, .ref a_38, .ref a_39, .int v_40, .int v_263, .ref a_42, .ref a_43, .ref a_44, .int v_45, .ref a_46, .ref a_47, .ref a_48, .ref a_49, .ref a_50, .ref a_51, .ref a_52, .ref a_53, .ref a_54, .int v_55, .int v_278, .ref a_57]) := by rw [ef_495]; exact up_self
          refine lv_aload_n hx hb dX12_item_82 rfl (lv_at hl 1 rfl) ?_
          refine tk_ViP (As := []) (rest := []) (n := 0) hx hb hml hown hU hN hZ (s_X12_takesX_k12 l (dC, dI) cI cL cZ cR cG cH Z kd L f_495 hG o0 mo0 ko0) wd_650 wd_651 wd_652 wd_5 wd_653 (by decide +kernel) ⟨Nat.le_of_ble_eq_true rfl, Nat.le_of_ble_eq_true rfl⟩ hK hP hD hS mo0 hfo_497 12 rfl rfl rfl hl.1 rfl (Nat.le_of_ble_eq_true rfl) dX12_item_83 ⟨Nat.le_of_ble_eq_true rfl, Nat.le_of_ble_eq_true rfl⟩ (fun x_498 f_499 H locs hw hP hD hS => ?_)
          obtain ⟨hG, bx_498, hkc_500, hra_501, hfa_502, hpost_503⟩ := hw
          have hfo_505 : f_499 a_3 = .inl (cI, 1560, .inl g_209) := by rw [hkc_500 a_3 (by rw [ka_3]; decide)]; exact hfo_496
          have hfr0 : ∀ b, kd b ≠ 12 → kd b ≠ 576 → f_499 b = f b := fun b q12 q576 => (hkc_500 b q12).trans (hfr0 b q12 q576)
          have hrA12 : ∀ b, kd b = 12 → ∀ j, fldR (f_499 b) j = fldR (f b) j := fun b kb j => (hra_501 b kb j).trans (hrA12 b kb j)
          have hfA12 : ∀ b, kd b = 12 → ∀ j, j ≠ 6 → j ≠ 7 → j ≠ 8 → j ≠ 14 → fldI (f_499 b) j = fldI (f b) j := fun b kb j n6 n7 n8 n14 => (hfa_502 b kb j n6 n7 n8 n14).trans (hfA12 b kb j n6 n7 n8 n14)
          have hT0 : frel kd 576 7 f_499 a_3 := hT0.keep (fun b q => hkc_500 b (by rw [q]; decide))
          obtain ⟨a_507, a_508, a_509, v_510, a_511, v_512, v_513, v_514, v_515, v_516, v_517, v_518, v_519, v_520, v_521, a_522, a_523, a_524, a_525, a_526, a_527, a_528, a_529, v_530, v_531, v_532, v_533, v_534, a_535, v_536, a_537, a_538, v_539, v_540, a_541, v_542, a_543, a_544, v_545, v_546, a_547, a_548, a_549, v_550, a_551, a_552, a_553, a_554, a_555, a_556, a_557, a_558, a_559, v_560, v_561, a_562, hfo_506, ⟨ma_507, ka_507⟩, ⟨ma_508, ka_508⟩, ⟨ma_509, ka_509⟩, bv_510, ⟨ma_511, ka_511⟩, bv_512, bv_513, bv_518, bv_519, bv_520, ⟨ma_522, ka_522⟩, ⟨ma_523, ka_523⟩, ⟨ma_524, ka_524⟩, ⟨ma_525, ka_525⟩, ⟨ma_526, ka_526⟩, ⟨ma_527, ka_527⟩, ⟨ma_528, ka_528⟩, ⟨ma_529, ka_529⟩, bv_530, bv_532, bv_534, ⟨ma_535, ka_535⟩, bv_536, ⟨ma_537, ka_537⟩, ⟨ma_538, ka_538⟩, bv_539, ⟨ma_541, ka_541⟩, bv_542, ⟨ma_543, ka_543⟩, ⟨ma_544, ka_544⟩, bv_545, ⟨ma_547, ka_547⟩, ⟨ma_548, ka_548⟩, ⟨ma_549, ka_549⟩, bv_550, ⟨ma_551, ka_551⟩, ⟨ma_552, ka_552⟩, ⟨ma_553, ka_553⟩, ⟨ma_554, ka_554⟩, ⟨ma_555, ka_555⟩, ⟨ma_556, ka_556⟩, ⟨ma_557, ka_557⟩, ⟨ma_558, ka_558⟩, ⟨ma_559, ka_559⟩, bv_560, ⟨ma_562, ka_562⟩⟩ := un_12 (hG _ mo0) ko0
          have bv_514 : ((-2147483648) ≤ v_514.toInt ∧ v_514.toInt ≤ 2147483647) := ⟨i32_lo _, i32_hi _⟩
          have bv_515 : ((-2147483648) ≤ v_515.toInt ∧ v_515.toInt ≤ 2147483647) := ⟨i32_lo _, i32_hi _⟩
          have bv_516 : ((-2147483648) ≤ v_516.toInt ∧ v_516.toInt ≤ 2147483647) := ⟨i32_lo _, i32_hi _⟩
          have bv_517 : ((-2147483648) ≤ v_517.toInt ∧ v_517.toInt ≤ 2147483647) := ⟨i32_lo _, i32_hi _⟩
          have bv_521 : ((-2147483648) ≤ v_521.toInt ∧ v_521.toInt ≤ 2147483647) := ⟨i32_lo _, i32_hi _⟩
          have bv_531 : ((-2147483648) ≤ v_531.toInt ∧ v_531.toInt ≤ 2147483647) := ⟨i32_lo _, i32_hi _⟩
          have bv_533 : ((-2147483648) ≤ v_533.toInt ∧ v_533.toInt ≤ 2147483647) := ⟨i32_lo _, i32_hi _⟩
          have bv_540 : ((-2147483648) ≤ v_540.toInt ∧ v_540.toInt ≤ 2147483647) := ⟨i32_lo _, i32_hi _⟩
          have bv_546 : ((-2147483648) ≤ v_546.toInt ∧ v_546.toInt ≤ 2147483647) := ⟨i32_lo _, i32_hi _⟩
          have bv_561 : ((-2147483648) ≤ v_561.toInt ∧ v_561.toInt ≤ 2147483647) := ⟨i32_lo _, i32_hi _⟩
          obtain ⟨rfl, rfl, rfl, rfl, rfl, rfl, rfl, rfl, rfl, rfl, rfl, rfl, rfl, rfl, rfl, rfl, rfl, rfl, rfl, rfl, rfl, rfl, rfl, rfl, rfl, rfl, rfl, rfl, rfl, rfl, rfl⟩ := re_12 hfo_1 hfo_506 (hrA12 o0 ko0)
          obtain rfl := ri_12_3 hfo_1 hfo_506 (hfA12 o0 ko0 3 (by decide) (by decide) (by decide) (by decide))
          obtain rfl := ri_12_5 hfo_1 hfo_506 (hfA12 o0 ko0 5 (by decide) (by decide) (by decide) (by decide))
          obtain rfl := ri_12_11 hfo_1 hfo_506 (hfA12 o0 ko0 11 (by decide) (by decide) (by decide) (by decide))
          obtain rfl := ri_12_12 hfo_1 hfo_506 (hfA12 o0 ko0 12 (by decide) (by decide) (by decide) (by decide))
          obtain rfl := ri_12_13 hfo_1 hfo_506 (hfA12 o0 ko0 13 (by decide) (by decide) (by decide) (by decide))
          obtain rfl := ri_12_23 hfo_1 hfo_506 (hfA12 o0 ko0 23 (by decide) (by decide) (by decide) (by decide))
          obtain rfl := ri_12_25 hfo_1 hfo_506 (hfA12 o0 ko0 25 (by decide) (by decide) (by decide) (by decide))
          obtain rfl := ri_12_27 hfo_1 hfo_506 (hfA12 o0 ko0 27 (by decide) (by decide) (by decide) (by decide))
          obtain rfl := ri_12_29 hfo_1 hfo_506 (hfA12 o0 ko0 29 (by decide) (by decide) (by decide) (by decide))
          obtain rfl := ri_12_32 hfo_1 hfo_506 (hfA12 o0 ko0 32 (by decide) (by decide) (by decide) (by decide))
          obtain rfl := ri_12_33 hfo_1 hfo_506 (hfA12 o0 ko0 33 (by decide) (by decide) (by decide) (by decide))
          obtain rfl := ri_12_35 hfo_1 hfo_506 (hfA12 o0 ko0 35 (by decide) (by decide) (by decide) (by decide))
          obtain rfl := ri_12_38 hfo_1 hfo_506 (hfA12 o0 ko0 38 (by decide) (by decide) (by decide) (by decide))
          obtain rfl := ri_12_43 hfo_1 hfo_506 (hfA12 o0 ko0 43 (by decide) (by decide) (by decide) (by decide))
          obtain rfl := ri_12_53 hfo_1 hfo_506 (hfA12 o0 ko0 53 (by decide) (by decide) (by decide) (by decide))
          have hqhpost_503 := hpost_503 x_493 v_513 (by rw [hfo_497]; rfl) (by rw [hfo_506]; rfl)
          have hMm_563 : ∀ z9, fldI (f_499 o0) 6 = some z9 → v_8.toInt ≤ z9.toInt := fun z9 h9 => by rw [hfo_506] at h9; obtain rfl := Option.some.inj h9; have h8 := hMm_280 x_493 (by rw [hfo_497]; rfl); omega
          refine lv_if_ne (tgt := 91) hx hb dX12_item_86 (by decide) (fun c_564 => ?_) (fun c_564 => ?_)
          · skip
            rw [← Int32.toInt_inj, ti_0] at c_564
            refine lv_aload_n hx hb dX12_item_91 rfl (lv_at hl 1 rfl) ?_
            refine tk_getP (D := (dC, dI)) (ci := 12) (v := .ref a_3) (C := RX12) (T := TX12) (N := 56) hx hb hU inlX12 hown hK hP mo0 hfo_506 rfl 1 (by decide) (hU _ wd_170) (fun _ h9 => h9) rfl dX12_item_92 ?_
            refine lv_iload_n hx hb dX12_item_95 rfl (lv_at hl 2 rfl) ?_
            refine lv_iconst (v := 1) hx hb dX12_item_96 (by decide) ?_
            refine lv_iadd hx hb dX12_item_97 ?_
            refine lv_topi (fun x_565 ex_565 => ?_)
            have hx_565 : x_565.toInt = p1.toInt + 1 := by rw [ex_565, ad_I (by rw [ti_1]; omega) (by rw [ti_1]; omega), ti_1]
            have bx_565 : (601 ≤ x_565.toInt ∧ x_565.toInt ≤ 1557) := by constructor <;> omega
            refine lv_aload_n hx hb dX12_item_98 rfl (lv_at hl 1 rfl) ?_
            refine tk_getP (D := (dC, dI)) (ci := 12) (v := .int v_521) (C := RX12) (T := TX12) (N := 56) hx hb hU inlX12 hown hK hP mo0 hfo_506 rfl 14 (by decide) (hU _ wd_654) (fun _ h9 => h9) rfl dX12_item_99 ?_
            refine tk_istP hx hb hK hP hD hS 0 ma_3 hfo_505 rfl (vp_in_iff.mpr (by constructor <;> omega)) dX12_item_102 (fun H locs hP hD hS => ?_)
            have hc9 := cl_I (i := x_565) (by omega)
            obtain ⟨g_566, eqg_566⟩ : ∃ y : Nat → Int32, y = upd g_209 (Int32.toNatClampNeg x_565) v_521 := ⟨_, rfl⟩
            rw [← eqg_566] at hP hD
            have hbg_566 : wOK g_566 := by rw [eqg_566]; exact ⟨hbg_209.1.up (fun h1 h2 h3 => by exfalso; omega), hbg_209.2.1.up (fun h1 h2 h3 => by exfalso; omega), hbg_209.2.2.1.up (fun h1 h2 h3 => by exfalso; omega), hbg_209.2.2.2.1.up (fun h1 h2 h3 => by exfalso; omega), hbg_209.2.2.2.2.1.up (fun h1 h2 h3 => by exfalso; omega), hbg_209.2.2.2.2.2.1.up (fun h1 h2 h3 => by exfalso; omega), hbg_209.2.2.2.2.2.2.1.up (fun h1 h2 h3 => by exfalso; omega), hbg_209.2.2.2.2.2.2.2.1.up (fun h1 h2 h3 => by exfalso; omega), hbg_209.2.2.2.2.2.2.2.2.1.up (fun h1 h2 h3 => by exfalso; omega), hbg_209.2.2.2.2.2.2.2.2.2.1.up (fun h1 h2 h3 => by exfalso; omega), hbg_209.2.2.2.2.2.2.2.2.2.2.1.up (fun h1 h2 h3 => by exfalso; omega), hbg_209.2.2.2.2.2.2.2.2.2.2.2.1.up (fun h1 h2 h3 => by exfalso; omega), hbg_209.2.2.2.2.2.2.2.2.2.2.2.2.1.up (fun h1 h2 h3 => by exfalso; omega), hbg_209.2.2.2.2.2.2.2.2.2.2.2.2.2.1.up (fun h1 h2 h3 => by exfalso; omega), hbg_209.2.2.2.2.2.2.2.2.2.2.2.2.2.2.1.up (fun h1 h2 h3 => by exfalso; omega), hbg_209.2.2.2.2.2.2.2.2.2.2.2.2.2.2.2.up (fun h1 h2 h3 => by exfalso; omega)⟩
            obtain ⟨f_568, ef_568⟩ : ∃ y : Nat → va_E, y = va_up f_499 a_3 (.inl (cI, 1560, .inl g_566)) := ⟨_, rfl⟩
            have hP : va_P (dC, dI) vwCl (va_pl L f_568) H := by rw [ef_568]; exact hP
            have hD : va_D (fun q => q ∈ L) (va_pl L f_568) := by rw [ef_568]; exact hD
            have hG : GI (okc cI cL cZ cR cG cH L kd) kd L f_568 := by rw [ef_568]; exact hG.set a_3 (mk_576 ka_3 ⟨_, rfl, hbg_566⟩)
            have hfo_569 : f_568 o0 = .inr (12, [.ref a_2, .ref a_3, .ref a_4, .int v_5, .ref a_6, .int v_7, .int v_513, .int v_514, .int v_515, .int v_516, .int v_517, .int v_13, .int v_14, .int v_15, .int v_521, .ref a_17, .ref a_18, .ref a_19, .ref a_20, .ref a_21, .ref a_22, .ref a_23, .ref a_24, .int v_25, .int v_531, .int v_27, .int v_533, .int v_29, .ref a_30, .int v_31, .ref a_32, .ref a_33, .int v_34, .int v_35, .ref a_36, .int v_37, .ref a_38, .ref a_39, .int v_40, .int v_546, .ref a_42, .ref a_43, .ref a_44, .int v_45, .ref a_46, .ref a_47, .ref a_48, .ref a_49, .ref a_50, .ref a_51, .ref a_52, .ref a_53, .ref a_54, .int v_55, .int v_561, .ref a_57]) := by rw [ef_568, up_ne (kd_ne ka_3 ko0 (by decide))]; exact hfo_506
            have hfr0 : ∀ b, kd b ≠ 12 → kd b ≠ 576 → f_568 b = f b := fun b q12 q576 => (congrFun ef_568 b).trans ((up_ne (fun e9 => q576 (by rw [e9]; exact ka_3))).trans (hfr0 b q12 q576))
            have hrA12 : ∀ b, kd b = 12 → ∀ j, fldR (f_568 b) j = fldR (f b) j := fun b kb j => (congrArg (fun x => fldR x j) ((congrFun ef_568 b).trans (up_ne (kd_ne ka_3 kb (by decide))))).trans (hrA12 b kb j)
            have hfA12 : ∀ b, kd b = 12 → ∀ j, j ≠ 6 → j ≠ 7 → j ≠ 8 → j ≠ 14 → fldI (f_568 b) j = fldI (f b) j := fun b kb j n6 n7 n8 n14 => (congrArg (fun x => fldI x j) ((congrFun ef_568 b).trans (up_ne (kd_ne ka_3 kb (by decide))))).trans (hfA12 b kb j n6 n7 n8 n14)
            have hT0 : frel kd 576 7 f_568 a_3 := by rw [ef_568]; exact frel.mk ka_3 up_self (by rw [eqg_566]; exact (hT0.get hfo_505).up (hbg_209.2.1 16 (by decide) (by decide) (by decide)).2 (by omega) (by omega) (by omega) (fun h9 => by exfalso; omega))
            have hMm_563 : ∀ z9, fldI (f_568 o0) 6 = some z9 → v_8.toInt ≤ z9.toInt := by rw [ef_568]; exact (fun z9 h9 => hMm_563 z9 (by rw [up_ne (kd_ne ka_3 ko0 (by decide))] at h9; exact h9))
            have hfo_570 : f_568 a_3 = .inl (cI, 1560, .inl g_566) := by rw [ef_568]; exact up_self
            have ql_571 : v_521 = g_566 (Int32.toNatClampNeg x_565) := by rw [eqg_566, pk_us]
            refine lv_aload_n hx hb dX12_item_103 rfl (lv_at hl 1 rfl) ?_
            refine tk_getP (D := (dC, dI)) (ci := 12) (v := .ref a_3) (C := RX12) (T := TX12) (N := 56) hx hb hU inlX12 hown hK hP mo0 hfo_569 rfl 1 (by decide) (hU _ wd_170) (fun _ h9 => h9) rfl dX12_item_104 ?_
            refine lv_iload_n hx hb dX12_item_107 rfl (lv_at hl 2 rfl) ?_
            refine lv_iconst (v := 2) hx hb dX12_item_108 (by decide) ?_
            refine lv_iadd hx hb dX12_item_109 ?_
            refine lv_topi (fun x_572 ex_572 => ?_)
            have hx_572 : x_572.toInt = p1.toInt + 2 := by rw [ex_572, ad_I (by rw [ti_2]; omega) (by rw [ti_2]; omega), ti_2]
            have bx_572 : (602 ≤ x_572.toInt ∧ x_572.toInt ≤ 1558) := by constructor <;> omega
            refine lv_iconst (v := 0) hx hb dX12_item_110 (by decide) ?_
            refine tk_istP hx hb hK hP hD hS 0 ma_3 hfo_570 rfl (vp_in_iff.mpr (by constructor <;> omega)) dX12_item_111 (fun H locs hP hD hS => ?_)
            have hc9 := cl_I (i := x_572) (by omega)
            obtain ⟨g_573, eqg_573⟩ : ∃ y : Nat → Int32, y = upd g_566 (Int32.toNatClampNeg x_572) 0 := ⟨_, rfl⟩
            rw [← eqg_573] at hP hD
            have hbg_573 : wOK g_573 := by rw [eqg_573]; exact ⟨hbg_566.1.up (fun h1 h2 h3 => by exfalso; omega), hbg_566.2.1.up (fun h1 h2 h3 => by exfalso; omega), hbg_566.2.2.1.up (fun h1 h2 h3 => by exfalso; omega), hbg_566.2.2.2.1.up (fun h1 h2 h3 => by exfalso; omega), hbg_566.2.2.2.2.1.up (fun h1 h2 h3 => by exfalso; omega), hbg_566.2.2.2.2.2.1.up (fun h1 h2 h3 => by exfalso; omega), hbg_566.2.2.2.2.2.2.1.up (fun h1 h2 h3 => by exfalso; omega), hbg_566.2.2.2.2.2.2.2.1.up (fun h1 h2 h3 => by exfalso; omega), hbg_566.2.2.2.2.2.2.2.2.1.up (fun h1 h2 h3 => by exfalso; omega), hbg_566.2.2.2.2.2.2.2.2.2.1.up (fun h1 h2 h3 => by exfalso; omega), hbg_566.2.2.2.2.2.2.2.2.2.2.1.up (fun h1 h2 h3 => by exfalso; omega), hbg_566.2.2.2.2.2.2.2.2.2.2.2.1.up (fun h1 h2 h3 => by exfalso; omega), hbg_566.2.2.2.2.2.2.2.2.2.2.2.2.1.up (fun h1 h2 h3 => by exfalso; omega), hbg_566.2.2.2.2.2.2.2.2.2.2.2.2.2.1.up (fun h1 h2 h3 => by exfalso; omega), hbg_566.2.2.2.2.2.2.2.2.2.2.2.2.2.2.1.up (fun h1 h2 h3 => by exfalso; omega), hbg_566.2.2.2.2.2.2.2.2.2.2.2.2.2.2.2.up (fun h1 h2 h3 => by exfalso; omega)⟩
            obtain ⟨f_575, ef_575⟩ : ∃ y : Nat → va_E, y = va_up f_568 a_3 (.inl (cI, 1560, .inl g_573)) := ⟨_, rfl⟩
            have hP : va_P (dC, dI) vwCl (va_pl L f_575) H := by rw [ef_575]; exact hP
            have hD : va_D (fun q => q ∈ L) (va_pl L f_575) := by rw [ef_575]; exact hD
            have hG : GI (okc cI cL cZ cR cG cH L kd) kd L f_575 := by rw [ef_575]; exact hG.set a_3 (mk_576 ka_3 ⟨_, rfl, hbg_573⟩)
            have hfo_576 : f_575 o0 = .inr (12, [.ref a_2, .ref a_3, .ref a_4, .int v_5, .ref a_6, .int v_7, .int v_513, .int v_514, .int v_515, .int v_516, .int v_517, .int v_13, .int v_14, .int v_15, .int v_521, .ref a_17, .ref a_18, .ref a_19, .ref a_20, .ref a_21, .ref a_22, .ref a_23, .ref a_24, .int v_25, .int v_531, .int v_27, .int v_533, .int v_29, .ref a_30, .int v_31, .ref a_32, .ref a_33, .int v_34, .int v_35, .ref a_36, .int v_37, .ref a_38, .ref a_39, .int v_40, .int v_546, .ref a_42, .ref a_43, .ref a_44, .int v_45, .ref a_46, .ref a_47, .ref a_48, .ref a_49, .ref a_50, .ref a_51, .ref a_52, .ref a_53, .ref a_54, .int v_55, .int v_561, .ref a_57]) := by rw [ef_575, up_ne (kd_ne ka_3 ko0 (by decide))]; exact hfo_569
            have hfr0 : ∀ b, kd b ≠ 12 → kd b ≠ 576 → f_575 b = f b := fun b q12 q576 => (congrFun ef_575 b).trans ((up_ne (fun e9 => q576 (by rw [e9]; exact ka_3))).trans (hfr0 b q12 q576))
            have hrA12 : ∀ b, kd b = 12 → ∀ j, fldR (f_575 b) j = fldR (f b) j := fun b kb j => (congrArg (fun x => fldR x j) ((congrFun ef_575 b).trans (up_ne (kd_ne ka_3 kb (by decide))))).trans (hrA12 b kb j)
            have hfA12 : ∀ b, kd b = 12 → ∀ j, j ≠ 6 → j ≠ 7 → j ≠ 8 → j ≠ 14 → fldI (f_575 b) j = fldI (f b) j := fun b kb j n6 n7 n8 n14 => (congrArg (fun x => fldI x j) ((congrFun ef_575 b).trans (up_ne (kd_ne ka_3 kb (by decide))))).trans (hfA12 b kb j n6 n7 n8 n14)
            have hT0 : frel kd 576 7 f_575 a_3 := by rw [ef_575]; exact frel.mk ka_3 up_self (by rw [eqg_573]; exact (hT0.get hfo_570).up (hbg_566.2.1 16 (by decide) (by decide) (by decide)).2 (by omega) (by omega) (by omega) (fun h9 => by exfalso; omega))
            have hMm_563 : ∀ z9, fldI (f_575 o0) 6 = some z9 → v_8.toInt ≤ z9.toInt := by rw [ef_575]; exact (fun z9 h9 => hMm_563 z9 (by rw [up_ne (kd_ne ka_3 ko0 (by decide))] at h9; exact h9))
            have hfo_577 : f_575 a_3 = .inl (cI, 1560, .inl g_573) := by rw [ef_575]; exact up_self
            have ql_578 : 0 = g_573 (Int32.toNatClampNeg x_572) := by rw [eqg_573, pk_us]
            refine lv_aload_n hx hb dX12_item_112 rfl (lv_at hl 1 rfl) ?_
            refine tk_getP (D := (dC, dI)) (ci := 12) (v := .ref a_3) (C := RX12) (T := TX12) (N := 56) hx hb hU inlX12 hown hK hP mo0 hfo_576 rfl 1 (by decide) (hU _ wd_170) (fun _ h9 => h9) rfl dX12_item_113 ?_
            refine lv_iload_n hx hb dX12_item_116 rfl (lv_at hl 2 rfl) ?_
            refine lv_iconst (v := 3) hx hb dX12_item_117 (by decide) ?_
            refine lv_iadd hx hb dX12_item_118 ?_
            refine lv_topi (fun x_579 ex_579 => ?_)
            have hx_579 : x_579.toInt = p1.toInt + 3 := by rw [ex_579, ad_I (by rw [ti_3]; omega) (by rw [ti_3]; omega), ti_3]
            have bx_579 : (603 ≤ x_579.toInt ∧ x_579.toInt ≤ 1559) := by constructor <;> omega
            refine lv_aload_n hx hb dX12_item_119 rfl (lv_at hl 1 rfl) ?_
            refine tk_ViP (As := []) (rest := [.int x_579, .ref a_3]) (n := 0) hx hb hml hown hU hN hZ (s_X12_sign_k12 l (dC, dI) cI cL cZ cR cG cH Z kd L f_575 hG o0 mo0 ko0) wd_573 wd_574 wd_575 wd_5 wd_576 (by decide +kernel) ⟨Nat.le_of_ble_eq_true rfl, Nat.le_of_ble_eq_true rfl⟩ hK hP hD hS mo0 hfo_576 12 rfl rfl rfl hl.1 rfl (Nat.le_of_ble_eq_true rfl) dX12_item_120 ⟨Nat.le_of_ble_eq_true rfl, Nat.le_of_ble_eq_true rfl⟩ (fun x_580 f_581 H locs hw hP hD hS => ?_)
            obtain ⟨hG, bx_580, hkc_582, hra_583, hfa_584, hpost_585⟩ := hw
            have hfo_587 : f_581 a_3 = .inl (cI, 1560, .inl g_573) := by rw [hkc_582 a_3 (by rw [ka_3]; decide)]; exact hfo_577
            have hfr0 : ∀ b, kd b ≠ 12 → kd b ≠ 576 → f_581 b = f b := fun b q12 q576 => (hkc_582 b q12).trans (hfr0 b q12 q576)
            have hrA12 : ∀ b, kd b = 12 → ∀ j, fldR (f_581 b) j = fldR (f b) j := fun b kb j => (hra_583 b kb j).trans (hrA12 b kb j)
            have hfA12 : ∀ b, kd b = 12 → ∀ j, j ≠ 6 → j ≠ 7 → j ≠ 8 → j ≠ 14 → fldI (f_581 b) j = fldI (f b) j := fun b kb j n6 n7 n8 n14 => (hfa_584 b kb j n6).trans (hfA12 b kb j n6 n7 n8 n14)
            have hT0 : frel kd 576 7 f_581 a_3 := hT0.keep (fun b q => hkc_582 b (by rw [q]; decide))
            obtain ⟨a_589, a_590, a_591, v_592, a_593, v_594, v_595, v_596, v_597, v_598, v_599, v_600, v_601, v_602, v_603, a_604, a_605, a_606, a_607, a_608, a_609, a_610, a_611, v_612, v_613, v_614, v_615, v_616, a_617, v_618, a_619, a_620, v_621, v_622, a_623, v_624, a_625, a_626, v_627, v_628, a_629, a_630, a_631, v_632, a_633, a_634, a_635, a_636, a_637, a_638, a_639, a_640, a_641, v_642, v_643, a_644, hfo_588, ⟨ma_589, ka_589⟩, ⟨ma_590, ka_590⟩, ⟨ma_591, ka_591⟩, bv_592, ⟨ma_593, ka_593⟩, bv_594, bv_595, bv_600, bv_601, bv_602, ⟨ma_604, ka_604⟩, ⟨ma_605, ka_605⟩, ⟨ma_606, ka_606⟩, ⟨ma_607, ka_607⟩, ⟨ma_608, ka_608⟩, ⟨ma_609, ka_609⟩, ⟨ma_610, ka_610⟩, ⟨ma_611, ka_611⟩, bv_612, bv_614, bv_616, ⟨ma_617, ka_617⟩, bv_618, ⟨ma_619, ka_619⟩, ⟨ma_620, ka_620⟩, bv_621, ⟨ma_623, ka_623⟩, bv_624, ⟨ma_625, ka_625⟩, ⟨ma_626, ka_626⟩, bv_627, ⟨ma_629, ka_629⟩, ⟨ma_630, ka_630⟩, ⟨ma_631, ka_631⟩, bv_632, ⟨ma_633, ka_633⟩, ⟨ma_634, ka_634⟩, ⟨ma_635, ka_635⟩, ⟨ma_636, ka_636⟩, ⟨ma_637, ka_637⟩, ⟨ma_638, ka_638⟩, ⟨ma_639, ka_639⟩, ⟨ma_640, ka_640⟩, ⟨ma_641, ka_641⟩, bv_642, ⟨ma_644, ka_644⟩⟩ := un_12 (hG _ mo0) ko0
            have bv_596 : ((-2147483648) ≤ v_596.toInt ∧ v_596.toInt ≤ 2147483647) := ⟨i32_lo _, i32_hi _⟩
            have bv_597 : ((-2147483648) ≤ v_597.toInt ∧ v_597.toInt ≤ 2147483647) := ⟨i32_lo _, i32_hi _⟩
            have bv_598 : ((-2147483648) ≤ v_598.toInt ∧ v_598.toInt ≤ 2147483647) := ⟨i32_lo _, i32_hi _⟩
            have bv_599 : ((-2147483648) ≤ v_599.toInt ∧ v_599.toInt ≤ 2147483647) := ⟨i32_lo _, i32_hi _⟩
            have bv_603 : ((-2147483648) ≤ v_603.toInt ∧ v_603.toInt ≤ 2147483647) := ⟨i32_lo _, i32_hi _⟩
            have bv_613 : ((-2147483648) ≤ v_613.toInt ∧ v_613.toInt ≤ 2147483647) := ⟨i32_lo _, i32_hi _⟩
            have bv_615 : ((-2147483648) ≤ v_615.toInt ∧ v_615.toInt ≤ 2147483647) := ⟨i32_lo _, i32_hi _⟩
            have bv_622 : ((-2147483648) ≤ v_622.toInt ∧ v_622.toInt ≤ 2147483647) := ⟨i32_lo _, i32_hi _⟩
            have bv_628 : ((-2147483648) ≤ v_628.toInt ∧ v_628.toInt ≤ 2147483647) := ⟨i32_lo _, i32_hi _⟩
            have bv_643 : ((-2147483648) ≤ v_643.toInt ∧ v_643.toInt ≤ 2147483647) := ⟨i32_lo _, i32_hi _⟩
            obtain ⟨rfl, rfl, rfl, rfl, rfl, rfl, rfl, rfl, rfl, rfl, rfl, rfl, rfl, rfl, rfl, rfl, rfl, rfl, rfl, rfl, rfl, rfl, rfl, rfl, rfl, rfl, rfl, rfl, rfl, rfl, rfl⟩ := re_12 hfo_1 hfo_588 (hrA12 o0 ko0)
            obtain rfl := ri_12_3 hfo_1 hfo_588 (hfA12 o0 ko0 3 (by decide) (by decide) (by decide) (by decide))
            obtain rfl := ri_12_5 hfo_1 hfo_588 (hfA12 o0 ko0 5 (by decide) (by decide) (by decide) (by decide))
            obtain rfl := ri_12_11 hfo_1 hfo_588 (hfA12 o0 ko0 11 (by decide) (by decide) (by decide) (by decide))
            obtain rfl := ri_12_12 hfo_1 hfo_588 (hfA12 o0 ko0 12 (by decide) (by decide) (by decide) (by decide))
            obtain rfl := ri_12_13 hfo_1 hfo_588 (hfA12 o0 ko0 13 (by decide) (by decide) (by decide) (by decide))
            obtain rfl := ri_12_23 hfo_1 hfo_588 (hfA12 o0 ko0 23 (by decide) (by decide) (by decide) (by decide))
            obtain rfl := ri_12_25 hfo_1 hfo_588 (hfA12 o0 ko0 25 (by decide) (by decide) (by decide) (by decide))
            obtain rfl := ri_12_27 hfo_1 hfo_588 (hfA12 o0 ko0 27 (by decide) (by decide) (by decide) (by decide))
            obtain rfl := ri_12_29 hfo_1 hfo_588 (hfA12 o0 ko0 29 (by decide) (by decide) (by decide) (by decide))
            obtain rfl := ri_12_32 hfo_1 hfo_588 (hfA12 o0 ko0 32 (by decide) (by decide) (by decide) (by decide))
            obtain rfl := ri_12_33 hfo_1 hfo_588 (hfA12 o0 ko0 33 (by decide) (by decide) (by decide) (by decide))
            obtain rfl := ri_12_35 hfo_1 hfo_588 (hfA12 o0 ko0 35 (by decide) (by decide) (by decide) (by decide))
            obtain rfl := ri_12_38 hfo_1 hfo_588 (hfA12 o0 ko0 38 (by decide) (by decide) (by decide) (by decide))
            obtain rfl := ri_12_43 hfo_1 hfo_588 (hfA12 o0 ko0 43 (by decide) (by decide) (by decide) (by decide))
            obtain rfl := ri_12_53 hfo_1 hfo_588 (hfA12 o0 ko0 53 (by decide) (by decide) (by decide) (by decide))
            obtain rfl := ri_12_14 hfo_576 hfo_588 (hfa_584 o0 ko0 14 (by decide))
            have hqhpost_585 := hpost_585 v_513 v_595 (by rw [hfo_576]; rfl) (by rw [hfo_588]; rfl)
            have hMm_645 : ∀ z9, fldI (f_581 o0) 6 = some z9 → v_8.toInt ≤ z9.toInt := fun z9 h9 => by rw [hfo_588] at h9; obtain rfl := Option.some.inj h9; have h8 := hMm_563 v_513 (by rw [hfo_576]; rfl); omega
            refine lv_bipush (v := 42) hx hb dX12_item_123 (by decide) ?_
            have hcut_647 : ∀ (y_646 : Int32), (0 ≤ y_646.toInt ∧ y_646.toInt ≤ 1) → ∀ (ls : Array Slot), lv_has ls 3 [(2, .int y_123), (0, .ref o0), (1, .int p1)] → W p l e (headSpec (wU yX12_item cX12_item 3 (some .boolean)) { frames := 4, cells := 0, slots := 0, locals := 83 }).room s m [.ref o0, .int p1].toArray below meth c H locs 0 0 (MQ below (va_Qi (fun (r : Int32) (f9 : Nat → va_E) => GI (okc cI cL cZ cR cG cH L kd) kd L f9 ∧ (0 ≤ r.toInt ∧ r.toInt ≤ 1) ∧ (∀ b, kd b ≠ 12 → kd b ≠ 576 → f9 b = f b) ∧ (∀ b, kd b = 12 → ∀ j, fldR (f9 b) j = fldR (f b) j) ∧ (∀ b, kd b = 12 → ∀ j, j ≠ 6 → j ≠ 7 → j ≠ 8 → j ≠ 14 → fldI (f9 b) j = fldI (f b) j) ∧ (∀ (w6 z6 : Int32), fldI (f o0) 6 = some w6 → fldI (f9 o0) 6 = some z6 → w6.toInt ≤ z6.toInt) ∧ (∀ d9, fldR (f9 o0) 1 = some d9 → frel kd 576 7 f9 d9)) (qP (dC, dI) cI cL cZ cR cG cH L) (fun q => q ∈ L)) [.ref o0, .int p1].toArray s 0 0 (fun q => q ∈ L)) (F0 m 133 ls [.int y_646, .int x_579, .ref a_3]) := by
              intro y_646 by_646 ls hl
              refine tk_istP hx hb hK hP hD hS 0 ma_3 hfo_587 rfl (vp_in_iff.mpr (by constructor <;> omega)) dX12_item_133 (fun H locs hP hD hS => ?_)
              have hc9 := cl_I (i := x_579) (by omega)
              obtain ⟨g_648, eqg_648⟩ : ∃ y : Nat → Int32, y = upd g_573 (Int32.toNatClampNeg x_579) y_646 := ⟨_, rfl⟩
              rw [← eqg_648] at hP hD
              have hbg_648 : wOK g_648 := by rw [eqg_648]; exact ⟨hbg_573.1.up (fun h1 h2 h3 => by exfalso; omega), hbg_573.2.1.up (fun h1 h2 h3 => by exfalso; omega), hbg_573.2.2.1.up (fun h1 h2 h3 => by exfalso; omega), hbg_573.2.2.2.1.up (fun h1 h2 h3 => by exfalso; omega), hbg_573.2.2.2.2.1.up (fun h1 h2 h3 => by exfalso; omega), hbg_573.2.2.2.2.2.1.up (fun h1 h2 h3 => by exfalso; omega), hbg_573.2.2.2.2.2.2.1.up (fun h1 h2 h3 => by exfalso; omega), hbg_573.2.2.2.2.2.2.2.1.up (fun h1 h2 h3 => by exfalso; omega), hbg_573.2.2.2.2.2.2.2.2.1.up (fun h1 h2 h3 => by exfalso; omega), hbg_573.2.2.2.2.2.2.2.2.2.1.up (fun h1 h2 h3 => by exfalso; omega), hbg_573.2.2.2.2.2.2.2.2.2.2.1.up (fun h1 h2 h3 => by exfalso; omega), hbg_573.2.2.2.2.2.2.2.2.2.2.2.1.up (fun h1 h2 h3 => by exfalso; omega), hbg_573.2.2.2.2.2.2.2.2.2.2.2.2.1.up (fun h1 h2 h3 => by exfalso; omega), hbg_573.2.2.2.2.2.2.2.2.2.2.2.2.2.1.up (fun h1 h2 h3 => by exfalso; omega), hbg_573.2.2.2.2.2.2.2.2.2.2.2.2.2.2.1.up (fun h1 h2 h3 => by exfalso; omega), hbg_573.2.2.2.2.2.2.2.2.2.2.2.2.2.2.2.up (fun h1 h2 h3 => by exfalso; omega)⟩
              obtain ⟨f_650, ef_650⟩ : ∃ y : Nat → va_E, y = va_up f_581 a_3 (.inl (cI, 1560, .inl g_648)) := ⟨_, rfl⟩
              have hP : va_P (dC, dI) vwCl (va_pl L f_650) H := by rw [ef_650]; exact hP
              have hD : va_D (fun q => q ∈ L) (va_pl L f_650) := by rw [ef_650]; exact hD
              have hG : GI (okc cI cL cZ cR cG cH L kd) kd L f_650 := by rw [ef_650]; exact hG.set a_3 (mk_576 ka_3 ⟨_, rfl, hbg_648⟩)
              have hfo_651 : f_650 o0 = .inr (12, [.ref a_2, .ref a_3, .ref a_4, .int v_5, .ref a_6, .int v_7, .int v_595, .int v_596, .int v_597, .int v_598, .int v_599, .int v_13, .int v_14, .int v_15, .int v_521, .ref a_17, .ref a_18, .ref a_19, .ref a_20, .ref a_21, .ref a_22, .ref a_23, .ref a_24, .int v_25, .int v_613, .int v_27, .int v_615, .int v_29, .ref a_30, .int v_31, .ref a_32, .ref a_33, .int v_34, .int v_35, .ref a_36, .int v_37, .ref a_38, .ref a_39, .int v_40, .int v_628, .ref a_42, .ref a_43, .ref a_44, .int v_45, .ref a_46, .ref a_47, .ref a_48, .ref a_49, .ref a_50, .ref a_51, .ref a_52, .ref a_53, .ref a_54, .int v_55, .int v_643, .ref a_57]) := by rw [ef_650, up_ne (kd_ne ka_3 ko0 (by decide))]; exact hfo_588
              have hfr0 : ∀ b, kd b ≠ 12 → kd b ≠ 576 → f_650 b = f b := fun b q12 q576 => (congrFun ef_650 b).trans ((up_ne (fun e9 => q576 (by rw [e9]; exact ka_3))).trans (hfr0 b q12 q576))
              have hrA12 : ∀ b, kd b = 12 → ∀ j, fldR (f_650 b) j = fldR (f b) j := fun b kb j => (congrArg (fun x => fldR x j) ((congrFun ef_650 b).trans (up_ne (kd_ne ka_3 kb (by decide))))).trans (hrA12 b kb j)
              have hfA12 : ∀ b, kd b = 12 → ∀ j, j ≠ 6 → j ≠ 7 → j ≠ 8 → j ≠ 14 → fldI (f_650 b) j = fldI (f b) j := fun b kb j n6 n7 n8 n14 => (congrArg (fun x => fldI x j) ((congrFun ef_650 b).trans (up_ne (kd_ne ka_3 kb (by decide))))).trans (hfA12 b kb j n6 n7 n8 n14)
              have hT0 : frel kd 576 7 f_650 a_3 := by rw [ef_650]; exact frel.mk ka_3 up_self (by rw [eqg_648]; exact (hT0.get hfo_587).up (hbg_573.2.1 16 (by decide) (by decide) (by decide)).2 (by omega) (by omega) (by omega) (fun h9 => by exfalso; omega))
              have hMm_645 : ∀ z9, fldI (f_650 o0) 6 = some z9 → v_8.toInt ≤ z9.toInt := by rw [ef_650]; exact (fun z9 h9 => hMm_645 z9 (by rw [up_ne (kd_ne ka_3 ko0 (by decide))] at h9; exact h9))
              have hfo_652 : f_650 a_3 = .inl (cI, 1560, .inl g_648) := by rw [ef_650]; exact up_self
              have ql_653 : y_646 = g_648 (Int32.toNatClampNeg x_579) := by rw [eqg_648, pk_us]
              refine lv_aload_n hx hb dX12_item_134 rfl (lv_at hl 1 rfl) ?_
              refine tk_ViP (As := []) (rest := []) (n := 0) hx hb hml hown hU hN hZ (s_X12_sign_k12 l (dC, dI) cI cL cZ cR cG cH Z kd L f_650 hG o0 mo0 ko0) wd_573 wd_574 wd_575 wd_5 wd_576 (by decide +kernel) ⟨Nat.le_of_ble_eq_true rfl, Nat.le_of_ble_eq_true rfl⟩ hK hP hD hS mo0 hfo_651 12 rfl rfl rfl hl.1 rfl (Nat.le_of_ble_eq_true rfl) dX12_item_135 ⟨Nat.le_of_ble_eq_true rfl, Nat.le_of_ble_eq_true rfl⟩ (fun x_654 f_655 H locs hw hP hD hS => ?_)
              obtain ⟨hG, bx_654, hkc_656, hra_657, hfa_658, hpost_659⟩ := hw
              have hfo_661 : f_655 a_3 = .inl (cI, 1560, .inl g_648) := by rw [hkc_656 a_3 (by rw [ka_3]; decide)]; exact hfo_652
              have hfr0 : ∀ b, kd b ≠ 12 → kd b ≠ 576 → f_655 b = f b := fun b q12 q576 => (hkc_656 b q12).trans (hfr0 b q12 q576)
              have hrA12 : ∀ b, kd b = 12 → ∀ j, fldR (f_655 b) j = fldR (f b) j := fun b kb j => (hra_657 b kb j).trans (hrA12 b kb j)
              have hfA12 : ∀ b, kd b = 12 → ∀ j, j ≠ 6 → j ≠ 7 → j ≠ 8 → j ≠ 14 → fldI (f_655 b) j = fldI (f b) j := fun b kb j n6 n7 n8 n14 => (hfa_658 b kb j n6).trans (hfA12 b kb j n6 n7 n8 n14)
              have hT0 : frel kd 576 7 f_655 a_3 := hT0.keep (fun b q => hkc_656 b (by rw [q]; decide))
              obtain ⟨a_663, a_664, a_665, v_666, a_667, v_668, v_669, v_670, v_671, v_672, v_673, v_674, v_675, v_676, v_677, a_678, a_679, a_680, a_681, a_682, a_683, a_684, a_685, v_686, v_687, v_688, v_689, v_690, a_691, v_692, a_693, a_694, v_695, v_696, a_697, v_698, a_699, a_700, v_701, v_702, a_703, a_704, a_705, v_706, a_707, a_708, a_709, a_710, a_711, a_712, a_713, a_714, a_715, v_716, v_717, a_718, hfo_662, ⟨ma_663, ka_663⟩, ⟨ma_664, ka_664⟩, ⟨ma_665, ka_665⟩, bv_666, ⟨ma_667, ka_667⟩, bv_668, bv_669, bv_674, bv_675, bv_676, ⟨ma_678, ka_678⟩, ⟨ma_679, ka_679⟩, ⟨ma_680, ka_680⟩, ⟨ma_681, ka_681⟩, ⟨ma_682, ka_682⟩, ⟨ma_683, ka_683⟩, ⟨ma_684, ka_684⟩, ⟨ma_685, ka_685⟩, bv_686, bv_688, bv_690, ⟨ma_691, ka_691⟩, bv_692, ⟨ma_693, ka_693⟩, ⟨ma_694, ka_694⟩, bv_695, ⟨ma_697, ka_697⟩, bv_698, ⟨ma_699, ka_699⟩, ⟨ma_700, ka_700⟩, bv_701, ⟨ma_703, ka_703⟩, ⟨ma_704, ka_704⟩, ⟨ma_705, ka_705⟩, bv_706, ⟨ma_707, ka_707⟩, ⟨ma_708, ka_708⟩, ⟨ma_709, ka_709⟩, ⟨ma_710, ka_710⟩, ⟨ma_711, ka_711⟩, ⟨ma_712, ka_712⟩, ⟨ma_713, ka_713⟩, ⟨ma_714, ka_714⟩, ⟨ma_715, ka_715⟩, bv_716, ⟨ma_718, ka_718⟩⟩ := un_12 (hG _ mo0) ko0
              have bv_670 : ((-2147483648) ≤ v_670.toInt ∧ v_670.toInt ≤ 2147483647) := ⟨i32_lo _, i32_hi _⟩
              have bv_671 : ((-2147483648) ≤ v_671.toInt ∧ v_671.toInt ≤ 2147483647) := ⟨i32_lo _, i32_hi _⟩
              have bv_672 : ((-2147483648) ≤ v_672.toInt ∧ v_672.toInt ≤ 2147483647) := ⟨i32_lo _, i32_hi _⟩
              have bv_673 : ((-2147483648) ≤ v_673.toInt ∧ v_673.toInt ≤ 2147483647) := ⟨i32_lo _, i32_hi _⟩
              have bv_677 : ((-2147483648) ≤ v_677.toInt ∧ v_677.toInt ≤ 2147483647) := ⟨i32_lo _, i32_hi _⟩
              have bv_687 : ((-2147483648) ≤ v_687.toInt ∧ v_687.toInt ≤ 2147483647) := ⟨i32_lo _, i32_hi _⟩
              have bv_689 : ((-2147483648) ≤ v_689.toInt ∧ v_689.toInt ≤ 2147483647) := ⟨i32_lo _, i32_hi _⟩
              have bv_696 : ((-2147483648) ≤ v_696.toInt ∧ v_696.toInt ≤ 2147483647) := ⟨i32_lo _, i32_hi _⟩
              have bv_702 : ((-2147483648) ≤ v_702.toInt ∧ v_702.toInt ≤ 2147483647) := ⟨i32_lo _, i32_hi _⟩
              have bv_717 : ((-2147483648) ≤ v_717.toInt ∧ v_717.toInt ≤ 2147483647) := ⟨i32_lo _, i32_hi _⟩
              obtain ⟨rfl, rfl, rfl, rfl, rfl, rfl, rfl, rfl, rfl, rfl, rfl, rfl, rfl, rfl, rfl, rfl, rfl, rfl, rfl, rfl, rfl, rfl, rfl, rfl, rfl, rfl, rfl, rfl, rfl, rfl, rfl⟩ := re_12 hfo_1 hfo_662 (hrA12 o0 ko0)
              obtain rfl := ri_12_3 hfo_1 hfo_662 (hfA12 o0 ko0 3 (by decide) (by decide) (by decide) (by decide))
              obtain rfl := ri_12_5 hfo_1 hfo_662 (hfA12 o0 ko0 5 (by decide) (by decide) (by decide) (by decide))
              obtain rfl := ri_12_11 hfo_1 hfo_662 (hfA12 o0 ko0 11 (by decide) (by decide) (by decide) (by decide))
              obtain rfl := ri_12_12 hfo_1 hfo_662 (hfA12 o0 ko0 12 (by decide) (by decide) (by decide) (by decide))
              obtain rfl := ri_12_13 hfo_1 hfo_662 (hfA12 o0 ko0 13 (by decide) (by decide) (by decide) (by decide))
              obtain rfl := ri_12_23 hfo_1 hfo_662 (hfA12 o0 ko0 23 (by decide) (by decide) (by decide) (by decide))
              obtain rfl := ri_12_25 hfo_1 hfo_662 (hfA12 o0 ko0 25 (by decide) (by decide) (by decide) (by decide))
              obtain rfl := ri_12_27 hfo_1 hfo_662 (hfA12 o0 ko0 27 (by decide) (by decide) (by decide) (by decide))
              obtain rfl := ri_12_29 hfo_1 hfo_662 (hfA12 o0 ko0 29 (by decide) (by decide) (by decide) (by decide))
              obtain rfl := ri_12_32 hfo_1 hfo_662 (hfA12 o0 ko0 32 (by decide) (by decide) (by decide) (by decide))
              obtain rfl := ri_12_33 hfo_1 hfo_662 (hfA12 o0 ko0 33 (by decide) (by decide) (by decide) (by decide))
              obtain rfl := ri_12_35 hfo_1 hfo_662 (hfA12 o0 ko0 35 (by decide) (by decide) (by decide) (by decide))
              obtain rfl := ri_12_38 hfo_1 hfo_662 (hfA12 o0 ko0 38 (by decide) (by decide) (by decide) (by decide))
              obtain rfl := ri_12_43 hfo_1 hfo_662 (hfA12 o0 ko0 43 (by decide) (by decide) (by decide) (by decide))
              obtain rfl := ri_12_53 hfo_1 hfo_662 (hfA12 o0 ko0 53 (by decide) (by decide) (by decide) (by decide))
              obtain rfl := ri_12_14 hfo_651 hfo_662 (hfa_658 o0 ko0 14 (by decide))
              have hqhpost_659 := hpost_659 v_595 v_669 (by rw [hfo_651]; rfl) (by rw [hfo_662]; rfl)
              have hMm_719 : ∀ z9, fldI (f_655 o0) 6 = some z9 → v_8.toInt ≤ z9.toInt := fun z9 h9 => by rw [hfo_662] at h9; obtain rfl := Option.some.inj h9; have h8 := hMm_645 v_595 (by rw [hfo_651]; rfl); omega
              refine lv_bipush (v := 42) hx hb dX12_item_138 (by decide) ?_
              have hcut_723 : ∀ (f_721 : Nat → va_E), GI (okc cI cL cZ cR cG cH L kd) kd L f_721 → ∀ (H : Heap) (locs : List Loc), va_P (dC, dI) vwCl (va_pl L f_721) H → va_S (fun q => q ∈ L) s.heap H locs → va_D (fun q => q ∈ L) (va_pl L f_721) → (∀ b, kd b ≠ 12 → kd b ≠ 576 → f_721 b = f b) → (∀ b, kd b = 12 → ∀ j, fldR (f_721 b) j = fldR (f b) j) → (∀ b, kd b = 12 → ∀ j, j ≠ 6 → j ≠ 7 → j ≠ 8 → j ≠ 14 → fldI (f_721 b) j = fldI (f b) j) → (f_721 a_3 = .inl (cI, 1560, .inl g_648)) → frel kd 576 7 f_721 a_3 → ∀ z9, fldI (f_721 o0) 6 = some z9 → v_8.toInt ≤ z9.toInt → ∀ (ls : Array Slot), lv_has ls 3 [(2, .int y_123), (0, .ref o0), (1, .int p1)] → W p l e (headSpec (wU yX12_item cX12_item 3 (some .boolean)) { frames := 4, cells := 0, slots := 0, locals := 83 }).room s m [.ref o0, .int p1].toArray below meth c H locs 0 0 (MQ below (va_Qi (fun (r : Int32) (f9 : Nat → va_E) => GI (okc cI cL cZ cR cG cH L kd) kd L f9 ∧ (0 ≤ r.toInt ∧ r.toInt ≤ 1) ∧ (∀ b, kd b ≠ 12 → kd b ≠ 576 → f9 b = f b) ∧ (∀ b, kd b = 12 → ∀ j, fldR (f9 b) j = fldR (f b) j) ∧ (∀ b, kd b = 12 → ∀ j, j ≠ 6 → j ≠ 7 → j ≠ 8 → j ≠ 14 → fldI (f9 b) j = fldI (f b) j) ∧ (∀ (w6 z6 : Int32), fldI (f o0) 6 = some w6 → fldI (f9 o0) 6 = some z6 → w6.toInt ≤ z6.toInt) ∧ (∀ d9, fldR (f9 o0) 1 = some d9 → frel kd 576 7 f9 d9)) (qP (dC, dI) cI cL cZ cR cG cH L) (fun q => q ∈ L)) [.ref o0, .int p1].toArray s 0 0 (fun q => q ∈ L)) (F0 m 153 ls []) := by
                intro f_721 hG H locs hP hS hD hfr0 hrA12 hfA12 hfo_722 hT0 hMm_719 ls hl
                refine lv_iconst (v := 1) hx hb dX12_item_153 (by decide) ?_
                obtain ⟨a_725, a_726, a_727, v_728, a_729, v_730, v_731, v_732, v_733, v_734, v_735, v_736, v_737, v_738, v_739, a_740, a_741, a_742, a_743, a_744, a_745, a_746, a_747, v_748, v_749, v_750, v_751, v_752, a_753, v_754, a_755, a_756, v_757, v_758, a_759, v_760, a_761, a_762, v_763, v_764, a_765, a_766, a_767, v_768, a_769, a_770, a_771, a_772, a_773, a_774, a_775, a_776, a_777, v_778, v_779, a_780, hfo_724, ⟨ma_725, ka_725⟩, ⟨ma_726, ka_726⟩, ⟨ma_727, ka_727⟩, bv_728, ⟨ma_729, ka_729⟩, bv_730, bv_731, bv_736, bv_737, bv_738, ⟨ma_740, ka_740⟩, ⟨ma_741, ka_741⟩, ⟨ma_742, ka_742⟩, ⟨ma_743, ka_743⟩, ⟨ma_744, ka_744⟩, ⟨ma_745, ka_745⟩, ⟨ma_746, ka_746⟩, ⟨ma_747, ka_747⟩, bv_748, bv_750, bv_752, ⟨ma_753, ka_753⟩, bv_754, ⟨ma_755, ka_755⟩, ⟨ma_756, ka_756⟩, bv_757, ⟨ma_759, ka_759⟩, bv_760, ⟨ma_761, ka_761⟩, ⟨ma_762, ka_762⟩, bv_763, ⟨ma_765, ka_765⟩, ⟨ma_766, ka_766⟩, ⟨ma_767, ka_767⟩, bv_768, ⟨ma_769, ka_769⟩, ⟨ma_770, ka_770⟩, ⟨ma_771, ka_771⟩, ⟨ma_772, ka_772⟩, ⟨ma_773, ka_773⟩, ⟨ma_774, ka_774⟩, ⟨ma_775, ka_775⟩, ⟨ma_776, ka_776⟩, ⟨ma_777, ka_777⟩, bv_778, ⟨ma_780, ka_780⟩⟩ := un_12 (hG _ mo0) ko0
                have bv_732 : ((-2147483648) ≤ v_732.toInt ∧ v_732.toInt ≤ 2147483647) := ⟨i32_lo _, i32_hi _⟩
                have bv_733 : ((-2147483648) ≤ v_733.toInt ∧ v_733.toInt ≤ 2147483647) := ⟨i32_lo _, i32_hi _⟩
                have bv_734 : ((-2147483648) ≤ v_734.toInt ∧ v_734.toInt ≤ 2147483647) := ⟨i32_lo _, i32_hi _⟩
                have bv_735 : ((-2147483648) ≤ v_735.toInt ∧ v_735.toInt ≤ 2147483647) := ⟨i32_lo _, i32_hi _⟩
                have bv_739 : ((-2147483648) ≤ v_739.toInt ∧ v_739.toInt ≤ 2147483647) := ⟨i32_lo _, i32_hi _⟩
                have bv_749 : ((-2147483648) ≤ v_749.toInt ∧ v_749.toInt ≤ 2147483647) := ⟨i32_lo _, i32_hi _⟩
                have bv_751 : ((-2147483648) ≤ v_751.toInt ∧ v_751.toInt ≤ 2147483647) := ⟨i32_lo _, i32_hi _⟩
                have bv_758 : ((-2147483648) ≤ v_758.toInt ∧ v_758.toInt ≤ 2147483647) := ⟨i32_lo _, i32_hi _⟩
                have bv_764 : ((-2147483648) ≤ v_764.toInt ∧ v_764.toInt ≤ 2147483647) := ⟨i32_lo _, i32_hi _⟩
                have bv_779 : ((-2147483648) ≤ v_779.toInt ∧ v_779.toInt ≤ 2147483647) := ⟨i32_lo _, i32_hi _⟩
                obtain ⟨rfl, rfl, rfl, rfl, rfl, rfl, rfl, rfl, rfl, rfl, rfl, rfl, rfl, rfl, rfl, rfl, rfl, rfl, rfl, rfl, rfl, rfl, rfl, rfl, rfl, rfl, rfl, rfl, rfl, rfl, rfl⟩ := re_12 hfo_1 hfo_724 (hrA12 o0 ko0)
                obtain rfl := ri_12_3 hfo_1 hfo_724 (hfA12 o0 ko0 3 (by decide) (by decide) (by decide) (by decide))
                obtain rfl := ri_12_5 hfo_1 hfo_724 (hfA12 o0 ko0 5 (by decide) (by decide) (by decide) (by decide))
                obtain rfl := ri_12_11 hfo_1 hfo_724 (hfA12 o0 ko0 11 (by decide) (by decide) (by decide) (by decide))
                obtain rfl := ri_12_12 hfo_1 hfo_724 (hfA12 o0 ko0 12 (by decide) (by decide) (by decide) (by decide))
                obtain rfl := ri_12_13 hfo_1 hfo_724 (hfA12 o0 ko0 13 (by decide) (by decide) (by decide) (by decide))
                obtain rfl := ri_12_23 hfo_1 hfo_724 (hfA12 o0 ko0 23 (by decide) (by decide) (by decide) (by decide))
                obtain rfl := ri_12_25 hfo_1 hfo_724 (hfA12 o0 ko0 25 (by decide) (by decide) (by decide) (by decide))
                obtain rfl := ri_12_27 hfo_1 hfo_724 (hfA12 o0 ko0 27 (by decide) (by decide) (by decide) (by decide))
                obtain rfl := ri_12_29 hfo_1 hfo_724 (hfA12 o0 ko0 29 (by decide) (by decide) (by decide) (by decide))
                obtain rfl := ri_12_32 hfo_1 hfo_724 (hfA12 o0 ko0 32 (by decide) (by decide) (by decide) (by decide))
                obtain rfl := ri_12_33 hfo_1 hfo_724 (hfA12 o0 ko0 33 (by decide) (by decide) (by decide) (by decide))
                obtain rfl := ri_12_35 hfo_1 hfo_724 (hfA12 o0 ko0 35 (by decide) (by decide) (by decide) (by decide))
                obtain rfl := ri_12_38 hfo_1 hfo_724 (hfA12 o0 ko0 38 (by decide) (by decide) (by decide) (by decide))
                obtain rfl := ri_12_43 hfo_1 hfo_724 (hfA12 o0 ko0 43 (by decide) (by decide) (by decide) (by decide))
                obtain rfl := ri_12_53 hfo_1 hfo_724 (hfA12 o0 ko0 53 (by decide) (by decide) (by decide) (by decide))
                have hM9 := hMm_719 v_731 (by rw [hfo_724]; rfl)
                exact W.zret (v := 1) (ty := .boolean) hx hb hr rfl (fun t ht hW => ⟨⟨1, f_721, rfl, ⟨hG, (by decide), hfr0, hrA12, hfA12, (by intro w6 z6 e6 d6; rw [hfo_1] at e6; rw [hfo_724] at d6; obtain rfl := Option.some.inj e6; obtain rfl := Option.some.inj d6; (try rw [ti_1]) <;> omega), (fun d9 h9 => by rw [hfo_724] at h9; obtain rfl := Option.some.inj h9; exact hT0)⟩, by rw [ht]; exact hP, va_K.moved hW.alike hK, pl_in hD⟩, hS.F ht⟩) hS.2.2 dX12_item_154
              refine lv_icmp_ne (tgt := 153) hx hb dX12_item_140 (by decide) (fun c_781 => ?_) (fun c_781 => ?_)
              · skip
                rw [← Int32.toInt_inj, ti_42] at c_781
                exact hcut_723 f_655 hG _ _ hP hS hD hfr0 hrA12 hfA12 hfo_661 hT0 hMm_719 ls (lv_sub hl [0, 1, 2] rfl)
              · skip
                rw [← Int32.toInt_inj, ti_42] at c_781
                have hclc_782 : (0 ≤ v_669.toInt ∧ v_669.toInt ≤ 599) := by constructor <;> omega
                refine lv_aload_n hx hb dX12_item_143 rfl (lv_at hl 1 rfl) ?_
                refine lv_dup hx hb dX12_item_144 rfl ?_
                refine tk_getP (D := (dC, dI)) (ci := 12) (v := .int v_669) (C := RX12) (T := TX12) (N := 56) hx hb hU inlX12 hown hK hP mo0 hfo_662 rfl 6 (by decide) (hU _ wd_566) (fun _ h9 => h9) rfl dX12_item_145 ?_
                refine lv_iconst (v := 1) hx hb dX12_item_148 (by decide) ?_
                refine lv_iadd hx hb dX12_item_149 ?_
                refine lv_topi (fun x_783 ex_783 => ?_)
                have hx_783 : x_783.toInt = v_669.toInt + 1 := by rw [ex_783, ad_I (by rw [ti_1]; omega) (by rw [ti_1]; omega), ti_1]
                have bx_783 : (1 ≤ x_783.toInt ∧ x_783.toInt ≤ 600) := by constructor <;> omega
                refine tk_putP (D := (dC, dI)) (ci := 12) (v := .int x_783) (ty := .int) (C := RX12) (T := TX12) (N := 56) hx hb hU inlX12 tyX12 tyX12_ok nmX12 hown hK hP hD hS mo0 hfo_662 rfl 6 (by decide) (hU _ wd_566) (fun _ h9 => h9) rfl (by decide +kernel) rfl rfl (Nat.le_of_ble_eq_true rfl) dX12_item_150 (fun H locs hP hD hS => ?_)
                obtain ⟨f_785, ef_785⟩ : ∃ y : Nat → va_E, y = va_up f_655 o0 (.inr (12, [.ref a_2, .ref a_3, .ref a_4, .int v_5, .ref a_6, .int v_7, .int x_783, .int v_670, .int v_671, .int v_672, .int v_673, .int v_13, .int v_14, .int v_15, .int v_521, .ref a_17, .ref a_18, .ref a_19, .ref a_20, .ref a_21, .ref a_22, .ref a_23, .ref a_24, .int v_25, .int v_687, .int v_27, .int v_689, .int v_29, .ref a_30, .int v_31, .ref a_32, .ref a_33, .int v_34, .int v_35, .ref a_36, .int v_37, .ref a_38, .ref a_39, .int v_40, .int v_702, .ref a_42, .ref a_43, .ref a_44, .int v_45, .ref a_46, .ref a_47, .ref a_48, .ref a_49, .ref a_50, .ref a_51, .ref a_52, .ref a_53, .ref a_54, .int v_55, .int v_717, .ref a_57])) := ⟨_, rfl⟩
                have hP : va_P (dC, dI) vwCl (va_pl L f_785) H := by rw [ef_785]; exact hP
                have hD : va_D (fun q => q ∈ L) (va_pl L f_785) := by rw [ef_785]; exact hD
                have hG : GI (okc cI cL cZ cR cG cH L kd) kd L f_785 := by rw [ef_785]; exact hG.set o0 (mk_12 ko0 ⟨a_2, a_3, a_4, v_5, a_6, v_7, x_783, v_670, v_671, v_672, v_673, v_13, v_14, v_15, v_521, a_17, a_18, a_19, a_20, a_21, a_22, a_23, a_24, v_25, v_687, v_27, v_689, v_29, a_30, v_31, a_32, a_33, v_34, v_35, a_36, v_37, a_38, a_39, v_40, v_702, a_42, a_43, a_44, v_45, a_46, a_47, a_48, a_49, a_50, a_51, a_52, a_53, a_54, v_55, v_717, a_57, rfl, ⟨ma_2, ka_2⟩, ⟨ma_3, ka_3⟩, ⟨ma_4, ka_4⟩, (by constructor <;> omega), ⟨ma_6, ka_6⟩, (by constructor <;> omega), (by constructor <;> omega), (by constructor <;> omega), (by constructor <;> omega), (by constructor <;> omega), ⟨ma_17, ka_17⟩, ⟨ma_18, ka_18⟩, ⟨ma_19, ka_19⟩, ⟨ma_20, ka_20⟩, ⟨ma_21, ka_21⟩, ⟨ma_22, ka_22⟩, ⟨ma_23, ka_23⟩, ⟨ma_24, ka_24⟩, (by constructor <;> omega), (by constructor <;> omega), (by constructor <;> omega), ⟨ma_30, ka_30⟩, (by constructor <;> omega), ⟨ma_32, ka_32⟩, ⟨ma_33, ka_33⟩, (by constructor <;> omega), ⟨ma_36, ka_36⟩, (by constructor <;> omega), ⟨ma_38, ka_38⟩, ⟨ma_39, ka_39⟩, (by constructor <;> omega), ⟨ma_42, ka_42⟩, ⟨ma_43, ka_43⟩, ⟨ma_44, ka_44⟩, (by constructor <;> omega), ⟨ma_46, ka_46⟩, ⟨ma_47, ka_47⟩, ⟨ma_48, ka_48⟩, ⟨ma_49, ka_49⟩, ⟨ma_50, ka_50⟩, ⟨ma_51, ka_51⟩, ⟨ma_52, ka_52⟩, ⟨ma_53, ka_53⟩, ⟨ma_54, ka_54⟩, (by constructor <;> omega), ⟨ma_57, ka_57⟩⟩)
                have hfo_786 : f_785 a_3 = .inl (cI, 1560, .inl g_648) := by rw [ef_785, up_ne (kd_ne ko0 ka_3 (by decide))]; exact hfo_661
                have hfr0 : ∀ b, kd b ≠ 12 → kd b ≠ 576 → f_785 b = f b := fun b q12 q576 => (congrFun ef_785 b).trans ((up_ne (fun e9 => q12 (by rw [e9]; exact ko0))).trans (hfr0 b q12 q576))
                have hrA12 : ∀ b, kd b = 12 → ∀ j, fldR (f_785 b) j = fldR (f b) j := fun b kb j => ((congrArg (fun x => fldR x j) (congrFun ef_785 b)).trans (fra_up (fun j => by rw [hfo_662]; exact fr_set (k := 6) rfl rfl j) j b)).trans (hrA12 b kb j)
                have hfA12 : ∀ b, kd b = 12 → ∀ j, j ≠ 6 → j ≠ 7 → j ≠ 8 → j ≠ 14 → fldI (f_785 b) j = fldI (f b) j := fun b kb j n6 n7 n8 n14 => ((congrArg (fun x => fldI x j) (congrFun ef_785 b)).trans (fia_up (fun h9 => by rw [hfo_662]; exact fi_set (k := 6) rfl h9) n6 b)).trans (hfA12 b kb j n6 n7 n8 n14)
                have hT0 : frel kd 576 7 f_785 a_3 := by rw [ef_785]; exact hT0.keep (fun b q => up_ne (kd_ne ko0 q (by decide)))
                have hMm_719 : ∀ z9, fldI (f_785 o0) 6 = some z9 → v_8.toInt ≤ z9.toInt := by rw [ef_785]; exact (fun z9 h9 => by rw [up_self] at h9; obtain rfl := Option.some.inj h9; have h8 := hMm_719 v_669 (by rw [hfo_662]; rfl); omega)
                have hfo_787 : f_785 o0 = .inr (12, [.ref a_2, .ref a_3, .ref a_4, .int v_5, .ref a_6, .int v_7, .int x_783, .int v_670, .int v_671, .int v_672, .int v_673, .int v_13, .int v_14, .int v_15, .int v_521, .ref a_17, .ref a_18, .ref a_19, .ref a_20, .ref a_21, .ref a_22, .ref a_23, .ref a_24, .int v_25, .int v_687, .int v_27, .int v_689, .int v_29, .ref a_30, .int v_31, .ref a_32, .ref a_33, .int v_34, .int v_35, .ref a_36, .int v_37, .ref a_38, .ref a_39, .int v_40, .int v_702, .ref a_42, .ref a_43, .ref a_44, .int v_45, .ref a_46, .ref a_47, .ref a_48, .ref a_49, .ref a_50, .ref a_51, .ref a_52, .ref a_53, .ref a_54, .int v_55, .int v_717, .ref a_57]) := by rw [ef_785]; exact up_self
                exact hcut_723 f_785 hG _ _ hP hS hD hfr0 hrA12 hfA12 hfo_786 hT0 hMm_719 ls (lv_sub hl [0, 1, 2] rfl)
            refine lv_icmp_ne (tgt := 132) hx hb dX12_item_125 (by decide) (fun c_788 => ?_) (fun c_788 => ?_)
            · skip
              rw [← Int32.toInt_inj, ti_42] at c_788
              refine lv_iconst (v := 0) hx hb dX12_item_132 (by decide) ?_
              exact hcut_647 0 (by decide) ls (lv_sub hl [0, 1, 2] rfl)
            · skip
              rw [← Int32.toInt_inj, ti_42] at c_788
              refine lv_iconst (v := 1) hx hb dX12_item_128 (by decide) ?_
              refine lv_goto (tgt := 133) hx hb dX12_item_129 (by decide) ?_
              exact hcut_647 1 (by decide) ls (lv_sub hl [0, 1, 2] rfl)
          · skip
            rw [← Int32.toInt_inj, ti_0] at c_564
            refine lv_iconst (v := 0) hx hb dX12_item_89 (by decide) ?_
            have hM9 := hMm_563 v_513 (by rw [hfo_506]; rfl)
            exact W.zret (v := 0) (ty := .boolean) hx hb hr rfl (fun t ht hW => ⟨⟨0, f_499, rfl, ⟨hG, (by decide), hfr0, hrA12, hfA12, (by intro w6 z6 e6 d6; rw [hfo_1] at e6; rw [hfo_506] at d6; obtain rfl := Option.some.inj e6; obtain rfl := Option.some.inj d6; (try rw [ti_0]) <;> omega), (fun d9 h9 => by rw [hfo_506] at h9; obtain rfl := Option.some.inj h9; exact hT0)⟩, by rw [ht]; exact hP, va_K.moved hW.alike hK, pl_in hD⟩, hS.F ht⟩) hS.2.2 dX12_item_90
      refine lv_if_eq (tgt := 61) hx hb dX12_item_54 (by decide) (fun c_789 => ?_) (fun c_789 => ?_)
      · skip
        rw [← Int32.toInt_inj, ti_0] at c_789
        refine lv_iconst (v := 1) hx hb dX12_item_61 (by decide) ?_
        exact hcut_208 1 (by decide) ls (lv_sub hl [0, 1, 2] rfl)
      · skip
        rw [← Int32.toInt_inj, ti_0] at c_789
        refine lv_iconst (v := 0) hx hb dX12_item_57 (by decide) ?_
        refine lv_goto (tgt := 62) hx hb dX12_item_58 (by decide) ?_
        exact hcut_208 0 (by decide) ls (lv_sub hl [0, 1, 2] rfl)
    · skip
      rw [← Int32.toInt_inj, ti_0] at c_190
      refine lv_iconst (v := 0) hx hb dX12_item_22 (by decide) ?_
      have hM9 := hMm_189 v_139 (by rw [hfo_132]; rfl)
      exact W.zret (v := 0) (ty := .boolean) hx hb hr rfl (fun t ht hW => ⟨⟨0, f_126, rfl, ⟨hG, (by decide), hfr0, hrA12, hfA12, (by intro w6 z6 e6 d6; rw [hfo_1] at e6; rw [hfo_132] at d6; obtain rfl := Option.some.inj e6; obtain rfl := Option.some.inj d6; (try rw [ti_0]) <;> omega), (fun d9 h9 => by rw [hfo_132] at h9; obtain rfl := Option.some.inj h9; exact hT0)⟩, by rw [ht]; exact hP, va_K.moved hW.alike hK, pl_in hD⟩, hS.F ht⟩) hS.2.2 dX12_item_23
  refine lv_icmp_ne (tgt := 13) hx hb dX12_item_6 (by decide) (fun c_790 => ?_) (fun c_790 => ?_)
  · skip
    rw [← Int32.toInt_inj, ti_63] at c_790
    refine lv_iconst (v := 0) hx hb dX12_item_13 (by decide) ?_
    exact hcut_124 0 (by decide) ls (lv_sub hl [0, 1] rfl)
  · skip
    rw [← Int32.toInt_inj, ti_63] at c_790
    refine lv_iconst (v := 1) hx hb dX12_item_9 (by decide) ?_
    refine lv_goto (tgt := 14) hx hb dX12_item_10 (by decide) ?_
    exact hcut_124 1 (by decide) ls (lv_sub hl [0, 1] rfl)
