set_option maxHeartbeats 8000000 in
set_option maxRecDepth 100000 in
theorem s_X12_classOf_k12 (l : Launch) (D : va_G) (cI cL cZ cR cG cH : ClassId) (Z : zT) (kd : Nat → Nat) (L : List Nat) (f : Nat → va_E) (hG : GI (okc cI cL cZ cR cG cH L kd) kd L f) (o0 : Nat) (mo0 : o0 ∈ L) (ko0 : kd o0 = 12) (hxtr0 : ∀ d9, fldR (f o0) 1 = some d9 → frel kd 576 8 f d9) : mPI l D cI cL cZ cR cG cH Z yX12_classOf cX12_classOf 5 (some .boolean) 3 61 [.ref o0] L f (fun (r : Int32) (f9 : Nat → va_E) => GI (okc cI cL cZ cR cG cH L kd) kd L f9 ∧ (0 ≤ r.toInt ∧ r.toInt ≤ 1) ∧ (∀ b, kd b ≠ 12 → kd b ≠ 576 → f9 b = f b) ∧ (∀ b, kd b = 12 → ∀ j, fldR (f9 b) j = fldR (f b) j) ∧ (∀ b, kd b = 12 → ∀ j, j ≠ 6 → j ≠ 7 → j ≠ 8 → fldI (f9 b) j = fldI (f b) j) ∧ (∀ (w6 z6 : Int32), fldI (f o0) 6 = some w6 → fldI (f9 o0) 6 = some z6 → w6.toInt ≤ z6.toInt) ∧ (∀ d9, fldR (f9 o0) 1 = some d9 → frel kd 576 8 f9 d9)) := by
  obtain ⟨dC, dI⟩ := D
  refine Met.ofW (cc := cX12_classOf) (maxL := 5) (ret := (some .boolean)) (by decide) rfl ?_
  intro p e s m args below meth c s₁ B hml hv
  obtain ⟨rfl, hP, hK, hD0, hN, hZ⟩ := hv
  have hx := B.exec
  have hb := B.bytes
  have hr := B.returns
  have hU : ∀ w ∈ wsU, w.before _ s = true := fun w h => atoms_spec (ws := wU yX12_classOf cX12_classOf 5 (some .boolean)) B.pre w (List.mem_cons_of_mem _ h)
  have hown : s.vm.findClass RX12 = some m.cls := findClass_of_methodNamed B.named
  have hlocks := B.notSynchronized
  have hD := pl_in hD0
  have hS : va_S (fun q => q ∈ L) s.heap s.heap [] := va_S.rf
  have hl := lv_entry ([.ref o0]) (n := 5) (Nat.le_of_ble_eq_true rfl)
  rw [lg_entry_eq]
  generalize (lg_sl ([.ref o0]) ++ List.replicate (5 - (lg_sl ([.ref o0])).length) Slot.unset).toArray = ls at hl ⊢
  have hl : lv_has ls 5 [(0, .ref o0)] := hl
  have hfr0 : ∀ b, kd b ≠ 12 → kd b ≠ 576 → f b = f b := fun _ _ _ => rfl
  have hrA12 : ∀ b, kd b = 12 → ∀ j, fldR (f b) j = fldR (f b) j := fun _ _ _ => rfl
  have hfA12 : ∀ b, kd b = 12 → ∀ j, j ≠ 6 → j ≠ 7 → j ≠ 8 → fldI (f b) j = fldI (f b) j := fun _ _ _ _ _ _ => rfl
  obtain ⟨a_2, a_3, a_4, v_5, a_6, v_7, v_8, v_9, v_10, v_11, v_12, v_13, v_14, v_15, v_16, a_17, a_18, a_19, a_20, a_21, a_22, a_23, a_24, v_25, v_26, v_27, v_28, v_29, a_30, v_31, a_32, a_33, v_34, v_35, a_36, v_37, a_38, a_39, v_40, v_41, a_42, a_43, a_44, v_45, a_46, a_47, a_48, a_49, a_50, a_51, a_52, a_53, a_54, v_55, v_56, a_57, hfo_1, ⟨ma_2, ka_2⟩, ⟨ma_3, ka_3⟩, ⟨ma_4, ka_4⟩, bv_5, ⟨ma_6, ka_6⟩, bv_7, bv_8, bv_13, bv_14, bv_15, ⟨ma_17, ka_17⟩, ⟨ma_18, ka_18⟩, ⟨ma_19, ka_19⟩, ⟨ma_20, ka_20⟩, ⟨ma_21, ka_21⟩, ⟨ma_22, ka_22⟩, ⟨ma_23, ka_23⟩, ⟨ma_24, ka_24⟩, bv_25, bv_27, bv_29, ⟨ma_30, ka_30⟩, bv_31, ⟨ma_32, ka_32⟩, ⟨ma_33, ka_33⟩, bv_34, ⟨ma_36, ka_36⟩, bv_37, ⟨ma_38, ka_38⟩, ⟨ma_39, ka_39⟩, bv_40, ⟨ma_42, ka_42⟩, ⟨ma_43, ka_43⟩, ⟨ma_44, ka_44⟩, bv_45, ⟨ma_46, ka_46⟩, ⟨ma_47, ka_47⟩, ⟨ma_48, ka_48⟩, ⟨ma_49, ka_49⟩, ⟨ma_50, ka_50⟩, ⟨ma_51, ka_51⟩, ⟨ma_52, ka_52⟩, ⟨ma_53, ka_53⟩, ⟨ma_54, ka_54⟩, bv_55, ⟨ma_57, ka_57⟩⟩ := un_12 (hG _ mo0) ko0
  have bv_9 : ((-2147483648) ≤ v_9.toInt ∧ v_9.toInt ≤ 2147483647) := ⟨i32_lo _, i32_hi _⟩
  have bv_10 : ((-2147483648) ≤ v_10.toInt ∧ v_10.toInt ≤ 2147483647) := ⟨i32_lo _, i32_hi _⟩
  have bv_11 : ((-2147483648) ≤ v_11.toInt ∧ v_11.toInt ≤ 2147483647) := ⟨i32_lo _, i32_hi _⟩
  have bv_12 : ((-2147483648) ≤ v_12.toInt ∧ v_12.toInt ≤ 2147483647) := ⟨i32_lo _, i32_hi _⟩
  have bv_16 : ((-2147483648) ≤ v_16.toInt ∧ v_16.toInt ≤ 2147483647) := ⟨i32_lo _, i32_hi _⟩
  have bv_26 : ((-2147483648) ≤ v_26.toInt ∧ v_26.toInt ≤ 2147483647) := ⟨i32_lo _, i32_hi _⟩
  have bv_28 : ((-2147483648) ≤ v_28.toInt ∧ v_28.toInt ≤ 2147483647) := ⟨i32_lo _, i32_hi _⟩
  have bv_35 : ((-2147483648) ≤ v_35.toInt ∧ v_35.toInt ≤ 2147483647) := ⟨i32_lo _, i32_hi _⟩
  have bv_41 : ((-2147483648) ≤ v_41.toInt ∧ v_41.toInt ≤ 2147483647) := ⟨i32_lo _, i32_hi _⟩
  have bv_56 : ((-2147483648) ≤ v_56.toInt ∧ v_56.toInt ≤ 2147483647) := ⟨i32_lo _, i32_hi _⟩
  have hT0 := hxtr0 a_3 (by rw [hfo_1]; rfl)
  refine lv_aload_n hx hb dX12_classOf_0 rfl (lv_at hl 0 rfl) ?_
  refine tk_ViP (As := []) (rest := []) (n := 0) hx hb hml hown hU hN hZ (s_X12_sign_k12 l (dC, dI) cI cL cZ cR cG cH Z kd L f hG o0 mo0 ko0) wd_573 wd_574 wd_575 wd_5 wd_576 (by decide +kernel) ⟨Nat.le_of_ble_eq_true rfl, Nat.le_of_ble_eq_true rfl⟩ hK hP hD hS mo0 hfo_1 12 rfl rfl rfl hl.1 rfl (Nat.le_of_ble_eq_true rfl) dX12_classOf_1 ⟨Nat.le_of_ble_eq_true rfl, Nat.le_of_ble_eq_true rfl⟩ (fun x_58 f_59 H locs hw hP hD hS => ?_)
  obtain ⟨hG, bx_58, hkc_60, hra_61, hfa_62, hpost_63⟩ := hw
  have hfr0 : ∀ b, kd b ≠ 12 → kd b ≠ 576 → f_59 b = f b := fun b q12 q576 => (hkc_60 b q12).trans (hfr0 b q12 q576)
  have hrA12 : ∀ b, kd b = 12 → ∀ j, fldR (f_59 b) j = fldR (f b) j := fun b kb j => (hra_61 b kb j).trans (hrA12 b kb j)
  have hfA12 : ∀ b, kd b = 12 → ∀ j, j ≠ 6 → j ≠ 7 → j ≠ 8 → fldI (f_59 b) j = fldI (f b) j := fun b kb j n6 n7 n8 => (hfa_62 b kb j n6).trans (hfA12 b kb j n6 n7 n8)
  have hT0 : frel kd 576 8 f_59 a_3 := hT0.keep (fun b q => hkc_60 b (by rw [q]; decide))
  obtain ⟨a_66, a_67, a_68, v_69, a_70, v_71, v_72, v_73, v_74, v_75, v_76, v_77, v_78, v_79, v_80, a_81, a_82, a_83, a_84, a_85, a_86, a_87, a_88, v_89, v_90, v_91, v_92, v_93, a_94, v_95, a_96, a_97, v_98, v_99, a_100, v_101, a_102, a_103, v_104, v_105, a_106, a_107, a_108, v_109, a_110, a_111, a_112, a_113, a_114, a_115, a_116, a_117, a_118, v_119, v_120, a_121, hfo_65, ⟨ma_66, ka_66⟩, ⟨ma_67, ka_67⟩, ⟨ma_68, ka_68⟩, bv_69, ⟨ma_70, ka_70⟩, bv_71, bv_72, bv_77, bv_78, bv_79, ⟨ma_81, ka_81⟩, ⟨ma_82, ka_82⟩, ⟨ma_83, ka_83⟩, ⟨ma_84, ka_84⟩, ⟨ma_85, ka_85⟩, ⟨ma_86, ka_86⟩, ⟨ma_87, ka_87⟩, ⟨ma_88, ka_88⟩, bv_89, bv_91, bv_93, ⟨ma_94, ka_94⟩, bv_95, ⟨ma_96, ka_96⟩, ⟨ma_97, ka_97⟩, bv_98, ⟨ma_100, ka_100⟩, bv_101, ⟨ma_102, ka_102⟩, ⟨ma_103, ka_103⟩, bv_104, ⟨ma_106, ka_106⟩, ⟨ma_107, ka_107⟩, ⟨ma_108, ka_108⟩, bv_109, ⟨ma_110, ka_110⟩, ⟨ma_111, ka_111⟩, ⟨ma_112, ka_112⟩, ⟨ma_113, ka_113⟩, ⟨ma_114, ka_114⟩, ⟨ma_115, ka_115⟩, ⟨ma_116, ka_116⟩, ⟨ma_117, ka_117⟩, ⟨ma_118, ka_118⟩, bv_119, ⟨ma_121, ka_121⟩⟩ := un_12 (hG _ mo0) ko0
  have bv_73 : ((-2147483648) ≤ v_73.toInt ∧ v_73.toInt ≤ 2147483647) := ⟨i32_lo _, i32_hi _⟩
  have bv_74 : ((-2147483648) ≤ v_74.toInt ∧ v_74.toInt ≤ 2147483647) := ⟨i32_lo _, i32_hi _⟩
  have bv_75 : ((-2147483648) ≤ v_75.toInt ∧ v_75.toInt ≤ 2147483647) := ⟨i32_lo _, i32_hi _⟩
  have bv_76 : ((-2147483648) ≤ v_76.toInt ∧ v_76.toInt ≤ 2147483647) := ⟨i32_lo _, i32_hi _⟩
  have bv_80 : ((-2147483648) ≤ v_80.toInt ∧ v_80.toInt ≤ 2147483647) := ⟨i32_lo _, i32_hi _⟩
  have bv_90 : ((-2147483648) ≤ v_90.toInt ∧ v_90.toInt ≤ 2147483647) := ⟨i32_lo _, i32_hi _⟩
  have bv_92 : ((-2147483648) ≤ v_92.toInt ∧ v_92.toInt ≤ 2147483647) := ⟨i32_lo _, i32_hi _⟩
  have bv_99 : ((-2147483648) ≤ v_99.toInt ∧ v_99.toInt ≤ 2147483647) := ⟨i32_lo _, i32_hi _⟩
  have bv_105 : ((-2147483648) ≤ v_105.toInt ∧ v_105.toInt ≤ 2147483647) := ⟨i32_lo _, i32_hi _⟩
  have bv_120 : ((-2147483648) ≤ v_120.toInt ∧ v_120.toInt ≤ 2147483647) := ⟨i32_lo _, i32_hi _⟩
  obtain ⟨rfl, rfl, rfl, rfl, rfl, rfl, rfl, rfl, rfl, rfl, rfl, rfl, rfl, rfl, rfl, rfl, rfl, rfl, rfl, rfl, rfl, rfl, rfl, rfl, rfl, rfl, rfl, rfl, rfl, rfl, rfl⟩ := re_12 hfo_1 hfo_65 (hrA12 o0 ko0)
  obtain rfl := ri_12_3 hfo_1 hfo_65 (hfA12 o0 ko0 3 (by decide) (by decide) (by decide))
  obtain rfl := ri_12_5 hfo_1 hfo_65 (hfA12 o0 ko0 5 (by decide) (by decide) (by decide))
  obtain rfl := ri_12_11 hfo_1 hfo_65 (hfA12 o0 ko0 11 (by decide) (by decide) (by decide))
  obtain rfl := ri_12_12 hfo_1 hfo_65 (hfA12 o0 ko0 12 (by decide) (by decide) (by decide))
  obtain rfl := ri_12_13 hfo_1 hfo_65 (hfA12 o0 ko0 13 (by decide) (by decide) (by decide))
  obtain rfl := ri_12_14 hfo_1 hfo_65 (hfA12 o0 ko0 14 (by decide) (by decide) (by decide))
  obtain rfl := ri_12_23 hfo_1 hfo_65 (hfA12 o0 ko0 23 (by decide) (by decide) (by decide))
  obtain rfl := ri_12_25 hfo_1 hfo_65 (hfA12 o0 ko0 25 (by decide) (by decide) (by decide))
  obtain rfl := ri_12_27 hfo_1 hfo_65 (hfA12 o0 ko0 27 (by decide) (by decide) (by decide))
  obtain rfl := ri_12_29 hfo_1 hfo_65 (hfA12 o0 ko0 29 (by decide) (by decide) (by decide))
  obtain rfl := ri_12_32 hfo_1 hfo_65 (hfA12 o0 ko0 32 (by decide) (by decide) (by decide))
  obtain rfl := ri_12_33 hfo_1 hfo_65 (hfA12 o0 ko0 33 (by decide) (by decide) (by decide))
  obtain rfl := ri_12_35 hfo_1 hfo_65 (hfA12 o0 ko0 35 (by decide) (by decide) (by decide))
  obtain rfl := ri_12_38 hfo_1 hfo_65 (hfA12 o0 ko0 38 (by decide) (by decide) (by decide))
  obtain rfl := ri_12_43 hfo_1 hfo_65 (hfA12 o0 ko0 43 (by decide) (by decide) (by decide))
  obtain rfl := ri_12_53 hfo_1 hfo_65 (hfA12 o0 ko0 53 (by decide) (by decide) (by decide))
  have hqhpost_63 := hpost_63 v_8 v_72 (by rw [hfo_1]; rfl) (by rw [hfo_65]; rfl)
  refine lv_istore_n (lv' := [(1, .int x_58), (0, .ref o0)]) hx hb dX12_classOf_4 rfl hl (by decide) rfl (fun ls hl => ?_)
  refine lv_iload_n hx hb dX12_classOf_5 rfl (lv_at hl 0 rfl) ?_
  refine lv_bipush (v := 65) hx hb dX12_classOf_6 (by decide) ?_
  refine lv_bipush (v := 70) hx hb dX12_classOf_8 (by decide) ?_
  refine tk_SiP (As := [.int x_58, .int 65, .int 70]) (rest := []) (n := 3) hx hb hml hown hU hN hZ (s_X12_isIn l (dC, dI) cI cL cZ cR cG cH Z kd L f_59 hG x_58 65 70) wd_227 wd_228 wd_5 wd_229 (by decide +kernel) ⟨Nat.le_of_ble_eq_true rfl, Nat.le_of_ble_eq_true rfl⟩ hK hP hD hS rfl hl.1 rfl (Nat.le_of_ble_eq_true rfl) dX12_classOf_10 ⟨Nat.le_of_ble_eq_true rfl, Nat.le_of_ble_eq_true rfl⟩ (fun x_122 f_123 H locs hw hP hD hS => ?_)
  obtain ⟨rfl, bx_122, relx_122⟩ := hw
  try rw [ti_65] at relx_122
  try rw [ti_70] at relx_122
  refine lv_if_ne (tgt := 26) hx hb dX12_classOf_13 (by decide) (fun c_125 => ?_) (fun c_125 => ?_)
  · skip
    rw [← Int32.toInt_inj, ti_0] at c_125
    have hclc_126 : (0 ≤ v_72.toInt ∧ v_72.toInt ≤ 599) := by constructor <;> omega
    refine lv_aload_n hx hb dX12_classOf_26 rfl (lv_at hl 1 rfl) ?_
    refine lv_dup hx hb dX12_classOf_27 rfl ?_
    refine tk_getP (D := (dC, dI)) (ci := 12) (v := .int v_72) (C := RX12) (T := TX12) (N := 56) hx hb hU inlX12 hown hK hP mo0 hfo_65 rfl 6 (by decide) (hU _ wd_566) (fun _ h9 => h9) rfl dX12_classOf_28 ?_
    refine lv_iconst (v := 1) hx hb dX12_classOf_31 (by decide) ?_
    refine lv_iadd hx hb dX12_classOf_32 ?_
    refine lv_topi (fun x_127 ex_127 => ?_)
    have hx_127 : x_127.toInt = v_72.toInt + 1 := by rw [ex_127, ad_I (by rw [ti_1]; omega) (by rw [ti_1]; omega), ti_1]
    have bx_127 : (1 ≤ x_127.toInt ∧ x_127.toInt ≤ 600) := by constructor <;> omega
    refine tk_putP (D := (dC, dI)) (ci := 12) (v := .int x_127) (ty := .int) (C := RX12) (T := TX12) (N := 56) hx hb hU inlX12 tyX12 tyX12_ok nmX12 hown hK hP hD hS mo0 hfo_65 rfl 6 (by decide) (hU _ wd_566) (fun _ h9 => h9) rfl (by decide +kernel) rfl rfl (Nat.le_of_ble_eq_true rfl) dX12_classOf_33 (fun H locs hP hD hS => ?_)
    obtain ⟨f_129, ef_129⟩ : ∃ y : Nat → va_E, y = va_up f_59 o0 (.inr (12, [.ref a_2, .ref a_3, .ref a_4, .int v_5, .ref a_6, .int v_7, .int x_127, .int v_73, .int v_74, .int v_75, .int v_76, .int v_13, .int v_14, .int v_15, .int v_16, .ref a_17, .ref a_18, .ref a_19, .ref a_20, .ref a_21, .ref a_22, .ref a_23, .ref a_24, .int v_25, .int v_90, .int v_27, .int v_92, .int v_29, .ref a_30, .int v_31, .ref a_32, .ref a_33, .int v_34, .int v_35, .ref a_36, .int v_37, .ref a_38, .ref a_39, .int v_40, .int v_105, .ref a_42, .ref a_43, .ref a_44, .int v_45, .ref a_46, .ref a_47, .ref a_48, .ref a_49, .ref a_50, .ref a_51, .ref a_52, .ref a_53, .ref a_54, .int v_55, .int v_120, .ref a_57])) := ⟨_, rfl⟩
    have hP : va_P (dC, dI) vwCl (va_pl L f_129) H := by rw [ef_129]; exact hP
    have hD : va_D (fun q => q ∈ L) (va_pl L f_129) := by rw [ef_129]; exact hD
    have hG : GI (okc cI cL cZ cR cG cH L kd) kd L f_129 := by rw [ef_129]; exact hG.set o0 (mk_12 ko0 ⟨a_2, a_3, a_4, v_5, a_6, v_7, x_127, v_73, v_74, v_75, v_76, v_13, v_14, v_15, v_16, a_17, a_18, a_19, a_20, a_21, a_22, a_23, a_24, v_25, v_90, v_27, v_92, v_29, a_30, v_31, a_32, a_33, v_34, v_35, a_36, v_37, a_38, a_39, v_40, v_105, a_42, a_43, a_44, v_45, a_46, a_47, a_48, a_49, a_50, a_51, a_52, a_53, a_54, v_55, v_120, a_57, rfl, ⟨ma_2, ka_2⟩, ⟨ma_3, ka_3⟩, ⟨ma_4, ka_4⟩, (by constructor <;> omega), ⟨ma_6, ka_6⟩, (by constructor <;> omega), (by constructor <;> omega), (by constructor <;> omega), (by constructor <;> omega), (by constructor <;> omega), ⟨ma_17, ka_17⟩, ⟨ma_18, ka_18⟩, ⟨ma_19, ka_19⟩, ⟨ma_20, ka_20⟩, ⟨ma_21, ka_21⟩, ⟨ma_22, ka_22⟩, ⟨ma_23, ka_23⟩, ⟨ma_24, ka_24⟩, (by constructor <;> omega), (by constructor <;> omega), (by constructor <;> omega), ⟨ma_30, ka_30⟩, (by constructor <;> omega), ⟨ma_32, ka_32⟩, ⟨ma_33, ka_33⟩, (by constructor <;> omega), ⟨ma_36, ka_36⟩, (by constructor <;> omega), ⟨ma_38, ka_38⟩, ⟨ma_39, ka_39⟩, (by constructor <;> omega), ⟨ma_42, ka_42⟩, ⟨ma_43, ka_43⟩, ⟨ma_44, ka_44⟩, (by constructor <;> omega), ⟨ma_46, ka_46⟩, ⟨ma_47, ka_47⟩, ⟨ma_48, ka_48⟩, ⟨ma_49, ka_49⟩, ⟨ma_50, ka_50⟩, ⟨ma_51, ka_51⟩, ⟨ma_52, ka_52⟩, ⟨ma_53, ka_53⟩, ⟨ma_54, ka_54⟩, (by constructor <;> omega), ⟨ma_57, ka_57⟩⟩)
    have hfr0 : ∀ b, kd b ≠ 12 → kd b ≠ 576 → f_129 b = f b := fun b q12 q576 => (congrFun ef_129 b).trans ((up_ne (fun e9 => q12 (by rw [e9]; exact ko0))).trans (hfr0 b q12 q576))
    have hrA12 : ∀ b, kd b = 12 → ∀ j, fldR (f_129 b) j = fldR (f b) j := fun b kb j => ((congrArg (fun x => fldR x j) (congrFun ef_129 b)).trans (fra_up (fun j => by rw [hfo_65]; exact fr_set (k := 6) rfl rfl j) j b)).trans (hrA12 b kb j)
    have hfA12 : ∀ b, kd b = 12 → ∀ j, j ≠ 6 → j ≠ 7 → j ≠ 8 → fldI (f_129 b) j = fldI (f b) j := fun b kb j n6 n7 n8 => ((congrArg (fun x => fldI x j) (congrFun ef_129 b)).trans (fia_up (fun h9 => by rw [hfo_65]; exact fi_set (k := 6) rfl h9) n6 b)).trans (hfA12 b kb j n6 n7 n8)
    have hT0 : frel kd 576 8 f_129 a_3 := by rw [ef_129]; exact hT0.keep (fun b q => up_ne (kd_ne ko0 q (by decide)))
    have hfo_130 : f_129 o0 = .inr (12, [.ref a_2, .ref a_3, .ref a_4, .int v_5, .ref a_6, .int v_7, .int x_127, .int v_73, .int v_74, .int v_75, .int v_76, .int v_13, .int v_14, .int v_15, .int v_16, .ref a_17, .ref a_18, .ref a_19, .ref a_20, .ref a_21, .ref a_22, .ref a_23, .ref a_24, .int v_25, .int v_90, .int v_27, .int v_92, .int v_29, .ref a_30, .int v_31, .ref a_32, .ref a_33, .int v_34, .int v_35, .ref a_36, .int v_37, .ref a_38, .ref a_39, .int v_40, .int v_105, .ref a_42, .ref a_43, .ref a_44, .int v_45, .ref a_46, .ref a_47, .ref a_48, .ref a_49, .ref a_50, .ref a_51, .ref a_52, .ref a_53, .ref a_54, .int v_55, .int v_120, .ref a_57]) := by rw [ef_129]; exact up_self
    refine lv_iconst (v := 0) hx hb dX12_classOf_36 (by decide) ?_
    refine lv_istore_n (lv' := [(2, .int 0), (1, .int x_58), (0, .ref o0)]) hx hb dX12_classOf_37 rfl hl (by decide) rfl (fun ls hl => ?_)
    have hloop_136 : ∀ (n : Nat), ∀ (y_137 : Int32), ((-2147483648) ≤ y_137.toInt ∧ y_137.toInt ≤ 2147483647) → ∀ (f_139 : Nat → va_E), GI (okc cI cL cZ cR cG cH L kd) kd L f_139 → ∀ (H : Heap) (locs : List Loc), va_P (dC, dI) vwCl (va_pl L f_139) H → va_S (fun q => q ∈ L) s.heap H locs → va_D (fun q => q ∈ L) (va_pl L f_139) → (∀ b, kd b ≠ 12 → kd b ≠ 576 → f_139 b = f b) → (∀ b, kd b = 12 → ∀ j, fldR (f_139 b) j = fldR (f b) j) → (∀ b, kd b = 12 → ∀ j, j ≠ 6 → j ≠ 7 → j ≠ 8 → fldI (f_139 b) j = fldI (f b) j) → frel kd 576 8 f_139 a_3 → ∀ (whloop_136_0_6 : Int32), fldI (f_139 o0) 6 = some whloop_136_0_6 → (v_8.toInt ≤ whloop_136_0_6.toInt) → (0 ≤ whloop_136_0_6.toInt ∧ whloop_136_0_6.toInt ≤ 600) → 600 - whloop_136_0_6.toInt < (n : Int) → ∀ (ls : Array Slot), lv_has ls 5 [(2, .int y_137), (1, .int x_58), (0, .ref o0)] → W p l e (headSpec (wU yX12_classOf cX12_classOf 5 (some .boolean)) { frames := 3, cells := 0, slots := 0, locals := 61 }).room s m [.ref o0].toArray below meth c H locs 0 0 (MQ below (va_Qi (fun (r : Int32) (f9 : Nat → va_E) => GI (okc cI cL cZ cR cG cH L kd) kd L f9 ∧ (0 ≤ r.toInt ∧ r.toInt ≤ 1) ∧ (∀ b, kd b ≠ 12 → kd b ≠ 576 → f9 b = f b) ∧ (∀ b, kd b = 12 → ∀ j, fldR (f9 b) j = fldR (f b) j) ∧ (∀ b, kd b = 12 → ∀ j, j ≠ 6 → j ≠ 7 → j ≠ 8 → fldI (f9 b) j = fldI (f b) j) ∧ (∀ (w6 z6 : Int32), fldI (f o0) 6 = some w6 → fldI (f9 o0) 6 = some z6 → w6.toInt ≤ z6.toInt) ∧ (∀ d9, fldR (f9 o0) 1 = some d9 → frel kd 576 8 f9 d9)) (qP (dC, dI) cI cL cZ cR cG cH L) (fun q => q ∈ L)) [.ref o0].toArray s 0 0 (fun q => q ∈ L)) (F0 m 38 ls []) := by
      intro n
      induction n with
      | zero => intro y_137 by_137 f_139 hG H locs hP hS hD hfr0 hrA12 hfA12 hT0 whloop_136_0_6 hghloop_136_0_6 hrelhloop_136_0 hrelhloop_136_1 hmuhloop_136 ls hl; exfalso; omega
      | succ n ih_hloop_136 =>
        intro y_137 by_137 f_139 hG H locs hP hS hD hfr0 hrA12 hfA12 hT0 whloop_136_0_6 hghloop_136_0_6 hrelhloop_136_0 hrelhloop_136_1 hmuhloop_136 ls hl
        obtain ⟨a_141, a_142, a_143, v_144, a_145, v_146, v_147, v_148, v_149, v_150, v_151, v_152, v_153, v_154, v_155, a_156, a_157, a_158, a_159, a_160, a_161, a_162, a_163, v_164, v_165, v_166, v_167, v_168, a_169, v_170, a_171, a_172, v_173, v_174, a_175, v_176, a_177, a_178, v_179, v_180, a_181, a_182, a_183, v_184, a_185, a_186, a_187, a_188, a_189, a_190, a_191, a_192, a_193, v_194, v_195, a_196, hfo_140, ⟨ma_141, ka_141⟩, ⟨ma_142, ka_142⟩, ⟨ma_143, ka_143⟩, bv_144, ⟨ma_145, ka_145⟩, bv_146, bv_147, bv_152, bv_153, bv_154, ⟨ma_156, ka_156⟩, ⟨ma_157, ka_157⟩, ⟨ma_158, ka_158⟩, ⟨ma_159, ka_159⟩, ⟨ma_160, ka_160⟩, ⟨ma_161, ka_161⟩, ⟨ma_162, ka_162⟩, ⟨ma_163, ka_163⟩, bv_164, bv_166, bv_168, ⟨ma_169, ka_169⟩, bv_170, ⟨ma_171, ka_171⟩, ⟨ma_172, ka_172⟩, bv_173, ⟨ma_175, ka_175⟩, bv_176, ⟨ma_177, ka_177⟩, ⟨ma_178, ka_178⟩, bv_179, ⟨ma_181, ka_181⟩, ⟨ma_182, ka_182⟩, ⟨ma_183, ka_183⟩, bv_184, ⟨ma_185, ka_185⟩, ⟨ma_186, ka_186⟩, ⟨ma_187, ka_187⟩, ⟨ma_188, ka_188⟩, ⟨ma_189, ka_189⟩, ⟨ma_190, ka_190⟩, ⟨ma_191, ka_191⟩, ⟨ma_192, ka_192⟩, ⟨ma_193, ka_193⟩, bv_194, ⟨ma_196, ka_196⟩⟩ := un_12 (hG _ mo0) ko0
        have bv_148 : ((-2147483648) ≤ v_148.toInt ∧ v_148.toInt ≤ 2147483647) := ⟨i32_lo _, i32_hi _⟩
        have bv_149 : ((-2147483648) ≤ v_149.toInt ∧ v_149.toInt ≤ 2147483647) := ⟨i32_lo _, i32_hi _⟩
        have bv_150 : ((-2147483648) ≤ v_150.toInt ∧ v_150.toInt ≤ 2147483647) := ⟨i32_lo _, i32_hi _⟩
        have bv_151 : ((-2147483648) ≤ v_151.toInt ∧ v_151.toInt ≤ 2147483647) := ⟨i32_lo _, i32_hi _⟩
        have bv_155 : ((-2147483648) ≤ v_155.toInt ∧ v_155.toInt ≤ 2147483647) := ⟨i32_lo _, i32_hi _⟩
        have bv_165 : ((-2147483648) ≤ v_165.toInt ∧ v_165.toInt ≤ 2147483647) := ⟨i32_lo _, i32_hi _⟩
        have bv_167 : ((-2147483648) ≤ v_167.toInt ∧ v_167.toInt ≤ 2147483647) := ⟨i32_lo _, i32_hi _⟩
        have bv_174 : ((-2147483648) ≤ v_174.toInt ∧ v_174.toInt ≤ 2147483647) := ⟨i32_lo _, i32_hi _⟩
        have bv_180 : ((-2147483648) ≤ v_180.toInt ∧ v_180.toInt ≤ 2147483647) := ⟨i32_lo _, i32_hi _⟩
        have bv_195 : ((-2147483648) ≤ v_195.toInt ∧ v_195.toInt ≤ 2147483647) := ⟨i32_lo _, i32_hi _⟩
        obtain ⟨rfl, rfl, rfl, rfl, rfl, rfl, rfl, rfl, rfl, rfl, rfl, rfl, rfl, rfl, rfl, rfl, rfl, rfl, rfl, rfl, rfl, rfl, rfl, rfl, rfl, rfl, rfl, rfl, rfl, rfl, rfl⟩ := re_12 hfo_1 hfo_140 (hrA12 o0 ko0)
        obtain rfl := ri_12_3 hfo_1 hfo_140 (hfA12 o0 ko0 3 (by decide) (by decide) (by decide))
        obtain rfl := ri_12_5 hfo_1 hfo_140 (hfA12 o0 ko0 5 (by decide) (by decide) (by decide))
        obtain rfl := ri_12_11 hfo_1 hfo_140 (hfA12 o0 ko0 11 (by decide) (by decide) (by decide))
        obtain rfl := ri_12_12 hfo_1 hfo_140 (hfA12 o0 ko0 12 (by decide) (by decide) (by decide))
        obtain rfl := ri_12_13 hfo_1 hfo_140 (hfA12 o0 ko0 13 (by decide) (by decide) (by decide))
        obtain rfl := ri_12_14 hfo_1 hfo_140 (hfA12 o0 ko0 14 (by decide) (by decide) (by decide))
        obtain rfl := ri_12_23 hfo_1 hfo_140 (hfA12 o0 ko0 23 (by decide) (by decide) (by decide))
        obtain rfl := ri_12_25 hfo_1 hfo_140 (hfA12 o0 ko0 25 (by decide) (by decide) (by decide))
        obtain rfl := ri_12_27 hfo_1 hfo_140 (hfA12 o0 ko0 27 (by decide) (by decide) (by decide))
        obtain rfl := ri_12_29 hfo_1 hfo_140 (hfA12 o0 ko0 29 (by decide) (by decide) (by decide))
        obtain rfl := ri_12_32 hfo_1 hfo_140 (hfA12 o0 ko0 32 (by decide) (by decide) (by decide))
        obtain rfl := ri_12_33 hfo_1 hfo_140 (hfA12 o0 ko0 33 (by decide) (by decide) (by decide))
        obtain rfl := ri_12_35 hfo_1 hfo_140 (hfA12 o0 ko0 35 (by decide) (by decide) (by decide))
        obtain rfl := ri_12_38 hfo_1 hfo_140 (hfA12 o0 ko0 38 (by decide) (by decide) (by decide))
        obtain rfl := ri_12_43 hfo_1 hfo_140 (hfA12 o0 ko0 43 (by decide) (by decide) (by decide))
        obtain rfl := ri_12_53 hfo_1 hfo_140 (hfA12 o0 ko0 53 (by decide) (by decide) (by decide))
        obtain rfl : v_147 = whloop_136_0_6 := by rw [hfo_140] at hghloop_136_0_6; exact Option.some.inj hghloop_136_0_6
        refine lv_iload_n hx hb dX12_classOf_38 rfl (lv_at hl 0 rfl) ?_
        refine lv_if_eq (tgt := 51) hx hb dX12_classOf_39 (by decide) (fun c_197 => ?_) (fun c_197 => ?_)
        · skip
          rw [← Int32.toInt_inj, ti_0] at c_197
          refine lv_aload_n hx hb dX12_classOf_51 rfl (lv_at hl 2 rfl) ?_
          refine tk_ViP (As := []) (rest := []) (n := 0) hx hb hml hown hU hN hZ (s_X12_sign_k12 l (dC, dI) cI cL cZ cR cG cH Z kd L f_139 hG o0 mo0 ko0) wd_573 wd_574 wd_575 wd_5 wd_576 (by decide +kernel) ⟨Nat.le_of_ble_eq_true rfl, Nat.le_of_ble_eq_true rfl⟩ hK hP hD hS mo0 hfo_140 12 rfl rfl rfl hl.1 rfl (Nat.le_of_ble_eq_true rfl) dX12_classOf_52 ⟨Nat.le_of_ble_eq_true rfl, Nat.le_of_ble_eq_true rfl⟩ (fun x_198 f_199 H locs hw hP hD hS => ?_)
          obtain ⟨hG, bx_198, hkc_200, hra_201, hfa_202, hpost_203⟩ := hw
          have hfr0 : ∀ b, kd b ≠ 12 → kd b ≠ 576 → f_199 b = f b := fun b q12 q576 => (hkc_200 b q12).trans (hfr0 b q12 q576)
          have hrA12 : ∀ b, kd b = 12 → ∀ j, fldR (f_199 b) j = fldR (f b) j := fun b kb j => (hra_201 b kb j).trans (hrA12 b kb j)
          have hfA12 : ∀ b, kd b = 12 → ∀ j, j ≠ 6 → j ≠ 7 → j ≠ 8 → fldI (f_199 b) j = fldI (f b) j := fun b kb j n6 n7 n8 => (hfa_202 b kb j n6).trans (hfA12 b kb j n6 n7 n8)
          have hT0 : frel kd 576 8 f_199 a_3 := hT0.keep (fun b q => hkc_200 b (by rw [q]; decide))
          obtain ⟨a_206, a_207, a_208, v_209, a_210, v_211, v_212, v_213, v_214, v_215, v_216, v_217, v_218, v_219, v_220, a_221, a_222, a_223, a_224, a_225, a_226, a_227, a_228, v_229, v_230, v_231, v_232, v_233, a_234, v_235, a_236, a_237, v_238, v_239, a_240, v_241, a_242, a_243, v_244, v_245, a_246, a_247, a_248, v_249, a_250, a_251, a_252, a_253, a_254, a_255, a_256, a_257, a_258, v_259, v_260, a_261, hfo_205, ⟨ma_206, ka_206⟩, ⟨ma_207, ka_207⟩, ⟨ma_208, ka_208⟩, bv_209, ⟨ma_210, ka_210⟩, bv_211, bv_212, bv_217, bv_218, bv_219, ⟨ma_221, ka_221⟩, ⟨ma_222, ka_222⟩, ⟨ma_223, ka_223⟩, ⟨ma_224, ka_224⟩, ⟨ma_225, ka_225⟩, ⟨ma_226, ka_226⟩, ⟨ma_227, ka_227⟩, ⟨ma_228, ka_228⟩, bv_229, bv_231, bv_233, ⟨ma_234, ka_234⟩, bv_235, ⟨ma_236, ka_236⟩, ⟨ma_237, ka_237⟩, bv_238, ⟨ma_240, ka_240⟩, bv_241, ⟨ma_242, ka_242⟩, ⟨ma_243, ka_243⟩, bv_244, ⟨ma_246, ka_246⟩, ⟨ma_247, ka_247⟩, ⟨ma_248, ka_248⟩, bv_249, ⟨ma_250, ka_250⟩, ⟨ma_251, ka_251⟩, ⟨ma_252, ka_252⟩, ⟨ma_253, ka_253⟩, ⟨ma_254, ka_254⟩, ⟨ma_255, ka_255⟩, ⟨ma_256, ka_256⟩, ⟨ma_257, ka_257⟩, ⟨ma_258, ka_258⟩, bv_259, ⟨ma_261, ka_261⟩⟩ := un_12 (hG _ mo0) ko0
          have bv_213 : ((-2147483648) ≤ v_213.toInt ∧ v_213.toInt ≤ 2147483647) := ⟨i32_lo _, i32_hi _⟩
          have bv_214 : ((-2147483648) ≤ v_214.toInt ∧ v_214.toInt ≤ 2147483647) := ⟨i32_lo _, i32_hi _⟩
          have bv_215 : ((-2147483648) ≤ v_215.toInt ∧ v_215.toInt ≤ 2147483647) := ⟨i32_lo _, i32_hi _⟩
          have bv_216 : ((-2147483648) ≤ v_216.toInt ∧ v_216.toInt ≤ 2147483647) := ⟨i32_lo _, i32_hi _⟩
          have bv_220 : ((-2147483648) ≤ v_220.toInt ∧ v_220.toInt ≤ 2147483647) := ⟨i32_lo _, i32_hi _⟩
          have bv_230 : ((-2147483648) ≤ v_230.toInt ∧ v_230.toInt ≤ 2147483647) := ⟨i32_lo _, i32_hi _⟩
          have bv_232 : ((-2147483648) ≤ v_232.toInt ∧ v_232.toInt ≤ 2147483647) := ⟨i32_lo _, i32_hi _⟩
          have bv_239 : ((-2147483648) ≤ v_239.toInt ∧ v_239.toInt ≤ 2147483647) := ⟨i32_lo _, i32_hi _⟩
          have bv_245 : ((-2147483648) ≤ v_245.toInt ∧ v_245.toInt ≤ 2147483647) := ⟨i32_lo _, i32_hi _⟩
          have bv_260 : ((-2147483648) ≤ v_260.toInt ∧ v_260.toInt ≤ 2147483647) := ⟨i32_lo _, i32_hi _⟩
          obtain ⟨rfl, rfl, rfl, rfl, rfl, rfl, rfl, rfl, rfl, rfl, rfl, rfl, rfl, rfl, rfl, rfl, rfl, rfl, rfl, rfl, rfl, rfl, rfl, rfl, rfl, rfl, rfl, rfl, rfl, rfl, rfl⟩ := re_12 hfo_1 hfo_205 (hrA12 o0 ko0)
          obtain rfl := ri_12_3 hfo_1 hfo_205 (hfA12 o0 ko0 3 (by decide) (by decide) (by decide))
          obtain rfl := ri_12_5 hfo_1 hfo_205 (hfA12 o0 ko0 5 (by decide) (by decide) (by decide))
          obtain rfl := ri_12_11 hfo_1 hfo_205 (hfA12 o0 ko0 11 (by decide) (by decide) (by decide))
          obtain rfl := ri_12_12 hfo_1 hfo_205 (hfA12 o0 ko0 12 (by decide) (by decide) (by decide))
          obtain rfl := ri_12_13 hfo_1 hfo_205 (hfA12 o0 ko0 13 (by decide) (by decide) (by decide))
          obtain rfl := ri_12_14 hfo_1 hfo_205 (hfA12 o0 ko0 14 (by decide) (by decide) (by decide))
          obtain rfl := ri_12_23 hfo_1 hfo_205 (hfA12 o0 ko0 23 (by decide) (by decide) (by decide))
          obtain rfl := ri_12_25 hfo_1 hfo_205 (hfA12 o0 ko0 25 (by decide) (by decide) (by decide))
          obtain rfl := ri_12_27 hfo_1 hfo_205 (hfA12 o0 ko0 27 (by decide) (by decide) (by decide))
          obtain rfl := ri_12_29 hfo_1 hfo_205 (hfA12 o0 ko0 29 (by decide) (by decide) (by decide))
          obtain rfl := ri_12_32 hfo_1 hfo_205 (hfA12 o0 ko0 32 (by decide) (by decide) (by decide))
          obtain rfl := ri_12_33 hfo_1 hfo_205 (hfA12 o0 ko0 33 (by decide) (by decide) (by decide))
          obtain rfl := ri_12_35 hfo_1 hfo_205 (hfA12 o0 ko0 35 (by decide) (by decide) (by decide))
          obtain rfl := ri_12_38 hfo_1 hfo_205 (hfA12 o0 ko0 38 (by decide) (by decide) (by decide))
          obtain rfl := ri_12_43 hfo_1 hfo_205 (hfA12 o0 ko0 43 (by decide) (by decide) (by decide))
          obtain rfl := ri_12_53 hfo_1 hfo_205 (hfA12 o0 ko0 53 (by decide) (by decide) (by decide))
          have hqhpost_203 := hpost_203 v_147 v_212 (by rw [hfo_140]; rfl) (by rw [hfo_205]; rfl)
          refine lv_istore_n (lv' := [(3, .int x_198), (2, .int y_137), (1, .int x_58), (0, .ref o0)]) hx hb dX12_classOf_55 rfl hl (by decide) rfl (fun ls hl => ?_)
          refine lv_iload_n hx hb dX12_classOf_56 rfl (lv_at hl 0 rfl) ?_
          refine tk_SiP (As := [.int x_198]) (rest := []) (n := 1) hx hb hml hown hU hN hZ (s_X12_isSmall l (dC, dI) cI cL cZ cR cG cH Z kd L f_199 hG x_198) wd_589 wd_590 wd_5 wd_591 (by decide +kernel) ⟨Nat.le_of_ble_eq_true rfl, Nat.le_of_ble_eq_true rfl⟩ hK hP hD hS rfl hl.1 rfl (Nat.le_of_ble_eq_true rfl) dX12_classOf_57 ⟨Nat.le_of_ble_eq_true rfl, Nat.le_of_ble_eq_true rfl⟩ (fun x_262 f_263 H locs hw hP hD hS => ?_)
          obtain ⟨rfl, bx_262, relx_262⟩ := hw
          refine lv_if_ne (tgt := 73) hx hb dX12_classOf_60 (by decide) (fun c_265 => ?_) (fun c_265 => ?_)
          · skip
            rw [← Int32.toInt_inj, ti_0] at c_265
            refine lv_aload_n hx hb dX12_classOf_73 rfl (lv_at hl 3 rfl) ?_
            refine tk_getP (D := (dC, dI)) (ci := 12) (v := .ref a_3) (C := RX12) (T := TX12) (N := 56) hx hb hU inlX12 hown hK hP mo0 hfo_205 rfl 1 (by decide) (hU _ wd_170) (fun _ h9 => h9) rfl dX12_classOf_74 ?_
            refine lv_iload_n hx hb dX12_classOf_77 rfl (lv_at hl 0 rfl) ?_
            refine tk_SiP (As := [.ref a_3, .int x_198]) (rest := []) (n := 2) hx hb hml hown hU hN hZ (s_X12_letterIn_a576 l (dC, dI) cI cL cZ cR cG cH Z kd L f_199 hG a_3 ma_3 ka_3 x_198) wd_606 wd_607 wd_5 wd_608 (by decide +kernel) ⟨Nat.le_of_ble_eq_true rfl, Nat.le_of_ble_eq_true rfl⟩ hK hP hD hS rfl hl.1 rfl (Nat.le_of_ble_eq_true rfl) dX12_classOf_78 ⟨Nat.le_of_ble_eq_true rfl, Nat.le_of_ble_eq_true rfl⟩ (fun x_266 f_267 H locs hw hP hD hS => ?_)
            obtain ⟨rfl, bx_266, hxp_268⟩ := hw
            obtain ⟨g_271, hfo_270, hbg_271⟩ := un_576 (hG _ ma_3) ka_3
            have hlix_266 := hxp_268 g_271 hfo_270
            refine lv_istore (lv' := [(4, .int x_266), (3, .int x_198), (2, .int y_137), (1, .int x_58), (0, .ref o0)]) hx hb dX12_classOf_81 hl (by decide) rfl (fun ls hl => ?_)
            refine lv_iload hx hb dX12_classOf_83 (lv_at hl 0 rfl) ?_
            refine lv_if_ne (tgt := 98) hx hb dX12_classOf_85 (by decide) (fun c_272 => ?_) (fun c_272 => ?_)
            · skip
              rw [← Int32.toInt_inj, ti_0] at c_272
              refine lv_iload_n hx hb dX12_classOf_98 rfl (lv_at hl 2 rfl) ?_
              refine lv_iconst (v := 1) hx hb dX12_classOf_99 (by decide) ?_
              refine lv_iload hx hb dX12_classOf_100 (lv_at hl 0 rfl) ?_
              refine lv_ishl hx hb dX12_classOf_102 ?_
              refine lv_topi (fun x_273 ex_273 => ?_)
              have bx_273 : (1 ≤ x_273.toInt ∧ x_273.toInt ≤ 256) := by rw [ex_273]; exact sh_8 (by constructor <;> omega)
              refine lv_ior hx hb dX12_classOf_103 ?_
              refine lv_topi (fun x_274 ex_274 => ?_)
              have bx_274 : (0 ≤ x_274.toInt ∧ x_274.toInt ≤ 511) := by rw [ex_274]; exact or_K 9 (by decide) (by constructor <;> omega) (by constructor <;> omega)
              refine lv_istore_n (lv' := [(2, .int x_274), (4, .int x_266), (3, .int x_198), (1, .int x_58), (0, .ref o0)]) hx hb dX12_classOf_104 rfl hl (by decide) rfl (fun ls hl => ?_)
              have hclc_275 : (0 ≤ v_212.toInt ∧ v_212.toInt ≤ 599) := by constructor <;> omega
              refine lv_aload_n hx hb dX12_classOf_105 rfl (lv_at hl 4 rfl) ?_
              refine lv_dup hx hb dX12_classOf_106 rfl ?_
              refine tk_getP (D := (dC, dI)) (ci := 12) (v := .int v_212) (C := RX12) (T := TX12) (N := 56) hx hb hU inlX12 hown hK hP mo0 hfo_205 rfl 6 (by decide) (hU _ wd_566) (fun _ h9 => h9) rfl dX12_classOf_107 ?_
              refine lv_iconst (v := 1) hx hb dX12_classOf_110 (by decide) ?_
              refine lv_iadd hx hb dX12_classOf_111 ?_
              refine lv_topi (fun x_276 ex_276 => ?_)
              have hx_276 : x_276.toInt = v_212.toInt + 1 := by rw [ex_276, ad_I (by rw [ti_1]; omega) (by rw [ti_1]; omega), ti_1]
              have bx_276 : (1 ≤ x_276.toInt ∧ x_276.toInt ≤ 600) := by constructor <;> omega
              refine tk_putP (D := (dC, dI)) (ci := 12) (v := .int x_276) (ty := .int) (C := RX12) (T := TX12) (N := 56) hx hb hU inlX12 tyX12 tyX12_ok nmX12 hown hK hP hD hS mo0 hfo_205 rfl 6 (by decide) (hU _ wd_566) (fun _ h9 => h9) rfl (by decide +kernel) rfl rfl (Nat.le_of_ble_eq_true rfl) dX12_classOf_112 (fun H locs hP hD hS => ?_)
              obtain ⟨f_278, ef_278⟩ : ∃ y : Nat → va_E, y = va_up f_199 o0 (.inr (12, [.ref a_2, .ref a_3, .ref a_4, .int v_5, .ref a_6, .int v_7, .int x_276, .int v_213, .int v_214, .int v_215, .int v_216, .int v_13, .int v_14, .int v_15, .int v_16, .ref a_17, .ref a_18, .ref a_19, .ref a_20, .ref a_21, .ref a_22, .ref a_23, .ref a_24, .int v_25, .int v_230, .int v_27, .int v_232, .int v_29, .ref a_30, .int v_31, .ref a_32, .ref a_33, .int v_34, .int v_35, .ref a_36, .int v_37, .ref a_38, .ref a_39, .int v_40, .int v_245, .ref a_42, .ref a_43, .ref a_44, .int v_45, .ref a_46, .ref a_47, .ref a_48, .ref a_49, .ref a_50, .ref a_51, .ref a_52, .ref a_53, .ref a_54, .int v_55, .int v_260, .ref a_57])) := ⟨_, rfl⟩
              have hP : va_P (dC, dI) vwCl (va_pl L f_278) H := by rw [ef_278]; exact hP
              have hD : va_D (fun q => q ∈ L) (va_pl L f_278) := by rw [ef_278]; exact hD
              have hG : GI (okc cI cL cZ cR cG cH L kd) kd L f_278 := by rw [ef_278]; exact hG.set o0 (mk_12 ko0 ⟨a_2, a_3, a_4, v_5, a_6, v_7, x_276, v_213, v_214, v_215, v_216, v_13, v_14, v_15, v_16, a_17, a_18, a_19, a_20, a_21, a_22, a_23, a_24, v_25, v_230, v_27, v_232, v_29, a_30, v_31, a_32, a_33, v_34, v_35, a_36, v_37, a_38, a_39, v_40, v_245, a_42, a_43, a_44, v_45, a_46, a_47, a_48, a_49, a_50, a_51, a_52, a_53, a_54, v_55, v_260, a_57, rfl, ⟨ma_2, ka_2⟩, ⟨ma_3, ka_3⟩, ⟨ma_4, ka_4⟩, (by constructor <;> omega), ⟨ma_6, ka_6⟩, (by constructor <;> omega), (by constructor <;> omega), (by constructor <;> omega), (by constructor <;> omega), (by constructor <;> omega), ⟨ma_17, ka_17⟩, ⟨ma_18, ka_18⟩, ⟨ma_19, ka_19⟩, ⟨ma_20, ka_20⟩, ⟨ma_21, ka_21⟩, ⟨ma_22, ka_22⟩, ⟨ma_23, ka_23⟩, ⟨ma_24, ka_24⟩, (by constructor <;> omega), (by constructor <;> omega), (by constructor <;> omega), ⟨ma_30, ka_30⟩, (by constructor <;> omega), ⟨ma_32, ka_32⟩, ⟨ma_33, ka_33⟩, (by constructor <;> omega), ⟨ma_36, ka_36⟩, (by constructor <;> omega), ⟨ma_38, ka_38⟩, ⟨ma_39, ka_39⟩, (by constructor <;> omega), ⟨ma_42, ka_42⟩, ⟨ma_43, ka_43⟩, ⟨ma_44, ka_44⟩, (by constructor <;> omega), ⟨ma_46, ka_46⟩, ⟨ma_47, ka_47⟩, ⟨ma_48, ka_48⟩, ⟨ma_49, ka_49⟩, ⟨ma_50, ka_50⟩, ⟨ma_51, ka_51⟩, ⟨ma_52, ka_52⟩, ⟨ma_53, ka_53⟩, ⟨ma_54, ka_54⟩, (by constructor <;> omega), ⟨ma_57, ka_57⟩⟩)
              have hfo_279 : f_278 a_3 = .inl (cI, 1560, .inl g_271) := by rw [ef_278, up_ne (kd_ne ko0 ka_3 (by decide))]; exact hfo_270
              have hfr0 : ∀ b, kd b ≠ 12 → kd b ≠ 576 → f_278 b = f b := fun b q12 q576 => (congrFun ef_278 b).trans ((up_ne (fun e9 => q12 (by rw [e9]; exact ko0))).trans (hfr0 b q12 q576))
              have hrA12 : ∀ b, kd b = 12 → ∀ j, fldR (f_278 b) j = fldR (f b) j := fun b kb j => ((congrArg (fun x => fldR x j) (congrFun ef_278 b)).trans (fra_up (fun j => by rw [hfo_205]; exact fr_set (k := 6) rfl rfl j) j b)).trans (hrA12 b kb j)
              have hfA12 : ∀ b, kd b = 12 → ∀ j, j ≠ 6 → j ≠ 7 → j ≠ 8 → fldI (f_278 b) j = fldI (f b) j := fun b kb j n6 n7 n8 => ((congrArg (fun x => fldI x j) (congrFun ef_278 b)).trans (fia_up (fun h9 => by rw [hfo_205]; exact fi_set (k := 6) rfl h9) n6 b)).trans (hfA12 b kb j n6 n7 n8)
              have hT0 : frel kd 576 8 f_278 a_3 := by rw [ef_278]; exact hT0.keep (fun b q => up_ne (kd_ne ko0 q (by decide)))
              have hfo_280 : f_278 o0 = .inr (12, [.ref a_2, .ref a_3, .ref a_4, .int v_5, .ref a_6, .int v_7, .int x_276, .int v_213, .int v_214, .int v_215, .int v_216, .int v_13, .int v_14, .int v_15, .int v_16, .ref a_17, .ref a_18, .ref a_19, .ref a_20, .ref a_21, .ref a_22, .ref a_23, .ref a_24, .int v_25, .int v_230, .int v_27, .int v_232, .int v_29, .ref a_30, .int v_31, .ref a_32, .ref a_33, .int v_34, .int v_35, .ref a_36, .int v_37, .ref a_38, .ref a_39, .int v_40, .int v_245, .ref a_42, .ref a_43, .ref a_44, .int v_45, .ref a_46, .ref a_47, .ref a_48, .ref a_49, .ref a_50, .ref a_51, .ref a_52, .ref a_53, .ref a_54, .int v_55, .int v_260, .ref a_57]) := by rw [ef_278]; exact up_self
              refine lv_goto (tgt := 38) hx hb dX12_classOf_115 (by decide) ?_
              exact ih_hloop_136 x_274 (by constructor <;> omega) f_278 hG _ _ hP hS hD hfr0 hrA12 hfA12 hT0 x_276 (by rw [hfo_280]; rfl) (by omega) (by omega) (by omega) ls (lv_sub hl [0, 3, 4] rfl)
            · skip
              rw [← Int32.toInt_inj, ti_0] at c_272
              refine lv_aload_n hx hb dX12_classOf_88 rfl (lv_at hl 4 rfl) ?_
              refine lv_iconst (v := 2) hx hb dX12_classOf_89 (by decide) ?_
              refine lv_aload_n hx hb dX12_classOf_90 rfl (lv_at hl 4 rfl) ?_
              refine tk_getP (D := (dC, dI)) (ci := 12) (v := .int v_212) (C := RX12) (T := TX12) (N := 56) hx hb hU inlX12 hown hK hP mo0 hfo_205 rfl 6 (by decide) (hU _ wd_566) (fun _ h9 => h9) rfl dX12_classOf_91 ?_
              refine tk_ViP (As := [.int 2, .int v_212]) (rest := []) (n := 2) hx hb hml hown hU hN hZ (s_X12_bad_k12 l (dC, dI) cI cL cZ cR cG cH Z kd L f_199 hG o0 mo0 ko0 2 v_212) wd_602 wd_603 wd_604 wd_5 wd_605 (by decide +kernel) ⟨Nat.le_of_ble_eq_true rfl, Nat.le_of_ble_eq_true rfl⟩ hK hP hD hS mo0 hfo_205 12 rfl rfl rfl hl.1 rfl (Nat.le_of_ble_eq_true rfl) dX12_classOf_94 ⟨Nat.le_of_ble_eq_true rfl, Nat.le_of_ble_eq_true rfl⟩ (fun x_281 f_282 H locs hw hP hD hS => ?_)
              obtain ⟨hG, bx_281, hkc_283, hra_284, hfa_285⟩ := hw
              have hfo_287 : f_282 a_3 = .inl (cI, 1560, .inl g_271) := by rw [hkc_283 a_3 (by rw [ka_3]; decide)]; exact hfo_270
              have hfr0 : ∀ b, kd b ≠ 12 → kd b ≠ 576 → f_282 b = f b := fun b q12 q576 => (hkc_283 b q12).trans (hfr0 b q12 q576)
              have hrA12 : ∀ b, kd b = 12 → ∀ j, fldR (f_282 b) j = fldR (f b) j := fun b kb j => (hra_284 b kb j).trans (hrA12 b kb j)
              have hfA12 : ∀ b, kd b = 12 → ∀ j, j ≠ 6 → j ≠ 7 → j ≠ 8 → fldI (f_282 b) j = fldI (f b) j := fun b kb j n6 n7 n8 => (hfa_285 b kb j n7 n8).trans (hfA12 b kb j n6 n7 n8)
              have hT0 : frel kd 576 8 f_282 a_3 := hT0.keep (fun b q => hkc_283 b (by rw [q]; decide))
              obtain ⟨a_289, a_290, a_291, v_292, a_293, v_294, v_295, v_296, v_297, v_298, v_299, v_300, v_301, v_302, v_303, a_304, a_305, a_306, a_307, a_308, a_309, a_310, a_311, v_312, v_313, v_314, v_315, v_316, a_317, v_318, a_319, a_320, v_321, v_322, a_323, v_324, a_325, a_326, v_327, v_328, a_329, a_330, a_331, v_332, a_333, a_334, a_335, a_336, a_337, a_338, a_339, a_340, a_341, v_342, v_343, a_344, hfo_288, ⟨ma_289, ka_289⟩, ⟨ma_290, ka_290⟩, ⟨ma_291, ka_291⟩, bv_292, ⟨ma_293, ka_293⟩, bv_294, bv_295, bv_300, bv_301, bv_302, ⟨ma_304, ka_304⟩, ⟨ma_305, ka_305⟩, ⟨ma_306, ka_306⟩, ⟨ma_307, ka_307⟩, ⟨ma_308, ka_308⟩, ⟨ma_309, ka_309⟩, ⟨ma_310, ka_310⟩, ⟨ma_311, ka_311⟩, bv_312, bv_314, bv_316, ⟨ma_317, ka_317⟩, bv_318, ⟨ma_319, ka_319⟩, ⟨ma_320, ka_320⟩, bv_321, ⟨ma_323, ka_323⟩, bv_324, ⟨ma_325, ka_325⟩, ⟨ma_326, ka_326⟩, bv_327, ⟨ma_329, ka_329⟩, ⟨ma_330, ka_330⟩, ⟨ma_331, ka_331⟩, bv_332, ⟨ma_333, ka_333⟩, ⟨ma_334, ka_334⟩, ⟨ma_335, ka_335⟩, ⟨ma_336, ka_336⟩, ⟨ma_337, ka_337⟩, ⟨ma_338, ka_338⟩, ⟨ma_339, ka_339⟩, ⟨ma_340, ka_340⟩, ⟨ma_341, ka_341⟩, bv_342, ⟨ma_344, ka_344⟩⟩ := un_12 (hG _ mo0) ko0
              have bv_296 : ((-2147483648) ≤ v_296.toInt ∧ v_296.toInt ≤ 2147483647) := ⟨i32_lo _, i32_hi _⟩
              have bv_297 : ((-2147483648) ≤ v_297.toInt ∧ v_297.toInt ≤ 2147483647) := ⟨i32_lo _, i32_hi _⟩
              have bv_298 : ((-2147483648) ≤ v_298.toInt ∧ v_298.toInt ≤ 2147483647) := ⟨i32_lo _, i32_hi _⟩
              have bv_299 : ((-2147483648) ≤ v_299.toInt ∧ v_299.toInt ≤ 2147483647) := ⟨i32_lo _, i32_hi _⟩
              have bv_303 : ((-2147483648) ≤ v_303.toInt ∧ v_303.toInt ≤ 2147483647) := ⟨i32_lo _, i32_hi _⟩
              have bv_313 : ((-2147483648) ≤ v_313.toInt ∧ v_313.toInt ≤ 2147483647) := ⟨i32_lo _, i32_hi _⟩
              have bv_315 : ((-2147483648) ≤ v_315.toInt ∧ v_315.toInt ≤ 2147483647) := ⟨i32_lo _, i32_hi _⟩
              have bv_322 : ((-2147483648) ≤ v_322.toInt ∧ v_322.toInt ≤ 2147483647) := ⟨i32_lo _, i32_hi _⟩
              have bv_328 : ((-2147483648) ≤ v_328.toInt ∧ v_328.toInt ≤ 2147483647) := ⟨i32_lo _, i32_hi _⟩
              have bv_343 : ((-2147483648) ≤ v_343.toInt ∧ v_343.toInt ≤ 2147483647) := ⟨i32_lo _, i32_hi _⟩
              obtain ⟨rfl, rfl, rfl, rfl, rfl, rfl, rfl, rfl, rfl, rfl, rfl, rfl, rfl, rfl, rfl, rfl, rfl, rfl, rfl, rfl, rfl, rfl, rfl, rfl, rfl, rfl, rfl, rfl, rfl, rfl, rfl⟩ := re_12 hfo_1 hfo_288 (hrA12 o0 ko0)
              obtain rfl := ri_12_3 hfo_1 hfo_288 (hfA12 o0 ko0 3 (by decide) (by decide) (by decide))
              obtain rfl := ri_12_5 hfo_1 hfo_288 (hfA12 o0 ko0 5 (by decide) (by decide) (by decide))
              obtain rfl := ri_12_11 hfo_1 hfo_288 (hfA12 o0 ko0 11 (by decide) (by decide) (by decide))
              obtain rfl := ri_12_12 hfo_1 hfo_288 (hfA12 o0 ko0 12 (by decide) (by decide) (by decide))
              obtain rfl := ri_12_13 hfo_1 hfo_288 (hfA12 o0 ko0 13 (by decide) (by decide) (by decide))
              obtain rfl := ri_12_14 hfo_1 hfo_288 (hfA12 o0 ko0 14 (by decide) (by decide) (by decide))
              obtain rfl := ri_12_23 hfo_1 hfo_288 (hfA12 o0 ko0 23 (by decide) (by decide) (by decide))
              obtain rfl := ri_12_25 hfo_1 hfo_288 (hfA12 o0 ko0 25 (by decide) (by decide) (by decide))
              obtain rfl := ri_12_27 hfo_1 hfo_288 (hfA12 o0 ko0 27 (by decide) (by decide) (by decide))
              obtain rfl := ri_12_29 hfo_1 hfo_288 (hfA12 o0 ko0 29 (by decide) (by decide) (by decide))
              obtain rfl := ri_12_32 hfo_1 hfo_288 (hfA12 o0 ko0 32 (by decide) (by decide) (by decide))
              obtain rfl := ri_12_33 hfo_1 hfo_288 (hfA12 o0 ko0 33 (by decide) (by decide) (by decide))
              obtain rfl := ri_12_35 hfo_1 hfo_288 (hfA12 o0 ko0 35 (by decide) (by decide) (by decide))
              obtain rfl := ri_12_38 hfo_1 hfo_288 (hfA12 o0 ko0 38 (by decide) (by decide) (by decide))
              obtain rfl := ri_12_43 hfo_1 hfo_288 (hfA12 o0 ko0 43 (by decide) (by decide) (by decide))
              obtain rfl := ri_12_53 hfo_1 hfo_288 (hfA12 o0 ko0 53 (by decide) (by decide) (by decide))
              obtain rfl := ri_12_6 hfo_205 hfo_288 (hfa_285 o0 ko0 6 (by decide) (by decide))
              exact W.zret (v := x_281) (ty := .boolean) hx hb hr (zb_n (by constructor <;> omega)) (fun t ht hW => ⟨⟨x_281, f_282, rfl, ⟨hG, (by constructor <;> omega), hfr0, hrA12, hfA12, (by intro w6 z6 e6 d6; rw [hfo_1] at e6; rw [hfo_288] at d6; obtain rfl := Option.some.inj e6; obtain rfl := Option.some.inj d6; omega), (fun d9 h9 => by rw [hfo_288] at h9; obtain rfl := Option.some.inj h9; exact hT0)⟩, by rw [ht]; exact hP, va_K.moved hW.alike hK, pl_in hD⟩, hS.F ht⟩) hS.2.2 dX12_classOf_97
          · skip
            rw [← Int32.toInt_inj, ti_0] at c_265
            refine lv_aload_n hx hb dX12_classOf_63 rfl (lv_at hl 3 rfl) ?_
            refine lv_iconst (v := 1) hx hb dX12_classOf_64 (by decide) ?_
            refine lv_aload_n hx hb dX12_classOf_65 rfl (lv_at hl 3 rfl) ?_
            refine tk_getP (D := (dC, dI)) (ci := 12) (v := .int v_212) (C := RX12) (T := TX12) (N := 56) hx hb hU inlX12 hown hK hP mo0 hfo_205 rfl 6 (by decide) (hU _ wd_566) (fun _ h9 => h9) rfl dX12_classOf_66 ?_
            refine tk_ViP (As := [.int 1, .int v_212]) (rest := []) (n := 2) hx hb hml hown hU hN hZ (s_X12_bad_k12 l (dC, dI) cI cL cZ cR cG cH Z kd L f_199 hG o0 mo0 ko0 1 v_212) wd_602 wd_603 wd_604 wd_5 wd_605 (by decide +kernel) ⟨Nat.le_of_ble_eq_true rfl, Nat.le_of_ble_eq_true rfl⟩ hK hP hD hS mo0 hfo_205 12 rfl rfl rfl hl.1 rfl (Nat.le_of_ble_eq_true rfl) dX12_classOf_69 ⟨Nat.le_of_ble_eq_true rfl, Nat.le_of_ble_eq_true rfl⟩ (fun x_345 f_346 H locs hw hP hD hS => ?_)
            obtain ⟨hG, bx_345, hkc_347, hra_348, hfa_349⟩ := hw
            have hfr0 : ∀ b, kd b ≠ 12 → kd b ≠ 576 → f_346 b = f b := fun b q12 q576 => (hkc_347 b q12).trans (hfr0 b q12 q576)
            have hrA12 : ∀ b, kd b = 12 → ∀ j, fldR (f_346 b) j = fldR (f b) j := fun b kb j => (hra_348 b kb j).trans (hrA12 b kb j)
            have hfA12 : ∀ b, kd b = 12 → ∀ j, j ≠ 6 → j ≠ 7 → j ≠ 8 → fldI (f_346 b) j = fldI (f b) j := fun b kb j n6 n7 n8 => (hfa_349 b kb j n7 n8).trans (hfA12 b kb j n6 n7 n8)
            have hT0 : frel kd 576 8 f_346 a_3 := hT0.keep (fun b q => hkc_347 b (by rw [q]; decide))
            obtain ⟨a_352, a_353, a_354, v_355, a_356, v_357, v_358, v_359, v_360, v_361, v_362, v_363, v_364, v_365, v_366, a_367, a_368, a_369, a_370, a_371, a_372, a_373, a_374, v_375, v_376, v_377, v_378, v_379, a_380, v_381, a_382, a_383, v_384, v_385, a_386, v_387, a_388, a_389, v_390, v_391, a_392, a_393, a_394, v_395, a_396, a_397, a_398, a_399, a_400, a_401, a_402, a_403, a_404, v_405, v_406, a_407, hfo_351, ⟨ma_352, ka_352⟩, ⟨ma_353, ka_353⟩, ⟨ma_354, ka_354⟩, bv_355, ⟨ma_356, ka_356⟩, bv_357, bv_358, bv_363, bv_364, bv_365, ⟨ma_367, ka_367⟩, ⟨ma_368, ka_368⟩, ⟨ma_369, ka_369⟩, ⟨ma_370, ka_370⟩, ⟨ma_371, ka_371⟩, ⟨ma_372, ka_372⟩, ⟨ma_373, ka_373⟩, ⟨ma_374, ka_374⟩, bv_375, bv_377, bv_379, ⟨ma_380, ka_380⟩, bv_381, ⟨ma_382, ka_382⟩, ⟨ma_383, ka_383⟩, bv_384, ⟨ma_386, ka_386⟩, bv_387, ⟨ma_388, ka_388⟩, ⟨ma_389, ka_389⟩, bv_390, ⟨ma_392, ka_392⟩, ⟨ma_393, ka_393⟩, ⟨ma_394, ka_394⟩, bv_395, ⟨ma_396, ka_396⟩, ⟨ma_397, ka_397⟩, ⟨ma_398, ka_398⟩, ⟨ma_399, ka_399⟩, ⟨ma_400, ka_400⟩, ⟨ma_401, ka_401⟩, ⟨ma_402, ka_402⟩, ⟨ma_403, ka_403⟩, ⟨ma_404, ka_404⟩, bv_405, ⟨ma_407, ka_407⟩⟩ := un_12 (hG _ mo0) ko0
            have bv_359 : ((-2147483648) ≤ v_359.toInt ∧ v_359.toInt ≤ 2147483647) := ⟨i32_lo _, i32_hi _⟩
            have bv_360 : ((-2147483648) ≤ v_360.toInt ∧ v_360.toInt ≤ 2147483647) := ⟨i32_lo _, i32_hi _⟩
            have bv_361 : ((-2147483648) ≤ v_361.toInt ∧ v_361.toInt ≤ 2147483647) := ⟨i32_lo _, i32_hi _⟩
            have bv_362 : ((-2147483648) ≤ v_362.toInt ∧ v_362.toInt ≤ 2147483647) := ⟨i32_lo _, i32_hi _⟩
            have bv_366 : ((-2147483648) ≤ v_366.toInt ∧ v_366.toInt ≤ 2147483647) := ⟨i32_lo _, i32_hi _⟩
            have bv_376 : ((-2147483648) ≤ v_376.toInt ∧ v_376.toInt ≤ 2147483647) := ⟨i32_lo _, i32_hi _⟩
            have bv_378 : ((-2147483648) ≤ v_378.toInt ∧ v_378.toInt ≤ 2147483647) := ⟨i32_lo _, i32_hi _⟩
            have bv_385 : ((-2147483648) ≤ v_385.toInt ∧ v_385.toInt ≤ 2147483647) := ⟨i32_lo _, i32_hi _⟩
            have bv_391 : ((-2147483648) ≤ v_391.toInt ∧ v_391.toInt ≤ 2147483647) := ⟨i32_lo _, i32_hi _⟩
            have bv_406 : ((-2147483648) ≤ v_406.toInt ∧ v_406.toInt ≤ 2147483647) := ⟨i32_lo _, i32_hi _⟩
            obtain ⟨rfl, rfl, rfl, rfl, rfl, rfl, rfl, rfl, rfl, rfl, rfl, rfl, rfl, rfl, rfl, rfl, rfl, rfl, rfl, rfl, rfl, rfl, rfl, rfl, rfl, rfl, rfl, rfl, rfl, rfl, rfl⟩ := re_12 hfo_1 hfo_351 (hrA12 o0 ko0)
            obtain rfl := ri_12_3 hfo_1 hfo_351 (hfA12 o0 ko0 3 (by decide) (by decide) (by decide))
            obtain rfl := ri_12_5 hfo_1 hfo_351 (hfA12 o0 ko0 5 (by decide) (by decide) (by decide))
            obtain rfl := ri_12_11 hfo_1 hfo_351 (hfA12 o0 ko0 11 (by decide) (by decide) (by decide))
            obtain rfl := ri_12_12 hfo_1 hfo_351 (hfA12 o0 ko0 12 (by decide) (by decide) (by decide))
            obtain rfl := ri_12_13 hfo_1 hfo_351 (hfA12 o0 ko0 13 (by decide) (by decide) (by decide))
            obtain rfl := ri_12_14 hfo_1 hfo_351 (hfA12 o0 ko0 14 (by decide) (by decide) (by decide))
            obtain rfl := ri_12_23 hfo_1 hfo_351 (hfA12 o0 ko0 23 (by decide) (by decide) (by decide))
            obtain rfl := ri_12_25 hfo_1 hfo_351 (hfA12 o0 ko0 25 (by decide) (by decide) (by decide))
            obtain rfl := ri_12_27 hfo_1 hfo_351 (hfA12 o0 ko0 27 (by decide) (by decide) (by decide))
            obtain rfl := ri_12_29 hfo_1 hfo_351 (hfA12 o0 ko0 29 (by decide) (by decide) (by decide))
            obtain rfl := ri_12_32 hfo_1 hfo_351 (hfA12 o0 ko0 32 (by decide) (by decide) (by decide))
            obtain rfl := ri_12_33 hfo_1 hfo_351 (hfA12 o0 ko0 33 (by decide) (by decide) (by decide))
            obtain rfl := ri_12_35 hfo_1 hfo_351 (hfA12 o0 ko0 35 (by decide) (by decide) (by decide))
            obtain rfl := ri_12_38 hfo_1 hfo_351 (hfA12 o0 ko0 38 (by decide) (by decide) (by decide))
            obtain rfl := ri_12_43 hfo_1 hfo_351 (hfA12 o0 ko0 43 (by decide) (by decide) (by decide))
            obtain rfl := ri_12_53 hfo_1 hfo_351 (hfA12 o0 ko0 53 (by decide) (by decide) (by decide))
            obtain rfl := ri_12_6 hfo_205 hfo_351 (hfa_349 o0 ko0 6 (by decide) (by decide))
            exact W.zret (v := x_345) (ty := .boolean) hx hb hr (zb_n (by constructor <;> omega)) (fun t ht hW => ⟨⟨x_345, f_346, rfl, ⟨hG, (by constructor <;> omega), hfr0, hrA12, hfA12, (by intro w6 z6 e6 d6; rw [hfo_1] at e6; rw [hfo_351] at d6; obtain rfl := Option.some.inj e6; obtain rfl := Option.some.inj d6; omega), (fun d9 h9 => by rw [hfo_351] at h9; obtain rfl := Option.some.inj h9; exact hT0)⟩, by rw [ht]; exact hP, va_K.moved hW.alike hK, pl_in hD⟩, hS.F ht⟩) hS.2.2 dX12_classOf_72
        · skip
          rw [← Int32.toInt_inj, ti_0] at c_197
          refine lv_aload_n hx hb dX12_classOf_42 rfl (lv_at hl 2 rfl) ?_
          refine tk_ViP (As := []) (rest := []) (n := 0) hx hb hml hown hU hN hZ (s_X12_sign_k12 l (dC, dI) cI cL cZ cR cG cH Z kd L f_139 hG o0 mo0 ko0) wd_573 wd_574 wd_575 wd_5 wd_576 (by decide +kernel) ⟨Nat.le_of_ble_eq_true rfl, Nat.le_of_ble_eq_true rfl⟩ hK hP hD hS mo0 hfo_140 12 rfl rfl rfl hl.1 rfl (Nat.le_of_ble_eq_true rfl) dX12_classOf_43 ⟨Nat.le_of_ble_eq_true rfl, Nat.le_of_ble_eq_true rfl⟩ (fun x_408 f_409 H locs hw hP hD hS => ?_)
          obtain ⟨hG, bx_408, hkc_410, hra_411, hfa_412, hpost_413⟩ := hw
          have hfr0 : ∀ b, kd b ≠ 12 → kd b ≠ 576 → f_409 b = f b := fun b q12 q576 => (hkc_410 b q12).trans (hfr0 b q12 q576)
          have hrA12 : ∀ b, kd b = 12 → ∀ j, fldR (f_409 b) j = fldR (f b) j := fun b kb j => (hra_411 b kb j).trans (hrA12 b kb j)
          have hfA12 : ∀ b, kd b = 12 → ∀ j, j ≠ 6 → j ≠ 7 → j ≠ 8 → fldI (f_409 b) j = fldI (f b) j := fun b kb j n6 n7 n8 => (hfa_412 b kb j n6).trans (hfA12 b kb j n6 n7 n8)
          have hT0 : frel kd 576 8 f_409 a_3 := hT0.keep (fun b q => hkc_410 b (by rw [q]; decide))
          obtain ⟨a_416, a_417, a_418, v_419, a_420, v_421, v_422, v_423, v_424, v_425, v_426, v_427, v_428, v_429, v_430, a_431, a_432, a_433, a_434, a_435, a_436, a_437, a_438, v_439, v_440, v_441, v_442, v_443, a_444, v_445, a_446, a_447, v_448, v_449, a_450, v_451, a_452, a_453, v_454, v_455, a_456, a_457, a_458, v_459, a_460, a_461, a_462, a_463, a_464, a_465, a_466, a_467, a_468, v_469, v_470, a_471, hfo_415, ⟨ma_416, ka_416⟩, ⟨ma_417, ka_417⟩, ⟨ma_418, ka_418⟩, bv_419, ⟨ma_420, ka_420⟩, bv_421, bv_422, bv_427, bv_428, bv_429, ⟨ma_431, ka_431⟩, ⟨ma_432, ka_432⟩, ⟨ma_433, ka_433⟩, ⟨ma_434, ka_434⟩, ⟨ma_435, ka_435⟩, ⟨ma_436, ka_436⟩, ⟨ma_437, ka_437⟩, ⟨ma_438, ka_438⟩, bv_439, bv_441, bv_443, ⟨ma_444, ka_444⟩, bv_445, ⟨ma_446, ka_446⟩, ⟨ma_447, ka_447⟩, bv_448, ⟨ma_450, ka_450⟩, bv_451, ⟨ma_452, ka_452⟩, ⟨ma_453, ka_453⟩, bv_454, ⟨ma_456, ka_456⟩, ⟨ma_457, ka_457⟩, ⟨ma_458, ka_458⟩, bv_459, ⟨ma_460, ka_460⟩, ⟨ma_461, ka_461⟩, ⟨ma_462, ka_462⟩, ⟨ma_463, ka_463⟩, ⟨ma_464, ka_464⟩, ⟨ma_465, ka_465⟩, ⟨ma_466, ka_466⟩, ⟨ma_467, ka_467⟩, ⟨ma_468, ka_468⟩, bv_469, ⟨ma_471, ka_471⟩⟩ := un_12 (hG _ mo0) ko0
          have bv_423 : ((-2147483648) ≤ v_423.toInt ∧ v_423.toInt ≤ 2147483647) := ⟨i32_lo _, i32_hi _⟩
          have bv_424 : ((-2147483648) ≤ v_424.toInt ∧ v_424.toInt ≤ 2147483647) := ⟨i32_lo _, i32_hi _⟩
          have bv_425 : ((-2147483648) ≤ v_425.toInt ∧ v_425.toInt ≤ 2147483647) := ⟨i32_lo _, i32_hi _⟩
          have bv_426 : ((-2147483648) ≤ v_426.toInt ∧ v_426.toInt ≤ 2147483647) := ⟨i32_lo _, i32_hi _⟩
          have bv_430 : ((-2147483648) ≤ v_430.toInt ∧ v_430.toInt ≤ 2147483647) := ⟨i32_lo _, i32_hi _⟩
          have bv_440 : ((-2147483648) ≤ v_440.toInt ∧ v_440.toInt ≤ 2147483647) := ⟨i32_lo _, i32_hi _⟩
          have bv_442 : ((-2147483648) ≤ v_442.toInt ∧ v_442.toInt ≤ 2147483647) := ⟨i32_lo _, i32_hi _⟩
          have bv_449 : ((-2147483648) ≤ v_449.toInt ∧ v_449.toInt ≤ 2147483647) := ⟨i32_lo _, i32_hi _⟩
          have bv_455 : ((-2147483648) ≤ v_455.toInt ∧ v_455.toInt ≤ 2147483647) := ⟨i32_lo _, i32_hi _⟩
          have bv_470 : ((-2147483648) ≤ v_470.toInt ∧ v_470.toInt ≤ 2147483647) := ⟨i32_lo _, i32_hi _⟩
          obtain ⟨rfl, rfl, rfl, rfl, rfl, rfl, rfl, rfl, rfl, rfl, rfl, rfl, rfl, rfl, rfl, rfl, rfl, rfl, rfl, rfl, rfl, rfl, rfl, rfl, rfl, rfl, rfl, rfl, rfl, rfl, rfl⟩ := re_12 hfo_1 hfo_415 (hrA12 o0 ko0)
          obtain rfl := ri_12_3 hfo_1 hfo_415 (hfA12 o0 ko0 3 (by decide) (by decide) (by decide))
          obtain rfl := ri_12_5 hfo_1 hfo_415 (hfA12 o0 ko0 5 (by decide) (by decide) (by decide))
          obtain rfl := ri_12_11 hfo_1 hfo_415 (hfA12 o0 ko0 11 (by decide) (by decide) (by decide))
          obtain rfl := ri_12_12 hfo_1 hfo_415 (hfA12 o0 ko0 12 (by decide) (by decide) (by decide))
          obtain rfl := ri_12_13 hfo_1 hfo_415 (hfA12 o0 ko0 13 (by decide) (by decide) (by decide))
          obtain rfl := ri_12_14 hfo_1 hfo_415 (hfA12 o0 ko0 14 (by decide) (by decide) (by decide))
          obtain rfl := ri_12_23 hfo_1 hfo_415 (hfA12 o0 ko0 23 (by decide) (by decide) (by decide))
          obtain rfl := ri_12_25 hfo_1 hfo_415 (hfA12 o0 ko0 25 (by decide) (by decide) (by decide))
          obtain rfl := ri_12_27 hfo_1 hfo_415 (hfA12 o0 ko0 27 (by decide) (by decide) (by decide))
          obtain rfl := ri_12_29 hfo_1 hfo_415 (hfA12 o0 ko0 29 (by decide) (by decide) (by decide))
          obtain rfl := ri_12_32 hfo_1 hfo_415 (hfA12 o0 ko0 32 (by decide) (by decide) (by decide))
          obtain rfl := ri_12_33 hfo_1 hfo_415 (hfA12 o0 ko0 33 (by decide) (by decide) (by decide))
          obtain rfl := ri_12_35 hfo_1 hfo_415 (hfA12 o0 ko0 35 (by decide) (by decide) (by decide))
          obtain rfl := ri_12_38 hfo_1 hfo_415 (hfA12 o0 ko0 38 (by decide) (by decide) (by decide))
          obtain rfl := ri_12_43 hfo_1 hfo_415 (hfA12 o0 ko0 43 (by decide) (by decide) (by decide))
          obtain rfl := ri_12_53 hfo_1 hfo_415 (hfA12 o0 ko0 53 (by decide) (by decide) (by decide))
          have hqhpost_413 := hpost_413 v_147 v_422 (by rw [hfo_140]; rfl) (by rw [hfo_415]; rfl)
          refine lv_bipush (v := 59) hx hb dX12_classOf_46 (by decide) ?_
          refine lv_icmp_eq (tgt := 118) hx hb dX12_classOf_48 (by decide) (fun c_472 => ?_) (fun c_472 => ?_)
          · skip
            rw [← Int32.toInt_inj, ti_59] at c_472
            refine lv_aload_n hx hb dX12_classOf_118 rfl (lv_at hl 2 rfl) ?_
            refine tk_getP (D := (dC, dI)) (ci := 12) (v := .ref a_3) (C := RX12) (T := TX12) (N := 56) hx hb hU inlX12 hown hK hP mo0 hfo_415 rfl 1 (by decide) (hU _ wd_170) (fun _ h9 => h9) rfl dX12_classOf_119 ?_
            refine lv_bipush (v := 10) hx hb dX12_classOf_122 (by decide) ?_
            refine lv_iload_n hx hb dX12_classOf_124 rfl (lv_at hl 1 rfl) ?_
            refine lv_iadd hx hb dX12_classOf_125 ?_
            refine lv_topi (fun x_473 ex_473 => ?_)
            have hx_473 : x_473.toInt = 10 + x_58.toInt := by rw [ex_473, ad_I (by rw [ti_10]; omega) (by rw [ti_10]; omega), ti_10]
            have bx_473 : (75 ≤ x_473.toInt ∧ x_473.toInt ≤ 80) := by constructor <;> omega
            refine lv_bipush (v := 65) hx hb dX12_classOf_126 (by decide) ?_
            refine lv_isub hx hb dX12_classOf_128 ?_
            refine lv_topi (fun x_474 ex_474 => ?_)
            have hx_474 : x_474.toInt = x_473.toInt - 65 := by rw [ex_474, sb_I (by rw [ti_65]; omega) (by rw [ti_65]; omega), ti_65]
            have bx_474 : (10 ≤ x_474.toInt ∧ x_474.toInt ≤ 15) := by constructor <;> omega
            refine lv_iload_n hx hb dX12_classOf_129 rfl (lv_at hl 0 rfl) ?_
            obtain ⟨g_476, hfo_475, hbg_476⟩ := un_576 (hG _ ma_3) ka_3
            refine tk_istP hx hb hK hP hD hS 0 ma_3 hfo_475 rfl (vp_in_iff.mpr (by constructor <;> omega)) dX12_classOf_130 (fun H locs hP hD hS => ?_)
            have hc9 := cl_I (i := x_474) (by omega)
            obtain ⟨g_477, eqg_477⟩ : ∃ y : Nat → Int32, y = upd g_476 (Int32.toNatClampNeg x_474) y_137 := ⟨_, rfl⟩
            rw [← eqg_477] at hP hD
            have hbg_477 : wOK g_477 := by rw [eqg_477]; exact ⟨hbg_476.1.up (fun h1 h2 h3 => by exfalso; omega), hbg_476.2.1.up (fun h1 h2 h3 => by exfalso; omega), hbg_476.2.2.1.up (fun h1 h2 h3 => by exfalso; omega), hbg_476.2.2.2.1.up (fun h1 h2 h3 => by exfalso; omega), hbg_476.2.2.2.2.1.up (fun h1 h2 h3 => by exfalso; omega), hbg_476.2.2.2.2.2.1.up (fun h1 h2 h3 => by exfalso; omega), hbg_476.2.2.2.2.2.2.1.up (fun h1 h2 h3 => by exfalso; omega), hbg_476.2.2.2.2.2.2.2.1.up (fun h1 h2 h3 => by exfalso; omega), hbg_476.2.2.2.2.2.2.2.2.1.up (fun h1 h2 h3 => by exfalso; omega), hbg_476.2.2.2.2.2.2.2.2.2.1.up (fun h1 h2 h3 => by exfalso; omega), hbg_476.2.2.2.2.2.2.2.2.2.2.1.up (fun h1 h2 h3 => by exfalso; omega), hbg_476.2.2.2.2.2.2.2.2.2.2.2.1.up (fun h1 h2 h3 => by exfalso; omega), hbg_476.2.2.2.2.2.2.2.2.2.2.2.2.1.up (fun h1 h2 h3 => by exfalso; omega), hbg_476.2.2.2.2.2.2.2.2.2.2.2.2.2.1.up (fun h1 h2 h3 => by exfalso; omega), hbg_476.2.2.2.2.2.2.2.2.2.2.2.2.2.2.1.up (fun h1 h2 h3 => by exfalso; omega), hbg_476.2.2.2.2.2.2.2.2.2.2.2.2.2.2.2.up (fun h1 h2 h3 => by exfalso; omega)⟩
            obtain ⟨f_479, ef_479⟩ : ∃ y : Nat → va_E, y = va_up f_409 a_3 (.inl (cI, 1560, .inl g_477)) := ⟨_, rfl⟩
            have hP : va_P (dC, dI) vwCl (va_pl L f_479) H := by rw [ef_479]; exact hP
            have hD : va_D (fun q => q ∈ L) (va_pl L f_479) := by rw [ef_479]; exact hD
            have hG : GI (okc cI cL cZ cR cG cH L kd) kd L f_479 := by rw [ef_479]; exact hG.set a_3 (mk_576 ka_3 ⟨_, rfl, hbg_477⟩)
            have hfo_480 : f_479 o0 = .inr (12, [.ref a_2, .ref a_3, .ref a_4, .int v_5, .ref a_6, .int v_7, .int v_422, .int v_423, .int v_424, .int v_425, .int v_426, .int v_13, .int v_14, .int v_15, .int v_16, .ref a_17, .ref a_18, .ref a_19, .ref a_20, .ref a_21, .ref a_22, .ref a_23, .ref a_24, .int v_25, .int v_440, .int v_27, .int v_442, .int v_29, .ref a_30, .int v_31, .ref a_32, .ref a_33, .int v_34, .int v_35, .ref a_36, .int v_37, .ref a_38, .ref a_39, .int v_40, .int v_455, .ref a_42, .ref a_43, .ref a_44, .int v_45, .ref a_46, .ref a_47, .ref a_48, .ref a_49, .ref a_50, .ref a_51, .ref a_52, .ref a_53, .ref a_54, .int v_55, .int v_470, .ref a_57]) := by rw [ef_479, up_ne (kd_ne ka_3 ko0 (by decide))]; exact hfo_415
            have hfr0 : ∀ b, kd b ≠ 12 → kd b ≠ 576 → f_479 b = f b := fun b q12 q576 => (congrFun ef_479 b).trans ((up_ne (fun e9 => q576 (by rw [e9]; exact ka_3))).trans (hfr0 b q12 q576))
            have hrA12 : ∀ b, kd b = 12 → ∀ j, fldR (f_479 b) j = fldR (f b) j := fun b kb j => (congrArg (fun x => fldR x j) ((congrFun ef_479 b).trans (up_ne (kd_ne ka_3 kb (by decide))))).trans (hrA12 b kb j)
            have hfA12 : ∀ b, kd b = 12 → ∀ j, j ≠ 6 → j ≠ 7 → j ≠ 8 → fldI (f_479 b) j = fldI (f b) j := fun b kb j n6 n7 n8 => (congrArg (fun x => fldI x j) ((congrFun ef_479 b).trans (up_ne (kd_ne ka_3 kb (by decide))))).trans (hfA12 b kb j n6 n7 n8)
            have hT0 : frel kd 576 8 f_479 a_3 := by rw [ef_479]; exact frel.mk ka_3 up_self (by rw [eqg_477]; exact (hT0.get hfo_475).up (hbg_476.2.1 16 (by decide) (by decide) (by decide)).2 (by omega) (by omega) (by omega) (fun h9 => by exfalso; omega))
            have hfo_481 : f_479 a_3 = .inl (cI, 1560, .inl g_477) := by rw [ef_479]; exact up_self
            have ql_482 : y_137 = g_477 (Int32.toNatClampNeg x_474) := by rw [eqg_477, pk_us]
            refine lv_iconst (v := 1) hx hb dX12_classOf_131 (by decide) ?_
            exact W.zret (v := 1) (ty := .boolean) hx hb hr rfl (fun t ht hW => ⟨⟨1, f_479, rfl, ⟨hG, (by decide), hfr0, hrA12, hfA12, (by intro w6 z6 e6 d6; rw [hfo_1] at e6; rw [hfo_480] at d6; obtain rfl := Option.some.inj e6; obtain rfl := Option.some.inj d6; (try rw [ti_1]) <;> omega), (fun d9 h9 => by rw [hfo_480] at h9; obtain rfl := Option.some.inj h9; exact hT0)⟩, by rw [ht]; exact hP, va_K.moved hW.alike hK, pl_in hD⟩, hS.F ht⟩) hS.2.2 dX12_classOf_132
          · skip
            rw [← Int32.toInt_inj, ti_59] at c_472
            refine lv_aload_n hx hb dX12_classOf_51 rfl (lv_at hl 2 rfl) ?_
            refine tk_ViP (As := []) (rest := []) (n := 0) hx hb hml hown hU hN hZ (s_X12_sign_k12 l (dC, dI) cI cL cZ cR cG cH Z kd L f_409 hG o0 mo0 ko0) wd_573 wd_574 wd_575 wd_5 wd_576 (by decide +kernel) ⟨Nat.le_of_ble_eq_true rfl, Nat.le_of_ble_eq_true rfl⟩ hK hP hD hS mo0 hfo_415 12 rfl rfl rfl hl.1 rfl (Nat.le_of_ble_eq_true rfl) dX12_classOf_52 ⟨Nat.le_of_ble_eq_true rfl, Nat.le_of_ble_eq_true rfl⟩ (fun x_483 f_484 H locs hw hP hD hS => ?_)
            obtain ⟨hG, bx_483, hkc_485, hra_486, hfa_487, hpost_488⟩ := hw
            have hfr0 : ∀ b, kd b ≠ 12 → kd b ≠ 576 → f_484 b = f b := fun b q12 q576 => (hkc_485 b q12).trans (hfr0 b q12 q576)
            have hrA12 : ∀ b, kd b = 12 → ∀ j, fldR (f_484 b) j = fldR (f b) j := fun b kb j => (hra_486 b kb j).trans (hrA12 b kb j)
            have hfA12 : ∀ b, kd b = 12 → ∀ j, j ≠ 6 → j ≠ 7 → j ≠ 8 → fldI (f_484 b) j = fldI (f b) j := fun b kb j n6 n7 n8 => (hfa_487 b kb j n6).trans (hfA12 b kb j n6 n7 n8)
            have hT0 : frel kd 576 8 f_484 a_3 := hT0.keep (fun b q => hkc_485 b (by rw [q]; decide))
            obtain ⟨a_491, a_492, a_493, v_494, a_495, v_496, v_497, v_498, v_499, v_500, v_501, v_502, v_503, v_504, v_505, a_506, a_507, a_508, a_509, a_510, a_511, a_512, a_513, v_514, v_515, v_516, v_517, v_518, a_519, v_520, a_521, a_522, v_523, v_524, a_525, v_526, a_527, a_528, v_529, v_530, a_531, a_532, a_533, v_534, a_535, a_536, a_537, a_538, a_539, a_540, a_541, a_542, a_543, v_544, v_545, a_546, hfo_490, ⟨ma_491, ka_491⟩, ⟨ma_492, ka_492⟩, ⟨ma_493, ka_493⟩, bv_494, ⟨ma_495, ka_495⟩, bv_496, bv_497, bv_502, bv_503, bv_504, ⟨ma_506, ka_506⟩, ⟨ma_507, ka_507⟩, ⟨ma_508, ka_508⟩, ⟨ma_509, ka_509⟩, ⟨ma_510, ka_510⟩, ⟨ma_511, ka_511⟩, ⟨ma_512, ka_512⟩, ⟨ma_513, ka_513⟩, bv_514, bv_516, bv_518, ⟨ma_519, ka_519⟩, bv_520, ⟨ma_521, ka_521⟩, ⟨ma_522, ka_522⟩, bv_523, ⟨ma_525, ka_525⟩, bv_526, ⟨ma_527, ka_527⟩, ⟨ma_528, ka_528⟩, bv_529, ⟨ma_531, ka_531⟩, ⟨ma_532, ka_532⟩, ⟨ma_533, ka_533⟩, bv_534, ⟨ma_535, ka_535⟩, ⟨ma_536, ka_536⟩, ⟨ma_537, ka_537⟩, ⟨ma_538, ka_538⟩, ⟨ma_539, ka_539⟩, ⟨ma_540, ka_540⟩, ⟨ma_541, ka_541⟩, ⟨ma_542, ka_542⟩, ⟨ma_543, ka_543⟩, bv_544, ⟨ma_546, ka_546⟩⟩ := un_12 (hG _ mo0) ko0
            have bv_498 : ((-2147483648) ≤ v_498.toInt ∧ v_498.toInt ≤ 2147483647) := ⟨i32_lo _, i32_hi _⟩
            have bv_499 : ((-2147483648) ≤ v_499.toInt ∧ v_499.toInt ≤ 2147483647) := ⟨i32_lo _, i32_hi _⟩
            have bv_500 : ((-2147483648) ≤ v_500.toInt ∧ v_500.toInt ≤ 2147483647) := ⟨i32_lo _, i32_hi _⟩
            have bv_501 : ((-2147483648) ≤ v_501.toInt ∧ v_501.toInt ≤ 2147483647) := ⟨i32_lo _, i32_hi _⟩
            have bv_505 : ((-2147483648) ≤ v_505.toInt ∧ v_505.toInt ≤ 2147483647) := ⟨i32_lo _, i32_hi _⟩
            have bv_515 : ((-2147483648) ≤ v_515.toInt ∧ v_515.toInt ≤ 2147483647) := ⟨i32_lo _, i32_hi _⟩
            have bv_517 : ((-2147483648) ≤ v_517.toInt ∧ v_517.toInt ≤ 2147483647) := ⟨i32_lo _, i32_hi _⟩
            have bv_524 : ((-2147483648) ≤ v_524.toInt ∧ v_524.toInt ≤ 2147483647) := ⟨i32_lo _, i32_hi _⟩
            have bv_530 : ((-2147483648) ≤ v_530.toInt ∧ v_530.toInt ≤ 2147483647) := ⟨i32_lo _, i32_hi _⟩
            have bv_545 : ((-2147483648) ≤ v_545.toInt ∧ v_545.toInt ≤ 2147483647) := ⟨i32_lo _, i32_hi _⟩
            obtain ⟨rfl, rfl, rfl, rfl, rfl, rfl, rfl, rfl, rfl, rfl, rfl, rfl, rfl, rfl, rfl, rfl, rfl, rfl, rfl, rfl, rfl, rfl, rfl, rfl, rfl, rfl, rfl, rfl, rfl, rfl, rfl⟩ := re_12 hfo_1 hfo_490 (hrA12 o0 ko0)
            obtain rfl := ri_12_3 hfo_1 hfo_490 (hfA12 o0 ko0 3 (by decide) (by decide) (by decide))
            obtain rfl := ri_12_5 hfo_1 hfo_490 (hfA12 o0 ko0 5 (by decide) (by decide) (by decide))
            obtain rfl := ri_12_11 hfo_1 hfo_490 (hfA12 o0 ko0 11 (by decide) (by decide) (by decide))
            obtain rfl := ri_12_12 hfo_1 hfo_490 (hfA12 o0 ko0 12 (by decide) (by decide) (by decide))
            obtain rfl := ri_12_13 hfo_1 hfo_490 (hfA12 o0 ko0 13 (by decide) (by decide) (by decide))
            obtain rfl := ri_12_14 hfo_1 hfo_490 (hfA12 o0 ko0 14 (by decide) (by decide) (by decide))
            obtain rfl := ri_12_23 hfo_1 hfo_490 (hfA12 o0 ko0 23 (by decide) (by decide) (by decide))
            obtain rfl := ri_12_25 hfo_1 hfo_490 (hfA12 o0 ko0 25 (by decide) (by decide) (by decide))
            obtain rfl := ri_12_27 hfo_1 hfo_490 (hfA12 o0 ko0 27 (by decide) (by decide) (by decide))
            obtain rfl := ri_12_29 hfo_1 hfo_490 (hfA12 o0 ko0 29 (by decide) (by decide) (by decide))
            obtain rfl := ri_12_32 hfo_1 hfo_490 (hfA12 o0 ko0 32 (by decide) (by decide) (by decide))
            obtain rfl := ri_12_33 hfo_1 hfo_490 (hfA12 o0 ko0 33 (by decide) (by decide) (by decide))
            obtain rfl := ri_12_35 hfo_1 hfo_490 (hfA12 o0 ko0 35 (by decide) (by decide) (by decide))
            obtain rfl := ri_12_38 hfo_1 hfo_490 (hfA12 o0 ko0 38 (by decide) (by decide) (by decide))
            obtain rfl := ri_12_43 hfo_1 hfo_490 (hfA12 o0 ko0 43 (by decide) (by decide) (by decide))
            obtain rfl := ri_12_53 hfo_1 hfo_490 (hfA12 o0 ko0 53 (by decide) (by decide) (by decide))
            have hqhpost_488 := hpost_488 v_422 v_497 (by rw [hfo_415]; rfl) (by rw [hfo_490]; rfl)
            refine lv_istore_n (lv' := [(3, .int x_483), (2, .int y_137), (1, .int x_58), (0, .ref o0)]) hx hb dX12_classOf_55 rfl hl (by decide) rfl (fun ls hl => ?_)
            refine lv_iload_n hx hb dX12_classOf_56 rfl (lv_at hl 0 rfl) ?_
            refine tk_SiP (As := [.int x_483]) (rest := []) (n := 1) hx hb hml hown hU hN hZ (s_X12_isSmall l (dC, dI) cI cL cZ cR cG cH Z kd L f_484 hG x_483) wd_589 wd_590 wd_5 wd_591 (by decide +kernel) ⟨Nat.le_of_ble_eq_true rfl, Nat.le_of_ble_eq_true rfl⟩ hK hP hD hS rfl hl.1 rfl (Nat.le_of_ble_eq_true rfl) dX12_classOf_57 ⟨Nat.le_of_ble_eq_true rfl, Nat.le_of_ble_eq_true rfl⟩ (fun x_547 f_548 H locs hw hP hD hS => ?_)
            obtain ⟨rfl, bx_547, relx_547⟩ := hw
            refine lv_if_ne (tgt := 73) hx hb dX12_classOf_60 (by decide) (fun c_550 => ?_) (fun c_550 => ?_)
            · skip
              rw [← Int32.toInt_inj, ti_0] at c_550
              refine lv_aload_n hx hb dX12_classOf_73 rfl (lv_at hl 3 rfl) ?_
              refine tk_getP (D := (dC, dI)) (ci := 12) (v := .ref a_3) (C := RX12) (T := TX12) (N := 56) hx hb hU inlX12 hown hK hP mo0 hfo_490 rfl 1 (by decide) (hU _ wd_170) (fun _ h9 => h9) rfl dX12_classOf_74 ?_
              refine lv_iload_n hx hb dX12_classOf_77 rfl (lv_at hl 0 rfl) ?_
              refine tk_SiP (As := [.ref a_3, .int x_483]) (rest := []) (n := 2) hx hb hml hown hU hN hZ (s_X12_letterIn_a576 l (dC, dI) cI cL cZ cR cG cH Z kd L f_484 hG a_3 ma_3 ka_3 x_483) wd_606 wd_607 wd_5 wd_608 (by decide +kernel) ⟨Nat.le_of_ble_eq_true rfl, Nat.le_of_ble_eq_true rfl⟩ hK hP hD hS rfl hl.1 rfl (Nat.le_of_ble_eq_true rfl) dX12_classOf_78 ⟨Nat.le_of_ble_eq_true rfl, Nat.le_of_ble_eq_true rfl⟩ (fun x_551 f_552 H locs hw hP hD hS => ?_)
              obtain ⟨rfl, bx_551, hxp_553⟩ := hw
              obtain ⟨g_556, hfo_555, hbg_556⟩ := un_576 (hG _ ma_3) ka_3
              have hlix_551 := hxp_553 g_556 hfo_555
              refine lv_istore (lv' := [(4, .int x_551), (3, .int x_483), (2, .int y_137), (1, .int x_58), (0, .ref o0)]) hx hb dX12_classOf_81 hl (by decide) rfl (fun ls hl => ?_)
              refine lv_iload hx hb dX12_classOf_83 (lv_at hl 0 rfl) ?_
              refine lv_if_ne (tgt := 98) hx hb dX12_classOf_85 (by decide) (fun c_557 => ?_) (fun c_557 => ?_)
              · skip
                rw [← Int32.toInt_inj, ti_0] at c_557
                refine lv_iload_n hx hb dX12_classOf_98 rfl (lv_at hl 2 rfl) ?_
                refine lv_iconst (v := 1) hx hb dX12_classOf_99 (by decide) ?_
                refine lv_iload hx hb dX12_classOf_100 (lv_at hl 0 rfl) ?_
                refine lv_ishl hx hb dX12_classOf_102 ?_
                refine lv_topi (fun x_558 ex_558 => ?_)
                have bx_558 : (1 ≤ x_558.toInt ∧ x_558.toInt ≤ 256) := by rw [ex_558]; exact sh_8 (by constructor <;> omega)
                refine lv_ior hx hb dX12_classOf_103 ?_
                refine lv_topi (fun x_559 ex_559 => ?_)
                have bx_559 : ((-2147483648) ≤ x_559.toInt ∧ x_559.toInt ≤ 2147483647) := ⟨i32_lo _, i32_hi _⟩
                refine lv_istore_n (lv' := [(2, .int x_559), (4, .int x_551), (3, .int x_483), (1, .int x_58), (0, .ref o0)]) hx hb dX12_classOf_104 rfl hl (by decide) rfl (fun ls hl => ?_)
                have hclc_560 : (0 ≤ v_497.toInt ∧ v_497.toInt ≤ 599) := by constructor <;> omega
                refine lv_aload_n hx hb dX12_classOf_105 rfl (lv_at hl 4 rfl) ?_
                refine lv_dup hx hb dX12_classOf_106 rfl ?_
                refine tk_getP (D := (dC, dI)) (ci := 12) (v := .int v_497) (C := RX12) (T := TX12) (N := 56) hx hb hU inlX12 hown hK hP mo0 hfo_490 rfl 6 (by decide) (hU _ wd_566) (fun _ h9 => h9) rfl dX12_classOf_107 ?_
                refine lv_iconst (v := 1) hx hb dX12_classOf_110 (by decide) ?_
                refine lv_iadd hx hb dX12_classOf_111 ?_
                refine lv_topi (fun x_561 ex_561 => ?_)
                have hx_561 : x_561.toInt = v_497.toInt + 1 := by rw [ex_561, ad_I (by rw [ti_1]; omega) (by rw [ti_1]; omega), ti_1]
                have bx_561 : (1 ≤ x_561.toInt ∧ x_561.toInt ≤ 600) := by constructor <;> omega
                refine tk_putP (D := (dC, dI)) (ci := 12) (v := .int x_561) (ty := .int) (C := RX12) (T := TX12) (N := 56) hx hb hU inlX12 tyX12 tyX12_ok nmX12 hown hK hP hD hS mo0 hfo_490 rfl 6 (by decide) (hU _ wd_566) (fun _ h9 => h9) rfl (by decide +kernel) rfl rfl (Nat.le_of_ble_eq_true rfl) dX12_classOf_112 (fun H locs hP hD hS => ?_)
                obtain ⟨f_563, ef_563⟩ : ∃ y : Nat → va_E, y = va_up f_484 o0 (.inr (12, [.ref a_2, .ref a_3, .ref a_4, .int v_5, .ref a_6, .int v_7, .int x_561, .int v_498, .int v_499, .int v_500, .int v_501, .int v_13, .int v_14, .int v_15, .int v_16, .ref a_17, .ref a_18, .ref a_19, .ref a_20, .ref a_21, .ref a_22, .ref a_23, .ref a_24, .int v_25, .int v_515, .int v_27, .int v_517, .int v_29, .ref a_30, .int v_31, .ref a_32, .ref a_33, .int v_34, .int v_35, .ref a_36, .int v_37, .ref a_38, .ref a_39, .int v_40, .int v_530, .ref a_42, .ref a_43, .ref a_44, .int v_45, .ref a_46, .ref a_47, .ref a_48, .ref a_49, .ref a_50, .ref a_51, .ref a_52, .ref a_53, .ref a_54, .int v_55, .int v_545, .ref a_57])) := ⟨_, rfl⟩
                have hP : va_P (dC, dI) vwCl (va_pl L f_563) H := by rw [ef_563]; exact hP
                have hD : va_D (fun q => q ∈ L) (va_pl L f_563) := by rw [ef_563]; exact hD
                have hG : GI (okc cI cL cZ cR cG cH L kd) kd L f_563 := by rw [ef_563]; exact hG.set o0 (mk_12 ko0 ⟨a_2, a_3, a_4, v_5, a_6, v_7, x_561, v_498, v_499, v_500, v_501, v_13, v_14, v_15, v_16, a_17, a_18, a_19, a_20, a_21, a_22, a_23, a_24, v_25, v_515, v_27, v_517, v_29, a_30, v_31, a_32, a_33, v_34, v_35, a_36, v_37, a_38, a_39, v_40, v_530, a_42, a_43, a_44, v_45, a_46, a_47, a_48, a_49, a_50, a_51, a_52, a_53, a_54, v_55, v_545, a_57, rfl, ⟨ma_2, ka_2⟩, ⟨ma_3, ka_3⟩, ⟨ma_4, ka_4⟩, (by constructor <;> omega), ⟨ma_6, ka_6⟩, (by constructor <;> omega), (by constructor <;> omega), (by constructor <;> omega), (by constructor <;> omega), (by constructor <;> omega), ⟨ma_17, ka_17⟩, ⟨ma_18, ka_18⟩, ⟨ma_19, ka_19⟩, ⟨ma_20, ka_20⟩, ⟨ma_21, ka_21⟩, ⟨ma_22, ka_22⟩, ⟨ma_23, ka_23⟩, ⟨ma_24, ka_24⟩, (by constructor <;> omega), (by constructor <;> omega), (by constructor <;> omega), ⟨ma_30, ka_30⟩, (by constructor <;> omega), ⟨ma_32, ka_32⟩, ⟨ma_33, ka_33⟩, (by constructor <;> omega), ⟨ma_36, ka_36⟩, (by constructor <;> omega), ⟨ma_38, ka_38⟩, ⟨ma_39, ka_39⟩, (by constructor <;> omega), ⟨ma_42, ka_42⟩, ⟨ma_43, ka_43⟩, ⟨ma_44, ka_44⟩, (by constructor <;> omega), ⟨ma_46, ka_46⟩, ⟨ma_47, ka_47⟩, ⟨ma_48, ka_48⟩, ⟨ma_49, ka_49⟩, ⟨ma_50, ka_50⟩, ⟨ma_51, ka_51⟩, ⟨ma_52, ka_52⟩, ⟨ma_53, ka_53⟩, ⟨ma_54, ka_54⟩, (by constructor <;> omega), ⟨ma_57, ka_57⟩⟩)
                have hfo_564 : f_563 a_3 = .inl (cI, 1560, .inl g_556) := by rw [ef_563, up_ne (kd_ne ko0 ka_3 (by decide))]; exact hfo_555
                have hfr0 : ∀ b, kd b ≠ 12 → kd b ≠ 576 → f_563 b = f b := fun b q12 q576 => (congrFun ef_563 b).trans ((up_ne (fun e9 => q12 (by rw [e9]; exact ko0))).trans (hfr0 b q12 q576))
                have hrA12 : ∀ b, kd b = 12 → ∀ j, fldR (f_563 b) j = fldR (f b) j := fun b kb j => ((congrArg (fun x => fldR x j) (congrFun ef_563 b)).trans (fra_up (fun j => by rw [hfo_490]; exact fr_set (k := 6) rfl rfl j) j b)).trans (hrA12 b kb j)
                have hfA12 : ∀ b, kd b = 12 → ∀ j, j ≠ 6 → j ≠ 7 → j ≠ 8 → fldI (f_563 b) j = fldI (f b) j := fun b kb j n6 n7 n8 => ((congrArg (fun x => fldI x j) (congrFun ef_563 b)).trans (fia_up (fun h9 => by rw [hfo_490]; exact fi_set (k := 6) rfl h9) n6 b)).trans (hfA12 b kb j n6 n7 n8)
                have hT0 : frel kd 576 8 f_563 a_3 := by rw [ef_563]; exact hT0.keep (fun b q => up_ne (kd_ne ko0 q (by decide)))
                have hfo_565 : f_563 o0 = .inr (12, [.ref a_2, .ref a_3, .ref a_4, .int v_5, .ref a_6, .int v_7, .int x_561, .int v_498, .int v_499, .int v_500, .int v_501, .int v_13, .int v_14, .int v_15, .int v_16, .ref a_17, .ref a_18, .ref a_19, .ref a_20, .ref a_21, .ref a_22, .ref a_23, .ref a_24, .int v_25, .int v_515, .int v_27, .int v_517, .int v_29, .ref a_30, .int v_31, .ref a_32, .ref a_33, .int v_34, .int v_35, .ref a_36, .int v_37, .ref a_38, .ref a_39, .int v_40, .int v_530, .ref a_42, .ref a_43, .ref a_44, .int v_45, .ref a_46, .ref a_47, .ref a_48, .ref a_49, .ref a_50, .ref a_51, .ref a_52, .ref a_53, .ref a_54, .int v_55, .int v_545, .ref a_57]) := by rw [ef_563]; exact up_self
                refine lv_goto (tgt := 38) hx hb dX12_classOf_115 (by decide) ?_
                exact ih_hloop_136 x_559 (by constructor <;> omega) f_563 hG _ _ hP hS hD hfr0 hrA12 hfA12 hT0 x_561 (by rw [hfo_565]; rfl) (by omega) (by omega) (by omega) ls (lv_sub hl [0, 3, 4] rfl)
              · skip
                rw [← Int32.toInt_inj, ti_0] at c_557
                refine lv_aload_n hx hb dX12_classOf_88 rfl (lv_at hl 4 rfl) ?_
                refine lv_iconst (v := 2) hx hb dX12_classOf_89 (by decide) ?_
                refine lv_aload_n hx hb dX12_classOf_90 rfl (lv_at hl 4 rfl) ?_
                refine tk_getP (D := (dC, dI)) (ci := 12) (v := .int v_497) (C := RX12) (T := TX12) (N := 56) hx hb hU inlX12 hown hK hP mo0 hfo_490 rfl 6 (by decide) (hU _ wd_566) (fun _ h9 => h9) rfl dX12_classOf_91 ?_
                refine tk_ViP (As := [.int 2, .int v_497]) (rest := []) (n := 2) hx hb hml hown hU hN hZ (s_X12_bad_k12 l (dC, dI) cI cL cZ cR cG cH Z kd L f_484 hG o0 mo0 ko0 2 v_497) wd_602 wd_603 wd_604 wd_5 wd_605 (by decide +kernel) ⟨Nat.le_of_ble_eq_true rfl, Nat.le_of_ble_eq_true rfl⟩ hK hP hD hS mo0 hfo_490 12 rfl rfl rfl hl.1 rfl (Nat.le_of_ble_eq_true rfl) dX12_classOf_94 ⟨Nat.le_of_ble_eq_true rfl, Nat.le_of_ble_eq_true rfl⟩ (fun x_566 f_567 H locs hw hP hD hS => ?_)
                obtain ⟨hG, bx_566, hkc_568, hra_569, hfa_570⟩ := hw
                have hfo_572 : f_567 a_3 = .inl (cI, 1560, .inl g_556) := by rw [hkc_568 a_3 (by rw [ka_3]; decide)]; exact hfo_555
                have hfr0 : ∀ b, kd b ≠ 12 → kd b ≠ 576 → f_567 b = f b := fun b q12 q576 => (hkc_568 b q12).trans (hfr0 b q12 q576)
                have hrA12 : ∀ b, kd b = 12 → ∀ j, fldR (f_567 b) j = fldR (f b) j := fun b kb j => (hra_569 b kb j).trans (hrA12 b kb j)
                have hfA12 : ∀ b, kd b = 12 → ∀ j, j ≠ 6 → j ≠ 7 → j ≠ 8 → fldI (f_567 b) j = fldI (f b) j := fun b kb j n6 n7 n8 => (hfa_570 b kb j n7 n8).trans (hfA12 b kb j n6 n7 n8)
                have hT0 : frel kd 576 8 f_567 a_3 := hT0.keep (fun b q => hkc_568 b (by rw [q]; decide))
                obtain ⟨a_574, a_575, a_576, v_577, a_578, v_579, v_580, v_581, v_582, v_583, v_584, v_585, v_586, v_587, v_588, a_589, a_590, a_591, a_592, a_593, a_594, a_595, a_596, v_597, v_598, v_599, v_600, v_601, a_602, v_603, a_604, a_605, v_606, v_607, a_608, v_609, a_610, a_611, v_612, v_613, a_614, a_615, a_616, v_617, a_618, a_619, a_620, a_621, a_622, a_623, a_624, a_625, a_626, v_627, v_628, a_629, hfo_573, ⟨ma_574, ka_574⟩, ⟨ma_575, ka_575⟩, ⟨ma_576, ka_576⟩, bv_577, ⟨ma_578, ka_578⟩, bv_579, bv_580, bv_585, bv_586, bv_587, ⟨ma_589, ka_589⟩, ⟨ma_590, ka_590⟩, ⟨ma_591, ka_591⟩, ⟨ma_592, ka_592⟩, ⟨ma_593, ka_593⟩, ⟨ma_594, ka_594⟩, ⟨ma_595, ka_595⟩, ⟨ma_596, ka_596⟩, bv_597, bv_599, bv_601, ⟨ma_602, ka_602⟩, bv_603, ⟨ma_604, ka_604⟩, ⟨ma_605, ka_605⟩, bv_606, ⟨ma_608, ka_608⟩, bv_609, ⟨ma_610, ka_610⟩, ⟨ma_611, ka_611⟩, bv_612, ⟨ma_614, ka_614⟩, ⟨ma_615, ka_615⟩, ⟨ma_616, ka_616⟩, bv_617, ⟨ma_618, ka_618⟩, ⟨ma_619, ka_619⟩, ⟨ma_620, ka_620⟩, ⟨ma_621, ka_621⟩, ⟨ma_622, ka_622⟩, ⟨ma_623, ka_623⟩, ⟨ma_624, ka_624⟩, ⟨ma_625, ka_625⟩, ⟨ma_626, ka_626⟩, bv_627, ⟨ma_629, ka_629⟩⟩ := un_12 (hG _ mo0) ko0
                have bv_581 : ((-2147483648) ≤ v_581.toInt ∧ v_581.toInt ≤ 2147483647) := ⟨i32_lo _, i32_hi _⟩
                have bv_582 : ((-2147483648) ≤ v_582.toInt ∧ v_582.toInt ≤ 2147483647) := ⟨i32_lo _, i32_hi _⟩
                have bv_583 : ((-2147483648) ≤ v_583.toInt ∧ v_583.toInt ≤ 2147483647) := ⟨i32_lo _, i32_hi _⟩
                have bv_584 : ((-2147483648) ≤ v_584.toInt ∧ v_584.toInt ≤ 2147483647) := ⟨i32_lo _, i32_hi _⟩
                have bv_588 : ((-2147483648) ≤ v_588.toInt ∧ v_588.toInt ≤ 2147483647) := ⟨i32_lo _, i32_hi _⟩
                have bv_598 : ((-2147483648) ≤ v_598.toInt ∧ v_598.toInt ≤ 2147483647) := ⟨i32_lo _, i32_hi _⟩
                have bv_600 : ((-2147483648) ≤ v_600.toInt ∧ v_600.toInt ≤ 2147483647) := ⟨i32_lo _, i32_hi _⟩
                have bv_607 : ((-2147483648) ≤ v_607.toInt ∧ v_607.toInt ≤ 2147483647) := ⟨i32_lo _, i32_hi _⟩
                have bv_613 : ((-2147483648) ≤ v_613.toInt ∧ v_613.toInt ≤ 2147483647) := ⟨i32_lo _, i32_hi _⟩
                have bv_628 : ((-2147483648) ≤ v_628.toInt ∧ v_628.toInt ≤ 2147483647) := ⟨i32_lo _, i32_hi _⟩
                obtain ⟨rfl, rfl, rfl, rfl, rfl, rfl, rfl, rfl, rfl, rfl, rfl, rfl, rfl, rfl, rfl, rfl, rfl, rfl, rfl, rfl, rfl, rfl, rfl, rfl, rfl, rfl, rfl, rfl, rfl, rfl, rfl⟩ := re_12 hfo_1 hfo_573 (hrA12 o0 ko0)
                obtain rfl := ri_12_3 hfo_1 hfo_573 (hfA12 o0 ko0 3 (by decide) (by decide) (by decide))
                obtain rfl := ri_12_5 hfo_1 hfo_573 (hfA12 o0 ko0 5 (by decide) (by decide) (by decide))
                obtain rfl := ri_12_11 hfo_1 hfo_573 (hfA12 o0 ko0 11 (by decide) (by decide) (by decide))
                obtain rfl := ri_12_12 hfo_1 hfo_573 (hfA12 o0 ko0 12 (by decide) (by decide) (by decide))
                obtain rfl := ri_12_13 hfo_1 hfo_573 (hfA12 o0 ko0 13 (by decide) (by decide) (by decide))
                obtain rfl := ri_12_14 hfo_1 hfo_573 (hfA12 o0 ko0 14 (by decide) (by decide) (by decide))
                obtain rfl := ri_12_23 hfo_1 hfo_573 (hfA12 o0 ko0 23 (by decide) (by decide) (by decide))
                obtain rfl := ri_12_25 hfo_1 hfo_573 (hfA12 o0 ko0 25 (by decide) (by decide) (by decide))
                obtain rfl := ri_12_27 hfo_1 hfo_573 (hfA12 o0 ko0 27 (by decide) (by decide) (by decide))
                obtain rfl := ri_12_29 hfo_1 hfo_573 (hfA12 o0 ko0 29 (by decide) (by decide) (by decide))
                obtain rfl := ri_12_32 hfo_1 hfo_573 (hfA12 o0 ko0 32 (by decide) (by decide) (by decide))
                obtain rfl := ri_12_33 hfo_1 hfo_573 (hfA12 o0 ko0 33 (by decide) (by decide) (by decide))
                obtain rfl := ri_12_35 hfo_1 hfo_573 (hfA12 o0 ko0 35 (by decide) (by decide) (by decide))
                obtain rfl := ri_12_38 hfo_1 hfo_573 (hfA12 o0 ko0 38 (by decide) (by decide) (by decide))
                obtain rfl := ri_12_43 hfo_1 hfo_573 (hfA12 o0 ko0 43 (by decide) (by decide) (by decide))
                obtain rfl := ri_12_53 hfo_1 hfo_573 (hfA12 o0 ko0 53 (by decide) (by decide) (by decide))
                obtain rfl := ri_12_6 hfo_490 hfo_573 (hfa_570 o0 ko0 6 (by decide) (by decide))
                exact W.zret (v := x_566) (ty := .boolean) hx hb hr (zb_n (by constructor <;> omega)) (fun t ht hW => ⟨⟨x_566, f_567, rfl, ⟨hG, (by constructor <;> omega), hfr0, hrA12, hfA12, (by intro w6 z6 e6 d6; rw [hfo_1] at e6; rw [hfo_573] at d6; obtain rfl := Option.some.inj e6; obtain rfl := Option.some.inj d6; omega), (fun d9 h9 => by rw [hfo_573] at h9; obtain rfl := Option.some.inj h9; exact hT0)⟩, by rw [ht]; exact hP, va_K.moved hW.alike hK, pl_in hD⟩, hS.F ht⟩) hS.2.2 dX12_classOf_97
            · skip
              rw [← Int32.toInt_inj, ti_0] at c_550
              refine lv_aload_n hx hb dX12_classOf_63 rfl (lv_at hl 3 rfl) ?_
              refine lv_iconst (v := 1) hx hb dX12_classOf_64 (by decide) ?_
              refine lv_aload_n hx hb dX12_classOf_65 rfl (lv_at hl 3 rfl) ?_
              refine tk_getP (D := (dC, dI)) (ci := 12) (v := .int v_497) (C := RX12) (T := TX12) (N := 56) hx hb hU inlX12 hown hK hP mo0 hfo_490 rfl 6 (by decide) (hU _ wd_566) (fun _ h9 => h9) rfl dX12_classOf_66 ?_
              refine tk_ViP (As := [.int 1, .int v_497]) (rest := []) (n := 2) hx hb hml hown hU hN hZ (s_X12_bad_k12 l (dC, dI) cI cL cZ cR cG cH Z kd L f_484 hG o0 mo0 ko0 1 v_497) wd_602 wd_603 wd_604 wd_5 wd_605 (by decide +kernel) ⟨Nat.le_of_ble_eq_true rfl, Nat.le_of_ble_eq_true rfl⟩ hK hP hD hS mo0 hfo_490 12 rfl rfl rfl hl.1 rfl (Nat.le_of_ble_eq_true rfl) dX12_classOf_69 ⟨Nat.le_of_ble_eq_true rfl, Nat.le_of_ble_eq_true rfl⟩ (fun x_630 f_631 H locs hw hP hD hS => ?_)
              obtain ⟨hG, bx_630, hkc_632, hra_633, hfa_634⟩ := hw
              have hfr0 : ∀ b, kd b ≠ 12 → kd b ≠ 576 → f_631 b = f b := fun b q12 q576 => (hkc_632 b q12).trans (hfr0 b q12 q576)
              have hrA12 : ∀ b, kd b = 12 → ∀ j, fldR (f_631 b) j = fldR (f b) j := fun b kb j => (hra_633 b kb j).trans (hrA12 b kb j)
              have hfA12 : ∀ b, kd b = 12 → ∀ j, j ≠ 6 → j ≠ 7 → j ≠ 8 → fldI (f_631 b) j = fldI (f b) j := fun b kb j n6 n7 n8 => (hfa_634 b kb j n7 n8).trans (hfA12 b kb j n6 n7 n8)
              have hT0 : frel kd 576 8 f_631 a_3 := hT0.keep (fun b q => hkc_632 b (by rw [q]; decide))
              obtain ⟨a_637, a_638, a_639, v_640, a_641, v_642, v_643, v_644, v_645, v_646, v_647, v_648, v_649, v_650, v_651, a_652, a_653, a_654, a_655, a_656, a_657, a_658, a_659, v_660, v_661, v_662, v_663, v_664, a_665, v_666, a_667, a_668, v_669, v_670, a_671, v_672, a_673, a_674, v_675, v_676, a_677, a_678, a_679, v_680, a_681, a_682, a_683, a_684, a_685, a_686, a_687, a_688, a_689, v_690, v_691, a_692, hfo_636, ⟨ma_637, ka_637⟩, ⟨ma_638, ka_638⟩, ⟨ma_639, ka_639⟩, bv_640, ⟨ma_641, ka_641⟩, bv_642, bv_643, bv_648, bv_649, bv_650, ⟨ma_652, ka_652⟩, ⟨ma_653, ka_653⟩, ⟨ma_654, ka_654⟩, ⟨ma_655, ka_655⟩, ⟨ma_656, ka_656⟩, ⟨ma_657, ka_657⟩, ⟨ma_658, ka_658⟩, ⟨ma_659, ka_659⟩, bv_660, bv_662, bv_664, ⟨ma_665, ka_665⟩, bv_666, ⟨ma_667, ka_667⟩, ⟨ma_668, ka_668⟩, bv_669, ⟨ma_671, ka_671⟩, bv_672, ⟨ma_673, ka_673⟩, ⟨ma_674, ka_674⟩, bv_675, ⟨ma_677, ka_677⟩, ⟨ma_678, ka_678⟩, ⟨ma_679, ka_679⟩, bv_680, ⟨ma_681, ka_681⟩, ⟨ma_682, ka_682⟩, ⟨ma_683, ka_683⟩, ⟨ma_684, ka_684⟩, ⟨ma_685, ka_685⟩, ⟨ma_686, ka_686⟩, ⟨ma_687, ka_687⟩, ⟨ma_688, ka_688⟩, ⟨ma_689, ka_689⟩, bv_690, ⟨ma_692, ka_692⟩⟩ := un_12 (hG _ mo0) ko0
              have bv_644 : ((-2147483648) ≤ v_644.toInt ∧ v_644.toInt ≤ 2147483647) := ⟨i32_lo _, i32_hi _⟩
              have bv_645 : ((-2147483648) ≤ v_645.toInt ∧ v_645.toInt ≤ 2147483647) := ⟨i32_lo _, i32_hi _⟩
              have bv_646 : ((-2147483648) ≤ v_646.toInt ∧ v_646.toInt ≤ 2147483647) := ⟨i32_lo _, i32_hi _⟩
              have bv_647 : ((-2147483648) ≤ v_647.toInt ∧ v_647.toInt ≤ 2147483647) := ⟨i32_lo _, i32_hi _⟩
              have bv_651 : ((-2147483648) ≤ v_651.toInt ∧ v_651.toInt ≤ 2147483647) := ⟨i32_lo _, i32_hi _⟩
              have bv_661 : ((-2147483648) ≤ v_661.toInt ∧ v_661.toInt ≤ 2147483647) := ⟨i32_lo _, i32_hi _⟩
              have bv_663 : ((-2147483648) ≤ v_663.toInt ∧ v_663.toInt ≤ 2147483647) := ⟨i32_lo _, i32_hi _⟩
              have bv_670 : ((-2147483648) ≤ v_670.toInt ∧ v_670.toInt ≤ 2147483647) := ⟨i32_lo _, i32_hi _⟩
              have bv_676 : ((-2147483648) ≤ v_676.toInt ∧ v_676.toInt ≤ 2147483647) := ⟨i32_lo _, i32_hi _⟩
              have bv_691 : ((-2147483648) ≤ v_691.toInt ∧ v_691.toInt ≤ 2147483647) := ⟨i32_lo _, i32_hi _⟩
              obtain ⟨rfl, rfl, rfl, rfl, rfl, rfl, rfl, rfl, rfl, rfl, rfl, rfl, rfl, rfl, rfl, rfl, rfl, rfl, rfl, rfl, rfl, rfl, rfl, rfl, rfl, rfl, rfl, rfl, rfl, rfl, rfl⟩ := re_12 hfo_1 hfo_636 (hrA12 o0 ko0)
              obtain rfl := ri_12_3 hfo_1 hfo_636 (hfA12 o0 ko0 3 (by decide) (by decide) (by decide))
              obtain rfl := ri_12_5 hfo_1 hfo_636 (hfA12 o0 ko0 5 (by decide) (by decide) (by decide))
              obtain rfl := ri_12_11 hfo_1 hfo_636 (hfA12 o0 ko0 11 (by decide) (by decide) (by decide))
              obtain rfl := ri_12_12 hfo_1 hfo_636 (hfA12 o0 ko0 12 (by decide) (by decide) (by decide))
              obtain rfl := ri_12_13 hfo_1 hfo_636 (hfA12 o0 ko0 13 (by decide) (by decide) (by decide))
              obtain rfl := ri_12_14 hfo_1 hfo_636 (hfA12 o0 ko0 14 (by decide) (by decide) (by decide))
              obtain rfl := ri_12_23 hfo_1 hfo_636 (hfA12 o0 ko0 23 (by decide) (by decide) (by decide))
              obtain rfl := ri_12_25 hfo_1 hfo_636 (hfA12 o0 ko0 25 (by decide) (by decide) (by decide))
              obtain rfl := ri_12_27 hfo_1 hfo_636 (hfA12 o0 ko0 27 (by decide) (by decide) (by decide))
              obtain rfl := ri_12_29 hfo_1 hfo_636 (hfA12 o0 ko0 29 (by decide) (by decide) (by decide))
              obtain rfl := ri_12_32 hfo_1 hfo_636 (hfA12 o0 ko0 32 (by decide) (by decide) (by decide))
              obtain rfl := ri_12_33 hfo_1 hfo_636 (hfA12 o0 ko0 33 (by decide) (by decide) (by decide))
              obtain rfl := ri_12_35 hfo_1 hfo_636 (hfA12 o0 ko0 35 (by decide) (by decide) (by decide))
              obtain rfl := ri_12_38 hfo_1 hfo_636 (hfA12 o0 ko0 38 (by decide) (by decide) (by decide))
              obtain rfl := ri_12_43 hfo_1 hfo_636 (hfA12 o0 ko0 43 (by decide) (by decide) (by decide))
              obtain rfl := ri_12_53 hfo_1 hfo_636 (hfA12 o0 ko0 53 (by decide) (by decide) (by decide))
              obtain rfl := ri_12_6 hfo_490 hfo_636 (hfa_634 o0 ko0 6 (by decide) (by decide))
              exact W.zret (v := x_630) (ty := .boolean) hx hb hr (zb_n (by constructor <;> omega)) (fun t ht hW => ⟨⟨x_630, f_631, rfl, ⟨hG, (by constructor <;> omega), hfr0, hrA12, hfA12, (by intro w6 z6 e6 d6; rw [hfo_1] at e6; rw [hfo_636] at d6; obtain rfl := Option.some.inj e6; obtain rfl := Option.some.inj d6; omega), (fun d9 h9 => by rw [hfo_636] at h9; obtain rfl := Option.some.inj h9; exact hT0)⟩, by rw [ht]; exact hP, va_K.moved hW.alike hK, pl_in hD⟩, hS.F ht⟩) hS.2.2 dX12_classOf_72
    exact hloop_136 601 0 (by decide) f_129 hG _ _ hP hS hD hfr0 hrA12 hfA12 hT0 x_127 (by rw [hfo_130]; rfl) (by (try rw [ti_0]) <;> omega) (by (try rw [ti_0]) <;> omega) (by (try rw [ti_0]) <;> omega) ls hl
  · skip
    rw [← Int32.toInt_inj, ti_0] at c_125
    refine lv_aload_n hx hb dX12_classOf_16 rfl (lv_at hl 1 rfl) ?_
    refine lv_iconst (v := 1) hx hb dX12_classOf_17 (by decide) ?_
    refine lv_aload_n hx hb dX12_classOf_18 rfl (lv_at hl 1 rfl) ?_
    refine tk_getP (D := (dC, dI)) (ci := 12) (v := .int v_72) (C := RX12) (T := TX12) (N := 56) hx hb hU inlX12 hown hK hP mo0 hfo_65 rfl 6 (by decide) (hU _ wd_566) (fun _ h9 => h9) rfl dX12_classOf_19 ?_
    refine tk_ViP (As := [.int 1, .int v_72]) (rest := []) (n := 2) hx hb hml hown hU hN hZ (s_X12_bad_k12 l (dC, dI) cI cL cZ cR cG cH Z kd L f_59 hG o0 mo0 ko0 1 v_72) wd_602 wd_603 wd_604 wd_5 wd_605 (by decide +kernel) ⟨Nat.le_of_ble_eq_true rfl, Nat.le_of_ble_eq_true rfl⟩ hK hP hD hS mo0 hfo_65 12 rfl rfl rfl hl.1 rfl (Nat.le_of_ble_eq_true rfl) dX12_classOf_22 ⟨Nat.le_of_ble_eq_true rfl, Nat.le_of_ble_eq_true rfl⟩ (fun x_693 f_694 H locs hw hP hD hS => ?_)
    obtain ⟨hG, bx_693, hkc_695, hra_696, hfa_697⟩ := hw
    have hfr0 : ∀ b, kd b ≠ 12 → kd b ≠ 576 → f_694 b = f b := fun b q12 q576 => (hkc_695 b q12).trans (hfr0 b q12 q576)
    have hrA12 : ∀ b, kd b = 12 → ∀ j, fldR (f_694 b) j = fldR (f b) j := fun b kb j => (hra_696 b kb j).trans (hrA12 b kb j)
    have hfA12 : ∀ b, kd b = 12 → ∀ j, j ≠ 6 → j ≠ 7 → j ≠ 8 → fldI (f_694 b) j = fldI (f b) j := fun b kb j n6 n7 n8 => (hfa_697 b kb j n7 n8).trans (hfA12 b kb j n6 n7 n8)
    have hT0 : frel kd 576 8 f_694 a_3 := hT0.keep (fun b q => hkc_695 b (by rw [q]; decide))
    obtain ⟨a_700, a_701, a_702, v_703, a_704, v_705, v_706, v_707, v_708, v_709, v_710, v_711, v_712, v_713, v_714, a_715, a_716, a_717, a_718, a_719, a_720, a_721, a_722, v_723, v_724, v_725, v_726, v_727, a_728, v_729, a_730, a_731, v_732, v_733, a_734, v_735, a_736, a_737, v_738, v_739, a_740, a_741, a_742, v_743, a_744, a_745, a_746, a_747, a_748, a_749, a_750, a_751, a_752, v_753, v_754, a_755, hfo_699, ⟨ma_700, ka_700⟩, ⟨ma_701, ka_701⟩, ⟨ma_702, ka_702⟩, bv_703, ⟨ma_704, ka_704⟩, bv_705, bv_706, bv_711, bv_712, bv_713, ⟨ma_715, ka_715⟩, ⟨ma_716, ka_716⟩, ⟨ma_717, ka_717⟩, ⟨ma_718, ka_718⟩, ⟨ma_719, ka_719⟩, ⟨ma_720, ka_720⟩, ⟨ma_721, ka_721⟩, ⟨ma_722, ka_722⟩, bv_723, bv_725, bv_727, ⟨ma_728, ka_728⟩, bv_729, ⟨ma_730, ka_730⟩, ⟨ma_731, ka_731⟩, bv_732, ⟨ma_734, ka_734⟩, bv_735, ⟨ma_736, ka_736⟩, ⟨ma_737, ka_737⟩, bv_738, ⟨ma_740, ka_740⟩, ⟨ma_741, ka_741⟩, ⟨ma_742, ka_742⟩, bv_743, ⟨ma_744, ka_744⟩, ⟨ma_745, ka_745⟩, ⟨ma_746, ka_746⟩, ⟨ma_747, ka_747⟩, ⟨ma_748, ka_748⟩, ⟨ma_749, ka_749⟩, ⟨ma_750, ka_750⟩, ⟨ma_751, ka_751⟩, ⟨ma_752, ka_752⟩, bv_753, ⟨ma_755, ka_755⟩⟩ := un_12 (hG _ mo0) ko0
    have bv_707 : ((-2147483648) ≤ v_707.toInt ∧ v_707.toInt ≤ 2147483647) := ⟨i32_lo _, i32_hi _⟩
    have bv_708 : ((-2147483648) ≤ v_708.toInt ∧ v_708.toInt ≤ 2147483647) := ⟨i32_lo _, i32_hi _⟩
    have bv_709 : ((-2147483648) ≤ v_709.toInt ∧ v_709.toInt ≤ 2147483647) := ⟨i32_lo _, i32_hi _⟩
    have bv_710 : ((-2147483648) ≤ v_710.toInt ∧ v_710.toInt ≤ 2147483647) := ⟨i32_lo _, i32_hi _⟩
    have bv_714 : ((-2147483648) ≤ v_714.toInt ∧ v_714.toInt ≤ 2147483647) := ⟨i32_lo _, i32_hi _⟩
    have bv_724 : ((-2147483648) ≤ v_724.toInt ∧ v_724.toInt ≤ 2147483647) := ⟨i32_lo _, i32_hi _⟩
    have bv_726 : ((-2147483648) ≤ v_726.toInt ∧ v_726.toInt ≤ 2147483647) := ⟨i32_lo _, i32_hi _⟩
    have bv_733 : ((-2147483648) ≤ v_733.toInt ∧ v_733.toInt ≤ 2147483647) := ⟨i32_lo _, i32_hi _⟩
    have bv_739 : ((-2147483648) ≤ v_739.toInt ∧ v_739.toInt ≤ 2147483647) := ⟨i32_lo _, i32_hi _⟩
    have bv_754 : ((-2147483648) ≤ v_754.toInt ∧ v_754.toInt ≤ 2147483647) := ⟨i32_lo _, i32_hi _⟩
    obtain ⟨rfl, rfl, rfl, rfl, rfl, rfl, rfl, rfl, rfl, rfl, rfl, rfl, rfl, rfl, rfl, rfl, rfl, rfl, rfl, rfl, rfl, rfl, rfl, rfl, rfl, rfl, rfl, rfl, rfl, rfl, rfl⟩ := re_12 hfo_1 hfo_699 (hrA12 o0 ko0)
    obtain rfl := ri_12_3 hfo_1 hfo_699 (hfA12 o0 ko0 3 (by decide) (by decide) (by decide))
    obtain rfl := ri_12_5 hfo_1 hfo_699 (hfA12 o0 ko0 5 (by decide) (by decide) (by decide))
    obtain rfl := ri_12_11 hfo_1 hfo_699 (hfA12 o0 ko0 11 (by decide) (by decide) (by decide))
    obtain rfl := ri_12_12 hfo_1 hfo_699 (hfA12 o0 ko0 12 (by decide) (by decide) (by decide))
    obtain rfl := ri_12_13 hfo_1 hfo_699 (hfA12 o0 ko0 13 (by decide) (by decide) (by decide))
    obtain rfl := ri_12_14 hfo_1 hfo_699 (hfA12 o0 ko0 14 (by decide) (by decide) (by decide))
    obtain rfl := ri_12_23 hfo_1 hfo_699 (hfA12 o0 ko0 23 (by decide) (by decide) (by decide))
    obtain rfl := ri_12_25 hfo_1 hfo_699 (hfA12 o0 ko0 25 (by decide) (by decide) (by decide))
    obtain rfl := ri_12_27 hfo_1 hfo_699 (hfA12 o0 ko0 27 (by decide) (by decide) (by decide))
    obtain rfl := ri_12_29 hfo_1 hfo_699 (hfA12 o0 ko0 29 (by decide) (by decide) (by decide))
    obtain rfl := ri_12_32 hfo_1 hfo_699 (hfA12 o0 ko0 32 (by decide) (by decide) (by decide))
    obtain rfl := ri_12_33 hfo_1 hfo_699 (hfA12 o0 ko0 33 (by decide) (by decide) (by decide))
    obtain rfl := ri_12_35 hfo_1 hfo_699 (hfA12 o0 ko0 35 (by decide) (by decide) (by decide))
    obtain rfl := ri_12_38 hfo_1 hfo_699 (hfA12 o0 ko0 38 (by decide) (by decide) (by decide))
    obtain rfl := ri_12_43 hfo_1 hfo_699 (hfA12 o0 ko0 43 (by decide) (by decide) (by decide))
    obtain rfl := ri_12_53 hfo_1 hfo_699 (hfA12 o0 ko0 53 (by decide) (by decide) (by decide))
    obtain rfl := ri_12_6 hfo_65 hfo_699 (hfa_697 o0 ko0 6 (by decide) (by decide))
    exact W.zret (v := x_693) (ty := .boolean) hx hb hr (zb_n (by constructor <;> omega)) (fun t ht hW => ⟨⟨x_693, f_694, rfl, ⟨hG, (by constructor <;> omega), hfr0, hrA12, hfA12, (by intro w6 z6 e6 d6; rw [hfo_1] at e6; rw [hfo_699] at d6; obtain rfl := Option.some.inj e6; obtain rfl := Option.some.inj d6; omega), (fun d9 h9 => by rw [hfo_699] at h9; obtain rfl := Option.some.inj h9; exact hT0)⟩, by rw [ht]; exact hP, va_K.moved hW.alike hK, pl_in hD⟩, hS.F ht⟩) hS.2.2 dX12_classOf_25
