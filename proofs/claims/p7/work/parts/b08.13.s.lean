set_option maxHeartbeats 8000000 in
set_option maxRecDepth 100000 in
theorem s_X12_takesPair_k12_F8 (l : Launch) (D : va_G) (cI cL cZ cR cG cH : ClassId) (Z : zT) (kd : Nat → Nat) (L : List Nat) (f : Nat → va_E) (hG : GI (okc cI cL cZ cR cG cH L kd) kd L f) (o0 : Nat) (mo0 : o0 ∈ L) (ko0 : kd o0 = 12) (hxtr0 : ∀ d9, fldR (f o0) 1 = some d9 → frel kd 576 8 f d9) : mPI l D cI cL cZ cR cG cH Z yX12_takesPair cX12_takesPair 8 (some .boolean) 4 82 [.ref o0] L f (fun (r : Int32) (f9 : Nat → va_E) => GI (okc cI cL cZ cR cG cH L kd) kd L f9 ∧ (0 ≤ r.toInt ∧ r.toInt ≤ 1) ∧ (∀ b, kd b ≠ 12 → kd b ≠ 576 → f9 b = f b) ∧ (∀ b, kd b = 12 → ∀ j, fldR (f9 b) j = fldR (f b) j) ∧ (∀ b, kd b = 12 → ∀ j, j ≠ 6 → j ≠ 7 → j ≠ 8 → j ≠ 11 → j ≠ 12 → j ≠ 13 → fldI (f9 b) j = fldI (f b) j) ∧ (∀ (w6 z6 : Int32), fldI (f o0) 6 = some w6 → fldI (f9 o0) 6 = some z6 → w6.toInt ≤ z6.toInt) ∧ (∀ d9, fldR (f9 o0) 1 = some d9 → frel kd 576 8 f9 d9)) := by
  obtain ⟨dC, dI⟩ := D
  refine Met.ofW (cc := cX12_takesPair) (maxL := 8) (ret := (some .boolean)) (by decide) rfl ?_
  intro p e s m args below meth c s₁ B hml hv
  obtain ⟨rfl, hP, hK, hD0, hN, hZ⟩ := hv
  have hx := B.exec
  have hb := B.bytes
  have hr := B.returns
  have hU : ∀ w ∈ wsU, w.before _ s = true := fun w h => atoms_spec (ws := wU yX12_takesPair cX12_takesPair 8 (some .boolean)) B.pre w (List.mem_cons_of_mem _ h)
  have hown : s.vm.findClass RX12 = some m.cls := findClass_of_methodNamed B.named
  have hlocks := B.notSynchronized
  have hD := pl_in hD0
  have hS : va_S (fun q => q ∈ L) s.heap s.heap [] := va_S.rf
  have hl := lv_entry ([.ref o0]) (n := 8) (Nat.le_of_ble_eq_true rfl)
  rw [lg_entry_eq]
  generalize (lg_sl ([.ref o0]) ++ List.replicate (8 - (lg_sl ([.ref o0])).length) Slot.unset).toArray = ls at hl ⊢
  have hl : lv_has ls 8 [(0, .ref o0)] := hl
  have hfr0 : ∀ b, kd b ≠ 12 → kd b ≠ 576 → f b = f b := fun _ _ _ => rfl
  have hrA12 : ∀ b, kd b = 12 → ∀ j, fldR (f b) j = fldR (f b) j := fun _ _ _ => rfl
  have hfA12 : ∀ b, kd b = 12 → ∀ j, j ≠ 6 → j ≠ 7 → j ≠ 8 → j ≠ 11 → j ≠ 12 → j ≠ 13 → fldI (f b) j = fldI (f b) j := fun _ _ _ _ _ _ _ _ _ => rfl
  obtain ⟨a_2, a_3, a_4, v_5, a_6, v_7, v_8, v_9, v_10, v_11, v_12, v_13, v_14, v_15, v_16, a_17, a_18, a_19, a_20, a_21, a_22, a_23, a_24, v_25, v_26, v_27, v_28, v_29, a_30, v_31, a_32, a_33, v_34, v_35, a_36, v_37, a_38, a_39, v_40, v_41, a_42, a_43, a_44, v_45, a_46, a_47, a_48, a_49, a_50, a_51, a_52, a_53, a_54, v_55, v_56, a_57, hfo_1, ⟨ma_2, ka_2⟩, ⟨ma_3, ka_3⟩, ⟨ma_4, ka_4⟩, bv_5, ⟨ma_6, ka_6⟩, bv_7, bv_8, bv_13, bv_14, bv_15, ⟨ma_17, ka_17⟩, ⟨ma_18, ka_18⟩, ⟨ma_19, ka_19⟩, ⟨ma_20, ka_20⟩, ⟨ma_21, ka_21⟩, ⟨ma_22, ka_22⟩, ⟨ma_23, ka_23⟩, ⟨ma_24, ka_24⟩, bv_25, bv_27, bv_29, ⟨ma_30, ka_30⟩, bv_31, ⟨ma_32, ka_32⟩, ⟨ma_33, ka_33⟩, bv_34, ⟨ma_36, ka_36⟩, bv_37, ⟨ma_38, ka_38⟩, ⟨ma_39, ka_39⟩, bv_40, ⟨ma_42, ka_42⟩, ⟨ma_43, ka_43⟩, ⟨ma_44, ka_44⟩, bv_45, ⟨ma_46, ka_46⟩, ⟨ma_47, ka_47⟩, ⟨ma_48, ka_48⟩, ⟨ma_49, ka_49⟩, ⟨ma_50, ka_50⟩, ⟨ma_51, ka_51⟩, ⟨ma_52, ka_52⟩, ⟨ma_53, ka_53⟩, ⟨ma_54, ka_54⟩, bv_55, ⟨ma_57, ka_57⟩⟩ := un_12 (hG _ mo0) ko0
  have bv_9 : ((-2147483648) ≤ v_9.toInt ∧ v_9.toInt ≤ 2147483647) := ⟨i32_lo _, i32_hi _⟩
  have bv_10 : ((-2147483648) ≤ v_10.toInt ∧ v_10.toInt ≤ 2147483647) := ⟨i32_lo _, i32_hi _⟩
  have bv_11 : ((-2147483648) ≤ v_11.toInt ∧ v_11.toInt ≤ 2147483647) := ⟨i32_lo _, i32_hi _⟩
  have bv_12 : ((-2147483648) ≤ v_12.toInt ∧ v_12.toInt ≤ 2147483647) := ⟨i32_lo _, i32_hi _⟩
  have bv_16 : ((-2147483648) ≤ v_16.toInt ∧ v_16.toInt ≤ 2147483647) := ⟨i32_lo _, i32_hi _⟩
  have bv_26 : ((-2147483648) ≤ v_26.toInt ∧ v_26.toInt ≤ 2147483647) := ⟨i32_lo _, i32_hi _⟩
  have bv_28 : ((-2147483648) ≤ v_28.toInt ∧ v_28.toInt ≤ 2147483647) := ⟨i32_lo _, i32_hi _⟩
  have bv_35 : ((-2147483648) ≤ v_35.toInt ∧ v_35.toInt ≤ 2147483647) := ⟨i32_lo _, i32_hi _⟩
  have bv_41 : ((-2147483648) ≤ v_41.toInt ∧ v_41.toInt ≤ 2147483647) := ⟨i32_lo _, i32_hi _⟩
  have bv_56 : ((-2147483648) ≤ v_56.toInt ∧ v_56.toInt ≤ 2147483647) := ⟨i32_lo _, i32_hi _⟩
  have hT0 := hxtr0 a_3 (by rw [hfo_1]; rfl)
  refine lv_aload_n hx hb dX12_takesPair_0 rfl (lv_at hl 0 rfl) ?_
  refine tk_VvP (As := []) (rest := []) (n := 0) hx hb hml hown hU hN hZ (s_X12_blanks_k12 l (dC, dI) cI cL cZ cR cG cH Z kd L f hG o0 mo0 ko0) wd_577 wd_578 wd_579 wd_5 wd_580 (by decide +kernel) ⟨Nat.le_of_ble_eq_true rfl, Nat.le_of_ble_eq_true rfl⟩ hK hP hD hS mo0 hfo_1 12 rfl rfl rfl hl.1 rfl (Nat.le_of_ble_eq_true rfl) dX12_takesPair_1 ⟨Nat.le_of_ble_eq_true rfl, Nat.le_of_ble_eq_true rfl⟩ (fun f_59 H locs hw hP hD hS => ?_)
  obtain ⟨hG, hkc_60, hra_61, hfa_62, hpost_63⟩ := hw
  have hfr0 : ∀ b, kd b ≠ 12 → kd b ≠ 576 → f_59 b = f b := fun b q12 q576 => (hkc_60 b q12).trans (hfr0 b q12 q576)
  have hrA12 : ∀ b, kd b = 12 → ∀ j, fldR (f_59 b) j = fldR (f b) j := fun b kb j => (hra_61 b kb j).trans (hrA12 b kb j)
  have hfA12 : ∀ b, kd b = 12 → ∀ j, j ≠ 6 → j ≠ 7 → j ≠ 8 → j ≠ 11 → j ≠ 12 → j ≠ 13 → fldI (f_59 b) j = fldI (f b) j := fun b kb j n6 n7 n8 n11 n12 n13 => (hfa_62 b kb j n6).trans (hfA12 b kb j n6 n7 n8 n11 n12 n13)
  have hT0 : frel kd 576 8 f_59 a_3 := hT0.keep (fun b q => hkc_60 b (by rw [q]; decide))
  obtain ⟨a_66, a_67, a_68, v_69, a_70, v_71, v_72, v_73, v_74, v_75, v_76, v_77, v_78, v_79, v_80, a_81, a_82, a_83, a_84, a_85, a_86, a_87, a_88, v_89, v_90, v_91, v_92, v_93, a_94, v_95, a_96, a_97, v_98, v_99, a_100, v_101, a_102, a_103, v_104, v_105, a_106, a_107, a_108, v_109, a_110, a_111, a_112, a_113, a_114, a_115, a_116, a_117, a_118, v_119, v_120, a_121, hfo_65, ⟨ma_66, ka_66⟩, ⟨ma_67, ka_67⟩, ⟨ma_68, ka_68⟩, bv_69, ⟨ma_70, ka_70⟩, bv_71, bv_72, bv_77, bv_78, bv_79, ⟨ma_81, ka_81⟩, ⟨ma_82, ka_82⟩, ⟨ma_83, ka_83⟩, ⟨ma_84, ka_84⟩, ⟨ma_85, ka_85⟩, ⟨ma_86, ka_86⟩, ⟨ma_87, ka_87⟩, ⟨ma_88, ka_88⟩, bv_89, bv_91, bv_93, ⟨ma_94, ka_94⟩, bv_95, ⟨ma_96, ka_96⟩, ⟨ma_97, ka_97⟩, bv_98, ⟨ma_100, ka_100⟩, bv_101, ⟨ma_102, ka_102⟩, ⟨ma_103, ka_103⟩, bv_104, ⟨ma_106, ka_106⟩, ⟨ma_107, ka_107⟩, ⟨ma_108, ka_108⟩, bv_109, ⟨ma_110, ka_110⟩, ⟨ma_111, ka_111⟩, ⟨ma_112, ka_112⟩, ⟨ma_113, ka_113⟩, ⟨ma_114, ka_114⟩, ⟨ma_115, ka_115⟩, ⟨ma_116, ka_116⟩, ⟨ma_117, ka_117⟩, ⟨ma_118, ka_118⟩, bv_119, ⟨ma_121, ka_121⟩⟩ := un_12 (hG _ mo0) ko0
  have bv_73 : ((-2147483648) ≤ v_73.toInt ∧ v_73.toInt ≤ 2147483647) := ⟨i32_lo _, i32_hi _⟩
  have bv_74 : ((-2147483648) ≤ v_74.toInt ∧ v_74.toInt ≤ 2147483647) := ⟨i32_lo _, i32_hi _⟩
  have bv_75 : ((-2147483648) ≤ v_75.toInt ∧ v_75.toInt ≤ 2147483647) := ⟨i32_lo _, i32_hi _⟩
  have bv_76 : ((-2147483648) ≤ v_76.toInt ∧ v_76.toInt ≤ 2147483647) := ⟨i32_lo _, i32_hi _⟩
  have bv_80 : ((-2147483648) ≤ v_80.toInt ∧ v_80.toInt ≤ 2147483647) := ⟨i32_lo _, i32_hi _⟩
  have bv_90 : ((-2147483648) ≤ v_90.toInt ∧ v_90.toInt ≤ 2147483647) := ⟨i32_lo _, i32_hi _⟩
  have bv_92 : ((-2147483648) ≤ v_92.toInt ∧ v_92.toInt ≤ 2147483647) := ⟨i32_lo _, i32_hi _⟩
  have bv_99 : ((-2147483648) ≤ v_99.toInt ∧ v_99.toInt ≤ 2147483647) := ⟨i32_lo _, i32_hi _⟩
  have bv_105 : ((-2147483648) ≤ v_105.toInt ∧ v_105.toInt ≤ 2147483647) := ⟨i32_lo _, i32_hi _⟩
  have bv_120 : ((-2147483648) ≤ v_120.toInt ∧ v_120.toInt ≤ 2147483647) := ⟨i32_lo _, i32_hi _⟩
  obtain ⟨rfl, rfl, rfl, rfl, rfl, rfl, rfl, rfl, rfl, rfl, rfl, rfl, rfl, rfl, rfl, rfl, rfl, rfl, rfl, rfl, rfl, rfl, rfl, rfl, rfl, rfl, rfl, rfl, rfl, rfl, rfl⟩ := re_12 hfo_1 hfo_65 (hrA12 o0 ko0)
  obtain rfl := ri_12_3 hfo_1 hfo_65 (hfA12 o0 ko0 3 (by decide) (by decide) (by decide) (by decide) (by decide) (by decide))
  obtain rfl := ri_12_5 hfo_1 hfo_65 (hfA12 o0 ko0 5 (by decide) (by decide) (by decide) (by decide) (by decide) (by decide))
  obtain rfl := ri_12_14 hfo_1 hfo_65 (hfA12 o0 ko0 14 (by decide) (by decide) (by decide) (by decide) (by decide) (by decide))
  obtain rfl := ri_12_23 hfo_1 hfo_65 (hfA12 o0 ko0 23 (by decide) (by decide) (by decide) (by decide) (by decide) (by decide))
  obtain rfl := ri_12_25 hfo_1 hfo_65 (hfA12 o0 ko0 25 (by decide) (by decide) (by decide) (by decide) (by decide) (by decide))
  obtain rfl := ri_12_27 hfo_1 hfo_65 (hfA12 o0 ko0 27 (by decide) (by decide) (by decide) (by decide) (by decide) (by decide))
  obtain rfl := ri_12_29 hfo_1 hfo_65 (hfA12 o0 ko0 29 (by decide) (by decide) (by decide) (by decide) (by decide) (by decide))
  obtain rfl := ri_12_32 hfo_1 hfo_65 (hfA12 o0 ko0 32 (by decide) (by decide) (by decide) (by decide) (by decide) (by decide))
  obtain rfl := ri_12_33 hfo_1 hfo_65 (hfA12 o0 ko0 33 (by decide) (by decide) (by decide) (by decide) (by decide) (by decide))
  obtain rfl := ri_12_35 hfo_1 hfo_65 (hfA12 o0 ko0 35 (by decide) (by decide) (by decide) (by decide) (by decide) (by decide))
  obtain rfl := ri_12_38 hfo_1 hfo_65 (hfA12 o0 ko0 38 (by decide) (by decide) (by decide) (by decide) (by decide) (by decide))
  obtain rfl := ri_12_43 hfo_1 hfo_65 (hfA12 o0 ko0 43 (by decide) (by decide) (by decide) (by decide) (by decide) (by decide))
  obtain rfl := ri_12_53 hfo_1 hfo_65 (hfA12 o0 ko0 53 (by decide) (by decide) (by decide) (by decide) (by decide) (by decide))
  obtain rfl := ri_12_11 hfo_1 hfo_65 (hfa_62 o0 ko0 11 (by decide))
  obtain rfl := ri_12_12 hfo_1 hfo_65 (hfa_62 o0 ko0 12 (by decide))
  obtain rfl := ri_12_13 hfo_1 hfo_65 (hfa_62 o0 ko0 13 (by decide))
  have hqhpost_63 := hpost_63 v_8 v_72 (by rw [hfo_1]; rfl) (by rw [hfo_65]; rfl)
  refine lv_aload_n hx hb dX12_takesPair_4 rfl (lv_at hl 0 rfl) ?_
  refine tk_getP (D := (dC, dI)) (ci := 12) (v := .int v_72) (C := RX12) (T := TX12) (N := 56) hx hb hU inlX12 hown hK hP mo0 hfo_65 rfl 6 (by decide) (hU _ wd_566) (fun _ h9 => h9) rfl dX12_takesPair_5 ?_
  refine lv_istore_n (lv' := [(1, .int v_72), (0, .ref o0)]) hx hb dX12_takesPair_8 rfl hl (by decide) rfl (fun ls hl => ?_)
  refine lv_aload_n hx hb dX12_takesPair_9 rfl (lv_at hl 1 rfl) ?_
  refine tk_ViP (As := []) (rest := []) (n := 0) hx hb hml hown hU hN hZ (s_X12_takesS_k12 l (dC, dI) cI cL cZ cR cG cH Z kd L f_59 hG o0 mo0 ko0) wd_620 wd_621 wd_622 wd_5 wd_623 (by decide +kernel) ⟨Nat.le_of_ble_eq_true rfl, Nat.le_of_ble_eq_true rfl⟩ hK hP hD hS mo0 hfo_65 12 rfl rfl rfl hl.1 rfl (Nat.le_of_ble_eq_true rfl) dX12_takesPair_10 ⟨Nat.le_of_ble_eq_true rfl, Nat.le_of_ble_eq_true rfl⟩ (fun x_122 f_123 H locs hw hP hD hS => ?_)
  obtain ⟨hG, bx_122, hkc_124, hra_125, hfa_126, hpost_127, hxp_128⟩ := hw
  have hfr0 : ∀ b, kd b ≠ 12 → kd b ≠ 576 → f_123 b = f b := fun b q12 q576 => (hkc_124 b q12).trans (hfr0 b q12 q576)
  have hrA12 : ∀ b, kd b = 12 → ∀ j, fldR (f_123 b) j = fldR (f b) j := fun b kb j => (hra_125 b kb j).trans (hrA12 b kb j)
  have hfA12 : ∀ b, kd b = 12 → ∀ j, j ≠ 6 → j ≠ 7 → j ≠ 8 → j ≠ 11 → j ≠ 12 → j ≠ 13 → fldI (f_123 b) j = fldI (f b) j := fun b kb j n6 n7 n8 n11 n12 n13 => (hfa_126 b kb j n6 n7 n8 n11).trans (hfA12 b kb j n6 n7 n8 n11 n12 n13)
  have hT0 : frel kd 576 8 f_123 a_3 := hT0.keep (fun b q => hkc_124 b (by rw [q]; decide))
  obtain ⟨a_131, a_132, a_133, v_134, a_135, v_136, v_137, v_138, v_139, v_140, v_141, v_142, v_143, v_144, v_145, a_146, a_147, a_148, a_149, a_150, a_151, a_152, a_153, v_154, v_155, v_156, v_157, v_158, a_159, v_160, a_161, a_162, v_163, v_164, a_165, v_166, a_167, a_168, v_169, v_170, a_171, a_172, a_173, v_174, a_175, a_176, a_177, a_178, a_179, a_180, a_181, a_182, a_183, v_184, v_185, a_186, hfo_130, ⟨ma_131, ka_131⟩, ⟨ma_132, ka_132⟩, ⟨ma_133, ka_133⟩, bv_134, ⟨ma_135, ka_135⟩, bv_136, bv_137, bv_142, bv_143, bv_144, ⟨ma_146, ka_146⟩, ⟨ma_147, ka_147⟩, ⟨ma_148, ka_148⟩, ⟨ma_149, ka_149⟩, ⟨ma_150, ka_150⟩, ⟨ma_151, ka_151⟩, ⟨ma_152, ka_152⟩, ⟨ma_153, ka_153⟩, bv_154, bv_156, bv_158, ⟨ma_159, ka_159⟩, bv_160, ⟨ma_161, ka_161⟩, ⟨ma_162, ka_162⟩, bv_163, ⟨ma_165, ka_165⟩, bv_166, ⟨ma_167, ka_167⟩, ⟨ma_168, ka_168⟩, bv_169, ⟨ma_171, ka_171⟩, ⟨ma_172, ka_172⟩, ⟨ma_173, ka_173⟩, bv_174, ⟨ma_175, ka_175⟩, ⟨ma_176, ka_176⟩, ⟨ma_177, ka_177⟩, ⟨ma_178, ka_178⟩, ⟨ma_179, ka_179⟩, ⟨ma_180, ka_180⟩, ⟨ma_181, ka_181⟩, ⟨ma_182, ka_182⟩, ⟨ma_183, ka_183⟩, bv_184, ⟨ma_186, ka_186⟩⟩ := un_12 (hG _ mo0) ko0
  have bv_138 : ((-2147483648) ≤ v_138.toInt ∧ v_138.toInt ≤ 2147483647) := ⟨i32_lo _, i32_hi _⟩
  have bv_139 : ((-2147483648) ≤ v_139.toInt ∧ v_139.toInt ≤ 2147483647) := ⟨i32_lo _, i32_hi _⟩
  have bv_140 : ((-2147483648) ≤ v_140.toInt ∧ v_140.toInt ≤ 2147483647) := ⟨i32_lo _, i32_hi _⟩
  have bv_141 : ((-2147483648) ≤ v_141.toInt ∧ v_141.toInt ≤ 2147483647) := ⟨i32_lo _, i32_hi _⟩
  have bv_145 : ((-2147483648) ≤ v_145.toInt ∧ v_145.toInt ≤ 2147483647) := ⟨i32_lo _, i32_hi _⟩
  have bv_155 : ((-2147483648) ≤ v_155.toInt ∧ v_155.toInt ≤ 2147483647) := ⟨i32_lo _, i32_hi _⟩
  have bv_157 : ((-2147483648) ≤ v_157.toInt ∧ v_157.toInt ≤ 2147483647) := ⟨i32_lo _, i32_hi _⟩
  have bv_164 : ((-2147483648) ≤ v_164.toInt ∧ v_164.toInt ≤ 2147483647) := ⟨i32_lo _, i32_hi _⟩
  have bv_170 : ((-2147483648) ≤ v_170.toInt ∧ v_170.toInt ≤ 2147483647) := ⟨i32_lo _, i32_hi _⟩
  have bv_185 : ((-2147483648) ≤ v_185.toInt ∧ v_185.toInt ≤ 2147483647) := ⟨i32_lo _, i32_hi _⟩
  obtain ⟨rfl, rfl, rfl, rfl, rfl, rfl, rfl, rfl, rfl, rfl, rfl, rfl, rfl, rfl, rfl, rfl, rfl, rfl, rfl, rfl, rfl, rfl, rfl, rfl, rfl, rfl, rfl, rfl, rfl, rfl, rfl⟩ := re_12 hfo_1 hfo_130 (hrA12 o0 ko0)
  obtain rfl := ri_12_3 hfo_1 hfo_130 (hfA12 o0 ko0 3 (by decide) (by decide) (by decide) (by decide) (by decide) (by decide))
  obtain rfl := ri_12_5 hfo_1 hfo_130 (hfA12 o0 ko0 5 (by decide) (by decide) (by decide) (by decide) (by decide) (by decide))
  obtain rfl := ri_12_14 hfo_1 hfo_130 (hfA12 o0 ko0 14 (by decide) (by decide) (by decide) (by decide) (by decide) (by decide))
  obtain rfl := ri_12_23 hfo_1 hfo_130 (hfA12 o0 ko0 23 (by decide) (by decide) (by decide) (by decide) (by decide) (by decide))
  obtain rfl := ri_12_25 hfo_1 hfo_130 (hfA12 o0 ko0 25 (by decide) (by decide) (by decide) (by decide) (by decide) (by decide))
  obtain rfl := ri_12_27 hfo_1 hfo_130 (hfA12 o0 ko0 27 (by decide) (by decide) (by decide) (by decide) (by decide) (by decide))
  obtain rfl := ri_12_29 hfo_1 hfo_130 (hfA12 o0 ko0 29 (by decide) (by decide) (by decide) (by decide) (by decide) (by decide))
  obtain rfl := ri_12_32 hfo_1 hfo_130 (hfA12 o0 ko0 32 (by decide) (by decide) (by decide) (by decide) (by decide) (by decide))
  obtain rfl := ri_12_33 hfo_1 hfo_130 (hfA12 o0 ko0 33 (by decide) (by decide) (by decide) (by decide) (by decide) (by decide))
  obtain rfl := ri_12_35 hfo_1 hfo_130 (hfA12 o0 ko0 35 (by decide) (by decide) (by decide) (by decide) (by decide) (by decide))
  obtain rfl := ri_12_38 hfo_1 hfo_130 (hfA12 o0 ko0 38 (by decide) (by decide) (by decide) (by decide) (by decide) (by decide))
  obtain rfl := ri_12_43 hfo_1 hfo_130 (hfA12 o0 ko0 43 (by decide) (by decide) (by decide) (by decide) (by decide) (by decide))
  obtain rfl := ri_12_53 hfo_1 hfo_130 (hfA12 o0 ko0 53 (by decide) (by decide) (by decide) (by decide) (by decide) (by decide))
  obtain rfl := ri_12_12 hfo_65 hfo_130 (hfa_126 o0 ko0 12 (by decide) (by decide) (by decide) (by decide))
  obtain rfl := ri_12_13 hfo_65 hfo_130 (hfa_126 o0 ko0 13 (by decide) (by decide) (by decide) (by decide))
  have hqhpost_127 := hpost_127 v_72 v_137 (by rw [hfo_65]; rfl) (by rw [hfo_130]; rfl)
  obtain ⟨g_188, hfo_187, hbg_188⟩ := un_576 (hG _ ma_3) ka_3
  have htsx_122 := hxp_128 a_3 g_188 v_142 (by rw [hfo_130]; rfl) hfo_187 (by rw [hfo_130]; rfl)
  refine lv_if_ne (tgt := 18) hx hb dX12_takesPair_13 (by decide) (fun c_189 => ?_) (fun c_189 => ?_)
  · skip
    rw [← Int32.toInt_inj, ti_0] at c_189
    refine lv_aload_n hx hb dX12_takesPair_18 rfl (lv_at hl 1 rfl) ?_
    refine lv_aload_n hx hb dX12_takesPair_19 rfl (lv_at hl 1 rfl) ?_
    refine tk_getP (D := (dC, dI)) (ci := 12) (v := .int v_142) (C := RX12) (T := TX12) (N := 56) hx hb hU inlX12 hown hK hP mo0 hfo_130 rfl 11 (by decide) (hU _ wd_617) (fun _ h9 => h9) rfl dX12_takesPair_20 ?_
    refine tk_putP (D := (dC, dI)) (ci := 12) (v := .int v_142) (ty := .int) (C := RX12) (T := TX12) (N := 56) hx hb hU inlX12 tyX12 tyX12_ok nmX12 hown hK hP hD hS mo0 hfo_130 rfl 12 (by decide) (hU _ wd_618) (fun _ h9 => h9) rfl (by decide +kernel) rfl rfl (Nat.le_of_ble_eq_true rfl) dX12_takesPair_23 (fun H locs hP hD hS => ?_)
    obtain ⟨f_191, ef_191⟩ : ∃ y : Nat → va_E, y = va_up f_123 o0 (.inr (12, [.ref a_2, .ref a_3, .ref a_4, .int v_5, .ref a_6, .int v_7, .int v_137, .int v_138, .int v_139, .int v_140, .int v_141, .int v_142, .int v_142, .int v_15, .int v_16, .ref a_17, .ref a_18, .ref a_19, .ref a_20, .ref a_21, .ref a_22, .ref a_23, .ref a_24, .int v_25, .int v_155, .int v_27, .int v_157, .int v_29, .ref a_30, .int v_31, .ref a_32, .ref a_33, .int v_34, .int v_35, .ref a_36, .int v_37, .ref a_38, .ref a_39, .int v_40, .int v_170, .ref a_42, .ref a_43, .ref a_44, .int v_45, .ref a_46, .ref a_47, .ref a_48, .ref a_49, .ref a_50, .ref a_51, .ref a_52, .ref a_53, .ref a_54, .int v_55, .int v_185, .ref a_57])) := ⟨_, rfl⟩
    have hP : va_P (dC, dI) vwCl (va_pl L f_191) H := by rw [ef_191]; exact hP
    have hD : va_D (fun q => q ∈ L) (va_pl L f_191) := by rw [ef_191]; exact hD
    have hG : GI (okc cI cL cZ cR cG cH L kd) kd L f_191 := by rw [ef_191]; exact hG.set o0 (mk_12 ko0 ⟨a_2, a_3, a_4, v_5, a_6, v_7, v_137, v_138, v_139, v_140, v_141, v_142, v_142, v_15, v_16, a_17, a_18, a_19, a_20, a_21, a_22, a_23, a_24, v_25, v_155, v_27, v_157, v_29, a_30, v_31, a_32, a_33, v_34, v_35, a_36, v_37, a_38, a_39, v_40, v_170, a_42, a_43, a_44, v_45, a_46, a_47, a_48, a_49, a_50, a_51, a_52, a_53, a_54, v_55, v_185, a_57, rfl, ⟨ma_2, ka_2⟩, ⟨ma_3, ka_3⟩, ⟨ma_4, ka_4⟩, (by constructor <;> omega), ⟨ma_6, ka_6⟩, (by constructor <;> omega), (by constructor <;> omega), (by constructor <;> omega), (by constructor <;> omega), (by constructor <;> omega), ⟨ma_17, ka_17⟩, ⟨ma_18, ka_18⟩, ⟨ma_19, ka_19⟩, ⟨ma_20, ka_20⟩, ⟨ma_21, ka_21⟩, ⟨ma_22, ka_22⟩, ⟨ma_23, ka_23⟩, ⟨ma_24, ka_24⟩, (by constructor <;> omega), (by constructor <;> omega), (by constructor <;> omega), ⟨ma_30, ka_30⟩, (by constructor <;> omega), ⟨ma_32, ka_32⟩, ⟨ma_33, ka_33⟩, (by constructor <;> omega), ⟨ma_36, ka_36⟩, (by constructor <;> omega), ⟨ma_38, ka_38⟩, ⟨ma_39, ka_39⟩, (by constructor <;> omega), ⟨ma_42, ka_42⟩, ⟨ma_43, ka_43⟩, ⟨ma_44, ka_44⟩, (by constructor <;> omega), ⟨ma_46, ka_46⟩, ⟨ma_47, ka_47⟩, ⟨ma_48, ka_48⟩, ⟨ma_49, ka_49⟩, ⟨ma_50, ka_50⟩, ⟨ma_51, ka_51⟩, ⟨ma_52, ka_52⟩, ⟨ma_53, ka_53⟩, ⟨ma_54, ka_54⟩, (by constructor <;> omega), ⟨ma_57, ka_57⟩⟩)
    have hfo_192 : f_191 a_3 = .inl (cI, 1560, .inl g_188) := by rw [ef_191, up_ne (kd_ne ko0 ka_3 (by decide))]; exact hfo_187
    have hfr0 : ∀ b, kd b ≠ 12 → kd b ≠ 576 → f_191 b = f b := fun b q12 q576 => (congrFun ef_191 b).trans ((up_ne (fun e9 => q12 (by rw [e9]; exact ko0))).trans (hfr0 b q12 q576))
    have hrA12 : ∀ b, kd b = 12 → ∀ j, fldR (f_191 b) j = fldR (f b) j := fun b kb j => ((congrArg (fun x => fldR x j) (congrFun ef_191 b)).trans (fra_up (fun j => by rw [hfo_130]; exact fr_set (k := 12) rfl rfl j) j b)).trans (hrA12 b kb j)
    have hfA12 : ∀ b, kd b = 12 → ∀ j, j ≠ 6 → j ≠ 7 → j ≠ 8 → j ≠ 11 → j ≠ 12 → j ≠ 13 → fldI (f_191 b) j = fldI (f b) j := fun b kb j n6 n7 n8 n11 n12 n13 => ((congrArg (fun x => fldI x j) (congrFun ef_191 b)).trans (fia_up (fun h9 => by rw [hfo_130]; exact fi_set (k := 12) rfl h9) n12 b)).trans (hfA12 b kb j n6 n7 n8 n11 n12 n13)
    have hT0 : frel kd 576 8 f_191 a_3 := by rw [ef_191]; exact hT0.keep (fun b q => up_ne (kd_ne ko0 q (by decide)))
    have hfo_193 : f_191 o0 = .inr (12, [.ref a_2, .ref a_3, .ref a_4, .int v_5, .ref a_6, .int v_7, .int v_137, .int v_138, .int v_139, .int v_140, .int v_141, .int v_142, .int v_142, .int v_15, .int v_16, .ref a_17, .ref a_18, .ref a_19, .ref a_20, .ref a_21, .ref a_22, .ref a_23, .ref a_24, .int v_25, .int v_155, .int v_27, .int v_157, .int v_29, .ref a_30, .int v_31, .ref a_32, .ref a_33, .int v_34, .int v_35, .ref a_36, .int v_37, .ref a_38, .ref a_39, .int v_40, .int v_170, .ref a_42, .ref a_43, .ref a_44, .int v_45, .ref a_46, .ref a_47, .ref a_48, .ref a_49, .ref a_50, .ref a_51, .ref a_52, .ref a_53, .ref a_54, .int v_55, .int v_185, .ref a_57]) := by rw [ef_191]; exact up_self
    refine lv_aload_n hx hb dX12_takesPair_26 rfl (lv_at hl 1 rfl) ?_
    refine lv_bipush (v := 58) hx hb dX12_takesPair_27 (by decide) ?_
    refine tk_ViP (As := [.int 58]) (rest := []) (n := 1) hx hb hml hown hU hN hZ (s_X12_takes_k12 l (dC, dI) cI cL cZ cR cG cH Z kd L f_191 hG o0 mo0 ko0 58 (by decide)) wd_624 wd_625 wd_626 wd_5 wd_627 (by decide +kernel) ⟨Nat.le_of_ble_eq_true rfl, Nat.le_of_ble_eq_true rfl⟩ hK hP hD hS mo0 hfo_193 12 rfl rfl rfl hl.1 rfl (Nat.le_of_ble_eq_true rfl) dX12_takesPair_29 ⟨Nat.le_of_ble_eq_true rfl, Nat.le_of_ble_eq_true rfl⟩ (fun x_194 f_195 H locs hw hP hD hS => ?_)
    obtain ⟨hG, bx_194, hkc_196, hra_197, hfa_198, hpost_199⟩ := hw
    have hfo_201 : f_195 a_3 = .inl (cI, 1560, .inl g_188) := by rw [hkc_196 a_3 (by rw [ka_3]; decide)]; exact hfo_192
    have hfr0 : ∀ b, kd b ≠ 12 → kd b ≠ 576 → f_195 b = f b := fun b q12 q576 => (hkc_196 b q12).trans (hfr0 b q12 q576)
    have hrA12 : ∀ b, kd b = 12 → ∀ j, fldR (f_195 b) j = fldR (f b) j := fun b kb j => (hra_197 b kb j).trans (hrA12 b kb j)
    have hfA12 : ∀ b, kd b = 12 → ∀ j, j ≠ 6 → j ≠ 7 → j ≠ 8 → j ≠ 11 → j ≠ 12 → j ≠ 13 → fldI (f_195 b) j = fldI (f b) j := fun b kb j n6 n7 n8 n11 n12 n13 => (hfa_198 b kb j n6 n7 n8).trans (hfA12 b kb j n6 n7 n8 n11 n12 n13)
    have hT0 : frel kd 576 8 f_195 a_3 := hT0.keep (fun b q => hkc_196 b (by rw [q]; decide))
    obtain ⟨a_203, a_204, a_205, v_206, a_207, v_208, v_209, v_210, v_211, v_212, v_213, v_214, v_215, v_216, v_217, a_218, a_219, a_220, a_221, a_222, a_223, a_224, a_225, v_226, v_227, v_228, v_229, v_230, a_231, v_232, a_233, a_234, v_235, v_236, a_237, v_238, a_239, a_240, v_241, v_242, a_243, a_244, a_245, v_246, a_247, a_248, a_249, a_250, a_251, a_252, a_253, a_254, a_255, v_256, v_257, a_258, hfo_202, ⟨ma_203, ka_203⟩, ⟨ma_204, ka_204⟩, ⟨ma_205, ka_205⟩, bv_206, ⟨ma_207, ka_207⟩, bv_208, bv_209, bv_214, bv_215, bv_216, ⟨ma_218, ka_218⟩, ⟨ma_219, ka_219⟩, ⟨ma_220, ka_220⟩, ⟨ma_221, ka_221⟩, ⟨ma_222, ka_222⟩, ⟨ma_223, ka_223⟩, ⟨ma_224, ka_224⟩, ⟨ma_225, ka_225⟩, bv_226, bv_228, bv_230, ⟨ma_231, ka_231⟩, bv_232, ⟨ma_233, ka_233⟩, ⟨ma_234, ka_234⟩, bv_235, ⟨ma_237, ka_237⟩, bv_238, ⟨ma_239, ka_239⟩, ⟨ma_240, ka_240⟩, bv_241, ⟨ma_243, ka_243⟩, ⟨ma_244, ka_244⟩, ⟨ma_245, ka_245⟩, bv_246, ⟨ma_247, ka_247⟩, ⟨ma_248, ka_248⟩, ⟨ma_249, ka_249⟩, ⟨ma_250, ka_250⟩, ⟨ma_251, ka_251⟩, ⟨ma_252, ka_252⟩, ⟨ma_253, ka_253⟩, ⟨ma_254, ka_254⟩, ⟨ma_255, ka_255⟩, bv_256, ⟨ma_258, ka_258⟩⟩ := un_12 (hG _ mo0) ko0
    have bv_210 : ((-2147483648) ≤ v_210.toInt ∧ v_210.toInt ≤ 2147483647) := ⟨i32_lo _, i32_hi _⟩
    have bv_211 : ((-2147483648) ≤ v_211.toInt ∧ v_211.toInt ≤ 2147483647) := ⟨i32_lo _, i32_hi _⟩
    have bv_212 : ((-2147483648) ≤ v_212.toInt ∧ v_212.toInt ≤ 2147483647) := ⟨i32_lo _, i32_hi _⟩
    have bv_213 : ((-2147483648) ≤ v_213.toInt ∧ v_213.toInt ≤ 2147483647) := ⟨i32_lo _, i32_hi _⟩
    have bv_217 : ((-2147483648) ≤ v_217.toInt ∧ v_217.toInt ≤ 2147483647) := ⟨i32_lo _, i32_hi _⟩
    have bv_227 : ((-2147483648) ≤ v_227.toInt ∧ v_227.toInt ≤ 2147483647) := ⟨i32_lo _, i32_hi _⟩
    have bv_229 : ((-2147483648) ≤ v_229.toInt ∧ v_229.toInt ≤ 2147483647) := ⟨i32_lo _, i32_hi _⟩
    have bv_236 : ((-2147483648) ≤ v_236.toInt ∧ v_236.toInt ≤ 2147483647) := ⟨i32_lo _, i32_hi _⟩
    have bv_242 : ((-2147483648) ≤ v_242.toInt ∧ v_242.toInt ≤ 2147483647) := ⟨i32_lo _, i32_hi _⟩
    have bv_257 : ((-2147483648) ≤ v_257.toInt ∧ v_257.toInt ≤ 2147483647) := ⟨i32_lo _, i32_hi _⟩
    obtain ⟨rfl, rfl, rfl, rfl, rfl, rfl, rfl, rfl, rfl, rfl, rfl, rfl, rfl, rfl, rfl, rfl, rfl, rfl, rfl, rfl, rfl, rfl, rfl, rfl, rfl, rfl, rfl, rfl, rfl, rfl, rfl⟩ := re_12 hfo_1 hfo_202 (hrA12 o0 ko0)
    obtain rfl := ri_12_3 hfo_1 hfo_202 (hfA12 o0 ko0 3 (by decide) (by decide) (by decide) (by decide) (by decide) (by decide))
    obtain rfl := ri_12_5 hfo_1 hfo_202 (hfA12 o0 ko0 5 (by decide) (by decide) (by decide) (by decide) (by decide) (by decide))
    obtain rfl := ri_12_14 hfo_1 hfo_202 (hfA12 o0 ko0 14 (by decide) (by decide) (by decide) (by decide) (by decide) (by decide))
    obtain rfl := ri_12_23 hfo_1 hfo_202 (hfA12 o0 ko0 23 (by decide) (by decide) (by decide) (by decide) (by decide) (by decide))
    obtain rfl := ri_12_25 hfo_1 hfo_202 (hfA12 o0 ko0 25 (by decide) (by decide) (by decide) (by decide) (by decide) (by decide))
    obtain rfl := ri_12_27 hfo_1 hfo_202 (hfA12 o0 ko0 27 (by decide) (by decide) (by decide) (by decide) (by decide) (by decide))
    obtain rfl := ri_12_29 hfo_1 hfo_202 (hfA12 o0 ko0 29 (by decide) (by decide) (by decide) (by decide) (by decide) (by decide))
    obtain rfl := ri_12_32 hfo_1 hfo_202 (hfA12 o0 ko0 32 (by decide) (by decide) (by decide) (by decide) (by decide) (by decide))
    obtain rfl := ri_12_33 hfo_1 hfo_202 (hfA12 o0 ko0 33 (by decide) (by decide) (by decide) (by decide) (by decide) (by decide))
    obtain rfl := ri_12_35 hfo_1 hfo_202 (hfA12 o0 ko0 35 (by decide) (by decide) (by decide) (by decide) (by decide) (by decide))
    obtain rfl := ri_12_38 hfo_1 hfo_202 (hfA12 o0 ko0 38 (by decide) (by decide) (by decide) (by decide) (by decide) (by decide))
    obtain rfl := ri_12_43 hfo_1 hfo_202 (hfA12 o0 ko0 43 (by decide) (by decide) (by decide) (by decide) (by decide) (by decide))
    obtain rfl := ri_12_53 hfo_1 hfo_202 (hfA12 o0 ko0 53 (by decide) (by decide) (by decide) (by decide) (by decide) (by decide))
    obtain rfl := ri_12_11 hfo_193 hfo_202 (hfa_198 o0 ko0 11 (by decide) (by decide) (by decide))
    obtain rfl := ri_12_12 hfo_193 hfo_202 (hfa_198 o0 ko0 12 (by decide) (by decide) (by decide))
    obtain rfl := ri_12_13 hfo_193 hfo_202 (hfa_198 o0 ko0 13 (by decide) (by decide) (by decide))
    have hqhpost_199 := hpost_199 v_137 v_209 (by rw [hfo_193]; rfl) (by rw [hfo_202]; rfl)
    try rw [ti_58] at hqhpost_199
    refine lv_if_eq (tgt := 42) hx hb dX12_takesPair_32 (by decide) (fun c_259 => ?_) (fun c_259 => ?_)
    · skip
      rw [← Int32.toInt_inj, ti_0] at c_259
      refine lv_iconst (v := 0) hx hb dX12_takesPair_42 (by decide) ?_
      exact W.zret (v := 0) (ty := .boolean) hx hb hr rfl (fun t ht hW => ⟨⟨0, f_195, rfl, ⟨hG, (by decide), hfr0, hrA12, hfA12, (by intro w6 z6 e6 d6; rw [hfo_1] at e6; rw [hfo_202] at d6; obtain rfl := Option.some.inj e6; obtain rfl := Option.some.inj d6; (try rw [ti_0]) <;> omega), (fun d9 h9 => by rw [hfo_202] at h9; obtain rfl := Option.some.inj h9; exact hT0)⟩, by rw [ht]; exact hP, va_K.moved hW.alike hK, pl_in hD⟩, hS.F ht⟩) hS.2.2 dX12_takesPair_43
    · skip
      rw [← Int32.toInt_inj, ti_0] at c_259
      refine lv_aload_n hx hb dX12_takesPair_35 rfl (lv_at hl 1 rfl) ?_
      refine tk_ViP (As := []) (rest := []) (n := 0) hx hb hml hown hU hN hZ (s_X12_takesS_k12 l (dC, dI) cI cL cZ cR cG cH Z kd L f_195 hG o0 mo0 ko0) wd_620 wd_621 wd_622 wd_5 wd_623 (by decide +kernel) ⟨Nat.le_of_ble_eq_true rfl, Nat.le_of_ble_eq_true rfl⟩ hK hP hD hS mo0 hfo_202 12 rfl rfl rfl hl.1 rfl (Nat.le_of_ble_eq_true rfl) dX12_takesPair_36 ⟨Nat.le_of_ble_eq_true rfl, Nat.le_of_ble_eq_true rfl⟩ (fun x_260 f_261 H locs hw hP hD hS => ?_)
      obtain ⟨hG, bx_260, hkc_262, hra_263, hfa_264, hpost_265, hxp_266⟩ := hw
      have hfo_268 : f_261 a_3 = .inl (cI, 1560, .inl g_188) := by rw [hkc_262 a_3 (by rw [ka_3]; decide)]; exact hfo_201
      have hfr0 : ∀ b, kd b ≠ 12 → kd b ≠ 576 → f_261 b = f b := fun b q12 q576 => (hkc_262 b q12).trans (hfr0 b q12 q576)
      have hrA12 : ∀ b, kd b = 12 → ∀ j, fldR (f_261 b) j = fldR (f b) j := fun b kb j => (hra_263 b kb j).trans (hrA12 b kb j)
      have hfA12 : ∀ b, kd b = 12 → ∀ j, j ≠ 6 → j ≠ 7 → j ≠ 8 → j ≠ 11 → j ≠ 12 → j ≠ 13 → fldI (f_261 b) j = fldI (f b) j := fun b kb j n6 n7 n8 n11 n12 n13 => (hfa_264 b kb j n6 n7 n8 n11).trans (hfA12 b kb j n6 n7 n8 n11 n12 n13)
      have hT0 : frel kd 576 8 f_261 a_3 := hT0.keep (fun b q => hkc_262 b (by rw [q]; decide))
      obtain ⟨a_270, a_271, a_272, v_273, a_274, v_275, v_276, v_277, v_278, v_279, v_280, v_281, v_282, v_283, v_284, a_285, a_286, a_287, a_288, a_289, a_290, a_291, a_292, v_293, v_294, v_295, v_296, v_297, a_298, v_299, a_300, a_301, v_302, v_303, a_304, v_305, a_306, a_307, v_308, v_309, a_310, a_311, a_312, v_313, a_314, a_315, a_316, a_317, a_318, a_319, a_320, a_321, a_322, v_323, v_324, a_325, hfo_269, ⟨ma_270, ka_270⟩, ⟨ma_271, ka_271⟩, ⟨ma_272, ka_272⟩, bv_273, ⟨ma_274, ka_274⟩, bv_275, bv_276, bv_281, bv_282, bv_283, ⟨ma_285, ka_285⟩, ⟨ma_286, ka_286⟩, ⟨ma_287, ka_287⟩, ⟨ma_288, ka_288⟩, ⟨ma_289, ka_289⟩, ⟨ma_290, ka_290⟩, ⟨ma_291, ka_291⟩, ⟨ma_292, ka_292⟩, bv_293, bv_295, bv_297, ⟨ma_298, ka_298⟩, bv_299, ⟨ma_300, ka_300⟩, ⟨ma_301, ka_301⟩, bv_302, ⟨ma_304, ka_304⟩, bv_305, ⟨ma_306, ka_306⟩, ⟨ma_307, ka_307⟩, bv_308, ⟨ma_310, ka_310⟩, ⟨ma_311, ka_311⟩, ⟨ma_312, ka_312⟩, bv_313, ⟨ma_314, ka_314⟩, ⟨ma_315, ka_315⟩, ⟨ma_316, ka_316⟩, ⟨ma_317, ka_317⟩, ⟨ma_318, ka_318⟩, ⟨ma_319, ka_319⟩, ⟨ma_320, ka_320⟩, ⟨ma_321, ka_321⟩, ⟨ma_322, ka_322⟩, bv_323, ⟨ma_325, ka_325⟩⟩ := un_12 (hG _ mo0) ko0
      have bv_277 : ((-2147483648) ≤ v_277.toInt ∧ v_277.toInt ≤ 2147483647) := ⟨i32_lo _, i32_hi _⟩
      have bv_278 : ((-2147483648) ≤ v_278.toInt ∧ v_278.toInt ≤ 2147483647) := ⟨i32_lo _, i32_hi _⟩
      have bv_279 : ((-2147483648) ≤ v_279.toInt ∧ v_279.toInt ≤ 2147483647) := ⟨i32_lo _, i32_hi _⟩
      have bv_280 : ((-2147483648) ≤ v_280.toInt ∧ v_280.toInt ≤ 2147483647) := ⟨i32_lo _, i32_hi _⟩
      have bv_284 : ((-2147483648) ≤ v_284.toInt ∧ v_284.toInt ≤ 2147483647) := ⟨i32_lo _, i32_hi _⟩
      have bv_294 : ((-2147483648) ≤ v_294.toInt ∧ v_294.toInt ≤ 2147483647) := ⟨i32_lo _, i32_hi _⟩
      have bv_296 : ((-2147483648) ≤ v_296.toInt ∧ v_296.toInt ≤ 2147483647) := ⟨i32_lo _, i32_hi _⟩
      have bv_303 : ((-2147483648) ≤ v_303.toInt ∧ v_303.toInt ≤ 2147483647) := ⟨i32_lo _, i32_hi _⟩
      have bv_309 : ((-2147483648) ≤ v_309.toInt ∧ v_309.toInt ≤ 2147483647) := ⟨i32_lo _, i32_hi _⟩
      have bv_324 : ((-2147483648) ≤ v_324.toInt ∧ v_324.toInt ≤ 2147483647) := ⟨i32_lo _, i32_hi _⟩
      obtain ⟨rfl, rfl, rfl, rfl, rfl, rfl, rfl, rfl, rfl, rfl, rfl, rfl, rfl, rfl, rfl, rfl, rfl, rfl, rfl, rfl, rfl, rfl, rfl, rfl, rfl, rfl, rfl, rfl, rfl, rfl, rfl⟩ := re_12 hfo_1 hfo_269 (hrA12 o0 ko0)
      obtain rfl := ri_12_3 hfo_1 hfo_269 (hfA12 o0 ko0 3 (by decide) (by decide) (by decide) (by decide) (by decide) (by decide))
      obtain rfl := ri_12_5 hfo_1 hfo_269 (hfA12 o0 ko0 5 (by decide) (by decide) (by decide) (by decide) (by decide) (by decide))
      obtain rfl := ri_12_14 hfo_1 hfo_269 (hfA12 o0 ko0 14 (by decide) (by decide) (by decide) (by decide) (by decide) (by decide))
      obtain rfl := ri_12_23 hfo_1 hfo_269 (hfA12 o0 ko0 23 (by decide) (by decide) (by decide) (by decide) (by decide) (by decide))
      obtain rfl := ri_12_25 hfo_1 hfo_269 (hfA12 o0 ko0 25 (by decide) (by decide) (by decide) (by decide) (by decide) (by decide))
      obtain rfl := ri_12_27 hfo_1 hfo_269 (hfA12 o0 ko0 27 (by decide) (by decide) (by decide) (by decide) (by decide) (by decide))
      obtain rfl := ri_12_29 hfo_1 hfo_269 (hfA12 o0 ko0 29 (by decide) (by decide) (by decide) (by decide) (by decide) (by decide))
      obtain rfl := ri_12_32 hfo_1 hfo_269 (hfA12 o0 ko0 32 (by decide) (by decide) (by decide) (by decide) (by decide) (by decide))
      obtain rfl := ri_12_33 hfo_1 hfo_269 (hfA12 o0 ko0 33 (by decide) (by decide) (by decide) (by decide) (by decide) (by decide))
      obtain rfl := ri_12_35 hfo_1 hfo_269 (hfA12 o0 ko0 35 (by decide) (by decide) (by decide) (by decide) (by decide) (by decide))
      obtain rfl := ri_12_38 hfo_1 hfo_269 (hfA12 o0 ko0 38 (by decide) (by decide) (by decide) (by decide) (by decide) (by decide))
      obtain rfl := ri_12_43 hfo_1 hfo_269 (hfA12 o0 ko0 43 (by decide) (by decide) (by decide) (by decide) (by decide) (by decide))
      obtain rfl := ri_12_53 hfo_1 hfo_269 (hfA12 o0 ko0 53 (by decide) (by decide) (by decide) (by decide) (by decide) (by decide))
      obtain rfl := ri_12_12 hfo_202 hfo_269 (hfa_264 o0 ko0 12 (by decide) (by decide) (by decide) (by decide))
      obtain rfl := ri_12_13 hfo_202 hfo_269 (hfa_264 o0 ko0 13 (by decide) (by decide) (by decide) (by decide))
      have hqhpost_265 := hpost_265 v_209 v_276 (by rw [hfo_202]; rfl) (by rw [hfo_269]; rfl)
      have htsx_260 := hxp_266 a_3 g_188 v_281 (by rw [hfo_269]; rfl) hfo_268 (by rw [hfo_269]; rfl)
      refine lv_if_ne (tgt := 44) hx hb dX12_takesPair_39 (by decide) (fun c_326 => ?_) (fun c_326 => ?_)
      · skip
        rw [← Int32.toInt_inj, ti_0] at c_326
        refine lv_aload_n hx hb dX12_takesPair_44 rfl (lv_at hl 1 rfl) ?_
        refine lv_aload_n hx hb dX12_takesPair_45 rfl (lv_at hl 1 rfl) ?_
        refine tk_getP (D := (dC, dI)) (ci := 12) (v := .int v_281) (C := RX12) (T := TX12) (N := 56) hx hb hU inlX12 hown hK hP mo0 hfo_269 rfl 11 (by decide) (hU _ wd_617) (fun _ h9 => h9) rfl dX12_takesPair_46 ?_
        refine tk_putP (D := (dC, dI)) (ci := 12) (v := .int v_281) (ty := .int) (C := RX12) (T := TX12) (N := 56) hx hb hU inlX12 tyX12 tyX12_ok nmX12 hown hK hP hD hS mo0 hfo_269 rfl 13 (by decide) (hU _ wd_619) (fun _ h9 => h9) rfl (by decide +kernel) rfl rfl (Nat.le_of_ble_eq_true rfl) dX12_takesPair_49 (fun H locs hP hD hS => ?_)
        obtain ⟨f_328, ef_328⟩ : ∃ y : Nat → va_E, y = va_up f_261 o0 (.inr (12, [.ref a_2, .ref a_3, .ref a_4, .int v_5, .ref a_6, .int v_7, .int v_276, .int v_277, .int v_278, .int v_279, .int v_280, .int v_281, .int v_142, .int v_281, .int v_16, .ref a_17, .ref a_18, .ref a_19, .ref a_20, .ref a_21, .ref a_22, .ref a_23, .ref a_24, .int v_25, .int v_294, .int v_27, .int v_296, .int v_29, .ref a_30, .int v_31, .ref a_32, .ref a_33, .int v_34, .int v_35, .ref a_36, .int v_37, .ref a_38, .ref a_39, .int v_40, .int v_309, .ref a_42, .ref a_43, .ref a_44, .int v_45, .ref a_46, .ref a_47, .ref a_48, .ref a_49, .ref a_50, .ref a_51, .ref a_52, .ref a_53, .ref a_54, .int v_55, .int v_324, .ref a_57])) := ⟨_, rfl⟩
        have hP : va_P (dC, dI) vwCl (va_pl L f_328) H := by rw [ef_328]; exact hP
        have hD : va_D (fun q => q ∈ L) (va_pl L f_328) := by rw [ef_328]; exact hD
        have hG : GI (okc cI cL cZ cR cG cH L kd) kd L f_328 := by rw [ef_328]; exact hG.set o0 (mk_12 ko0 ⟨a_2, a_3, a_4, v_5, a_6, v_7, v_276, v_277, v_278, v_279, v_280, v_281, v_142, v_281, v_16, a_17, a_18, a_19, a_20, a_21, a_22, a_23, a_24, v_25, v_294, v_27, v_296, v_29, a_30, v_31, a_32, a_33, v_34, v_35, a_36, v_37, a_38, a_39, v_40, v_309, a_42, a_43, a_44, v_45, a_46, a_47, a_48, a_49, a_50, a_51, a_52, a_53, a_54, v_55, v_324, a_57, rfl, ⟨ma_2, ka_2⟩, ⟨ma_3, ka_3⟩, ⟨ma_4, ka_4⟩, (by constructor <;> omega), ⟨ma_6, ka_6⟩, (by constructor <;> omega), (by constructor <;> omega), (by constructor <;> omega), (by constructor <;> omega), (by constructor <;> omega), ⟨ma_17, ka_17⟩, ⟨ma_18, ka_18⟩, ⟨ma_19, ka_19⟩, ⟨ma_20, ka_20⟩, ⟨ma_21, ka_21⟩, ⟨ma_22, ka_22⟩, ⟨ma_23, ka_23⟩, ⟨ma_24, ka_24⟩, (by constructor <;> omega), (by constructor <;> omega), (by constructor <;> omega), ⟨ma_30, ka_30⟩, (by constructor <;> omega), ⟨ma_32, ka_32⟩, ⟨ma_33, ka_33⟩, (by constructor <;> omega), ⟨ma_36, ka_36⟩, (by constructor <;> omega), ⟨ma_38, ka_38⟩, ⟨ma_39, ka_39⟩, (by constructor <;> omega), ⟨ma_42, ka_42⟩, ⟨ma_43, ka_43⟩, ⟨ma_44, ka_44⟩, (by constructor <;> omega), ⟨ma_46, ka_46⟩, ⟨ma_47, ka_47⟩, ⟨ma_48, ka_48⟩, ⟨ma_49, ka_49⟩, ⟨ma_50, ka_50⟩, ⟨ma_51, ka_51⟩, ⟨ma_52, ka_52⟩, ⟨ma_53, ka_53⟩, ⟨ma_54, ka_54⟩, (by constructor <;> omega), ⟨ma_57, ka_57⟩⟩)
        have hfo_329 : f_328 a_3 = .inl (cI, 1560, .inl g_188) := by rw [ef_328, up_ne (kd_ne ko0 ka_3 (by decide))]; exact hfo_268
        have hfr0 : ∀ b, kd b ≠ 12 → kd b ≠ 576 → f_328 b = f b := fun b q12 q576 => (congrFun ef_328 b).trans ((up_ne (fun e9 => q12 (by rw [e9]; exact ko0))).trans (hfr0 b q12 q576))
        have hrA12 : ∀ b, kd b = 12 → ∀ j, fldR (f_328 b) j = fldR (f b) j := fun b kb j => ((congrArg (fun x => fldR x j) (congrFun ef_328 b)).trans (fra_up (fun j => by rw [hfo_269]; exact fr_set (k := 13) rfl rfl j) j b)).trans (hrA12 b kb j)
        have hfA12 : ∀ b, kd b = 12 → ∀ j, j ≠ 6 → j ≠ 7 → j ≠ 8 → j ≠ 11 → j ≠ 12 → j ≠ 13 → fldI (f_328 b) j = fldI (f b) j := fun b kb j n6 n7 n8 n11 n12 n13 => ((congrArg (fun x => fldI x j) (congrFun ef_328 b)).trans (fia_up (fun h9 => by rw [hfo_269]; exact fi_set (k := 13) rfl h9) n13 b)).trans (hfA12 b kb j n6 n7 n8 n11 n12 n13)
        have hT0 : frel kd 576 8 f_328 a_3 := by rw [ef_328]; exact hT0.keep (fun b q => up_ne (kd_ne ko0 q (by decide)))
        have hfo_330 : f_328 o0 = .inr (12, [.ref a_2, .ref a_3, .ref a_4, .int v_5, .ref a_6, .int v_7, .int v_276, .int v_277, .int v_278, .int v_279, .int v_280, .int v_281, .int v_142, .int v_281, .int v_16, .ref a_17, .ref a_18, .ref a_19, .ref a_20, .ref a_21, .ref a_22, .ref a_23, .ref a_24, .int v_25, .int v_294, .int v_27, .int v_296, .int v_29, .ref a_30, .int v_31, .ref a_32, .ref a_33, .int v_34, .int v_35, .ref a_36, .int v_37, .ref a_38, .ref a_39, .int v_40, .int v_309, .ref a_42, .ref a_43, .ref a_44, .int v_45, .ref a_46, .ref a_47, .ref a_48, .ref a_49, .ref a_50, .ref a_51, .ref a_52, .ref a_53, .ref a_54, .int v_55, .int v_324, .ref a_57]) := by rw [ef_328]; exact up_self
        refine lv_aload_n hx hb dX12_takesPair_52 rfl (lv_at hl 1 rfl) ?_
        refine tk_getP (D := (dC, dI)) (ci := 12) (v := .int v_142) (C := RX12) (T := TX12) (N := 56) hx hb hU inlX12 hown hK hP mo0 hfo_330 rfl 12 (by decide) (hU _ wd_618) (fun _ h9 => h9) rfl dX12_takesPair_53 ?_
        refine lv_if_ne (tgt := 73) hx hb dX12_takesPair_56 (by decide) (fun c_331 => ?_) (fun c_331 => ?_)
        · skip
          rw [← Int32.toInt_inj, ti_0] at c_331
          refine lv_aload_n hx hb dX12_takesPair_73 rfl (lv_at hl 1 rfl) ?_
          refine tk_getP (D := (dC, dI)) (ci := 12) (v := .ref a_3) (C := RX12) (T := TX12) (N := 56) hx hb hU inlX12 hown hK hP mo0 hfo_330 rfl 1 (by decide) (hU _ wd_170) (fun _ h9 => h9) rfl dX12_takesPair_74 ?_
          refine lv_aload_n hx hb dX12_takesPair_77 rfl (lv_at hl 1 rfl) ?_
          refine tk_getP (D := (dC, dI)) (ci := 12) (v := .int v_142) (C := RX12) (T := TX12) (N := 56) hx hb hU inlX12 hown hK hP mo0 hfo_330 rfl 12 (by decide) (hU _ wd_618) (fun _ h9 => h9) rfl dX12_takesPair_78 ?_
          refine lv_aload_n hx hb dX12_takesPair_81 rfl (lv_at hl 1 rfl) ?_
          refine tk_getP (D := (dC, dI)) (ci := 12) (v := .int v_281) (C := RX12) (T := TX12) (N := 56) hx hb hU inlX12 hown hK hP mo0 hfo_330 rfl 13 (by decide) (hU _ wd_619) (fun _ h9 => h9) rfl dX12_takesPair_82 ?_
          refine tk_SiP (As := [.ref a_3, .int v_142, .int v_281]) (rest := []) (n := 3) hx hb hml hown hU hN hZ (s_X12_hasPair_a576 l (dC, dI) cI cL cZ cR cG cH Z kd L f_328 hG a_3 ma_3 ka_3 v_142 (by constructor <;> omega) v_281 (by constructor <;> omega)) wd_628 wd_629 wd_5 wd_630 (by decide +kernel) ⟨Nat.le_of_ble_eq_true rfl, Nat.le_of_ble_eq_true rfl⟩ hK hP hD hS rfl hl.1 rfl (Nat.le_of_ble_eq_true rfl) dX12_takesPair_85 ⟨Nat.le_of_ble_eq_true rfl, Nat.le_of_ble_eq_true rfl⟩ (fun x_332 f_333 H locs hw hP hD hS => ?_)
          obtain ⟨rfl, bx_332, hxp_334⟩ := hw
          have hhp := hxp_334 g_188 hfo_329
          refine lv_if_eq (tgt := 93) hx hb dX12_takesPair_88 (by decide) (fun c_336 => ?_) (fun c_336 => ?_)
          · skip
            rw [← Int32.toInt_inj, ti_0] at c_336
            have hF0 := hT0.get hfo_329
            obtain ⟨x_337, ex_337⟩ : ∃ y : Int32, y = g_188 (Int32.toNatClampNeg 16) := ⟨_, rfl⟩
            have bx_337 : (0 ≤ x_337.toInt ∧ x_337.toInt ≤ 20) := by rw [ex_337]; exact hbg_188.2.1 _ (by decide) (by decide) (by decide)
            have hgx_337 : x_337.toInt = (g_188 16).toInt := by rw [ex_337]; rfl
            obtain ⟨x_338, ex_338⟩ : ∃ y : Int32, y = g_188 (Int32.toNatClampNeg 0) := ⟨_, rfl⟩
            have bx_338 : (0 ≤ x_338.toInt ∧ x_338.toInt ≤ 8) := by rw [ex_338]; exact hbg_188.1 _ (by decide) (by decide) (by decide)
            have hgx_338 : x_338.toInt = (g_188 0).toInt := by rw [ex_338]; rfl
            refine lv_iconst (v := 0) hx hb dX12_takesPair_93 (by decide) ?_
            refine lv_istore_n (lv' := [(2, .int 0), (1, .int v_72), (0, .ref o0)]) hx hb dX12_takesPair_94 rfl hl (by decide) rfl (fun ls hl => ?_)
            refine lv_iconst (v := 0) hx hb dX12_takesPair_95 (by decide) ?_
            refine lv_istore_n (lv' := [(3, .int 0), (2, .int 0), (1, .int v_72), (0, .ref o0)]) hx hb dX12_takesPair_96 rfl hl (by decide) rfl (fun ls hl => ?_)
            refine lv_iconst (v := 0) hx hb dX12_takesPair_97 (by decide) ?_
            refine lv_istore (lv' := [(4, .int 0), (3, .int 0), (2, .int 0), (1, .int v_72), (0, .ref o0)]) hx hb dX12_takesPair_98 hl (by decide) rfl (fun ls hl => ?_)
            refine lv_iconst (v := 0) hx hb dX12_takesPair_100 (by decide) ?_
            refine lv_istore (lv' := [(5, .int 0), (4, .int 0), (3, .int 0), (2, .int 0), (1, .int v_72), (0, .ref o0)]) hx hb dX12_takesPair_101 hl (by decide) rfl (fun ls hl => ?_)
            have hloop_344 : ∀ (n : Nat), ∀ (y_345 : Int32), (0 ≤ y_345.toInt ∧ y_345.toInt ≤ 20) → ∀ (y_346 : Int32), (0 ≤ y_346.toInt ∧ y_346.toInt ≤ 20) → ∀ (y_347 : Int32), (0 ≤ y_347.toInt ∧ y_347.toInt ≤ 20) → ∀ (y_348 : Int32), (0 ≤ y_348.toInt ∧ y_348.toInt ≤ 20) → (y_348.toInt ≤ y_345.toInt ∧ y_347.toInt ≤ y_345.toInt ∧ y_346.toInt ≤ y_345.toInt ∧ y_345.toInt ≤ x_337.toInt) → (y_348.toInt = ((cntU g_188 (y_345.toInt).toNat : Nat) : Int)) → 20 - y_345.toInt < (n : Int) → ∀ (ls : Array Slot), lv_has ls 8 [(5, .int y_345), (4, .int y_346), (3, .int y_347), (2, .int y_348), (1, .int v_72), (0, .ref o0)] → W p l e (headSpec (wU yX12_takesPair cX12_takesPair 8 (some .boolean)) { frames := 4, cells := 0, slots := 0, locals := 82 }).room s m [.ref o0].toArray below meth c H locs 0 0 (MQ below (va_Qi (fun (r : Int32) (f9 : Nat → va_E) => GI (okc cI cL cZ cR cG cH L kd) kd L f9 ∧ (0 ≤ r.toInt ∧ r.toInt ≤ 1) ∧ (∀ b, kd b ≠ 12 → kd b ≠ 576 → f9 b = f b) ∧ (∀ b, kd b = 12 → ∀ j, fldR (f9 b) j = fldR (f b) j) ∧ (∀ b, kd b = 12 → ∀ j, j ≠ 6 → j ≠ 7 → j ≠ 8 → j ≠ 11 → j ≠ 12 → j ≠ 13 → fldI (f9 b) j = fldI (f b) j) ∧ (∀ (w6 z6 : Int32), fldI (f o0) 6 = some w6 → fldI (f9 o0) 6 = some z6 → w6.toInt ≤ z6.toInt) ∧ (∀ d9, fldR (f9 o0) 1 = some d9 → frel kd 576 8 f9 d9)) (qP (dC, dI) cI cL cZ cR cG cH L) (fun q => q ∈ L)) [.ref o0].toArray s 0 0 (fun q => q ∈ L)) (F0 m 103 ls []) := by
              intro n
              induction n with
              | zero => intro y_345 by_345 y_346 by_346 y_347 by_347 y_348 by_348 hrelhloop_344_0 hxu hmuhloop_344 ls hl; exfalso; omega
              | succ n ih_hloop_344 =>
                intro y_345 by_345 y_346 by_346 y_347 by_347 y_348 by_348 hrelhloop_344_0 hxu hmuhloop_344 ls hl
                refine lv_iload hx hb dX12_takesPair_103 (lv_at hl 0 rfl) ?_
                refine lv_aload_n hx hb dX12_takesPair_105 rfl (lv_at hl 5 rfl) ?_
                refine tk_getP (D := (dC, dI)) (ci := 12) (v := .ref a_3) (C := RX12) (T := TX12) (N := 56) hx hb hU inlX12 hown hK hP mo0 hfo_330 rfl 1 (by decide) (hU _ wd_170) (fun _ h9 => h9) rfl dX12_takesPair_106 ?_
                refine lv_bipush (v := 16) hx hb dX12_takesPair_109 (by decide) ?_
                refine tk_ildP hx hb hK hP 0 ma_3 hfo_329 rfl (vp_in_nI (n := 16) (by decide) (by decide)) dX12_takesPair_111 ?_
                refine tk_topi (y := x_337) ex_337.symm ?_
                refine lv_icmp_ge (tgt := 200) hx hb dX12_takesPair_112 (by decide) (fun c_349 => ?_) (fun c_349 => ?_)
                · skip
                  rw [Int32.le_iff_toInt_le] at c_349
                  refine lv_iload_n hx hb dX12_takesPair_200 rfl (lv_at hl 3 rfl) ?_
                  refine lv_bipush (v := 12) hx hb dX12_takesPair_201 (by decide) ?_
                  refine lv_icmp_eq (tgt := 217) hx hb dX12_takesPair_203 (by decide) (fun c_350 => ?_) (fun c_350 => ?_)
                  · skip
                    rw [← Int32.toInt_inj, ti_12] at c_350
                    refine lv_aload_n hx hb dX12_takesPair_217 rfl (lv_at hl 5 rfl) ?_
                    refine lv_iconst (v := 3) hx hb dX12_takesPair_218 (by decide) ?_
                    refine lv_iload_n hx hb dX12_takesPair_219 rfl (lv_at hl 4 rfl) ?_
                    refine tk_ViP (As := [.int 3, .int v_72]) (rest := []) (n := 2) hx hb hml hown hU hN hZ (s_X12_bad_k12 l (dC, dI) cI cL cZ cR cG cH Z kd L f_328 hG o0 mo0 ko0 3 v_72) wd_602 wd_603 wd_604 wd_5 wd_605 (by decide +kernel) ⟨Nat.le_of_ble_eq_true rfl, Nat.le_of_ble_eq_true rfl⟩ hK hP hD hS mo0 hfo_330 12 rfl rfl rfl hl.1 rfl (Nat.le_of_ble_eq_true rfl) dX12_takesPair_220 ⟨Nat.le_of_ble_eq_true rfl, Nat.le_of_ble_eq_true rfl⟩ (fun x_351 f_352 H locs hw hP hD hS => ?_)
                    obtain ⟨hG, bx_351, hkc_353, hra_354, hfa_355⟩ := hw
                    have hfo_357 : f_352 a_3 = .inl (cI, 1560, .inl g_188) := by rw [hkc_353 a_3 (by rw [ka_3]; decide)]; exact hfo_329
                    have hfr0 : ∀ b, kd b ≠ 12 → kd b ≠ 576 → f_352 b = f b := fun b q12 q576 => (hkc_353 b q12).trans (hfr0 b q12 q576)
                    have hrA12 : ∀ b, kd b = 12 → ∀ j, fldR (f_352 b) j = fldR (f b) j := fun b kb j => (hra_354 b kb j).trans (hrA12 b kb j)
                    have hfA12 : ∀ b, kd b = 12 → ∀ j, j ≠ 6 → j ≠ 7 → j ≠ 8 → j ≠ 11 → j ≠ 12 → j ≠ 13 → fldI (f_352 b) j = fldI (f b) j := fun b kb j n6 n7 n8 n11 n12 n13 => (hfa_355 b kb j n7 n8).trans (hfA12 b kb j n6 n7 n8 n11 n12 n13)
                    have hT0 : frel kd 576 8 f_352 a_3 := hT0.keep (fun b q => hkc_353 b (by rw [q]; decide))
                    obtain ⟨a_359, a_360, a_361, v_362, a_363, v_364, v_365, v_366, v_367, v_368, v_369, v_370, v_371, v_372, v_373, a_374, a_375, a_376, a_377, a_378, a_379, a_380, a_381, v_382, v_383, v_384, v_385, v_386, a_387, v_388, a_389, a_390, v_391, v_392, a_393, v_394, a_395, a_396, v_397, v_398, a_399, a_400, a_401, v_402, a_403, a_404, a_405, a_406, a_407, a_408, a_409, a_410, a_411, v_412, v_413, a_414, hfo_358, ⟨ma_359, ka_359⟩, ⟨ma_360, ka_360⟩, ⟨ma_361, ka_361⟩, bv_362, ⟨ma_363, ka_363⟩, bv_364, bv_365, bv_370, bv_371, bv_372, ⟨ma_374, ka_374⟩, ⟨ma_375, ka_375⟩, ⟨ma_376, ka_376⟩, ⟨ma_377, ka_377⟩, ⟨ma_378, ka_378⟩, ⟨ma_379, ka_379⟩, ⟨ma_380, ka_380⟩, ⟨ma_381, ka_381⟩, bv_382, bv_384, bv_386, ⟨ma_387, ka_387⟩, bv_388, ⟨ma_389, ka_389⟩, ⟨ma_390, ka_390⟩, bv_391, ⟨ma_393, ka_393⟩, bv_394, ⟨ma_395, ka_395⟩, ⟨ma_396, ka_396⟩, bv_397, ⟨ma_399, ka_399⟩, ⟨ma_400, ka_400⟩, ⟨ma_401, ka_401⟩, bv_402, ⟨ma_403, ka_403⟩, ⟨ma_404, ka_404⟩, ⟨ma_405, ka_405⟩, ⟨ma_406, ka_406⟩, ⟨ma_407, ka_407⟩, ⟨ma_408, ka_408⟩, ⟨ma_409, ka_409⟩, ⟨ma_410, ka_410⟩, ⟨ma_411, ka_411⟩, bv_412, ⟨ma_414, ka_414⟩⟩ := un_12 (hG _ mo0) ko0
                    have bv_366 : ((-2147483648) ≤ v_366.toInt ∧ v_366.toInt ≤ 2147483647) := ⟨i32_lo _, i32_hi _⟩
                    have bv_367 : ((-2147483648) ≤ v_367.toInt ∧ v_367.toInt ≤ 2147483647) := ⟨i32_lo _, i32_hi _⟩
                    have bv_368 : ((-2147483648) ≤ v_368.toInt ∧ v_368.toInt ≤ 2147483647) := ⟨i32_lo _, i32_hi _⟩
                    have bv_369 : ((-2147483648) ≤ v_369.toInt ∧ v_369.toInt ≤ 2147483647) := ⟨i32_lo _, i32_hi _⟩
                    have bv_373 : ((-2147483648) ≤ v_373.toInt ∧ v_373.toInt ≤ 2147483647) := ⟨i32_lo _, i32_hi _⟩
                    have bv_383 : ((-2147483648) ≤ v_383.toInt ∧ v_383.toInt ≤ 2147483647) := ⟨i32_lo _, i32_hi _⟩
                    have bv_385 : ((-2147483648) ≤ v_385.toInt ∧ v_385.toInt ≤ 2147483647) := ⟨i32_lo _, i32_hi _⟩
                    have bv_392 : ((-2147483648) ≤ v_392.toInt ∧ v_392.toInt ≤ 2147483647) := ⟨i32_lo _, i32_hi _⟩
                    have bv_398 : ((-2147483648) ≤ v_398.toInt ∧ v_398.toInt ≤ 2147483647) := ⟨i32_lo _, i32_hi _⟩
                    have bv_413 : ((-2147483648) ≤ v_413.toInt ∧ v_413.toInt ≤ 2147483647) := ⟨i32_lo _, i32_hi _⟩
                    obtain ⟨rfl, rfl, rfl, rfl, rfl, rfl, rfl, rfl, rfl, rfl, rfl, rfl, rfl, rfl, rfl, rfl, rfl, rfl, rfl, rfl, rfl, rfl, rfl, rfl, rfl, rfl, rfl, rfl, rfl, rfl, rfl⟩ := re_12 hfo_1 hfo_358 (hrA12 o0 ko0)
                    obtain rfl := ri_12_3 hfo_1 hfo_358 (hfA12 o0 ko0 3 (by decide) (by decide) (by decide) (by decide) (by decide) (by decide))
                    obtain rfl := ri_12_5 hfo_1 hfo_358 (hfA12 o0 ko0 5 (by decide) (by decide) (by decide) (by decide) (by decide) (by decide))
                    obtain rfl := ri_12_14 hfo_1 hfo_358 (hfA12 o0 ko0 14 (by decide) (by decide) (by decide) (by decide) (by decide) (by decide))
                    obtain rfl := ri_12_23 hfo_1 hfo_358 (hfA12 o0 ko0 23 (by decide) (by decide) (by decide) (by decide) (by decide) (by decide))
                    obtain rfl := ri_12_25 hfo_1 hfo_358 (hfA12 o0 ko0 25 (by decide) (by decide) (by decide) (by decide) (by decide) (by decide))
                    obtain rfl := ri_12_27 hfo_1 hfo_358 (hfA12 o0 ko0 27 (by decide) (by decide) (by decide) (by decide) (by decide) (by decide))
                    obtain rfl := ri_12_29 hfo_1 hfo_358 (hfA12 o0 ko0 29 (by decide) (by decide) (by decide) (by decide) (by decide) (by decide))
                    obtain rfl := ri_12_32 hfo_1 hfo_358 (hfA12 o0 ko0 32 (by decide) (by decide) (by decide) (by decide) (by decide) (by decide))
                    obtain rfl := ri_12_33 hfo_1 hfo_358 (hfA12 o0 ko0 33 (by decide) (by decide) (by decide) (by decide) (by decide) (by decide))
                    obtain rfl := ri_12_35 hfo_1 hfo_358 (hfA12 o0 ko0 35 (by decide) (by decide) (by decide) (by decide) (by decide) (by decide))
                    obtain rfl := ri_12_38 hfo_1 hfo_358 (hfA12 o0 ko0 38 (by decide) (by decide) (by decide) (by decide) (by decide) (by decide))
                    obtain rfl := ri_12_43 hfo_1 hfo_358 (hfA12 o0 ko0 43 (by decide) (by decide) (by decide) (by decide) (by decide) (by decide))
                    obtain rfl := ri_12_53 hfo_1 hfo_358 (hfA12 o0 ko0 53 (by decide) (by decide) (by decide) (by decide) (by decide) (by decide))
                    obtain rfl := ri_12_6 hfo_330 hfo_358 (hfa_355 o0 ko0 6 (by decide) (by decide))
                    obtain rfl := ri_12_11 hfo_330 hfo_358 (hfa_355 o0 ko0 11 (by decide) (by decide))
                    obtain rfl := ri_12_12 hfo_330 hfo_358 (hfa_355 o0 ko0 12 (by decide) (by decide))
                    obtain rfl := ri_12_13 hfo_330 hfo_358 (hfa_355 o0 ko0 13 (by decide) (by decide))
                    exact W.zret (v := x_351) (ty := .boolean) hx hb hr (zb_n (by constructor <;> omega)) (fun t ht hW => ⟨⟨x_351, f_352, rfl, ⟨hG, (by constructor <;> omega), hfr0, hrA12, hfA12, (by intro w6 z6 e6 d6; rw [hfo_1] at e6; rw [hfo_358] at d6; obtain rfl := Option.some.inj e6; obtain rfl := Option.some.inj d6; omega), (fun d9 h9 => by rw [hfo_358] at h9; obtain rfl := Option.some.inj h9; exact hT0)⟩, by rw [ht]; exact hP, va_K.moved hW.alike hK, pl_in hD⟩, hS.F ht⟩) hS.2.2 dX12_takesPair_223
                  · skip
                    rw [← Int32.toInt_inj, ti_12] at c_350
                    refine lv_iload_n hx hb dX12_takesPair_206 rfl (lv_at hl 2 rfl) ?_
                    refine lv_iconst (v := 3) hx hb dX12_takesPair_207 (by decide) ?_
                    refine lv_icmp_eq (tgt := 217) hx hb dX12_takesPair_208 (by decide) (fun c_415 => ?_) (fun c_415 => ?_)
                    · skip
                      rw [← Int32.toInt_inj, ti_3] at c_415
                      refine lv_aload_n hx hb dX12_takesPair_217 rfl (lv_at hl 5 rfl) ?_
                      refine lv_iconst (v := 3) hx hb dX12_takesPair_218 (by decide) ?_
                      refine lv_iload_n hx hb dX12_takesPair_219 rfl (lv_at hl 4 rfl) ?_
                      refine tk_ViP (As := [.int 3, .int v_72]) (rest := []) (n := 2) hx hb hml hown hU hN hZ (s_X12_bad_k12 l (dC, dI) cI cL cZ cR cG cH Z kd L f_328 hG o0 mo0 ko0 3 v_72) wd_602 wd_603 wd_604 wd_5 wd_605 (by decide +kernel) ⟨Nat.le_of_ble_eq_true rfl, Nat.le_of_ble_eq_true rfl⟩ hK hP hD hS mo0 hfo_330 12 rfl rfl rfl hl.1 rfl (Nat.le_of_ble_eq_true rfl) dX12_takesPair_220 ⟨Nat.le_of_ble_eq_true rfl, Nat.le_of_ble_eq_true rfl⟩ (fun x_416 f_417 H locs hw hP hD hS => ?_)
                      obtain ⟨hG, bx_416, hkc_418, hra_419, hfa_420⟩ := hw
                      have hfo_422 : f_417 a_3 = .inl (cI, 1560, .inl g_188) := by rw [hkc_418 a_3 (by rw [ka_3]; decide)]; exact hfo_329
                      have hfr0 : ∀ b, kd b ≠ 12 → kd b ≠ 576 → f_417 b = f b := fun b q12 q576 => (hkc_418 b q12).trans (hfr0 b q12 q576)
                      have hrA12 : ∀ b, kd b = 12 → ∀ j, fldR (f_417 b) j = fldR (f b) j := fun b kb j => (hra_419 b kb j).trans (hrA12 b kb j)
                      have hfA12 : ∀ b, kd b = 12 → ∀ j, j ≠ 6 → j ≠ 7 → j ≠ 8 → j ≠ 11 → j ≠ 12 → j ≠ 13 → fldI (f_417 b) j = fldI (f b) j := fun b kb j n6 n7 n8 n11 n12 n13 => (hfa_420 b kb j n7 n8).trans (hfA12 b kb j n6 n7 n8 n11 n12 n13)
                      have hT0 : frel kd 576 8 f_417 a_3 := hT0.keep (fun b q => hkc_418 b (by rw [q]; decide))
                      obtain ⟨a_424, a_425, a_426, v_427, a_428, v_429, v_430, v_431, v_432, v_433, v_434, v_435, v_436, v_437, v_438, a_439, a_440, a_441, a_442, a_443, a_444, a_445, a_446, v_447, v_448, v_449, v_450, v_451, a_452, v_453, a_454, a_455, v_456, v_457, a_458, v_459, a_460, a_461, v_462, v_463, a_464, a_465, a_466, v_467, a_468, a_469, a_470, a_471, a_472, a_473, a_474, a_475, a_476, v_477, v_478, a_479, hfo_423, ⟨ma_424, ka_424⟩, ⟨ma_425, ka_425⟩, ⟨ma_426, ka_426⟩, bv_427, ⟨ma_428, ka_428⟩, bv_429, bv_430, bv_435, bv_436, bv_437, ⟨ma_439, ka_439⟩, ⟨ma_440, ka_440⟩, ⟨ma_441, ka_441⟩, ⟨ma_442, ka_442⟩, ⟨ma_443, ka_443⟩, ⟨ma_444, ka_444⟩, ⟨ma_445, ka_445⟩, ⟨ma_446, ka_446⟩, bv_447, bv_449, bv_451, ⟨ma_452, ka_452⟩, bv_453, ⟨ma_454, ka_454⟩, ⟨ma_455, ka_455⟩, bv_456, ⟨ma_458, ka_458⟩, bv_459, ⟨ma_460, ka_460⟩, ⟨ma_461, ka_461⟩, bv_462, ⟨ma_464, ka_464⟩, ⟨ma_465, ka_465⟩, ⟨ma_466, ka_466⟩, bv_467, ⟨ma_468, ka_468⟩, ⟨ma_469, ka_469⟩, ⟨ma_470, ka_470⟩, ⟨ma_471, ka_471⟩, ⟨ma_472, ka_472⟩, ⟨ma_473, ka_473⟩, ⟨ma_474, ka_474⟩, ⟨ma_475, ka_475⟩, ⟨ma_476, ka_476⟩, bv_477, ⟨ma_479, ka_479⟩⟩ := un_12 (hG _ mo0) ko0
                      have bv_431 : ((-2147483648) ≤ v_431.toInt ∧ v_431.toInt ≤ 2147483647) := ⟨i32_lo _, i32_hi _⟩
                      have bv_432 : ((-2147483648) ≤ v_432.toInt ∧ v_432.toInt ≤ 2147483647) := ⟨i32_lo _, i32_hi _⟩
                      have bv_433 : ((-2147483648) ≤ v_433.toInt ∧ v_433.toInt ≤ 2147483647) := ⟨i32_lo _, i32_hi _⟩
                      have bv_434 : ((-2147483648) ≤ v_434.toInt ∧ v_434.toInt ≤ 2147483647) := ⟨i32_lo _, i32_hi _⟩
                      have bv_438 : ((-2147483648) ≤ v_438.toInt ∧ v_438.toInt ≤ 2147483647) := ⟨i32_lo _, i32_hi _⟩
                      have bv_448 : ((-2147483648) ≤ v_448.toInt ∧ v_448.toInt ≤ 2147483647) := ⟨i32_lo _, i32_hi _⟩
                      have bv_450 : ((-2147483648) ≤ v_450.toInt ∧ v_450.toInt ≤ 2147483647) := ⟨i32_lo _, i32_hi _⟩
                      have bv_457 : ((-2147483648) ≤ v_457.toInt ∧ v_457.toInt ≤ 2147483647) := ⟨i32_lo _, i32_hi _⟩
                      have bv_463 : ((-2147483648) ≤ v_463.toInt ∧ v_463.toInt ≤ 2147483647) := ⟨i32_lo _, i32_hi _⟩
                      have bv_478 : ((-2147483648) ≤ v_478.toInt ∧ v_478.toInt ≤ 2147483647) := ⟨i32_lo _, i32_hi _⟩
                      obtain ⟨rfl, rfl, rfl, rfl, rfl, rfl, rfl, rfl, rfl, rfl, rfl, rfl, rfl, rfl, rfl, rfl, rfl, rfl, rfl, rfl, rfl, rfl, rfl, rfl, rfl, rfl, rfl, rfl, rfl, rfl, rfl⟩ := re_12 hfo_1 hfo_423 (hrA12 o0 ko0)
                      obtain rfl := ri_12_3 hfo_1 hfo_423 (hfA12 o0 ko0 3 (by decide) (by decide) (by decide) (by decide) (by decide) (by decide))
                      obtain rfl := ri_12_5 hfo_1 hfo_423 (hfA12 o0 ko0 5 (by decide) (by decide) (by decide) (by decide) (by decide) (by decide))
                      obtain rfl := ri_12_14 hfo_1 hfo_423 (hfA12 o0 ko0 14 (by decide) (by decide) (by decide) (by decide) (by decide) (by decide))
                      obtain rfl := ri_12_23 hfo_1 hfo_423 (hfA12 o0 ko0 23 (by decide) (by decide) (by decide) (by decide) (by decide) (by decide))
                      obtain rfl := ri_12_25 hfo_1 hfo_423 (hfA12 o0 ko0 25 (by decide) (by decide) (by decide) (by decide) (by decide) (by decide))
                      obtain rfl := ri_12_27 hfo_1 hfo_423 (hfA12 o0 ko0 27 (by decide) (by decide) (by decide) (by decide) (by decide) (by decide))
                      obtain rfl := ri_12_29 hfo_1 hfo_423 (hfA12 o0 ko0 29 (by decide) (by decide) (by decide) (by decide) (by decide) (by decide))
                      obtain rfl := ri_12_32 hfo_1 hfo_423 (hfA12 o0 ko0 32 (by decide) (by decide) (by decide) (by decide) (by decide) (by decide))
                      obtain rfl := ri_12_33 hfo_1 hfo_423 (hfA12 o0 ko0 33 (by decide) (by decide) (by decide) (by decide) (by decide) (by decide))
                      obtain rfl := ri_12_35 hfo_1 hfo_423 (hfA12 o0 ko0 35 (by decide) (by decide) (by decide) (by decide) (by decide) (by decide))
                      obtain rfl := ri_12_38 hfo_1 hfo_423 (hfA12 o0 ko0 38 (by decide) (by decide) (by decide) (by decide) (by decide) (by decide))
                      obtain rfl := ri_12_43 hfo_1 hfo_423 (hfA12 o0 ko0 43 (by decide) (by decide) (by decide) (by decide) (by decide) (by decide))
                      obtain rfl := ri_12_53 hfo_1 hfo_423 (hfA12 o0 ko0 53 (by decide) (by decide) (by decide) (by decide) (by decide) (by decide))
                      obtain rfl := ri_12_6 hfo_330 hfo_423 (hfa_420 o0 ko0 6 (by decide) (by decide))
                      obtain rfl := ri_12_11 hfo_330 hfo_423 (hfa_420 o0 ko0 11 (by decide) (by decide))
                      obtain rfl := ri_12_12 hfo_330 hfo_423 (hfa_420 o0 ko0 12 (by decide) (by decide))
                      obtain rfl := ri_12_13 hfo_330 hfo_423 (hfa_420 o0 ko0 13 (by decide) (by decide))
                      exact W.zret (v := x_416) (ty := .boolean) hx hb hr (zb_n (by constructor <;> omega)) (fun t ht hW => ⟨⟨x_416, f_417, rfl, ⟨hG, (by constructor <;> omega), hfr0, hrA12, hfA12, (by intro w6 z6 e6 d6; rw [hfo_1] at e6; rw [hfo_423] at d6; obtain rfl := Option.some.inj e6; obtain rfl := Option.some.inj d6; omega), (fun d9 h9 => by rw [hfo_423] at h9; obtain rfl := Option.some.inj h9; exact hT0)⟩, by rw [ht]; exact hP, va_K.moved hW.alike hK, pl_in hD⟩, hS.F ht⟩) hS.2.2 dX12_takesPair_223
                    · skip
                      rw [← Int32.toInt_inj, ti_3] at c_415
                      refine lv_iload hx hb dX12_takesPair_211 (lv_at hl 1 rfl) ?_
                      refine lv_iconst (v := 3) hx hb dX12_takesPair_213 (by decide) ?_
                      refine lv_icmp_ne (tgt := 224) hx hb dX12_takesPair_214 (by decide) (fun c_480 => ?_) (fun c_480 => ?_)
                      · skip
                        rw [← Int32.toInt_inj, ti_3] at c_480
                        have hu11 : cntU g_188 (g_188 16).toInt.toNat ≤ 11 := by have hq1 := hF0.2.1; have hkk : (y_345.toInt).toNat = (g_188 16).toInt.toNat := (by omega); rw [hkk] at hxu; omega
                        have hnrc_481 : (0 ≤ x_337.toInt ∧ x_337.toInt ≤ 19) := by have hq1 := hF0.1; constructor <;> omega
                        refine lv_aload_n hx hb dX12_takesPair_224 rfl (lv_at hl 5 rfl) ?_
                        refine tk_getP (D := (dC, dI)) (ci := 12) (v := .ref a_3) (C := RX12) (T := TX12) (N := 56) hx hb hU inlX12 hown hK hP mo0 hfo_330 rfl 1 (by decide) (hU _ wd_170) (fun _ h9 => h9) rfl dX12_takesPair_225 ?_
                        refine lv_bipush (v := 20) hx hb dX12_takesPair_228 (by decide) ?_
                        refine lv_aload_n hx hb dX12_takesPair_230 rfl (lv_at hl 5 rfl) ?_
                        refine tk_getP (D := (dC, dI)) (ci := 12) (v := .ref a_3) (C := RX12) (T := TX12) (N := 56) hx hb hU inlX12 hown hK hP mo0 hfo_330 rfl 1 (by decide) (hU _ wd_170) (fun _ h9 => h9) rfl dX12_takesPair_231 ?_
                        refine lv_bipush (v := 16) hx hb dX12_takesPair_234 (by decide) ?_
                        refine tk_ildP hx hb hK hP 0 ma_3 hfo_329 rfl (vp_in_nI (n := 16) (by decide) (by decide)) dX12_takesPair_236 ?_
                        refine tk_topi (y := x_337) ex_337.symm ?_
                        refine lv_iadd hx hb dX12_takesPair_237 ?_
                        refine lv_topi (fun x_482 ex_482 => ?_)
                        have hx_482 : x_482.toInt = 20 + x_337.toInt := by rw [ex_482, ad_I (by rw [ti_20]; omega) (by rw [ti_20]; omega), ti_20]
                        have bx_482 : (20 ≤ x_482.toInt ∧ x_482.toInt ≤ 39) := by constructor <;> omega
                        refine lv_bipush (v := 9) hx hb dX12_takesPair_238 (by decide) ?_
                        refine lv_aload_n hx hb dX12_takesPair_240 rfl (lv_at hl 5 rfl) ?_
                        refine tk_getP (D := (dC, dI)) (ci := 12) (v := .int v_142) (C := RX12) (T := TX12) (N := 56) hx hb hU inlX12 hown hK hP mo0 hfo_330 rfl 12 (by decide) (hU _ wd_618) (fun _ h9 => h9) rfl dX12_takesPair_241 ?_
                        refine lv_imul hx hb dX12_takesPair_244 ?_
                        refine lv_topi (fun x_483 ex_483 => ?_)
                        have hx_483 : x_483.toInt = 9 * v_142.toInt := by rw [ex_483, ml_I (by rw [ti_9]; omega) (by rw [ti_9]; omega), ti_9]
                        have bx_483 : (9 ≤ x_483.toInt ∧ x_483.toInt ≤ 72) := by constructor <;> omega
                        refine lv_aload_n hx hb dX12_takesPair_245 rfl (lv_at hl 5 rfl) ?_
                        refine tk_getP (D := (dC, dI)) (ci := 12) (v := .int v_281) (C := RX12) (T := TX12) (N := 56) hx hb hU inlX12 hown hK hP mo0 hfo_330 rfl 13 (by decide) (hU _ wd_619) (fun _ h9 => h9) rfl dX12_takesPair_246 ?_
                        refine lv_iadd hx hb dX12_takesPair_249 ?_
                        refine lv_topi (fun x_484 ex_484 => ?_)
                        have hx_484 : x_484.toInt = x_483.toInt + v_281.toInt := by rw [ex_484, ad_I (by omega) (by omega)]
                        have bx_484 : (9 ≤ x_484.toInt ∧ x_484.toInt ≤ 80) := by constructor <;> omega
                        refine tk_istP hx hb hK hP hD hS 0 ma_3 hfo_329 rfl (vp_in_iff.mpr (by constructor <;> omega)) dX12_takesPair_250 (fun H locs hP hD hS => ?_)
                        have hc9 := cl_I (i := x_482) (by omega)
                        obtain ⟨g_485, eqg_485⟩ : ∃ y : Nat → Int32, y = upd g_188 (Int32.toNatClampNeg x_482) x_484 := ⟨_, rfl⟩
                        rw [← eqg_485] at hP hD
                        have hbg_485 : wOK g_485 := by rw [eqg_485]; exact ⟨hbg_188.1.up (fun h1 h2 h3 => by exfalso; omega), hbg_188.2.1.up (fun h1 h2 h3 => by exfalso; omega), hbg_188.2.2.1.up (fun h1 h2 h3 => by exfalso; omega), hbg_188.2.2.2.1.up (fun h1 h2 h3 => by exfalso; omega), hbg_188.2.2.2.2.1.up (fun h1 h2 h3 => by exfalso; omega), hbg_188.2.2.2.2.2.1.up (fun h1 h2 h3 => by constructor <;> omega), hbg_188.2.2.2.2.2.2.1.up (fun h1 h2 h3 => by exfalso; omega), hbg_188.2.2.2.2.2.2.2.1.up (fun h1 h2 h3 => by exfalso; omega), hbg_188.2.2.2.2.2.2.2.2.1.up (fun h1 h2 h3 => by exfalso; omega), hbg_188.2.2.2.2.2.2.2.2.2.1.up (fun h1 h2 h3 => by exfalso; omega), hbg_188.2.2.2.2.2.2.2.2.2.2.1.up (fun h1 h2 h3 => by exfalso; omega), hbg_188.2.2.2.2.2.2.2.2.2.2.2.1.up (fun h1 h2 h3 => by exfalso; omega), hbg_188.2.2.2.2.2.2.2.2.2.2.2.2.1.up (fun h1 h2 h3 => by exfalso; omega), hbg_188.2.2.2.2.2.2.2.2.2.2.2.2.2.1.up (fun h1 h2 h3 => by exfalso; omega), hbg_188.2.2.2.2.2.2.2.2.2.2.2.2.2.2.1.up (fun h1 h2 h3 => by exfalso; omega), hbg_188.2.2.2.2.2.2.2.2.2.2.2.2.2.2.2.up (fun h1 h2 h3 => by exfalso; omega)⟩
                        obtain ⟨f_487, ef_487⟩ : ∃ y : Nat → va_E, y = va_up f_328 a_3 (.inl (cI, 1560, .inl g_485)) := ⟨_, rfl⟩
                        have hP : va_P (dC, dI) vwCl (va_pl L f_487) H := by rw [ef_487]; exact hP
                        have hD : va_D (fun q => q ∈ L) (va_pl L f_487) := by rw [ef_487]; exact hD
                        have hG : GI (okc cI cL cZ cR cG cH L kd) kd L f_487 := by rw [ef_487]; exact hG.set a_3 (mk_576 ka_3 ⟨_, rfl, hbg_485⟩)
                        have hfo_488 : f_487 o0 = .inr (12, [.ref a_2, .ref a_3, .ref a_4, .int v_5, .ref a_6, .int v_7, .int v_276, .int v_277, .int v_278, .int v_279, .int v_280, .int v_281, .int v_142, .int v_281, .int v_16, .ref a_17, .ref a_18, .ref a_19, .ref a_20, .ref a_21, .ref a_22, .ref a_23, .ref a_24, .int v_25, .int v_294, .int v_27, .int v_296, .int v_29, .ref a_30, .int v_31, .ref a_32, .ref a_33, .int v_34, .int v_35, .ref a_36, .int v_37, .ref a_38, .ref a_39, .int v_40, .int v_309, .ref a_42, .ref a_43, .ref a_44, .int v_45, .ref a_46, .ref a_47, .ref a_48, .ref a_49, .ref a_50, .ref a_51, .ref a_52, .ref a_53, .ref a_54, .int v_55, .int v_324, .ref a_57]) := by rw [ef_487, up_ne (kd_ne ka_3 ko0 (by decide))]; exact hfo_330
                        have hfr0 : ∀ b, kd b ≠ 12 → kd b ≠ 576 → f_487 b = f b := fun b q12 q576 => (congrFun ef_487 b).trans ((up_ne (fun e9 => q576 (by rw [e9]; exact ka_3))).trans (hfr0 b q12 q576))
                        have hrA12 : ∀ b, kd b = 12 → ∀ j, fldR (f_487 b) j = fldR (f b) j := fun b kb j => (congrArg (fun x => fldR x j) ((congrFun ef_487 b).trans (up_ne (kd_ne ka_3 kb (by decide))))).trans (hrA12 b kb j)
                        have hfA12 : ∀ b, kd b = 12 → ∀ j, j ≠ 6 → j ≠ 7 → j ≠ 8 → j ≠ 11 → j ≠ 12 → j ≠ 13 → fldI (f_487 b) j = fldI (f b) j := fun b kb j n6 n7 n8 n11 n12 n13 => (congrArg (fun x => fldI x j) ((congrFun ef_487 b).trans (up_ne (kd_ne ka_3 kb (by decide))))).trans (hfA12 b kb j n6 n7 n8 n11 n12 n13)
                        have hfo_489 : f_487 a_3 = .inl (cI, 1560, .inl g_485) := by rw [ef_487]; exact up_self
                        have ql_490 : x_337 = g_485 (Int32.toNatClampNeg 16) := by rw [eqg_485, pk_un (by have hc8 : Int32.toNatClampNeg 16 = 16 := rfl; omega)]; exact ex_337
                        have ql_491 : x_338 = g_485 (Int32.toNatClampNeg 0) := by rw [eqg_485, pk_un (by have hc8 : Int32.toNatClampNeg 0 = 0 := rfl; omega)]; exact ex_338
                        have ql_492 : x_484 = g_485 (Int32.toNatClampNeg x_482) := by rw [eqg_485, pk_us]
                        refine lv_aload_n hx hb dX12_takesPair_251 rfl (lv_at hl 5 rfl) ?_
                        refine tk_getP (D := (dC, dI)) (ci := 12) (v := .ref a_3) (C := RX12) (T := TX12) (N := 56) hx hb hU inlX12 hown hK hP mo0 hfo_488 rfl 1 (by decide) (hU _ wd_170) (fun _ h9 => h9) rfl dX12_takesPair_252 ?_
                        refine lv_bipush (v := 16) hx hb dX12_takesPair_255 (by decide) ?_
                        refine lv_dup2_11 hx hb dX12_takesPair_257 rfl rfl ?_
                        refine tk_ildP hx hb hK hP 0 ma_3 hfo_489 rfl (vp_in_nI (n := 16) (by decide) (by decide)) dX12_takesPair_258 ?_
                        refine tk_topi (y := x_337) ql_490.symm ?_
                        refine lv_iconst (v := 1) hx hb dX12_takesPair_259 (by decide) ?_
                        refine lv_iadd hx hb dX12_takesPair_260 ?_
                        refine lv_topi (fun x_493 ex_493 => ?_)
                        have hx_493 : x_493.toInt = x_337.toInt + 1 := by rw [ex_493, ad_I (by rw [ti_1]; omega) (by rw [ti_1]; omega), ti_1]
                        have bx_493 : (1 ≤ x_493.toInt ∧ x_493.toInt ≤ 20) := by constructor <;> omega
                        refine tk_istP hx hb hK hP hD hS 0 ma_3 hfo_489 rfl (vp_in_nI (n := 16) (by decide) (by decide)) dX12_takesPair_261 (fun H locs hP hD hS => ?_)
                        have hc9 : ((Int32.toNatClampNeg 16 : Nat) : Int) = 16 := by decide
                        obtain ⟨g_494, eqg_494⟩ : ∃ y : Nat → Int32, y = upd g_485 (Int32.toNatClampNeg 16) x_493 := ⟨_, rfl⟩
                        rw [← eqg_494] at hP hD
                        have hbg_494 : wOK g_494 := by rw [eqg_494]; exact ⟨hbg_485.1.up (fun h1 h2 h3 => by exfalso; omega), hbg_485.2.1.up (fun h1 h2 h3 => by constructor <;> omega), hbg_485.2.2.1.up (fun h1 h2 h3 => by exfalso; omega), hbg_485.2.2.2.1.up (fun h1 h2 h3 => by exfalso; omega), hbg_485.2.2.2.2.1.up (fun h1 h2 h3 => by exfalso; omega), hbg_485.2.2.2.2.2.1.up (fun h1 h2 h3 => by exfalso; omega), hbg_485.2.2.2.2.2.2.1.up (fun h1 h2 h3 => by exfalso; omega), hbg_485.2.2.2.2.2.2.2.1.up (fun h1 h2 h3 => by exfalso; omega), hbg_485.2.2.2.2.2.2.2.2.1.up (fun h1 h2 h3 => by exfalso; omega), hbg_485.2.2.2.2.2.2.2.2.2.1.up (fun h1 h2 h3 => by exfalso; omega), hbg_485.2.2.2.2.2.2.2.2.2.2.1.up (fun h1 h2 h3 => by exfalso; omega), hbg_485.2.2.2.2.2.2.2.2.2.2.2.1.up (fun h1 h2 h3 => by exfalso; omega), hbg_485.2.2.2.2.2.2.2.2.2.2.2.2.1.up (fun h1 h2 h3 => by exfalso; omega), hbg_485.2.2.2.2.2.2.2.2.2.2.2.2.2.1.up (fun h1 h2 h3 => by exfalso; omega), hbg_485.2.2.2.2.2.2.2.2.2.2.2.2.2.2.1.up (fun h1 h2 h3 => by exfalso; omega), hbg_485.2.2.2.2.2.2.2.2.2.2.2.2.2.2.2.up (fun h1 h2 h3 => by exfalso; omega)⟩
                        obtain ⟨f_496, ef_496⟩ : ∃ y : Nat → va_E, y = va_up f_487 a_3 (.inl (cI, 1560, .inl g_494)) := ⟨_, rfl⟩
                        have hP : va_P (dC, dI) vwCl (va_pl L f_496) H := by rw [ef_496]; exact hP
                        have hD : va_D (fun q => q ∈ L) (va_pl L f_496) := by rw [ef_496]; exact hD
                        have hG : GI (okc cI cL cZ cR cG cH L kd) kd L f_496 := by rw [ef_496]; exact hG.set a_3 (mk_576 ka_3 ⟨_, rfl, hbg_494⟩)
                        have hfo_497 : f_496 o0 = .inr (12, [.ref a_2, .ref a_3, .ref a_4, .int v_5, .ref a_6, .int v_7, .int v_276, .int v_277, .int v_278, .int v_279, .int v_280, .int v_281, .int v_142, .int v_281, .int v_16, .ref a_17, .ref a_18, .ref a_19, .ref a_20, .ref a_21, .ref a_22, .ref a_23, .ref a_24, .int v_25, .int v_294, .int v_27, .int v_296, .int v_29, .ref a_30, .int v_31, .ref a_32, .ref a_33, .int v_34, .int v_35, .ref a_36, .int v_37, .ref a_38, .ref a_39, .int v_40, .int v_309, .ref a_42, .ref a_43, .ref a_44, .int v_45, .ref a_46, .ref a_47, .ref a_48, .ref a_49, .ref a_50, .ref a_51, .ref a_52, .ref a_53, .ref a_54, .int v_55, .int v_324, .ref a_57]) := by rw [ef_496, up_ne (kd_ne ka_3 ko0 (by decide))]; exact hfo_488
                        have hfr0 : ∀ b, kd b ≠ 12 → kd b ≠ 576 → f_496 b = f b := fun b q12 q576 => (congrFun ef_496 b).trans ((up_ne (fun e9 => q576 (by rw [e9]; exact ka_3))).trans (hfr0 b q12 q576))
                        have hrA12 : ∀ b, kd b = 12 → ∀ j, fldR (f_496 b) j = fldR (f b) j := fun b kb j => (congrArg (fun x => fldR x j) ((congrFun ef_496 b).trans (up_ne (kd_ne ka_3 kb (by decide))))).trans (hrA12 b kb j)
                        have hfA12 : ∀ b, kd b = 12 → ∀ j, j ≠ 6 → j ≠ 7 → j ≠ 8 → j ≠ 11 → j ≠ 12 → j ≠ 13 → fldI (f_496 b) j = fldI (f b) j := fun b kb j n6 n7 n8 n11 n12 n13 => (congrArg (fun x => fldI x j) ((congrFun ef_496 b).trans (up_ne (kd_ne ka_3 kb (by decide))))).trans (hfA12 b kb j n6 n7 n8 n11 n12 n13)
                        have hfo_498 : f_496 a_3 = .inl (cI, 1560, .inl g_494) := by rw [ef_496]; exact up_self
                        have ql_499 : x_338 = g_494 (Int32.toNatClampNeg 0) := by rw [eqg_494, pk_un (by decide)]; exact ql_491
                        have ql_500 : x_493 = g_494 (Int32.toNatClampNeg 16) := by rw [eqg_494, pk_us]
                        have hF2 : fOK 8 g_494 := by have hi1 := cl_I (i := x_482) (by omega); have hz16 : Int32.toNatClampNeg 16 = 16 := rfl; have hds : v_142.toInt ≠ v_281.toInt := (hF0.ne (hhp.resolve_left (by omega)) (by omega) (by omega) (by omega)); exact hF0.pair (d := v_142.toInt) (s := v_281.toInt) (by rw [eqg_494, hz16, pk_us]; omega) (by omega) (by rw [eqg_494, pk_un (by omega), eqg_485, pk_un (by omega)]) hds (by constructor <;> omega) (by constructor <;> omega) hu11 (fun k9 h9 => by rw [eqg_494, pk_un (by omega), eqg_485, show 20 + k9 = Int32.toNatClampNeg x_482 by omega, pk_us]; omega) (fun k9 h9 => by rw [eqg_494, pk_un (by omega), eqg_485, pk_un (by omega)]) (by rw [eqg_494, pk_un (by omega), eqg_485, pk_un (by omega)])
                        have hTt_501 : frel kd 576 8 f_496 a_3 := frel.mk ka_3 hfo_498 hF2
                        refine lv_iconst (v := 1) hx hb dX12_takesPair_262 (by decide) ?_
                        exact W.zret (v := 1) (ty := .boolean) hx hb hr rfl (fun t ht hW => ⟨⟨1, f_496, rfl, ⟨hG, (by decide), hfr0, hrA12, hfA12, (by intro w6 z6 e6 d6; rw [hfo_1] at e6; rw [hfo_497] at d6; obtain rfl := Option.some.inj e6; obtain rfl := Option.some.inj d6; (try rw [ti_1]) <;> omega), (fun d9 h9 => by rw [hfo_497] at h9; obtain rfl := Option.some.inj h9; exact hTt_501)⟩, by rw [ht]; exact hP, va_K.moved hW.alike hK, pl_in hD⟩, hS.F ht⟩) hS.2.2 dX12_takesPair_263
                      · skip
                        rw [← Int32.toInt_inj, ti_3] at c_480
                        refine lv_aload_n hx hb dX12_takesPair_217 rfl (lv_at hl 5 rfl) ?_
                        refine lv_iconst (v := 3) hx hb dX12_takesPair_218 (by decide) ?_
                        refine lv_iload_n hx hb dX12_takesPair_219 rfl (lv_at hl 4 rfl) ?_
                        refine tk_ViP (As := [.int 3, .int v_72]) (rest := []) (n := 2) hx hb hml hown hU hN hZ (s_X12_bad_k12 l (dC, dI) cI cL cZ cR cG cH Z kd L f_328 hG o0 mo0 ko0 3 v_72) wd_602 wd_603 wd_604 wd_5 wd_605 (by decide +kernel) ⟨Nat.le_of_ble_eq_true rfl, Nat.le_of_ble_eq_true rfl⟩ hK hP hD hS mo0 hfo_330 12 rfl rfl rfl hl.1 rfl (Nat.le_of_ble_eq_true rfl) dX12_takesPair_220 ⟨Nat.le_of_ble_eq_true rfl, Nat.le_of_ble_eq_true rfl⟩ (fun x_502 f_503 H locs hw hP hD hS => ?_)
                        obtain ⟨hG, bx_502, hkc_504, hra_505, hfa_506⟩ := hw
                        have hfo_508 : f_503 a_3 = .inl (cI, 1560, .inl g_188) := by rw [hkc_504 a_3 (by rw [ka_3]; decide)]; exact hfo_329
                        have hfr0 : ∀ b, kd b ≠ 12 → kd b ≠ 576 → f_503 b = f b := fun b q12 q576 => (hkc_504 b q12).trans (hfr0 b q12 q576)
                        have hrA12 : ∀ b, kd b = 12 → ∀ j, fldR (f_503 b) j = fldR (f b) j := fun b kb j => (hra_505 b kb j).trans (hrA12 b kb j)
                        have hfA12 : ∀ b, kd b = 12 → ∀ j, j ≠ 6 → j ≠ 7 → j ≠ 8 → j ≠ 11 → j ≠ 12 → j ≠ 13 → fldI (f_503 b) j = fldI (f b) j := fun b kb j n6 n7 n8 n11 n12 n13 => (hfa_506 b kb j n7 n8).trans (hfA12 b kb j n6 n7 n8 n11 n12 n13)
                        have hT0 : frel kd 576 8 f_503 a_3 := hT0.keep (fun b q => hkc_504 b (by rw [q]; decide))
                        obtain ⟨a_510, a_511, a_512, v_513, a_514, v_515, v_516, v_517, v_518, v_519, v_520, v_521, v_522, v_523, v_524, a_525, a_526, a_527, a_528, a_529, a_530, a_531, a_532, v_533, v_534, v_535, v_536, v_537, a_538, v_539, a_540, a_541, v_542, v_543, a_544, v_545, a_546, a_547, v_548, v_549, a_550, a_551, a_552, v_553, a_554, a_555, a_556, a_557, a_558, a_559, a_560, a_561, a_562, v_563, v_564, a_565, hfo_509, ⟨ma_510, ka_510⟩, ⟨ma_511, ka_511⟩, ⟨ma_512, ka_512⟩, bv_513, ⟨ma_514, ka_514⟩, bv_515, bv_516, bv_521, bv_522, bv_523, ⟨ma_525, ka_525⟩, ⟨ma_526, ka_526⟩, ⟨ma_527, ka_527⟩, ⟨ma_528, ka_528⟩, ⟨ma_529, ka_529⟩, ⟨ma_530, ka_530⟩, ⟨ma_531, ka_531⟩, ⟨ma_532, ka_532⟩, bv_533, bv_535, bv_537, ⟨ma_538, ka_538⟩, bv_539, ⟨ma_540, ka_540⟩, ⟨ma_541, ka_541⟩, bv_542, ⟨ma_544, ka_544⟩, bv_545, ⟨ma_546, ka_546⟩, ⟨ma_547, ka_547⟩, bv_548, ⟨ma_550, ka_550⟩, ⟨ma_551, ka_551⟩, ⟨ma_552, ka_552⟩, bv_553, ⟨ma_554, ka_554⟩, ⟨ma_555, ka_555⟩, ⟨ma_556, ka_556⟩, ⟨ma_557, ka_557⟩, ⟨ma_558, ka_558⟩, ⟨ma_559, ka_559⟩, ⟨ma_560, ka_560⟩, ⟨ma_561, ka_561⟩, ⟨ma_562, ka_562⟩, bv_563, ⟨ma_565, ka_565⟩⟩ := un_12 (hG _ mo0) ko0
                        have bv_517 : ((-2147483648) ≤ v_517.toInt ∧ v_517.toInt ≤ 2147483647) := ⟨i32_lo _, i32_hi _⟩
                        have bv_518 : ((-2147483648) ≤ v_518.toInt ∧ v_518.toInt ≤ 2147483647) := ⟨i32_lo _, i32_hi _⟩
                        have bv_519 : ((-2147483648) ≤ v_519.toInt ∧ v_519.toInt ≤ 2147483647) := ⟨i32_lo _, i32_hi _⟩
                        have bv_520 : ((-2147483648) ≤ v_520.toInt ∧ v_520.toInt ≤ 2147483647) := ⟨i32_lo _, i32_hi _⟩
                        have bv_524 : ((-2147483648) ≤ v_524.toInt ∧ v_524.toInt ≤ 2147483647) := ⟨i32_lo _, i32_hi _⟩
                        have bv_534 : ((-2147483648) ≤ v_534.toInt ∧ v_534.toInt ≤ 2147483647) := ⟨i32_lo _, i32_hi _⟩
                        have bv_536 : ((-2147483648) ≤ v_536.toInt ∧ v_536.toInt ≤ 2147483647) := ⟨i32_lo _, i32_hi _⟩
                        have bv_543 : ((-2147483648) ≤ v_543.toInt ∧ v_543.toInt ≤ 2147483647) := ⟨i32_lo _, i32_hi _⟩
                        have bv_549 : ((-2147483648) ≤ v_549.toInt ∧ v_549.toInt ≤ 2147483647) := ⟨i32_lo _, i32_hi _⟩
                        have bv_564 : ((-2147483648) ≤ v_564.toInt ∧ v_564.toInt ≤ 2147483647) := ⟨i32_lo _, i32_hi _⟩
                        obtain ⟨rfl, rfl, rfl, rfl, rfl, rfl, rfl, rfl, rfl, rfl, rfl, rfl, rfl, rfl, rfl, rfl, rfl, rfl, rfl, rfl, rfl, rfl, rfl, rfl, rfl, rfl, rfl, rfl, rfl, rfl, rfl⟩ := re_12 hfo_1 hfo_509 (hrA12 o0 ko0)
                        obtain rfl := ri_12_3 hfo_1 hfo_509 (hfA12 o0 ko0 3 (by decide) (by decide) (by decide) (by decide) (by decide) (by decide))
                        obtain rfl := ri_12_5 hfo_1 hfo_509 (hfA12 o0 ko0 5 (by decide) (by decide) (by decide) (by decide) (by decide) (by decide))
                        obtain rfl := ri_12_14 hfo_1 hfo_509 (hfA12 o0 ko0 14 (by decide) (by decide) (by decide) (by decide) (by decide) (by decide))
                        obtain rfl := ri_12_23 hfo_1 hfo_509 (hfA12 o0 ko0 23 (by decide) (by decide) (by decide) (by decide) (by decide) (by decide))
                        obtain rfl := ri_12_25 hfo_1 hfo_509 (hfA12 o0 ko0 25 (by decide) (by decide) (by decide) (by decide) (by decide) (by decide))
                        obtain rfl := ri_12_27 hfo_1 hfo_509 (hfA12 o0 ko0 27 (by decide) (by decide) (by decide) (by decide) (by decide) (by decide))
                        obtain rfl := ri_12_29 hfo_1 hfo_509 (hfA12 o0 ko0 29 (by decide) (by decide) (by decide) (by decide) (by decide) (by decide))
                        obtain rfl := ri_12_32 hfo_1 hfo_509 (hfA12 o0 ko0 32 (by decide) (by decide) (by decide) (by decide) (by decide) (by decide))
                        obtain rfl := ri_12_33 hfo_1 hfo_509 (hfA12 o0 ko0 33 (by decide) (by decide) (by decide) (by decide) (by decide) (by decide))
                        obtain rfl := ri_12_35 hfo_1 hfo_509 (hfA12 o0 ko0 35 (by decide) (by decide) (by decide) (by decide) (by decide) (by decide))
                        obtain rfl := ri_12_38 hfo_1 hfo_509 (hfA12 o0 ko0 38 (by decide) (by decide) (by decide) (by decide) (by decide) (by decide))
                        obtain rfl := ri_12_43 hfo_1 hfo_509 (hfA12 o0 ko0 43 (by decide) (by decide) (by decide) (by decide) (by decide) (by decide))
                        obtain rfl := ri_12_53 hfo_1 hfo_509 (hfA12 o0 ko0 53 (by decide) (by decide) (by decide) (by decide) (by decide) (by decide))
                        obtain rfl := ri_12_6 hfo_330 hfo_509 (hfa_506 o0 ko0 6 (by decide) (by decide))
                        obtain rfl := ri_12_11 hfo_330 hfo_509 (hfa_506 o0 ko0 11 (by decide) (by decide))
                        obtain rfl := ri_12_12 hfo_330 hfo_509 (hfa_506 o0 ko0 12 (by decide) (by decide))
                        obtain rfl := ri_12_13 hfo_330 hfo_509 (hfa_506 o0 ko0 13 (by decide) (by decide))
                        exact W.zret (v := x_502) (ty := .boolean) hx hb hr (zb_n (by constructor <;> omega)) (fun t ht hW => ⟨⟨x_502, f_503, rfl, ⟨hG, (by constructor <;> omega), hfr0, hrA12, hfA12, (by intro w6 z6 e6 d6; rw [hfo_1] at e6; rw [hfo_509] at d6; obtain rfl := Option.some.inj e6; obtain rfl := Option.some.inj d6; omega), (fun d9 h9 => by rw [hfo_509] at h9; obtain rfl := Option.some.inj h9; exact hT0)⟩, by rw [ht]; exact hP, va_K.moved hW.alike hK, pl_in hD⟩, hS.F ht⟩) hS.2.2 dX12_takesPair_223
                · skip
                  rw [Int32.le_iff_toInt_le] at c_349
                  refine lv_aload_n hx hb dX12_takesPair_115 rfl (lv_at hl 5 rfl) ?_
                  refine tk_getP (D := (dC, dI)) (ci := 12) (v := .ref a_3) (C := RX12) (T := TX12) (N := 56) hx hb hU inlX12 hown hK hP mo0 hfo_330 rfl 1 (by decide) (hU _ wd_170) (fun _ h9 => h9) rfl dX12_takesPair_116 ?_
                  refine lv_bipush (v := 20) hx hb dX12_takesPair_119 (by decide) ?_
                  refine lv_iload hx hb dX12_takesPair_121 (lv_at hl 0 rfl) ?_
                  refine lv_iadd hx hb dX12_takesPair_123 ?_
                  refine lv_topi (fun x_566 ex_566 => ?_)
                  have hx_566 : x_566.toInt = 20 + y_345.toInt := by rw [ex_566, ad_I (by rw [ti_20]; omega) (by rw [ti_20]; omega), ti_20]
                  have bx_566 : (20 ≤ x_566.toInt ∧ x_566.toInt ≤ 39) := by constructor <;> omega
                  refine tk_ildP hx hb hK hP 0 ma_3 hfo_329 rfl (vp_in_iff.mpr (by constructor <;> omega)) dX12_takesPair_124 ?_
                  refine lv_topi (fun x_567 ex_567 => ?_)
                  have bx_567 : (0 ≤ x_567.toInt ∧ x_567.toInt ≤ 80) := by have hc9 := cl_I (i := x_566) (by omega); rw [ex_567]; exact hbg_188.2.2.2.2.2.1 _ (by omega) (by omega) (by omega)
                  refine lv_bipush (v := 9) hx hb dX12_takesPair_125 (by decide) ?_
                  refine lv_idiv hx hb dX12_takesPair_127 (by decide) ?_
                  refine lv_topi (fun x_568 ex_568 => ?_)
                  have hx_568 : x_568.toInt = x_567.toInt / 9 := by rw [ex_568, dv_I (by omega) (by rw [ti_9]; omega), ti_9]
                  have bx_568 : (0 ≤ x_568.toInt ∧ x_568.toInt ≤ 8) := by constructor <;> omega
                  refine lv_istore (lv' := [(6, .int x_568), (5, .int y_345), (4, .int y_346), (3, .int y_347), (2, .int y_348), (1, .int v_72), (0, .ref o0)]) hx hb dX12_takesPair_128 hl (by decide) rfl (fun ls hl => ?_)
                  refine lv_aload_n hx hb dX12_takesPair_130 rfl (lv_at hl 6 rfl) ?_
                  refine tk_getP (D := (dC, dI)) (ci := 12) (v := .ref a_3) (C := RX12) (T := TX12) (N := 56) hx hb hU inlX12 hown hK hP mo0 hfo_330 rfl 1 (by decide) (hU _ wd_170) (fun _ h9 => h9) rfl dX12_takesPair_131 ?_
                  refine lv_bipush (v := 20) hx hb dX12_takesPair_134 (by decide) ?_
                  refine lv_iload hx hb dX12_takesPair_136 (lv_at hl 1 rfl) ?_
                  refine lv_iadd hx hb dX12_takesPair_138 ?_
                  refine lv_topi (fun x_569 ex_569 => ?_)
                  have hx_569 : x_569.toInt = 20 + y_345.toInt := by rw [ex_569, ad_I (by rw [ti_20]; omega) (by rw [ti_20]; omega), ti_20]
                  have bx_569 : (20 ≤ x_569.toInt ∧ x_569.toInt ≤ 39) := by constructor <;> omega
                  refine tk_ildP hx hb hK hP 0 ma_3 hfo_329 rfl (vp_in_iff.mpr (by constructor <;> omega)) dX12_takesPair_139 ?_
                  refine lv_topi (fun x_570 ex_570 => ?_)
                  have bx_570 : (0 ≤ x_570.toInt ∧ x_570.toInt ≤ 80) := by have hc9 := cl_I (i := x_569) (by omega); rw [ex_570]; exact hbg_188.2.2.2.2.2.1 _ (by omega) (by omega) (by omega)
                  refine lv_bipush (v := 9) hx hb dX12_takesPair_140 (by decide) ?_
                  refine lv_irem hx hb dX12_takesPair_142 (by decide) ?_
                  refine lv_topi (fun x_571 ex_571 => ?_)
                  have hx_571 : x_571.toInt = x_570.toInt % 9 := by rw [ex_571, rm_I (by omega) (by rw [ti_9]; omega), ti_9]
                  have bx_571 : (0 ≤ x_571.toInt ∧ x_571.toInt ≤ 8) := by constructor <;> omega
                  refine lv_istore (lv' := [(7, .int x_571), (6, .int x_568), (5, .int y_345), (4, .int y_346), (3, .int y_347), (2, .int y_348), (1, .int v_72), (0, .ref o0)]) hx hb dX12_takesPair_143 hl (by decide) rfl (fun ls hl => ?_)
                  refine lv_iload hx hb dX12_takesPair_145 (lv_at hl 1 rfl) ?_
                  refine lv_iload hx hb dX12_takesPair_147 (lv_at hl 0 rfl) ?_
                  refine lv_icmp_ne (tgt := 155) hx hb dX12_takesPair_149 (by decide) (fun c_572 => ?_) (fun c_572 => ?_)
                  · skip
                    rw [← Int32.toInt_inj] at c_572
                    obtain ⟨x_573, ex_573⟩ : ∃ y : Int32, y_348 + 1 = y := ⟨_, rfl⟩
                    have hx_573 : x_573.toInt = y_348.toInt + 1 := by rw [← ex_573, ad_I (by rw [ti_1]; omega) (by rw [ti_1]; omega), ti_1]
                    have bx_573 : (1 ≤ x_573.toInt ∧ x_573.toInt ≤ 21) := by constructor <;> omega
                    refine lv_iinc (v := x_573) (lv' := [(2, .int x_573), (7, .int x_571), (6, .int x_568), (5, .int y_345), (4, .int y_346), (3, .int y_347), (1, .int v_72), (0, .ref o0)]) hx hb dX12_takesPair_155 hl (k := 5) rfl ex_573 (by decide) rfl (fun ls hl => ?_)
                    refine lv_iload_n hx hb dX12_takesPair_158 rfl (lv_at hl 5 rfl) ?_
                    refine lv_iload hx hb dX12_takesPair_159 (lv_at hl 2 rfl) ?_
                    refine lv_aload_n hx hb dX12_takesPair_161 rfl (lv_at hl 7 rfl) ?_
                    refine tk_getP (D := (dC, dI)) (ci := 12) (v := .int v_142) (C := RX12) (T := TX12) (N := 56) hx hb hU inlX12 hown hK hP mo0 hfo_330 rfl 12 (by decide) (hU _ wd_618) (fun _ h9 => h9) rfl dX12_takesPair_162 ?_
                    refine lv_icmp_ne (tgt := 172) hx hb dX12_takesPair_165 (by decide) (fun c_574 => ?_) (fun c_574 => ?_)
                    · skip
                      rw [← Int32.toInt_inj] at c_574
                      refine lv_iconst (v := 0) hx hb dX12_takesPair_172 (by decide) ?_
                      refine lv_iadd hx hb dX12_takesPair_173 ?_
                      refine lv_topi (fun x_575 ex_575 => ?_)
                      have hx_575 : x_575.toInt = y_347.toInt + 0 := by rw [ex_575, ad_I (by rw [ti_0]; omega) (by rw [ti_0]; omega), ti_0]
                      have bx_575 : (0 ≤ x_575.toInt ∧ x_575.toInt ≤ 20) := by constructor <;> omega
                      refine lv_istore_n (lv' := [(3, .int x_575), (2, .int x_573), (7, .int x_571), (6, .int x_568), (5, .int y_345), (4, .int y_346), (1, .int v_72), (0, .ref o0)]) hx hb dX12_takesPair_174 rfl hl (by decide) rfl (fun ls hl => ?_)
                      refine lv_iload hx hb dX12_takesPair_175 (lv_at hl 5 rfl) ?_
                      refine lv_iload hx hb dX12_takesPair_177 (lv_at hl 2 rfl) ?_
                      refine lv_aload_n hx hb dX12_takesPair_179 rfl (lv_at hl 7 rfl) ?_
                      refine tk_getP (D := (dC, dI)) (ci := 12) (v := .int v_281) (C := RX12) (T := TX12) (N := 56) hx hb hU inlX12 hown hK hP mo0 hfo_330 rfl 13 (by decide) (hU _ wd_619) (fun _ h9 => h9) rfl dX12_takesPair_180 ?_
                      refine lv_icmp_ne (tgt := 190) hx hb dX12_takesPair_183 (by decide) (fun c_576 => ?_) (fun c_576 => ?_)
                      · skip
                        rw [← Int32.toInt_inj] at c_576
                        refine lv_iconst (v := 0) hx hb dX12_takesPair_190 (by decide) ?_
                        refine lv_iadd hx hb dX12_takesPair_191 ?_
                        refine lv_topi (fun x_577 ex_577 => ?_)
                        have hx_577 : x_577.toInt = y_346.toInt + 0 := by rw [ex_577, ad_I (by rw [ti_0]; omega) (by rw [ti_0]; omega), ti_0]
                        have bx_577 : (0 ≤ x_577.toInt ∧ x_577.toInt ≤ 20) := by constructor <;> omega
                        refine lv_istore (lv' := [(4, .int x_577), (3, .int x_575), (2, .int x_573), (7, .int x_571), (6, .int x_568), (5, .int y_345), (1, .int v_72), (0, .ref o0)]) hx hb dX12_takesPair_192 hl (by decide) rfl (fun ls hl => ?_)
                        obtain ⟨x_578, ex_578⟩ : ∃ y : Int32, y_345 + 1 = y := ⟨_, rfl⟩
                        have hx_578 : x_578.toInt = y_345.toInt + 1 := by rw [← ex_578, ad_I (by rw [ti_1]; omega) (by rw [ti_1]; omega), ti_1]
                        have bx_578 : (1 ≤ x_578.toInt ∧ x_578.toInt ≤ 20) := by constructor <;> omega
                        refine lv_iinc (v := x_578) (lv' := [(5, .int x_578), (4, .int x_577), (3, .int x_575), (2, .int x_573), (7, .int x_571), (6, .int x_568), (1, .int v_72), (0, .ref o0)]) hx hb dX12_takesPair_194 hl (k := 5) rfl ex_578 (by decide) rfl (fun ls hl => ?_)
                        refine lv_goto (tgt := 103) hx hb dX12_takesPair_197 (by decide) ?_
                        exact ih_hloop_344 x_578 (by constructor <;> omega) x_577 (by constructor <;> omega) x_575 (by constructor <;> omega) x_573 (by constructor <;> omega) (by omega) (by have hc9 := cl_I (i := x_566) (by omega); have hn9 : (x_578.toInt).toNat = (y_345.toInt).toNat + 1 := (by omega); have hg9 : g_188 (20 + (y_345.toInt).toNat) = x_567 := (by rw [ex_567]; congr 1; omega); rw [hn9, cntU_ne (by rw [hg9]; omega)]; omega) (by omega) ls (lv_sub hl [0, 1, 2, 3, 6, 7] rfl)
                      · skip
                        rw [← Int32.toInt_inj] at c_576
                        refine lv_iconst (v := 1) hx hb dX12_takesPair_186 (by decide) ?_
                        refine lv_goto (tgt := 191) hx hb dX12_takesPair_187 (by decide) ?_
                        refine lv_iadd hx hb dX12_takesPair_191 ?_
                        refine lv_topi (fun x_579 ex_579 => ?_)
                        have hx_579 : x_579.toInt = y_346.toInt + 1 := by rw [ex_579, ad_I (by rw [ti_1]; omega) (by rw [ti_1]; omega), ti_1]
                        have bx_579 : (1 ≤ x_579.toInt ∧ x_579.toInt ≤ 21) := by constructor <;> omega
                        refine lv_istore (lv' := [(4, .int x_579), (3, .int x_575), (2, .int x_573), (7, .int x_571), (6, .int x_568), (5, .int y_345), (1, .int v_72), (0, .ref o0)]) hx hb dX12_takesPair_192 hl (by decide) rfl (fun ls hl => ?_)
                        obtain ⟨x_580, ex_580⟩ : ∃ y : Int32, y_345 + 1 = y := ⟨_, rfl⟩
                        have hx_580 : x_580.toInt = y_345.toInt + 1 := by rw [← ex_580, ad_I (by rw [ti_1]; omega) (by rw [ti_1]; omega), ti_1]
                        have bx_580 : (1 ≤ x_580.toInt ∧ x_580.toInt ≤ 20) := by constructor <;> omega
                        refine lv_iinc (v := x_580) (lv' := [(5, .int x_580), (4, .int x_579), (3, .int x_575), (2, .int x_573), (7, .int x_571), (6, .int x_568), (1, .int v_72), (0, .ref o0)]) hx hb dX12_takesPair_194 hl (k := 5) rfl ex_580 (by decide) rfl (fun ls hl => ?_)
                        refine lv_goto (tgt := 103) hx hb dX12_takesPair_197 (by decide) ?_
                        exact ih_hloop_344 x_580 (by constructor <;> omega) x_579 (by constructor <;> omega) x_575 (by constructor <;> omega) x_573 (by constructor <;> omega) (by omega) (by have hc9 := cl_I (i := x_566) (by omega); have hn9 : (x_580.toInt).toNat = (y_345.toInt).toNat + 1 := (by omega); have hg9 : g_188 (20 + (y_345.toInt).toNat) = x_567 := (by rw [ex_567]; congr 1; omega); rw [hn9, cntU_ne (by rw [hg9]; omega)]; omega) (by omega) ls (lv_sub hl [0, 1, 2, 3, 6, 7] rfl)
                    · skip
                      rw [← Int32.toInt_inj] at c_574
                      refine lv_iconst (v := 1) hx hb dX12_takesPair_168 (by decide) ?_
                      refine lv_goto (tgt := 173) hx hb dX12_takesPair_169 (by decide) ?_
                      refine lv_iadd hx hb dX12_takesPair_173 ?_
                      refine lv_topi (fun x_581 ex_581 => ?_)
                      have hx_581 : x_581.toInt = y_347.toInt + 1 := by rw [ex_581, ad_I (by rw [ti_1]; omega) (by rw [ti_1]; omega), ti_1]
                      have bx_581 : (1 ≤ x_581.toInt ∧ x_581.toInt ≤ 21) := by constructor <;> omega
                      refine lv_istore_n (lv' := [(3, .int x_581), (2, .int x_573), (7, .int x_571), (6, .int x_568), (5, .int y_345), (4, .int y_346), (1, .int v_72), (0, .ref o0)]) hx hb dX12_takesPair_174 rfl hl (by decide) rfl (fun ls hl => ?_)
                      refine lv_iload hx hb dX12_takesPair_175 (lv_at hl 5 rfl) ?_
                      refine lv_iload hx hb dX12_takesPair_177 (lv_at hl 2 rfl) ?_
                      refine lv_aload_n hx hb dX12_takesPair_179 rfl (lv_at hl 7 rfl) ?_
                      refine tk_getP (D := (dC, dI)) (ci := 12) (v := .int v_281) (C := RX12) (T := TX12) (N := 56) hx hb hU inlX12 hown hK hP mo0 hfo_330 rfl 13 (by decide) (hU _ wd_619) (fun _ h9 => h9) rfl dX12_takesPair_180 ?_
                      refine lv_icmp_ne (tgt := 190) hx hb dX12_takesPair_183 (by decide) (fun c_582 => ?_) (fun c_582 => ?_)
                      · skip
                        rw [← Int32.toInt_inj] at c_582
                        refine lv_iconst (v := 0) hx hb dX12_takesPair_190 (by decide) ?_
                        refine lv_iadd hx hb dX12_takesPair_191 ?_
                        refine lv_topi (fun x_583 ex_583 => ?_)
                        have hx_583 : x_583.toInt = y_346.toInt + 0 := by rw [ex_583, ad_I (by rw [ti_0]; omega) (by rw [ti_0]; omega), ti_0]
                        have bx_583 : (0 ≤ x_583.toInt ∧ x_583.toInt ≤ 20) := by constructor <;> omega
                        refine lv_istore (lv' := [(4, .int x_583), (3, .int x_581), (2, .int x_573), (7, .int x_571), (6, .int x_568), (5, .int y_345), (1, .int v_72), (0, .ref o0)]) hx hb dX12_takesPair_192 hl (by decide) rfl (fun ls hl => ?_)
                        obtain ⟨x_584, ex_584⟩ : ∃ y : Int32, y_345 + 1 = y := ⟨_, rfl⟩
                        have hx_584 : x_584.toInt = y_345.toInt + 1 := by rw [← ex_584, ad_I (by rw [ti_1]; omega) (by rw [ti_1]; omega), ti_1]
                        have bx_584 : (1 ≤ x_584.toInt ∧ x_584.toInt ≤ 20) := by constructor <;> omega
                        refine lv_iinc (v := x_584) (lv' := [(5, .int x_584), (4, .int x_583), (3, .int x_581), (2, .int x_573), (7, .int x_571), (6, .int x_568), (1, .int v_72), (0, .ref o0)]) hx hb dX12_takesPair_194 hl (k := 5) rfl ex_584 (by decide) rfl (fun ls hl => ?_)
                        refine lv_goto (tgt := 103) hx hb dX12_takesPair_197 (by decide) ?_
                        exact ih_hloop_344 x_584 (by constructor <;> omega) x_583 (by constructor <;> omega) x_581 (by constructor <;> omega) x_573 (by constructor <;> omega) (by omega) (by have hc9 := cl_I (i := x_566) (by omega); have hn9 : (x_584.toInt).toNat = (y_345.toInt).toNat + 1 := (by omega); have hg9 : g_188 (20 + (y_345.toInt).toNat) = x_567 := (by rw [ex_567]; congr 1; omega); rw [hn9, cntU_ne (by rw [hg9]; omega)]; omega) (by omega) ls (lv_sub hl [0, 1, 2, 3, 6, 7] rfl)
                      · skip
                        rw [← Int32.toInt_inj] at c_582
                        refine lv_iconst (v := 1) hx hb dX12_takesPair_186 (by decide) ?_
                        refine lv_goto (tgt := 191) hx hb dX12_takesPair_187 (by decide) ?_
                        refine lv_iadd hx hb dX12_takesPair_191 ?_
                        refine lv_topi (fun x_585 ex_585 => ?_)
                        have hx_585 : x_585.toInt = y_346.toInt + 1 := by rw [ex_585, ad_I (by rw [ti_1]; omega) (by rw [ti_1]; omega), ti_1]
                        have bx_585 : (1 ≤ x_585.toInt ∧ x_585.toInt ≤ 21) := by constructor <;> omega
                        refine lv_istore (lv' := [(4, .int x_585), (3, .int x_581), (2, .int x_573), (7, .int x_571), (6, .int x_568), (5, .int y_345), (1, .int v_72), (0, .ref o0)]) hx hb dX12_takesPair_192 hl (by decide) rfl (fun ls hl => ?_)
                        obtain ⟨x_586, ex_586⟩ : ∃ y : Int32, y_345 + 1 = y := ⟨_, rfl⟩
                        have hx_586 : x_586.toInt = y_345.toInt + 1 := by rw [← ex_586, ad_I (by rw [ti_1]; omega) (by rw [ti_1]; omega), ti_1]
                        have bx_586 : (1 ≤ x_586.toInt ∧ x_586.toInt ≤ 20) := by constructor <;> omega
                        refine lv_iinc (v := x_586) (lv' := [(5, .int x_586), (4, .int x_585), (3, .int x_581), (2, .int x_573), (7, .int x_571), (6, .int x_568), (1, .int v_72), (0, .ref o0)]) hx hb dX12_takesPair_194 hl (k := 5) rfl ex_586 (by decide) rfl (fun ls hl => ?_)
                        refine lv_goto (tgt := 103) hx hb dX12_takesPair_197 (by decide) ?_
                        exact ih_hloop_344 x_586 (by constructor <;> omega) x_585 (by constructor <;> omega) x_581 (by constructor <;> omega) x_573 (by constructor <;> omega) (by omega) (by have hc9 := cl_I (i := x_566) (by omega); have hn9 : (x_586.toInt).toNat = (y_345.toInt).toNat + 1 := (by omega); have hg9 : g_188 (20 + (y_345.toInt).toNat) = x_567 := (by rw [ex_567]; congr 1; omega); rw [hn9, cntU_ne (by rw [hg9]; omega)]; omega) (by omega) ls (lv_sub hl [0, 1, 2, 3, 6, 7] rfl)
                  · skip
                    rw [← Int32.toInt_inj] at c_572
                    refine lv_goto (tgt := 194) hx hb dX12_takesPair_152 (by decide) ?_
                    obtain ⟨x_587, ex_587⟩ : ∃ y : Int32, y_345 + 1 = y := ⟨_, rfl⟩
                    have hx_587 : x_587.toInt = y_345.toInt + 1 := by rw [← ex_587, ad_I (by rw [ti_1]; omega) (by rw [ti_1]; omega), ti_1]
                    have bx_587 : (1 ≤ x_587.toInt ∧ x_587.toInt ≤ 20) := by constructor <;> omega
                    refine lv_iinc (v := x_587) (lv' := [(5, .int x_587), (7, .int x_571), (6, .int x_568), (4, .int y_346), (3, .int y_347), (2, .int y_348), (1, .int v_72), (0, .ref o0)]) hx hb dX12_takesPair_194 hl (k := 2) rfl ex_587 (by decide) rfl (fun ls hl => ?_)
                    refine lv_goto (tgt := 103) hx hb dX12_takesPair_197 (by decide) ?_
                    exact ih_hloop_344 x_587 (by constructor <;> omega) y_346 (by constructor <;> omega) y_347 (by constructor <;> omega) y_348 (by constructor <;> omega) (by omega) (by have hc9 := cl_I (i := x_566) (by omega); have hn9 : (x_587.toInt).toNat = (y_345.toInt).toNat + 1 := (by omega); have hg9 : g_188 (20 + (y_345.toInt).toNat) = x_567 := (by rw [ex_567]; congr 1; omega); rw [hn9, cntU_eq (by rw [hg9]; omega)]; omega) (by omega) ls (lv_sub hl [0, 3, 4, 5, 6, 7] rfl)
            exact hloop_344 21 0 (by decide) 0 (by decide) 0 (by decide) 0 (by decide) (by (try rw [ti_0]) <;> omega) (by have h3 : ((0 : Int32)).toInt = 0 := rfl; rw [h3]; rfl) (by (try rw [ti_0]) <;> omega) ls hl
          · skip
            rw [← Int32.toInt_inj, ti_0] at c_336
            refine lv_iconst (v := 1) hx hb dX12_takesPair_91 (by decide) ?_
            exact W.zret (v := 1) (ty := .boolean) hx hb hr rfl (fun t ht hW => ⟨⟨1, f_328, rfl, ⟨hG, (by decide), hfr0, hrA12, hfA12, (by intro w6 z6 e6 d6; rw [hfo_1] at e6; rw [hfo_330] at d6; obtain rfl := Option.some.inj e6; obtain rfl := Option.some.inj d6; (try rw [ti_1]) <;> omega), (fun d9 h9 => by rw [hfo_330] at h9; obtain rfl := Option.some.inj h9; exact hT0)⟩, by rw [ht]; exact hP, va_K.moved hW.alike hK, pl_in hD⟩, hS.F ht⟩) hS.2.2 dX12_takesPair_92
        · skip
          rw [← Int32.toInt_inj, ti_0] at c_331
          refine lv_aload_n hx hb dX12_takesPair_59 rfl (lv_at hl 1 rfl) ?_
          refine tk_getP (D := (dC, dI)) (ci := 12) (v := .int v_281) (C := RX12) (T := TX12) (N := 56) hx hb hU inlX12 hown hK hP mo0 hfo_330 rfl 13 (by decide) (hU _ wd_619) (fun _ h9 => h9) rfl dX12_takesPair_60 ?_
          refine lv_if_ne (tgt := 73) hx hb dX12_takesPair_63 (by decide) (fun c_588 => ?_) (fun c_588 => ?_)
          · skip
            rw [← Int32.toInt_inj, ti_0] at c_588
            refine lv_aload_n hx hb dX12_takesPair_73 rfl (lv_at hl 1 rfl) ?_
            refine tk_getP (D := (dC, dI)) (ci := 12) (v := .ref a_3) (C := RX12) (T := TX12) (N := 56) hx hb hU inlX12 hown hK hP mo0 hfo_330 rfl 1 (by decide) (hU _ wd_170) (fun _ h9 => h9) rfl dX12_takesPair_74 ?_
            refine lv_aload_n hx hb dX12_takesPair_77 rfl (lv_at hl 1 rfl) ?_
            refine tk_getP (D := (dC, dI)) (ci := 12) (v := .int v_142) (C := RX12) (T := TX12) (N := 56) hx hb hU inlX12 hown hK hP mo0 hfo_330 rfl 12 (by decide) (hU _ wd_618) (fun _ h9 => h9) rfl dX12_takesPair_78 ?_
            refine lv_aload_n hx hb dX12_takesPair_81 rfl (lv_at hl 1 rfl) ?_
            refine tk_getP (D := (dC, dI)) (ci := 12) (v := .int v_281) (C := RX12) (T := TX12) (N := 56) hx hb hU inlX12 hown hK hP mo0 hfo_330 rfl 13 (by decide) (hU _ wd_619) (fun _ h9 => h9) rfl dX12_takesPair_82 ?_
            refine tk_SiP (As := [.ref a_3, .int v_142, .int v_281]) (rest := []) (n := 3) hx hb hml hown hU hN hZ (s_X12_hasPair_a576 l (dC, dI) cI cL cZ cR cG cH Z kd L f_328 hG a_3 ma_3 ka_3 v_142 (by constructor <;> omega) v_281 (by constructor <;> omega)) wd_628 wd_629 wd_5 wd_630 (by decide +kernel) ⟨Nat.le_of_ble_eq_true rfl, Nat.le_of_ble_eq_true rfl⟩ hK hP hD hS rfl hl.1 rfl (Nat.le_of_ble_eq_true rfl) dX12_takesPair_85 ⟨Nat.le_of_ble_eq_true rfl, Nat.le_of_ble_eq_true rfl⟩ (fun x_589 f_590 H locs hw hP hD hS => ?_)
            obtain ⟨rfl, bx_589, hxp_591⟩ := hw
            have hhp := hxp_591 g_188 hfo_329
            refine lv_if_eq (tgt := 93) hx hb dX12_takesPair_88 (by decide) (fun c_593 => ?_) (fun c_593 => ?_)
            · skip
              rw [← Int32.toInt_inj, ti_0] at c_593
              have hF0 := hT0.get hfo_329
              obtain ⟨x_594, ex_594⟩ : ∃ y : Int32, y = g_188 (Int32.toNatClampNeg 16) := ⟨_, rfl⟩
              have bx_594 : (0 ≤ x_594.toInt ∧ x_594.toInt ≤ 20) := by rw [ex_594]; exact hbg_188.2.1 _ (by decide) (by decide) (by decide)
              have hgx_594 : x_594.toInt = (g_188 16).toInt := by rw [ex_594]; rfl
              obtain ⟨x_595, ex_595⟩ : ∃ y : Int32, y = g_188 (Int32.toNatClampNeg 0) := ⟨_, rfl⟩
              have bx_595 : (0 ≤ x_595.toInt ∧ x_595.toInt ≤ 8) := by rw [ex_595]; exact hbg_188.1 _ (by decide) (by decide) (by decide)
              have hgx_595 : x_595.toInt = (g_188 0).toInt := by rw [ex_595]; rfl
              refine lv_iconst (v := 0) hx hb dX12_takesPair_93 (by decide) ?_
              refine lv_istore_n (lv' := [(2, .int 0), (1, .int v_72), (0, .ref o0)]) hx hb dX12_takesPair_94 rfl hl (by decide) rfl (fun ls hl => ?_)
              refine lv_iconst (v := 0) hx hb dX12_takesPair_95 (by decide) ?_
              refine lv_istore_n (lv' := [(3, .int 0), (2, .int 0), (1, .int v_72), (0, .ref o0)]) hx hb dX12_takesPair_96 rfl hl (by decide) rfl (fun ls hl => ?_)
              refine lv_iconst (v := 0) hx hb dX12_takesPair_97 (by decide) ?_
              refine lv_istore (lv' := [(4, .int 0), (3, .int 0), (2, .int 0), (1, .int v_72), (0, .ref o0)]) hx hb dX12_takesPair_98 hl (by decide) rfl (fun ls hl => ?_)
              refine lv_iconst (v := 0) hx hb dX12_takesPair_100 (by decide) ?_
              refine lv_istore (lv' := [(5, .int 0), (4, .int 0), (3, .int 0), (2, .int 0), (1, .int v_72), (0, .ref o0)]) hx hb dX12_takesPair_101 hl (by decide) rfl (fun ls hl => ?_)
              have hloop_601 : ∀ (n : Nat), ∀ (y_602 : Int32), (0 ≤ y_602.toInt ∧ y_602.toInt ≤ 20) → ∀ (y_603 : Int32), (0 ≤ y_603.toInt ∧ y_603.toInt ≤ 20) → ∀ (y_604 : Int32), (0 ≤ y_604.toInt ∧ y_604.toInt ≤ 20) → ∀ (y_605 : Int32), (0 ≤ y_605.toInt ∧ y_605.toInt ≤ 20) → (y_605.toInt ≤ y_602.toInt ∧ y_604.toInt ≤ y_602.toInt ∧ y_603.toInt ≤ y_602.toInt ∧ y_602.toInt ≤ x_594.toInt) → (y_605.toInt = ((cntU g_188 (y_602.toInt).toNat : Nat) : Int)) → 20 - y_602.toInt < (n : Int) → ∀ (ls : Array Slot), lv_has ls 8 [(5, .int y_602), (4, .int y_603), (3, .int y_604), (2, .int y_605), (1, .int v_72), (0, .ref o0)] → W p l e (headSpec (wU yX12_takesPair cX12_takesPair 8 (some .boolean)) { frames := 4, cells := 0, slots := 0, locals := 82 }).room s m [.ref o0].toArray below meth c H locs 0 0 (MQ below (va_Qi (fun (r : Int32) (f9 : Nat → va_E) => GI (okc cI cL cZ cR cG cH L kd) kd L f9 ∧ (0 ≤ r.toInt ∧ r.toInt ≤ 1) ∧ (∀ b, kd b ≠ 12 → kd b ≠ 576 → f9 b = f b) ∧ (∀ b, kd b = 12 → ∀ j, fldR (f9 b) j = fldR (f b) j) ∧ (∀ b, kd b = 12 → ∀ j, j ≠ 6 → j ≠ 7 → j ≠ 8 → j ≠ 11 → j ≠ 12 → j ≠ 13 → fldI (f9 b) j = fldI (f b) j) ∧ (∀ (w6 z6 : Int32), fldI (f o0) 6 = some w6 → fldI (f9 o0) 6 = some z6 → w6.toInt ≤ z6.toInt) ∧ (∀ d9, fldR (f9 o0) 1 = some d9 → frel kd 576 8 f9 d9)) (qP (dC, dI) cI cL cZ cR cG cH L) (fun q => q ∈ L)) [.ref o0].toArray s 0 0 (fun q => q ∈ L)) (F0 m 103 ls []) := by
                intro n
                induction n with
                | zero => intro y_602 by_602 y_603 by_603 y_604 by_604 y_605 by_605 hrelhloop_601_0 hxu hmuhloop_601 ls hl; exfalso; omega
                | succ n ih_hloop_601 =>
                  intro y_602 by_602 y_603 by_603 y_604 by_604 y_605 by_605 hrelhloop_601_0 hxu hmuhloop_601 ls hl
                  refine lv_iload hx hb dX12_takesPair_103 (lv_at hl 0 rfl) ?_
                  refine lv_aload_n hx hb dX12_takesPair_105 rfl (lv_at hl 5 rfl) ?_
                  refine tk_getP (D := (dC, dI)) (ci := 12) (v := .ref a_3) (C := RX12) (T := TX12) (N := 56) hx hb hU inlX12 hown hK hP mo0 hfo_330 rfl 1 (by decide) (hU _ wd_170) (fun _ h9 => h9) rfl dX12_takesPair_106 ?_
                  refine lv_bipush (v := 16) hx hb dX12_takesPair_109 (by decide) ?_
                  refine tk_ildP hx hb hK hP 0 ma_3 hfo_329 rfl (vp_in_nI (n := 16) (by decide) (by decide)) dX12_takesPair_111 ?_
                  refine tk_topi (y := x_594) ex_594.symm ?_
                  refine lv_icmp_ge (tgt := 200) hx hb dX12_takesPair_112 (by decide) (fun c_606 => ?_) (fun c_606 => ?_)
                  · skip
                    rw [Int32.le_iff_toInt_le] at c_606
                    refine lv_iload_n hx hb dX12_takesPair_200 rfl (lv_at hl 3 rfl) ?_
                    refine lv_bipush (v := 12) hx hb dX12_takesPair_201 (by decide) ?_
                    refine lv_icmp_eq (tgt := 217) hx hb dX12_takesPair_203 (by decide) (fun c_607 => ?_) (fun c_607 => ?_)
                    · skip
                      rw [← Int32.toInt_inj, ti_12] at c_607
                      refine lv_aload_n hx hb dX12_takesPair_217 rfl (lv_at hl 5 rfl) ?_
                      refine lv_iconst (v := 3) hx hb dX12_takesPair_218 (by decide) ?_
                      refine lv_iload_n hx hb dX12_takesPair_219 rfl (lv_at hl 4 rfl) ?_
                      refine tk_ViP (As := [.int 3, .int v_72]) (rest := []) (n := 2) hx hb hml hown hU hN hZ (s_X12_bad_k12 l (dC, dI) cI cL cZ cR cG cH Z kd L f_328 hG o0 mo0 ko0 3 v_72) wd_602 wd_603 wd_604 wd_5 wd_605 (by decide +kernel) ⟨Nat.le_of_ble_eq_true rfl, Nat.le_of_ble_eq_true rfl⟩ hK hP hD hS mo0 hfo_330 12 rfl rfl rfl hl.1 rfl (Nat.le_of_ble_eq_true rfl) dX12_takesPair_220 ⟨Nat.le_of_ble_eq_true rfl, Nat.le_of_ble_eq_true rfl⟩ (fun x_608 f_609 H locs hw hP hD hS => ?_)
                      obtain ⟨hG, bx_608, hkc_610, hra_611, hfa_612⟩ := hw
                      have hfo_614 : f_609 a_3 = .inl (cI, 1560, .inl g_188) := by rw [hkc_610 a_3 (by rw [ka_3]; decide)]; exact hfo_329
                      have hfr0 : ∀ b, kd b ≠ 12 → kd b ≠ 576 → f_609 b = f b := fun b q12 q576 => (hkc_610 b q12).trans (hfr0 b q12 q576)
                      have hrA12 : ∀ b, kd b = 12 → ∀ j, fldR (f_609 b) j = fldR (f b) j := fun b kb j => (hra_611 b kb j).trans (hrA12 b kb j)
                      have hfA12 : ∀ b, kd b = 12 → ∀ j, j ≠ 6 → j ≠ 7 → j ≠ 8 → j ≠ 11 → j ≠ 12 → j ≠ 13 → fldI (f_609 b) j = fldI (f b) j := fun b kb j n6 n7 n8 n11 n12 n13 => (hfa_612 b kb j n7 n8).trans (hfA12 b kb j n6 n7 n8 n11 n12 n13)
                      have hT0 : frel kd 576 8 f_609 a_3 := hT0.keep (fun b q => hkc_610 b (by rw [q]; decide))
                      obtain ⟨a_616, a_617, a_618, v_619, a_620, v_621, v_622, v_623, v_624, v_625, v_626, v_627, v_628, v_629, v_630, a_631, a_632, a_633, a_634, a_635, a_636, a_637, a_638, v_639, v_640, v_641, v_642, v_643, a_644, v_645, a_646, a_647, v_648, v_649, a_650, v_651, a_652, a_653, v_654, v_655, a_656, a_657, a_658, v_659, a_660, a_661, a_662, a_663, a_664, a_665, a_666, a_667, a_668, v_669, v_670, a_671, hfo_615, ⟨ma_616, ka_616⟩, ⟨ma_617, ka_617⟩, ⟨ma_618, ka_618⟩, bv_619, ⟨ma_620, ka_620⟩, bv_621, bv_622, bv_627, bv_628, bv_629, ⟨ma_631, ka_631⟩, ⟨ma_632, ka_632⟩, ⟨ma_633, ka_633⟩, ⟨ma_634, ka_634⟩, ⟨ma_635, ka_635⟩, ⟨ma_636, ka_636⟩, ⟨ma_637, ka_637⟩, ⟨ma_638, ka_638⟩, bv_639, bv_641, bv_643, ⟨ma_644, ka_644⟩, bv_645, ⟨ma_646, ka_646⟩, ⟨ma_647, ka_647⟩, bv_648, ⟨ma_650, ka_650⟩, bv_651, ⟨ma_652, ka_652⟩, ⟨ma_653, ka_653⟩, bv_654, ⟨ma_656, ka_656⟩, ⟨ma_657, ka_657⟩, ⟨ma_658, ka_658⟩, bv_659, ⟨ma_660, ka_660⟩, ⟨ma_661, ka_661⟩, ⟨ma_662, ka_662⟩, ⟨ma_663, ka_663⟩, ⟨ma_664, ka_664⟩, ⟨ma_665, ka_665⟩, ⟨ma_666, ka_666⟩, ⟨ma_667, ka_667⟩, ⟨ma_668, ka_668⟩, bv_669, ⟨ma_671, ka_671⟩⟩ := un_12 (hG _ mo0) ko0
                      have bv_623 : ((-2147483648) ≤ v_623.toInt ∧ v_623.toInt ≤ 2147483647) := ⟨i32_lo _, i32_hi _⟩
                      have bv_624 : ((-2147483648) ≤ v_624.toInt ∧ v_624.toInt ≤ 2147483647) := ⟨i32_lo _, i32_hi _⟩
                      have bv_625 : ((-2147483648) ≤ v_625.toInt ∧ v_625.toInt ≤ 2147483647) := ⟨i32_lo _, i32_hi _⟩
                      have bv_626 : ((-2147483648) ≤ v_626.toInt ∧ v_626.toInt ≤ 2147483647) := ⟨i32_lo _, i32_hi _⟩
                      have bv_630 : ((-2147483648) ≤ v_630.toInt ∧ v_630.toInt ≤ 2147483647) := ⟨i32_lo _, i32_hi _⟩
                      have bv_640 : ((-2147483648) ≤ v_640.toInt ∧ v_640.toInt ≤ 2147483647) := ⟨i32_lo _, i32_hi _⟩
                      have bv_642 : ((-2147483648) ≤ v_642.toInt ∧ v_642.toInt ≤ 2147483647) := ⟨i32_lo _, i32_hi _⟩
                      have bv_649 : ((-2147483648) ≤ v_649.toInt ∧ v_649.toInt ≤ 2147483647) := ⟨i32_lo _, i32_hi _⟩
                      have bv_655 : ((-2147483648) ≤ v_655.toInt ∧ v_655.toInt ≤ 2147483647) := ⟨i32_lo _, i32_hi _⟩
                      have bv_670 : ((-2147483648) ≤ v_670.toInt ∧ v_670.toInt ≤ 2147483647) := ⟨i32_lo _, i32_hi _⟩
                      obtain ⟨rfl, rfl, rfl, rfl, rfl, rfl, rfl, rfl, rfl, rfl, rfl, rfl, rfl, rfl, rfl, rfl, rfl, rfl, rfl, rfl, rfl, rfl, rfl, rfl, rfl, rfl, rfl, rfl, rfl, rfl, rfl⟩ := re_12 hfo_1 hfo_615 (hrA12 o0 ko0)
                      obtain rfl := ri_12_3 hfo_1 hfo_615 (hfA12 o0 ko0 3 (by decide) (by decide) (by decide) (by decide) (by decide) (by decide))
                      obtain rfl := ri_12_5 hfo_1 hfo_615 (hfA12 o0 ko0 5 (by decide) (by decide) (by decide) (by decide) (by decide) (by decide))
                      obtain rfl := ri_12_14 hfo_1 hfo_615 (hfA12 o0 ko0 14 (by decide) (by decide) (by decide) (by decide) (by decide) (by decide))
                      obtain rfl := ri_12_23 hfo_1 hfo_615 (hfA12 o0 ko0 23 (by decide) (by decide) (by decide) (by decide) (by decide) (by decide))
                      obtain rfl := ri_12_25 hfo_1 hfo_615 (hfA12 o0 ko0 25 (by decide) (by decide) (by decide) (by decide) (by decide) (by decide))
                      obtain rfl := ri_12_27 hfo_1 hfo_615 (hfA12 o0 ko0 27 (by decide) (by decide) (by decide) (by decide) (by decide) (by decide))
                      obtain rfl := ri_12_29 hfo_1 hfo_615 (hfA12 o0 ko0 29 (by decide) (by decide) (by decide) (by decide) (by decide) (by decide))
                      obtain rfl := ri_12_32 hfo_1 hfo_615 (hfA12 o0 ko0 32 (by decide) (by decide) (by decide) (by decide) (by decide) (by decide))
                      obtain rfl := ri_12_33 hfo_1 hfo_615 (hfA12 o0 ko0 33 (by decide) (by decide) (by decide) (by decide) (by decide) (by decide))
                      obtain rfl := ri_12_35 hfo_1 hfo_615 (hfA12 o0 ko0 35 (by decide) (by decide) (by decide) (by decide) (by decide) (by decide))
                      obtain rfl := ri_12_38 hfo_1 hfo_615 (hfA12 o0 ko0 38 (by decide) (by decide) (by decide) (by decide) (by decide) (by decide))
                      obtain rfl := ri_12_43 hfo_1 hfo_615 (hfA12 o0 ko0 43 (by decide) (by decide) (by decide) (by decide) (by decide) (by decide))
                      obtain rfl := ri_12_53 hfo_1 hfo_615 (hfA12 o0 ko0 53 (by decide) (by decide) (by decide) (by decide) (by decide) (by decide))
                      obtain rfl := ri_12_6 hfo_330 hfo_615 (hfa_612 o0 ko0 6 (by decide) (by decide))
                      obtain rfl := ri_12_11 hfo_330 hfo_615 (hfa_612 o0 ko0 11 (by decide) (by decide))
                      obtain rfl := ri_12_12 hfo_330 hfo_615 (hfa_612 o0 ko0 12 (by decide) (by decide))
                      obtain rfl := ri_12_13 hfo_330 hfo_615 (hfa_612 o0 ko0 13 (by decide) (by decide))
                      exact W.zret (v := x_608) (ty := .boolean) hx hb hr (zb_n (by constructor <;> omega)) (fun t ht hW => ⟨⟨x_608, f_609, rfl, ⟨hG, (by constructor <;> omega), hfr0, hrA12, hfA12, (by intro w6 z6 e6 d6; rw [hfo_1] at e6; rw [hfo_615] at d6; obtain rfl := Option.some.inj e6; obtain rfl := Option.some.inj d6; omega), (fun d9 h9 => by rw [hfo_615] at h9; obtain rfl := Option.some.inj h9; exact hT0)⟩, by rw [ht]; exact hP, va_K.moved hW.alike hK, pl_in hD⟩, hS.F ht⟩) hS.2.2 dX12_takesPair_223
                    · skip
                      rw [← Int32.toInt_inj, ti_12] at c_607
                      refine lv_iload_n hx hb dX12_takesPair_206 rfl (lv_at hl 2 rfl) ?_
                      refine lv_iconst (v := 3) hx hb dX12_takesPair_207 (by decide) ?_
                      refine lv_icmp_eq (tgt := 217) hx hb dX12_takesPair_208 (by decide) (fun c_672 => ?_) (fun c_672 => ?_)
                      · skip
                        rw [← Int32.toInt_inj, ti_3] at c_672
                        refine lv_aload_n hx hb dX12_takesPair_217 rfl (lv_at hl 5 rfl) ?_
                        refine lv_iconst (v := 3) hx hb dX12_takesPair_218 (by decide) ?_
                        refine lv_iload_n hx hb dX12_takesPair_219 rfl (lv_at hl 4 rfl) ?_
                        refine tk_ViP (As := [.int 3, .int v_72]) (rest := []) (n := 2) hx hb hml hown hU hN hZ (s_X12_bad_k12 l (dC, dI) cI cL cZ cR cG cH Z kd L f_328 hG o0 mo0 ko0 3 v_72) wd_602 wd_603 wd_604 wd_5 wd_605 (by decide +kernel) ⟨Nat.le_of_ble_eq_true rfl, Nat.le_of_ble_eq_true rfl⟩ hK hP hD hS mo0 hfo_330 12 rfl rfl rfl hl.1 rfl (Nat.le_of_ble_eq_true rfl) dX12_takesPair_220 ⟨Nat.le_of_ble_eq_true rfl, Nat.le_of_ble_eq_true rfl⟩ (fun x_673 f_674 H locs hw hP hD hS => ?_)
                        obtain ⟨hG, bx_673, hkc_675, hra_676, hfa_677⟩ := hw
                        have hfo_679 : f_674 a_3 = .inl (cI, 1560, .inl g_188) := by rw [hkc_675 a_3 (by rw [ka_3]; decide)]; exact hfo_329
                        have hfr0 : ∀ b, kd b ≠ 12 → kd b ≠ 576 → f_674 b = f b := fun b q12 q576 => (hkc_675 b q12).trans (hfr0 b q12 q576)
                        have hrA12 : ∀ b, kd b = 12 → ∀ j, fldR (f_674 b) j = fldR (f b) j := fun b kb j => (hra_676 b kb j).trans (hrA12 b kb j)
                        have hfA12 : ∀ b, kd b = 12 → ∀ j, j ≠ 6 → j ≠ 7 → j ≠ 8 → j ≠ 11 → j ≠ 12 → j ≠ 13 → fldI (f_674 b) j = fldI (f b) j := fun b kb j n6 n7 n8 n11 n12 n13 => (hfa_677 b kb j n7 n8).trans (hfA12 b kb j n6 n7 n8 n11 n12 n13)
                        have hT0 : frel kd 576 8 f_674 a_3 := hT0.keep (fun b q => hkc_675 b (by rw [q]; decide))
                        obtain ⟨a_681, a_682, a_683, v_684, a_685, v_686, v_687, v_688, v_689, v_690, v_691, v_692, v_693, v_694, v_695, a_696, a_697, a_698, a_699, a_700, a_701, a_702, a_703, v_704, v_705, v_706, v_707, v_708, a_709, v_710, a_711, a_712, v_713, v_714, a_715, v_716, a_717, a_718, v_719, v_720, a_721, a_722, a_723, v_724, a_725, a_726, a_727, a_728, a_729, a_730, a_731, a_732, a_733, v_734, v_735, a_736, hfo_680, ⟨ma_681, ka_681⟩, ⟨ma_682, ka_682⟩, ⟨ma_683, ka_683⟩, bv_684, ⟨ma_685, ka_685⟩, bv_686, bv_687, bv_692, bv_693, bv_694, ⟨ma_696, ka_696⟩, ⟨ma_697, ka_697⟩, ⟨ma_698, ka_698⟩, ⟨ma_699, ka_699⟩, ⟨ma_700, ka_700⟩, ⟨ma_701, ka_701⟩, ⟨ma_702, ka_702⟩, ⟨ma_703, ka_703⟩, bv_704, bv_706, bv_708, ⟨ma_709, ka_709⟩, bv_710, ⟨ma_711, ka_711⟩, ⟨ma_712, ka_712⟩, bv_713, ⟨ma_715, ka_715⟩, bv_716, ⟨ma_717, ka_717⟩, ⟨ma_718, ka_718⟩, bv_719, ⟨ma_721, ka_721⟩, ⟨ma_722, ka_722⟩, ⟨ma_723, ka_723⟩, bv_724, ⟨ma_725, ka_725⟩, ⟨ma_726, ka_726⟩, ⟨ma_727, ka_727⟩, ⟨ma_728, ka_728⟩, ⟨ma_729, ka_729⟩, ⟨ma_730, ka_730⟩, ⟨ma_731, ka_731⟩, ⟨ma_732, ka_732⟩, ⟨ma_733, ka_733⟩, bv_734, ⟨ma_736, ka_736⟩⟩ := un_12 (hG _ mo0) ko0
                        have bv_688 : ((-2147483648) ≤ v_688.toInt ∧ v_688.toInt ≤ 2147483647) := ⟨i32_lo _, i32_hi _⟩
                        have bv_689 : ((-2147483648) ≤ v_689.toInt ∧ v_689.toInt ≤ 2147483647) := ⟨i32_lo _, i32_hi _⟩
                        have bv_690 : ((-2147483648) ≤ v_690.toInt ∧ v_690.toInt ≤ 2147483647) := ⟨i32_lo _, i32_hi _⟩
                        have bv_691 : ((-2147483648) ≤ v_691.toInt ∧ v_691.toInt ≤ 2147483647) := ⟨i32_lo _, i32_hi _⟩
                        have bv_695 : ((-2147483648) ≤ v_695.toInt ∧ v_695.toInt ≤ 2147483647) := ⟨i32_lo _, i32_hi _⟩
                        have bv_705 : ((-2147483648) ≤ v_705.toInt ∧ v_705.toInt ≤ 2147483647) := ⟨i32_lo _, i32_hi _⟩
                        have bv_707 : ((-2147483648) ≤ v_707.toInt ∧ v_707.toInt ≤ 2147483647) := ⟨i32_lo _, i32_hi _⟩
                        have bv_714 : ((-2147483648) ≤ v_714.toInt ∧ v_714.toInt ≤ 2147483647) := ⟨i32_lo _, i32_hi _⟩
                        have bv_720 : ((-2147483648) ≤ v_720.toInt ∧ v_720.toInt ≤ 2147483647) := ⟨i32_lo _, i32_hi _⟩
                        have bv_735 : ((-2147483648) ≤ v_735.toInt ∧ v_735.toInt ≤ 2147483647) := ⟨i32_lo _, i32_hi _⟩
                        obtain ⟨rfl, rfl, rfl, rfl, rfl, rfl, rfl, rfl, rfl, rfl, rfl, rfl, rfl, rfl, rfl, rfl, rfl, rfl, rfl, rfl, rfl, rfl, rfl, rfl, rfl, rfl, rfl, rfl, rfl, rfl, rfl⟩ := re_12 hfo_1 hfo_680 (hrA12 o0 ko0)
                        obtain rfl := ri_12_3 hfo_1 hfo_680 (hfA12 o0 ko0 3 (by decide) (by decide) (by decide) (by decide) (by decide) (by decide))
                        obtain rfl := ri_12_5 hfo_1 hfo_680 (hfA12 o0 ko0 5 (by decide) (by decide) (by decide) (by decide) (by decide) (by decide))
                        obtain rfl := ri_12_14 hfo_1 hfo_680 (hfA12 o0 ko0 14 (by decide) (by decide) (by decide) (by decide) (by decide) (by decide))
                        obtain rfl := ri_12_23 hfo_1 hfo_680 (hfA12 o0 ko0 23 (by decide) (by decide) (by decide) (by decide) (by decide) (by decide))
                        obtain rfl := ri_12_25 hfo_1 hfo_680 (hfA12 o0 ko0 25 (by decide) (by decide) (by decide) (by decide) (by decide) (by decide))
                        obtain rfl := ri_12_27 hfo_1 hfo_680 (hfA12 o0 ko0 27 (by decide) (by decide) (by decide) (by decide) (by decide) (by decide))
                        obtain rfl := ri_12_29 hfo_1 hfo_680 (hfA12 o0 ko0 29 (by decide) (by decide) (by decide) (by decide) (by decide) (by decide))
                        obtain rfl := ri_12_32 hfo_1 hfo_680 (hfA12 o0 ko0 32 (by decide) (by decide) (by decide) (by decide) (by decide) (by decide))
                        obtain rfl := ri_12_33 hfo_1 hfo_680 (hfA12 o0 ko0 33 (by decide) (by decide) (by decide) (by decide) (by decide) (by decide))
                        obtain rfl := ri_12_35 hfo_1 hfo_680 (hfA12 o0 ko0 35 (by decide) (by decide) (by decide) (by decide) (by decide) (by decide))
                        obtain rfl := ri_12_38 hfo_1 hfo_680 (hfA12 o0 ko0 38 (by decide) (by decide) (by decide) (by decide) (by decide) (by decide))
                        obtain rfl := ri_12_43 hfo_1 hfo_680 (hfA12 o0 ko0 43 (by decide) (by decide) (by decide) (by decide) (by decide) (by decide))
                        obtain rfl := ri_12_53 hfo_1 hfo_680 (hfA12 o0 ko0 53 (by decide) (by decide) (by decide) (by decide) (by decide) (by decide))
                        obtain rfl := ri_12_6 hfo_330 hfo_680 (hfa_677 o0 ko0 6 (by decide) (by decide))
                        obtain rfl := ri_12_11 hfo_330 hfo_680 (hfa_677 o0 ko0 11 (by decide) (by decide))
                        obtain rfl := ri_12_12 hfo_330 hfo_680 (hfa_677 o0 ko0 12 (by decide) (by decide))
                        obtain rfl := ri_12_13 hfo_330 hfo_680 (hfa_677 o0 ko0 13 (by decide) (by decide))
                        exact W.zret (v := x_673) (ty := .boolean) hx hb hr (zb_n (by constructor <;> omega)) (fun t ht hW => ⟨⟨x_673, f_674, rfl, ⟨hG, (by constructor <;> omega), hfr0, hrA12, hfA12, (by intro w6 z6 e6 d6; rw [hfo_1] at e6; rw [hfo_680] at d6; obtain rfl := Option.some.inj e6; obtain rfl := Option.some.inj d6; omega), (fun d9 h9 => by rw [hfo_680] at h9; obtain rfl := Option.some.inj h9; exact hT0)⟩, by rw [ht]; exact hP, va_K.moved hW.alike hK, pl_in hD⟩, hS.F ht⟩) hS.2.2 dX12_takesPair_223
                      · skip
                        rw [← Int32.toInt_inj, ti_3] at c_672
                        refine lv_iload hx hb dX12_takesPair_211 (lv_at hl 1 rfl) ?_
                        refine lv_iconst (v := 3) hx hb dX12_takesPair_213 (by decide) ?_
                        refine lv_icmp_ne (tgt := 224) hx hb dX12_takesPair_214 (by decide) (fun c_737 => ?_) (fun c_737 => ?_)
                        · skip
                          rw [← Int32.toInt_inj, ti_3] at c_737
                          have hu11 : cntU g_188 (g_188 16).toInt.toNat ≤ 11 := by have hq1 := hF0.2.1; have hkk : (y_602.toInt).toNat = (g_188 16).toInt.toNat := (by omega); rw [hkk] at hxu; omega
                          have hnrc_738 : (0 ≤ x_594.toInt ∧ x_594.toInt ≤ 19) := by have hq1 := hF0.1; constructor <;> omega
                          refine lv_aload_n hx hb dX12_takesPair_224 rfl (lv_at hl 5 rfl) ?_
                          refine tk_getP (D := (dC, dI)) (ci := 12) (v := .ref a_3) (C := RX12) (T := TX12) (N := 56) hx hb hU inlX12 hown hK hP mo0 hfo_330 rfl 1 (by decide) (hU _ wd_170) (fun _ h9 => h9) rfl dX12_takesPair_225 ?_
                          refine lv_bipush (v := 20) hx hb dX12_takesPair_228 (by decide) ?_
                          refine lv_aload_n hx hb dX12_takesPair_230 rfl (lv_at hl 5 rfl) ?_
                          refine tk_getP (D := (dC, dI)) (ci := 12) (v := .ref a_3) (C := RX12) (T := TX12) (N := 56) hx hb hU inlX12 hown hK hP mo0 hfo_330 rfl 1 (by decide) (hU _ wd_170) (fun _ h9 => h9) rfl dX12_takesPair_231 ?_
                          refine lv_bipush (v := 16) hx hb dX12_takesPair_234 (by decide) ?_
                          refine tk_ildP hx hb hK hP 0 ma_3 hfo_329 rfl (vp_in_nI (n := 16) (by decide) (by decide)) dX12_takesPair_236 ?_
                          refine tk_topi (y := x_594) ex_594.symm ?_
                          refine lv_iadd hx hb dX12_takesPair_237 ?_
                          refine lv_topi (fun x_739 ex_739 => ?_)
                          have hx_739 : x_739.toInt = 20 + x_594.toInt := by rw [ex_739, ad_I (by rw [ti_20]; omega) (by rw [ti_20]; omega), ti_20]
                          have bx_739 : (20 ≤ x_739.toInt ∧ x_739.toInt ≤ 39) := by constructor <;> omega
                          refine lv_bipush (v := 9) hx hb dX12_takesPair_238 (by decide) ?_
                          refine lv_aload_n hx hb dX12_takesPair_240 rfl (lv_at hl 5 rfl) ?_
                          refine tk_getP (D := (dC, dI)) (ci := 12) (v := .int v_142) (C := RX12) (T := TX12) (N := 56) hx hb hU inlX12 hown hK hP mo0 hfo_330 rfl 12 (by decide) (hU _ wd_618) (fun _ h9 => h9) rfl dX12_takesPair_241 ?_
                          refine lv_imul hx hb dX12_takesPair_244 ?_
                          refine lv_topi (fun x_740 ex_740 => ?_)
                          have hx_740 : x_740.toInt = 9 * v_142.toInt := by rw [ex_740, ml_I (by rw [ti_9]; omega) (by rw [ti_9]; omega), ti_9]
                          have bx_740 : (0 ≤ x_740.toInt ∧ x_740.toInt ≤ 0) := by constructor <;> omega
                          refine lv_aload_n hx hb dX12_takesPair_245 rfl (lv_at hl 5 rfl) ?_
                          refine tk_getP (D := (dC, dI)) (ci := 12) (v := .int v_281) (C := RX12) (T := TX12) (N := 56) hx hb hU inlX12 hown hK hP mo0 hfo_330 rfl 13 (by decide) (hU _ wd_619) (fun _ h9 => h9) rfl dX12_takesPair_246 ?_
                          refine lv_iadd hx hb dX12_takesPair_249 ?_
                          refine lv_topi (fun x_741 ex_741 => ?_)
                          have hx_741 : x_741.toInt = x_740.toInt + v_281.toInt := by rw [ex_741, ad_I (by omega) (by omega)]
                          have bx_741 : (1 ≤ x_741.toInt ∧ x_741.toInt ≤ 8) := by constructor <;> omega
                          refine tk_istP hx hb hK hP hD hS 0 ma_3 hfo_329 rfl (vp_in_iff.mpr (by constructor <;> omega)) dX12_takesPair_250 (fun H locs hP hD hS => ?_)
                          have hc9 := cl_I (i := x_739) (by omega)
                          obtain ⟨g_742, eqg_742⟩ : ∃ y : Nat → Int32, y = upd g_188 (Int32.toNatClampNeg x_739) x_741 := ⟨_, rfl⟩
                          rw [← eqg_742] at hP hD
                          have hbg_742 : wOK g_742 := by rw [eqg_742]; exact ⟨hbg_188.1.up (fun h1 h2 h3 => by exfalso; omega), hbg_188.2.1.up (fun h1 h2 h3 => by exfalso; omega), hbg_188.2.2.1.up (fun h1 h2 h3 => by exfalso; omega), hbg_188.2.2.2.1.up (fun h1 h2 h3 => by exfalso; omega), hbg_188.2.2.2.2.1.up (fun h1 h2 h3 => by exfalso; omega), hbg_188.2.2.2.2.2.1.up (fun h1 h2 h3 => by constructor <;> omega), hbg_188.2.2.2.2.2.2.1.up (fun h1 h2 h3 => by exfalso; omega), hbg_188.2.2.2.2.2.2.2.1.up (fun h1 h2 h3 => by exfalso; omega), hbg_188.2.2.2.2.2.2.2.2.1.up (fun h1 h2 h3 => by exfalso; omega), hbg_188.2.2.2.2.2.2.2.2.2.1.up (fun h1 h2 h3 => by exfalso; omega), hbg_188.2.2.2.2.2.2.2.2.2.2.1.up (fun h1 h2 h3 => by exfalso; omega), hbg_188.2.2.2.2.2.2.2.2.2.2.2.1.up (fun h1 h2 h3 => by exfalso; omega), hbg_188.2.2.2.2.2.2.2.2.2.2.2.2.1.up (fun h1 h2 h3 => by exfalso; omega), hbg_188.2.2.2.2.2.2.2.2.2.2.2.2.2.1.up (fun h1 h2 h3 => by exfalso; omega), hbg_188.2.2.2.2.2.2.2.2.2.2.2.2.2.2.1.up (fun h1 h2 h3 => by exfalso; omega), hbg_188.2.2.2.2.2.2.2.2.2.2.2.2.2.2.2.up (fun h1 h2 h3 => by exfalso; omega)⟩
                          obtain ⟨f_744, ef_744⟩ : ∃ y : Nat → va_E, y = va_up f_328 a_3 (.inl (cI, 1560, .inl g_742)) := ⟨_, rfl⟩
                          have hP : va_P (dC, dI) vwCl (va_pl L f_744) H := by rw [ef_744]; exact hP
                          have hD : va_D (fun q => q ∈ L) (va_pl L f_744) := by rw [ef_744]; exact hD
                          have hG : GI (okc cI cL cZ cR cG cH L kd) kd L f_744 := by rw [ef_744]; exact hG.set a_3 (mk_576 ka_3 ⟨_, rfl, hbg_742⟩)
                          have hfo_745 : f_744 o0 = .inr (12, [.ref a_2, .ref a_3, .ref a_4, .int v_5, .ref a_6, .int v_7, .int v_276, .int v_277, .int v_278, .int v_279, .int v_280, .int v_281, .int v_142, .int v_281, .int v_16, .ref a_17, .ref a_18, .ref a_19, .ref a_20, .ref a_21, .ref a_22, .ref a_23, .ref a_24, .int v_25, .int v_294, .int v_27, .int v_296, .int v_29, .ref a_30, .int v_31, .ref a_32, .ref a_33, .int v_34, .int v_35, .ref a_36, .int v_37, .ref a_38, .ref a_39, .int v_40, .int v_309, .ref a_42, .ref a_43, .ref a_44, .int v_45, .ref a_46, .ref a_47, .ref a_48, .ref a_49, .ref a_50, .ref a_51, .ref a_52, .ref a_53, .ref a_54, .int v_55, .int v_324, .ref a_57]) := by rw [ef_744, up_ne (kd_ne ka_3 ko0 (by decide))]; exact hfo_330
                          have hfr0 : ∀ b, kd b ≠ 12 → kd b ≠ 576 → f_744 b = f b := fun b q12 q576 => (congrFun ef_744 b).trans ((up_ne (fun e9 => q576 (by rw [e9]; exact ka_3))).trans (hfr0 b q12 q576))
                          have hrA12 : ∀ b, kd b = 12 → ∀ j, fldR (f_744 b) j = fldR (f b) j := fun b kb j => (congrArg (fun x => fldR x j) ((congrFun ef_744 b).trans (up_ne (kd_ne ka_3 kb (by decide))))).trans (hrA12 b kb j)
                          have hfA12 : ∀ b, kd b = 12 → ∀ j, j ≠ 6 → j ≠ 7 → j ≠ 8 → j ≠ 11 → j ≠ 12 → j ≠ 13 → fldI (f_744 b) j = fldI (f b) j := fun b kb j n6 n7 n8 n11 n12 n13 => (congrArg (fun x => fldI x j) ((congrFun ef_744 b).trans (up_ne (kd_ne ka_3 kb (by decide))))).trans (hfA12 b kb j n6 n7 n8 n11 n12 n13)
                          have hfo_746 : f_744 a_3 = .inl (cI, 1560, .inl g_742) := by rw [ef_744]; exact up_self
                          have ql_747 : x_594 = g_742 (Int32.toNatClampNeg 16) := by rw [eqg_742, pk_un (by have hc8 : Int32.toNatClampNeg 16 = 16 := rfl; omega)]; exact ex_594
                          have ql_748 : x_595 = g_742 (Int32.toNatClampNeg 0) := by rw [eqg_742, pk_un (by have hc8 : Int32.toNatClampNeg 0 = 0 := rfl; omega)]; exact ex_595
                          have ql_749 : x_741 = g_742 (Int32.toNatClampNeg x_739) := by rw [eqg_742, pk_us]
                          refine lv_aload_n hx hb dX12_takesPair_251 rfl (lv_at hl 5 rfl) ?_
                          refine tk_getP (D := (dC, dI)) (ci := 12) (v := .ref a_3) (C := RX12) (T := TX12) (N := 56) hx hb hU inlX12 hown hK hP mo0 hfo_745 rfl 1 (by decide) (hU _ wd_170) (fun _ h9 => h9) rfl dX12_takesPair_252 ?_
                          refine lv_bipush (v := 16) hx hb dX12_takesPair_255 (by decide) ?_
                          refine lv_dup2_11 hx hb dX12_takesPair_257 rfl rfl ?_
                          refine tk_ildP hx hb hK hP 0 ma_3 hfo_746 rfl (vp_in_nI (n := 16) (by decide) (by decide)) dX12_takesPair_258 ?_
                          refine tk_topi (y := x_594) ql_747.symm ?_
                          refine lv_iconst (v := 1) hx hb dX12_takesPair_259 (by decide) ?_
                          refine lv_iadd hx hb dX12_takesPair_260 ?_
                          refine lv_topi (fun x_750 ex_750 => ?_)
                          have hx_750 : x_750.toInt = x_594.toInt + 1 := by rw [ex_750, ad_I (by rw [ti_1]; omega) (by rw [ti_1]; omega), ti_1]
                          have bx_750 : (1 ≤ x_750.toInt ∧ x_750.toInt ≤ 20) := by constructor <;> omega
                          refine tk_istP hx hb hK hP hD hS 0 ma_3 hfo_746 rfl (vp_in_nI (n := 16) (by decide) (by decide)) dX12_takesPair_261 (fun H locs hP hD hS => ?_)
                          have hc9 : ((Int32.toNatClampNeg 16 : Nat) : Int) = 16 := by decide
                          obtain ⟨g_751, eqg_751⟩ : ∃ y : Nat → Int32, y = upd g_742 (Int32.toNatClampNeg 16) x_750 := ⟨_, rfl⟩
                          rw [← eqg_751] at hP hD
                          have hbg_751 : wOK g_751 := by rw [eqg_751]; exact ⟨hbg_742.1.up (fun h1 h2 h3 => by exfalso; omega), hbg_742.2.1.up (fun h1 h2 h3 => by constructor <;> omega), hbg_742.2.2.1.up (fun h1 h2 h3 => by exfalso; omega), hbg_742.2.2.2.1.up (fun h1 h2 h3 => by exfalso; omega), hbg_742.2.2.2.2.1.up (fun h1 h2 h3 => by exfalso; omega), hbg_742.2.2.2.2.2.1.up (fun h1 h2 h3 => by exfalso; omega), hbg_742.2.2.2.2.2.2.1.up (fun h1 h2 h3 => by exfalso; omega), hbg_742.2.2.2.2.2.2.2.1.up (fun h1 h2 h3 => by exfalso; omega), hbg_742.2.2.2.2.2.2.2.2.1.up (fun h1 h2 h3 => by exfalso; omega), hbg_742.2.2.2.2.2.2.2.2.2.1.up (fun h1 h2 h3 => by exfalso; omega), hbg_742.2.2.2.2.2.2.2.2.2.2.1.up (fun h1 h2 h3 => by exfalso; omega), hbg_742.2.2.2.2.2.2.2.2.2.2.2.1.up (fun h1 h2 h3 => by exfalso; omega), hbg_742.2.2.2.2.2.2.2.2.2.2.2.2.1.up (fun h1 h2 h3 => by exfalso; omega), hbg_742.2.2.2.2.2.2.2.2.2.2.2.2.2.1.up (fun h1 h2 h3 => by exfalso; omega), hbg_742.2.2.2.2.2.2.2.2.2.2.2.2.2.2.1.up (fun h1 h2 h3 => by exfalso; omega), hbg_742.2.2.2.2.2.2.2.2.2.2.2.2.2.2.2.up (fun h1 h2 h3 => by exfalso; omega)⟩
                          obtain ⟨f_753, ef_753⟩ : ∃ y : Nat → va_E, y = va_up f_744 a_3 (.inl (cI, 1560, .inl g_751)) := ⟨_, rfl⟩
                          have hP : va_P (dC, dI) vwCl (va_pl L f_753) H := by rw [ef_753]; exact hP
                          have hD : va_D (fun q => q ∈ L) (va_pl L f_753) := by rw [ef_753]; exact hD
                          have hG : GI (okc cI cL cZ cR cG cH L kd) kd L f_753 := by rw [ef_753]; exact hG.set a_3 (mk_576 ka_3 ⟨_, rfl, hbg_751⟩)
                          have hfo_754 : f_753 o0 = .inr (12, [.ref a_2, .ref a_3, .ref a_4, .int v_5, .ref a_6, .int v_7, .int v_276, .int v_277, .int v_278, .int v_279, .int v_280, .int v_281, .int v_142, .int v_281, .int v_16, .ref a_17, .ref a_18, .ref a_19, .ref a_20, .ref a_21, .ref a_22, .ref a_23, .ref a_24, .int v_25, .int v_294, .int v_27, .int v_296, .int v_29, .ref a_30, .int v_31, .ref a_32, .ref a_33, .int v_34, .int v_35, .ref a_36, .int v_37, .ref a_38, .ref a_39, .int v_40, .int v_309, .ref a_42, .ref a_43, .ref a_44, .int v_45, .ref a_46, .ref a_47, .ref a_48, .ref a_49, .ref a_50, .ref a_51, .ref a_52, .ref a_53, .ref a_54, .int v_55, .int v_324, .ref a_57]) := by rw [ef_753, up_ne (kd_ne ka_3 ko0 (by decide))]; exact hfo_745
                          have hfr0 : ∀ b, kd b ≠ 12 → kd b ≠ 576 → f_753 b = f b := fun b q12 q576 => (congrFun ef_753 b).trans ((up_ne (fun e9 => q576 (by rw [e9]; exact ka_3))).trans (hfr0 b q12 q576))
                          have hrA12 : ∀ b, kd b = 12 → ∀ j, fldR (f_753 b) j = fldR (f b) j := fun b kb j => (congrArg (fun x => fldR x j) ((congrFun ef_753 b).trans (up_ne (kd_ne ka_3 kb (by decide))))).trans (hrA12 b kb j)
                          have hfA12 : ∀ b, kd b = 12 → ∀ j, j ≠ 6 → j ≠ 7 → j ≠ 8 → j ≠ 11 → j ≠ 12 → j ≠ 13 → fldI (f_753 b) j = fldI (f b) j := fun b kb j n6 n7 n8 n11 n12 n13 => (congrArg (fun x => fldI x j) ((congrFun ef_753 b).trans (up_ne (kd_ne ka_3 kb (by decide))))).trans (hfA12 b kb j n6 n7 n8 n11 n12 n13)
                          have hfo_755 : f_753 a_3 = .inl (cI, 1560, .inl g_751) := by rw [ef_753]; exact up_self
                          have ql_756 : x_595 = g_751 (Int32.toNatClampNeg 0) := by rw [eqg_751, pk_un (by decide)]; exact ql_748
                          have ql_757 : x_750 = g_751 (Int32.toNatClampNeg 16) := by rw [eqg_751, pk_us]
                          have hF2 : fOK 8 g_751 := by have hi1 := cl_I (i := x_739) (by omega); have hz16 : Int32.toNatClampNeg 16 = 16 := rfl; have hds : v_142.toInt ≠ v_281.toInt := (hF0.ne (hhp.resolve_left (by omega)) (by omega) (by omega) (by omega)); exact hF0.pair (d := v_142.toInt) (s := v_281.toInt) (by rw [eqg_751, hz16, pk_us]; omega) (by omega) (by rw [eqg_751, pk_un (by omega), eqg_742, pk_un (by omega)]) hds (by constructor <;> omega) (by constructor <;> omega) hu11 (fun k9 h9 => by rw [eqg_751, pk_un (by omega), eqg_742, show 20 + k9 = Int32.toNatClampNeg x_739 by omega, pk_us]; omega) (fun k9 h9 => by rw [eqg_751, pk_un (by omega), eqg_742, pk_un (by omega)]) (by rw [eqg_751, pk_un (by omega), eqg_742, pk_un (by omega)])
                          have hTt_758 : frel kd 576 8 f_753 a_3 := frel.mk ka_3 hfo_755 hF2
                          refine lv_iconst (v := 1) hx hb dX12_takesPair_262 (by decide) ?_
                          exact W.zret (v := 1) (ty := .boolean) hx hb hr rfl (fun t ht hW => ⟨⟨1, f_753, rfl, ⟨hG, (by decide), hfr0, hrA12, hfA12, (by intro w6 z6 e6 d6; rw [hfo_1] at e6; rw [hfo_754] at d6; obtain rfl := Option.some.inj e6; obtain rfl := Option.some.inj d6; (try rw [ti_1]) <;> omega), (fun d9 h9 => by rw [hfo_754] at h9; obtain rfl := Option.some.inj h9; exact hTt_758)⟩, by rw [ht]; exact hP, va_K.moved hW.alike hK, pl_in hD⟩, hS.F ht⟩) hS.2.2 dX12_takesPair_263
                        · skip
                          rw [← Int32.toInt_inj, ti_3] at c_737
                          refine lv_aload_n hx hb dX12_takesPair_217 rfl (lv_at hl 5 rfl) ?_
                          refine lv_iconst (v := 3) hx hb dX12_takesPair_218 (by decide) ?_
                          refine lv_iload_n hx hb dX12_takesPair_219 rfl (lv_at hl 4 rfl) ?_
                          refine tk_ViP (As := [.int 3, .int v_72]) (rest := []) (n := 2) hx hb hml hown hU hN hZ (s_X12_bad_k12 l (dC, dI) cI cL cZ cR cG cH Z kd L f_328 hG o0 mo0 ko0 3 v_72) wd_602 wd_603 wd_604 wd_5 wd_605 (by decide +kernel) ⟨Nat.le_of_ble_eq_true rfl, Nat.le_of_ble_eq_true rfl⟩ hK hP hD hS mo0 hfo_330 12 rfl rfl rfl hl.1 rfl (Nat.le_of_ble_eq_true rfl) dX12_takesPair_220 ⟨Nat.le_of_ble_eq_true rfl, Nat.le_of_ble_eq_true rfl⟩ (fun x_759 f_760 H locs hw hP hD hS => ?_)
                          obtain ⟨hG, bx_759, hkc_761, hra_762, hfa_763⟩ := hw
                          have hfo_765 : f_760 a_3 = .inl (cI, 1560, .inl g_188) := by rw [hkc_761 a_3 (by rw [ka_3]; decide)]; exact hfo_329
                          have hfr0 : ∀ b, kd b ≠ 12 → kd b ≠ 576 → f_760 b = f b := fun b q12 q576 => (hkc_761 b q12).trans (hfr0 b q12 q576)
                          have hrA12 : ∀ b, kd b = 12 → ∀ j, fldR (f_760 b) j = fldR (f b) j := fun b kb j => (hra_762 b kb j).trans (hrA12 b kb j)
                          have hfA12 : ∀ b, kd b = 12 → ∀ j, j ≠ 6 → j ≠ 7 → j ≠ 8 → j ≠ 11 → j ≠ 12 → j ≠ 13 → fldI (f_760 b) j = fldI (f b) j := fun b kb j n6 n7 n8 n11 n12 n13 => (hfa_763 b kb j n7 n8).trans (hfA12 b kb j n6 n7 n8 n11 n12 n13)
                          have hT0 : frel kd 576 8 f_760 a_3 := hT0.keep (fun b q => hkc_761 b (by rw [q]; decide))
                          obtain ⟨a_767, a_768, a_769, v_770, a_771, v_772, v_773, v_774, v_775, v_776, v_777, v_778, v_779, v_780, v_781, a_782, a_783, a_784, a_785, a_786, a_787, a_788, a_789, v_790, v_791, v_792, v_793, v_794, a_795, v_796, a_797, a_798, v_799, v_800, a_801, v_802, a_803, a_804, v_805, v_806, a_807, a_808, a_809, v_810, a_811, a_812, a_813, a_814, a_815, a_816, a_817, a_818, a_819, v_820, v_821, a_822, hfo_766, ⟨ma_767, ka_767⟩, ⟨ma_768, ka_768⟩, ⟨ma_769, ka_769⟩, bv_770, ⟨ma_771, ka_771⟩, bv_772, bv_773, bv_778, bv_779, bv_780, ⟨ma_782, ka_782⟩, ⟨ma_783, ka_783⟩, ⟨ma_784, ka_784⟩, ⟨ma_785, ka_785⟩, ⟨ma_786, ka_786⟩, ⟨ma_787, ka_787⟩, ⟨ma_788, ka_788⟩, ⟨ma_789, ka_789⟩, bv_790, bv_792, bv_794, ⟨ma_795, ka_795⟩, bv_796, ⟨ma_797, ka_797⟩, ⟨ma_798, ka_798⟩, bv_799, ⟨ma_801, ka_801⟩, bv_802, ⟨ma_803, ka_803⟩, ⟨ma_804, ka_804⟩, bv_805, ⟨ma_807, ka_807⟩, ⟨ma_808, ka_808⟩, ⟨ma_809, ka_809⟩, bv_810, ⟨ma_811, ka_811⟩, ⟨ma_812, ka_812⟩, ⟨ma_813, ka_813⟩, ⟨ma_814, ka_814⟩, ⟨ma_815, ka_815⟩, ⟨ma_816, ka_816⟩, ⟨ma_817, ka_817⟩, ⟨ma_818, ka_818⟩, ⟨ma_819, ka_819⟩, bv_820, ⟨ma_822, ka_822⟩⟩ := un_12 (hG _ mo0) ko0
                          have bv_774 : ((-2147483648) ≤ v_774.toInt ∧ v_774.toInt ≤ 2147483647) := ⟨i32_lo _, i32_hi _⟩
                          have bv_775 : ((-2147483648) ≤ v_775.toInt ∧ v_775.toInt ≤ 2147483647) := ⟨i32_lo _, i32_hi _⟩
                          have bv_776 : ((-2147483648) ≤ v_776.toInt ∧ v_776.toInt ≤ 2147483647) := ⟨i32_lo _, i32_hi _⟩
                          have bv_777 : ((-2147483648) ≤ v_777.toInt ∧ v_777.toInt ≤ 2147483647) := ⟨i32_lo _, i32_hi _⟩
                          have bv_781 : ((-2147483648) ≤ v_781.toInt ∧ v_781.toInt ≤ 2147483647) := ⟨i32_lo _, i32_hi _⟩
                          have bv_791 : ((-2147483648) ≤ v_791.toInt ∧ v_791.toInt ≤ 2147483647) := ⟨i32_lo _, i32_hi _⟩
                          have bv_793 : ((-2147483648) ≤ v_793.toInt ∧ v_793.toInt ≤ 2147483647) := ⟨i32_lo _, i32_hi _⟩
                          have bv_800 : ((-2147483648) ≤ v_800.toInt ∧ v_800.toInt ≤ 2147483647) := ⟨i32_lo _, i32_hi _⟩
                          have bv_806 : ((-2147483648) ≤ v_806.toInt ∧ v_806.toInt ≤ 2147483647) := ⟨i32_lo _, i32_hi _⟩
                          have bv_821 : ((-2147483648) ≤ v_821.toInt ∧ v_821.toInt ≤ 2147483647) := ⟨i32_lo _, i32_hi _⟩
                          obtain ⟨rfl, rfl, rfl, rfl, rfl, rfl, rfl, rfl, rfl, rfl, rfl, rfl, rfl, rfl, rfl, rfl, rfl, rfl, rfl, rfl, rfl, rfl, rfl, rfl, rfl, rfl, rfl, rfl, rfl, rfl, rfl⟩ := re_12 hfo_1 hfo_766 (hrA12 o0 ko0)
                          obtain rfl := ri_12_3 hfo_1 hfo_766 (hfA12 o0 ko0 3 (by decide) (by decide) (by decide) (by decide) (by decide) (by decide))
                          obtain rfl := ri_12_5 hfo_1 hfo_766 (hfA12 o0 ko0 5 (by decide) (by decide) (by decide) (by decide) (by decide) (by decide))
                          obtain rfl := ri_12_14 hfo_1 hfo_766 (hfA12 o0 ko0 14 (by decide) (by decide) (by decide) (by decide) (by decide) (by decide))
                          obtain rfl := ri_12_23 hfo_1 hfo_766 (hfA12 o0 ko0 23 (by decide) (by decide) (by decide) (by decide) (by decide) (by decide))
                          obtain rfl := ri_12_25 hfo_1 hfo_766 (hfA12 o0 ko0 25 (by decide) (by decide) (by decide) (by decide) (by decide) (by decide))
                          obtain rfl := ri_12_27 hfo_1 hfo_766 (hfA12 o0 ko0 27 (by decide) (by decide) (by decide) (by decide) (by decide) (by decide))
                          obtain rfl := ri_12_29 hfo_1 hfo_766 (hfA12 o0 ko0 29 (by decide) (by decide) (by decide) (by decide) (by decide) (by decide))
                          obtain rfl := ri_12_32 hfo_1 hfo_766 (hfA12 o0 ko0 32 (by decide) (by decide) (by decide) (by decide) (by decide) (by decide))
                          obtain rfl := ri_12_33 hfo_1 hfo_766 (hfA12 o0 ko0 33 (by decide) (by decide) (by decide) (by decide) (by decide) (by decide))
                          obtain rfl := ri_12_35 hfo_1 hfo_766 (hfA12 o0 ko0 35 (by decide) (by decide) (by decide) (by decide) (by decide) (by decide))
                          obtain rfl := ri_12_38 hfo_1 hfo_766 (hfA12 o0 ko0 38 (by decide) (by decide) (by decide) (by decide) (by decide) (by decide))
                          obtain rfl := ri_12_43 hfo_1 hfo_766 (hfA12 o0 ko0 43 (by decide) (by decide) (by decide) (by decide) (by decide) (by decide))
                          obtain rfl := ri_12_53 hfo_1 hfo_766 (hfA12 o0 ko0 53 (by decide) (by decide) (by decide) (by decide) (by decide) (by decide))
                          obtain rfl := ri_12_6 hfo_330 hfo_766 (hfa_763 o0 ko0 6 (by decide) (by decide))
                          obtain rfl := ri_12_11 hfo_330 hfo_766 (hfa_763 o0 ko0 11 (by decide) (by decide))
                          obtain rfl := ri_12_12 hfo_330 hfo_766 (hfa_763 o0 ko0 12 (by decide) (by decide))
                          obtain rfl := ri_12_13 hfo_330 hfo_766 (hfa_763 o0 ko0 13 (by decide) (by decide))
                          exact W.zret (v := x_759) (ty := .boolean) hx hb hr (zb_n (by constructor <;> omega)) (fun t ht hW => ⟨⟨x_759, f_760, rfl, ⟨hG, (by constructor <;> omega), hfr0, hrA12, hfA12, (by intro w6 z6 e6 d6; rw [hfo_1] at e6; rw [hfo_766] at d6; obtain rfl := Option.some.inj e6; obtain rfl := Option.some.inj d6; omega), (fun d9 h9 => by rw [hfo_766] at h9; obtain rfl := Option.some.inj h9; exact hT0)⟩, by rw [ht]; exact hP, va_K.moved hW.alike hK, pl_in hD⟩, hS.F ht⟩) hS.2.2 dX12_takesPair_223
                  · skip
                    rw [Int32.le_iff_toInt_le] at c_606
                    refine lv_aload_n hx hb dX12_takesPair_115 rfl (lv_at hl 5 rfl) ?_
                    refine tk_getP (D := (dC, dI)) (ci := 12) (v := .ref a_3) (C := RX12) (T := TX12) (N := 56) hx hb hU inlX12 hown hK hP mo0 hfo_330 rfl 1 (by decide) (hU _ wd_170) (fun _ h9 => h9) rfl dX12_takesPair_116 ?_
                    refine lv_bipush (v := 20) hx hb dX12_takesPair_119 (by decide) ?_
                    refine lv_iload hx hb dX12_takesPair_121 (lv_at hl 0 rfl) ?_
                    refine lv_iadd hx hb dX12_takesPair_123 ?_
                    refine lv_topi (fun x_823 ex_823 => ?_)
                    have hx_823 : x_823.toInt = 20 + y_602.toInt := by rw [ex_823, ad_I (by rw [ti_20]; omega) (by rw [ti_20]; omega), ti_20]
                    have bx_823 : (20 ≤ x_823.toInt ∧ x_823.toInt ≤ 39) := by constructor <;> omega
                    refine tk_ildP hx hb hK hP 0 ma_3 hfo_329 rfl (vp_in_iff.mpr (by constructor <;> omega)) dX12_takesPair_124 ?_
                    refine lv_topi (fun x_824 ex_824 => ?_)
                    have bx_824 : (0 ≤ x_824.toInt ∧ x_824.toInt ≤ 80) := by have hc9 := cl_I (i := x_823) (by omega); rw [ex_824]; exact hbg_188.2.2.2.2.2.1 _ (by omega) (by omega) (by omega)
                    refine lv_bipush (v := 9) hx hb dX12_takesPair_125 (by decide) ?_
                    refine lv_idiv hx hb dX12_takesPair_127 (by decide) ?_
                    refine lv_topi (fun x_825 ex_825 => ?_)
                    have hx_825 : x_825.toInt = x_824.toInt / 9 := by rw [ex_825, dv_I (by omega) (by rw [ti_9]; omega), ti_9]
                    have bx_825 : (0 ≤ x_825.toInt ∧ x_825.toInt ≤ 8) := by constructor <;> omega
                    refine lv_istore (lv' := [(6, .int x_825), (5, .int y_602), (4, .int y_603), (3, .int y_604), (2, .int y_605), (1, .int v_72), (0, .ref o0)]) hx hb dX12_takesPair_128 hl (by decide) rfl (fun ls hl => ?_)
                    refine lv_aload_n hx hb dX12_takesPair_130 rfl (lv_at hl 6 rfl) ?_
                    refine tk_getP (D := (dC, dI)) (ci := 12) (v := .ref a_3) (C := RX12) (T := TX12) (N := 56) hx hb hU inlX12 hown hK hP mo0 hfo_330 rfl 1 (by decide) (hU _ wd_170) (fun _ h9 => h9) rfl dX12_takesPair_131 ?_
                    refine lv_bipush (v := 20) hx hb dX12_takesPair_134 (by decide) ?_
                    refine lv_iload hx hb dX12_takesPair_136 (lv_at hl 1 rfl) ?_
                    refine lv_iadd hx hb dX12_takesPair_138 ?_
                    refine lv_topi (fun x_826 ex_826 => ?_)
                    have hx_826 : x_826.toInt = 20 + y_602.toInt := by rw [ex_826, ad_I (by rw [ti_20]; omega) (by rw [ti_20]; omega), ti_20]
                    have bx_826 : (20 ≤ x_826.toInt ∧ x_826.toInt ≤ 39) := by constructor <;> omega
                    refine tk_ildP hx hb hK hP 0 ma_3 hfo_329 rfl (vp_in_iff.mpr (by constructor <;> omega)) dX12_takesPair_139 ?_
                    refine lv_topi (fun x_827 ex_827 => ?_)
                    have bx_827 : (0 ≤ x_827.toInt ∧ x_827.toInt ≤ 80) := by have hc9 := cl_I (i := x_826) (by omega); rw [ex_827]; exact hbg_188.2.2.2.2.2.1 _ (by omega) (by omega) (by omega)
                    refine lv_bipush (v := 9) hx hb dX12_takesPair_140 (by decide) ?_
                    refine lv_irem hx hb dX12_takesPair_142 (by decide) ?_
                    refine lv_topi (fun x_828 ex_828 => ?_)
                    have hx_828 : x_828.toInt = x_827.toInt % 9 := by rw [ex_828, rm_I (by omega) (by rw [ti_9]; omega), ti_9]
                    have bx_828 : (0 ≤ x_828.toInt ∧ x_828.toInt ≤ 8) := by constructor <;> omega
                    refine lv_istore (lv' := [(7, .int x_828), (6, .int x_825), (5, .int y_602), (4, .int y_603), (3, .int y_604), (2, .int y_605), (1, .int v_72), (0, .ref o0)]) hx hb dX12_takesPair_143 hl (by decide) rfl (fun ls hl => ?_)
                    refine lv_iload hx hb dX12_takesPair_145 (lv_at hl 1 rfl) ?_
                    refine lv_iload hx hb dX12_takesPair_147 (lv_at hl 0 rfl) ?_
                    refine lv_icmp_ne (tgt := 155) hx hb dX12_takesPair_149 (by decide) (fun c_829 => ?_) (fun c_829 => ?_)
                    · skip
                      rw [← Int32.toInt_inj] at c_829
                      obtain ⟨x_830, ex_830⟩ : ∃ y : Int32, y_605 + 1 = y := ⟨_, rfl⟩
                      have hx_830 : x_830.toInt = y_605.toInt + 1 := by rw [← ex_830, ad_I (by rw [ti_1]; omega) (by rw [ti_1]; omega), ti_1]
                      have bx_830 : (1 ≤ x_830.toInt ∧ x_830.toInt ≤ 21) := by constructor <;> omega
                      refine lv_iinc (v := x_830) (lv' := [(2, .int x_830), (7, .int x_828), (6, .int x_825), (5, .int y_602), (4, .int y_603), (3, .int y_604), (1, .int v_72), (0, .ref o0)]) hx hb dX12_takesPair_155 hl (k := 5) rfl ex_830 (by decide) rfl (fun ls hl => ?_)
                      refine lv_iload_n hx hb dX12_takesPair_158 rfl (lv_at hl 5 rfl) ?_
                      refine lv_iload hx hb dX12_takesPair_159 (lv_at hl 2 rfl) ?_
                      refine lv_aload_n hx hb dX12_takesPair_161 rfl (lv_at hl 7 rfl) ?_
                      refine tk_getP (D := (dC, dI)) (ci := 12) (v := .int v_142) (C := RX12) (T := TX12) (N := 56) hx hb hU inlX12 hown hK hP mo0 hfo_330 rfl 12 (by decide) (hU _ wd_618) (fun _ h9 => h9) rfl dX12_takesPair_162 ?_
                      refine lv_icmp_ne (tgt := 172) hx hb dX12_takesPair_165 (by decide) (fun c_831 => ?_) (fun c_831 => ?_)
                      · skip
                        rw [← Int32.toInt_inj] at c_831
                        refine lv_iconst (v := 0) hx hb dX12_takesPair_172 (by decide) ?_
                        refine lv_iadd hx hb dX12_takesPair_173 ?_
                        refine lv_topi (fun x_832 ex_832 => ?_)
                        have hx_832 : x_832.toInt = y_604.toInt + 0 := by rw [ex_832, ad_I (by rw [ti_0]; omega) (by rw [ti_0]; omega), ti_0]
                        have bx_832 : (0 ≤ x_832.toInt ∧ x_832.toInt ≤ 20) := by constructor <;> omega
                        refine lv_istore_n (lv' := [(3, .int x_832), (2, .int x_830), (7, .int x_828), (6, .int x_825), (5, .int y_602), (4, .int y_603), (1, .int v_72), (0, .ref o0)]) hx hb dX12_takesPair_174 rfl hl (by decide) rfl (fun ls hl => ?_)
                        refine lv_iload hx hb dX12_takesPair_175 (lv_at hl 5 rfl) ?_
                        refine lv_iload hx hb dX12_takesPair_177 (lv_at hl 2 rfl) ?_
                        refine lv_aload_n hx hb dX12_takesPair_179 rfl (lv_at hl 7 rfl) ?_
                        refine tk_getP (D := (dC, dI)) (ci := 12) (v := .int v_281) (C := RX12) (T := TX12) (N := 56) hx hb hU inlX12 hown hK hP mo0 hfo_330 rfl 13 (by decide) (hU _ wd_619) (fun _ h9 => h9) rfl dX12_takesPair_180 ?_
                        refine lv_icmp_ne (tgt := 190) hx hb dX12_takesPair_183 (by decide) (fun c_833 => ?_) (fun c_833 => ?_)
                        · skip
                          rw [← Int32.toInt_inj] at c_833
                          refine lv_iconst (v := 0) hx hb dX12_takesPair_190 (by decide) ?_
                          refine lv_iadd hx hb dX12_takesPair_191 ?_
                          refine lv_topi (fun x_834 ex_834 => ?_)
                          have hx_834 : x_834.toInt = y_603.toInt + 0 := by rw [ex_834, ad_I (by rw [ti_0]; omega) (by rw [ti_0]; omega), ti_0]
                          have bx_834 : (0 ≤ x_834.toInt ∧ x_834.toInt ≤ 20) := by constructor <;> omega
                          refine lv_istore (lv' := [(4, .int x_834), (3, .int x_832), (2, .int x_830), (7, .int x_828), (6, .int x_825), (5, .int y_602), (1, .int v_72), (0, .ref o0)]) hx hb dX12_takesPair_192 hl (by decide) rfl (fun ls hl => ?_)
                          obtain ⟨x_835, ex_835⟩ : ∃ y : Int32, y_602 + 1 = y := ⟨_, rfl⟩
                          have hx_835 : x_835.toInt = y_602.toInt + 1 := by rw [← ex_835, ad_I (by rw [ti_1]; omega) (by rw [ti_1]; omega), ti_1]
                          have bx_835 : (1 ≤ x_835.toInt ∧ x_835.toInt ≤ 20) := by constructor <;> omega
                          refine lv_iinc (v := x_835) (lv' := [(5, .int x_835), (4, .int x_834), (3, .int x_832), (2, .int x_830), (7, .int x_828), (6, .int x_825), (1, .int v_72), (0, .ref o0)]) hx hb dX12_takesPair_194 hl (k := 5) rfl ex_835 (by decide) rfl (fun ls hl => ?_)
                          refine lv_goto (tgt := 103) hx hb dX12_takesPair_197 (by decide) ?_
                          exact ih_hloop_601 x_835 (by constructor <;> omega) x_834 (by constructor <;> omega) x_832 (by constructor <;> omega) x_830 (by constructor <;> omega) (by omega) (by have hc9 := cl_I (i := x_823) (by omega); have hn9 : (x_835.toInt).toNat = (y_602.toInt).toNat + 1 := (by omega); have hg9 : g_188 (20 + (y_602.toInt).toNat) = x_824 := (by rw [ex_824]; congr 1; omega); rw [hn9, cntU_ne (by rw [hg9]; omega)]; omega) (by omega) ls (lv_sub hl [0, 1, 2, 3, 6, 7] rfl)
                        · skip
                          rw [← Int32.toInt_inj] at c_833
                          refine lv_iconst (v := 1) hx hb dX12_takesPair_186 (by decide) ?_
                          refine lv_goto (tgt := 191) hx hb dX12_takesPair_187 (by decide) ?_
                          refine lv_iadd hx hb dX12_takesPair_191 ?_
                          refine lv_topi (fun x_836 ex_836 => ?_)
                          have hx_836 : x_836.toInt = y_603.toInt + 1 := by rw [ex_836, ad_I (by rw [ti_1]; omega) (by rw [ti_1]; omega), ti_1]
                          have bx_836 : (1 ≤ x_836.toInt ∧ x_836.toInt ≤ 21) := by constructor <;> omega
                          refine lv_istore (lv' := [(4, .int x_836), (3, .int x_832), (2, .int x_830), (7, .int x_828), (6, .int x_825), (5, .int y_602), (1, .int v_72), (0, .ref o0)]) hx hb dX12_takesPair_192 hl (by decide) rfl (fun ls hl => ?_)
                          obtain ⟨x_837, ex_837⟩ : ∃ y : Int32, y_602 + 1 = y := ⟨_, rfl⟩
                          have hx_837 : x_837.toInt = y_602.toInt + 1 := by rw [← ex_837, ad_I (by rw [ti_1]; omega) (by rw [ti_1]; omega), ti_1]
                          have bx_837 : (1 ≤ x_837.toInt ∧ x_837.toInt ≤ 20) := by constructor <;> omega
                          refine lv_iinc (v := x_837) (lv' := [(5, .int x_837), (4, .int x_836), (3, .int x_832), (2, .int x_830), (7, .int x_828), (6, .int x_825), (1, .int v_72), (0, .ref o0)]) hx hb dX12_takesPair_194 hl (k := 5) rfl ex_837 (by decide) rfl (fun ls hl => ?_)
                          refine lv_goto (tgt := 103) hx hb dX12_takesPair_197 (by decide) ?_
                          exact ih_hloop_601 x_837 (by constructor <;> omega) x_836 (by constructor <;> omega) x_832 (by constructor <;> omega) x_830 (by constructor <;> omega) (by omega) (by have hc9 := cl_I (i := x_823) (by omega); have hn9 : (x_837.toInt).toNat = (y_602.toInt).toNat + 1 := (by omega); have hg9 : g_188 (20 + (y_602.toInt).toNat) = x_824 := (by rw [ex_824]; congr 1; omega); rw [hn9, cntU_ne (by rw [hg9]; omega)]; omega) (by omega) ls (lv_sub hl [0, 1, 2, 3, 6, 7] rfl)
                      · skip
                        rw [← Int32.toInt_inj] at c_831
                        refine lv_iconst (v := 1) hx hb dX12_takesPair_168 (by decide) ?_
                        refine lv_goto (tgt := 173) hx hb dX12_takesPair_169 (by decide) ?_
                        refine lv_iadd hx hb dX12_takesPair_173 ?_
                        refine lv_topi (fun x_838 ex_838 => ?_)
                        have hx_838 : x_838.toInt = y_604.toInt + 1 := by rw [ex_838, ad_I (by rw [ti_1]; omega) (by rw [ti_1]; omega), ti_1]
                        have bx_838 : (1 ≤ x_838.toInt ∧ x_838.toInt ≤ 21) := by constructor <;> omega
                        refine lv_istore_n (lv' := [(3, .int x_838), (2, .int x_830), (7, .int x_828), (6, .int x_825), (5, .int y_602), (4, .int y_603), (1, .int v_72), (0, .ref o0)]) hx hb dX12_takesPair_174 rfl hl (by decide) rfl (fun ls hl => ?_)
                        refine lv_iload hx hb dX12_takesPair_175 (lv_at hl 5 rfl) ?_
                        refine lv_iload hx hb dX12_takesPair_177 (lv_at hl 2 rfl) ?_
                        refine lv_aload_n hx hb dX12_takesPair_179 rfl (lv_at hl 7 rfl) ?_
                        refine tk_getP (D := (dC, dI)) (ci := 12) (v := .int v_281) (C := RX12) (T := TX12) (N := 56) hx hb hU inlX12 hown hK hP mo0 hfo_330 rfl 13 (by decide) (hU _ wd_619) (fun _ h9 => h9) rfl dX12_takesPair_180 ?_
                        refine lv_icmp_ne (tgt := 190) hx hb dX12_takesPair_183 (by decide) (fun c_839 => ?_) (fun c_839 => ?_)
                        · skip
                          rw [← Int32.toInt_inj] at c_839
                          refine lv_iconst (v := 0) hx hb dX12_takesPair_190 (by decide) ?_
                          refine lv_iadd hx hb dX12_takesPair_191 ?_
                          refine lv_topi (fun x_840 ex_840 => ?_)
                          have hx_840 : x_840.toInt = y_603.toInt + 0 := by rw [ex_840, ad_I (by rw [ti_0]; omega) (by rw [ti_0]; omega), ti_0]
                          have bx_840 : (0 ≤ x_840.toInt ∧ x_840.toInt ≤ 20) := by constructor <;> omega
                          refine lv_istore (lv' := [(4, .int x_840), (3, .int x_838), (2, .int x_830), (7, .int x_828), (6, .int x_825), (5, .int y_602), (1, .int v_72), (0, .ref o0)]) hx hb dX12_takesPair_192 hl (by decide) rfl (fun ls hl => ?_)
                          obtain ⟨x_841, ex_841⟩ : ∃ y : Int32, y_602 + 1 = y := ⟨_, rfl⟩
                          have hx_841 : x_841.toInt = y_602.toInt + 1 := by rw [← ex_841, ad_I (by rw [ti_1]; omega) (by rw [ti_1]; omega), ti_1]
                          have bx_841 : (1 ≤ x_841.toInt ∧ x_841.toInt ≤ 20) := by constructor <;> omega
                          refine lv_iinc (v := x_841) (lv' := [(5, .int x_841), (4, .int x_840), (3, .int x_838), (2, .int x_830), (7, .int x_828), (6, .int x_825), (1, .int v_72), (0, .ref o0)]) hx hb dX12_takesPair_194 hl (k := 5) rfl ex_841 (by decide) rfl (fun ls hl => ?_)
                          refine lv_goto (tgt := 103) hx hb dX12_takesPair_197 (by decide) ?_
                          exact ih_hloop_601 x_841 (by constructor <;> omega) x_840 (by constructor <;> omega) x_838 (by constructor <;> omega) x_830 (by constructor <;> omega) (by omega) (by have hc9 := cl_I (i := x_823) (by omega); have hn9 : (x_841.toInt).toNat = (y_602.toInt).toNat + 1 := (by omega); have hg9 : g_188 (20 + (y_602.toInt).toNat) = x_824 := (by rw [ex_824]; congr 1; omega); rw [hn9, cntU_ne (by rw [hg9]; omega)]; omega) (by omega) ls (lv_sub hl [0, 1, 2, 3, 6, 7] rfl)
                        · skip
                          rw [← Int32.toInt_inj] at c_839
                          refine lv_iconst (v := 1) hx hb dX12_takesPair_186 (by decide) ?_
                          refine lv_goto (tgt := 191) hx hb dX12_takesPair_187 (by decide) ?_
                          refine lv_iadd hx hb dX12_takesPair_191 ?_
                          refine lv_topi (fun x_842 ex_842 => ?_)
                          have hx_842 : x_842.toInt = y_603.toInt + 1 := by rw [ex_842, ad_I (by rw [ti_1]; omega) (by rw [ti_1]; omega), ti_1]
                          have bx_842 : (1 ≤ x_842.toInt ∧ x_842.toInt ≤ 21) := by constructor <;> omega
                          refine lv_istore (lv' := [(4, .int x_842), (3, .int x_838), (2, .int x_830), (7, .int x_828), (6, .int x_825), (5, .int y_602), (1, .int v_72), (0, .ref o0)]) hx hb dX12_takesPair_192 hl (by decide) rfl (fun ls hl => ?_)
                          obtain ⟨x_843, ex_843⟩ : ∃ y : Int32, y_602 + 1 = y := ⟨_, rfl⟩
                          have hx_843 : x_843.toInt = y_602.toInt + 1 := by rw [← ex_843, ad_I (by rw [ti_1]; omega) (by rw [ti_1]; omega), ti_1]
                          have bx_843 : (1 ≤ x_843.toInt ∧ x_843.toInt ≤ 20) := by constructor <;> omega
                          refine lv_iinc (v := x_843) (lv' := [(5, .int x_843), (4, .int x_842), (3, .int x_838), (2, .int x_830), (7, .int x_828), (6, .int x_825), (1, .int v_72), (0, .ref o0)]) hx hb dX12_takesPair_194 hl (k := 5) rfl ex_843 (by decide) rfl (fun ls hl => ?_)
                          refine lv_goto (tgt := 103) hx hb dX12_takesPair_197 (by decide) ?_
                          exact ih_hloop_601 x_843 (by constructor <;> omega) x_842 (by constructor <;> omega) x_838 (by constructor <;> omega) x_830 (by constructor <;> omega) (by omega) (by have hc9 := cl_I (i := x_823) (by omega); have hn9 : (x_843.toInt).toNat = (y_602.toInt).toNat + 1 := (by omega); have hg9 : g_188 (20 + (y_602.toInt).toNat) = x_824 := (by rw [ex_824]; congr 1; omega); rw [hn9, cntU_ne (by rw [hg9]; omega)]; omega) (by omega) ls (lv_sub hl [0, 1, 2, 3, 6, 7] rfl)
                    · skip
                      rw [← Int32.toInt_inj] at c_829
                      refine lv_goto (tgt := 194) hx hb dX12_takesPair_152 (by decide) ?_
                      obtain ⟨x_844, ex_844⟩ : ∃ y : Int32, y_602 + 1 = y := ⟨_, rfl⟩
                      have hx_844 : x_844.toInt = y_602.toInt + 1 := by rw [← ex_844, ad_I (by rw [ti_1]; omega) (by rw [ti_1]; omega), ti_1]
                      have bx_844 : (1 ≤ x_844.toInt ∧ x_844.toInt ≤ 20) := by constructor <;> omega
                      refine lv_iinc (v := x_844) (lv' := [(5, .int x_844), (7, .int x_828), (6, .int x_825), (4, .int y_603), (3, .int y_604), (2, .int y_605), (1, .int v_72), (0, .ref o0)]) hx hb dX12_takesPair_194 hl (k := 2) rfl ex_844 (by decide) rfl (fun ls hl => ?_)
                      refine lv_goto (tgt := 103) hx hb dX12_takesPair_197 (by decide) ?_
                      exact ih_hloop_601 x_844 (by constructor <;> omega) y_603 (by constructor <;> omega) y_604 (by constructor <;> omega) y_605 (by constructor <;> omega) (by omega) (by have hc9 := cl_I (i := x_823) (by omega); have hn9 : (x_844.toInt).toNat = (y_602.toInt).toNat + 1 := (by omega); have hg9 : g_188 (20 + (y_602.toInt).toNat) = x_824 := (by rw [ex_824]; congr 1; omega); rw [hn9, cntU_eq (by rw [hg9]; omega)]; omega) (by omega) ls (lv_sub hl [0, 3, 4, 5, 6, 7] rfl)
              exact hloop_601 21 0 (by decide) 0 (by decide) 0 (by decide) 0 (by decide) (by (try rw [ti_0]) <;> omega) (by have h3 : ((0 : Int32)).toInt = 0 := rfl; rw [h3]; rfl) (by (try rw [ti_0]) <;> omega) ls hl
            · skip
              rw [← Int32.toInt_inj, ti_0] at c_593
              refine lv_iconst (v := 1) hx hb dX12_takesPair_91 (by decide) ?_
              exact W.zret (v := 1) (ty := .boolean) hx hb hr rfl (fun t ht hW => ⟨⟨1, f_328, rfl, ⟨hG, (by decide), hfr0, hrA12, hfA12, (by intro w6 z6 e6 d6; rw [hfo_1] at e6; rw [hfo_330] at d6; obtain rfl := Option.some.inj e6; obtain rfl := Option.some.inj d6; (try rw [ti_1]) <;> omega), (fun d9 h9 => by rw [hfo_330] at h9; obtain rfl := Option.some.inj h9; exact hT0)⟩, by rw [ht]; exact hP, va_K.moved hW.alike hK, pl_in hD⟩, hS.F ht⟩) hS.2.2 dX12_takesPair_92
          · skip
            rw [← Int32.toInt_inj, ti_0] at c_588
            refine lv_aload_n hx hb dX12_takesPair_66 rfl (lv_at hl 1 rfl) ?_
            refine lv_iconst (v := 2) hx hb dX12_takesPair_67 (by decide) ?_
            refine lv_iload_n hx hb dX12_takesPair_68 rfl (lv_at hl 0 rfl) ?_
            refine tk_ViP (As := [.int 2, .int v_72]) (rest := []) (n := 2) hx hb hml hown hU hN hZ (s_X12_bad_k12 l (dC, dI) cI cL cZ cR cG cH Z kd L f_328 hG o0 mo0 ko0 2 v_72) wd_602 wd_603 wd_604 wd_5 wd_605 (by decide +kernel) ⟨Nat.le_of_ble_eq_true rfl, Nat.le_of_ble_eq_true rfl⟩ hK hP hD hS mo0 hfo_330 12 rfl rfl rfl hl.1 rfl (Nat.le_of_ble_eq_true rfl) dX12_takesPair_69 ⟨Nat.le_of_ble_eq_true rfl, Nat.le_of_ble_eq_true rfl⟩ (fun x_845 f_846 H locs hw hP hD hS => ?_)
            obtain ⟨hG, bx_845, hkc_847, hra_848, hfa_849⟩ := hw
            have hfo_851 : f_846 a_3 = .inl (cI, 1560, .inl g_188) := by rw [hkc_847 a_3 (by rw [ka_3]; decide)]; exact hfo_329
            have hfr0 : ∀ b, kd b ≠ 12 → kd b ≠ 576 → f_846 b = f b := fun b q12 q576 => (hkc_847 b q12).trans (hfr0 b q12 q576)
            have hrA12 : ∀ b, kd b = 12 → ∀ j, fldR (f_846 b) j = fldR (f b) j := fun b kb j => (hra_848 b kb j).trans (hrA12 b kb j)
            have hfA12 : ∀ b, kd b = 12 → ∀ j, j ≠ 6 → j ≠ 7 → j ≠ 8 → j ≠ 11 → j ≠ 12 → j ≠ 13 → fldI (f_846 b) j = fldI (f b) j := fun b kb j n6 n7 n8 n11 n12 n13 => (hfa_849 b kb j n7 n8).trans (hfA12 b kb j n6 n7 n8 n11 n12 n13)
            have hT0 : frel kd 576 8 f_846 a_3 := hT0.keep (fun b q => hkc_847 b (by rw [q]; decide))
            obtain ⟨a_853, a_854, a_855, v_856, a_857, v_858, v_859, v_860, v_861, v_862, v_863, v_864, v_865, v_866, v_867, a_868, a_869, a_870, a_871, a_872, a_873, a_874, a_875, v_876, v_877, v_878, v_879, v_880, a_881, v_882, a_883, a_884, v_885, v_886, a_887, v_888, a_889, a_890, v_891, v_892, a_893, a_894, a_895, v_896, a_897, a_898, a_899, a_900, a_901, a_902, a_903, a_904, a_905, v_906, v_907, a_908, hfo_852, ⟨ma_853, ka_853⟩, ⟨ma_854, ka_854⟩, ⟨ma_855, ka_855⟩, bv_856, ⟨ma_857, ka_857⟩, bv_858, bv_859, bv_864, bv_865, bv_866, ⟨ma_868, ka_868⟩, ⟨ma_869, ka_869⟩, ⟨ma_870, ka_870⟩, ⟨ma_871, ka_871⟩, ⟨ma_872, ka_872⟩, ⟨ma_873, ka_873⟩, ⟨ma_874, ka_874⟩, ⟨ma_875, ka_875⟩, bv_876, bv_878, bv_880, ⟨ma_881, ka_881⟩, bv_882, ⟨ma_883, ka_883⟩, ⟨ma_884, ka_884⟩, bv_885, ⟨ma_887, ka_887⟩, bv_888, ⟨ma_889, ka_889⟩, ⟨ma_890, ka_890⟩, bv_891, ⟨ma_893, ka_893⟩, ⟨ma_894, ka_894⟩, ⟨ma_895, ka_895⟩, bv_896, ⟨ma_897, ka_897⟩, ⟨ma_898, ka_898⟩, ⟨ma_899, ka_899⟩, ⟨ma_900, ka_900⟩, ⟨ma_901, ka_901⟩, ⟨ma_902, ka_902⟩, ⟨ma_903, ka_903⟩, ⟨ma_904, ka_904⟩, ⟨ma_905, ka_905⟩, bv_906, ⟨ma_908, ka_908⟩⟩ := un_12 (hG _ mo0) ko0
            have bv_860 : ((-2147483648) ≤ v_860.toInt ∧ v_860.toInt ≤ 2147483647) := ⟨i32_lo _, i32_hi _⟩
            have bv_861 : ((-2147483648) ≤ v_861.toInt ∧ v_861.toInt ≤ 2147483647) := ⟨i32_lo _, i32_hi _⟩
            have bv_862 : ((-2147483648) ≤ v_862.toInt ∧ v_862.toInt ≤ 2147483647) := ⟨i32_lo _, i32_hi _⟩
            have bv_863 : ((-2147483648) ≤ v_863.toInt ∧ v_863.toInt ≤ 2147483647) := ⟨i32_lo _, i32_hi _⟩
            have bv_867 : ((-2147483648) ≤ v_867.toInt ∧ v_867.toInt ≤ 2147483647) := ⟨i32_lo _, i32_hi _⟩
            have bv_877 : ((-2147483648) ≤ v_877.toInt ∧ v_877.toInt ≤ 2147483647) := ⟨i32_lo _, i32_hi _⟩
            have bv_879 : ((-2147483648) ≤ v_879.toInt ∧ v_879.toInt ≤ 2147483647) := ⟨i32_lo _, i32_hi _⟩
            have bv_886 : ((-2147483648) ≤ v_886.toInt ∧ v_886.toInt ≤ 2147483647) := ⟨i32_lo _, i32_hi _⟩
            have bv_892 : ((-2147483648) ≤ v_892.toInt ∧ v_892.toInt ≤ 2147483647) := ⟨i32_lo _, i32_hi _⟩
            have bv_907 : ((-2147483648) ≤ v_907.toInt ∧ v_907.toInt ≤ 2147483647) := ⟨i32_lo _, i32_hi _⟩
            obtain ⟨rfl, rfl, rfl, rfl, rfl, rfl, rfl, rfl, rfl, rfl, rfl, rfl, rfl, rfl, rfl, rfl, rfl, rfl, rfl, rfl, rfl, rfl, rfl, rfl, rfl, rfl, rfl, rfl, rfl, rfl, rfl⟩ := re_12 hfo_1 hfo_852 (hrA12 o0 ko0)
            obtain rfl := ri_12_3 hfo_1 hfo_852 (hfA12 o0 ko0 3 (by decide) (by decide) (by decide) (by decide) (by decide) (by decide))
            obtain rfl := ri_12_5 hfo_1 hfo_852 (hfA12 o0 ko0 5 (by decide) (by decide) (by decide) (by decide) (by decide) (by decide))
            obtain rfl := ri_12_14 hfo_1 hfo_852 (hfA12 o0 ko0 14 (by decide) (by decide) (by decide) (by decide) (by decide) (by decide))
            obtain rfl := ri_12_23 hfo_1 hfo_852 (hfA12 o0 ko0 23 (by decide) (by decide) (by decide) (by decide) (by decide) (by decide))
            obtain rfl := ri_12_25 hfo_1 hfo_852 (hfA12 o0 ko0 25 (by decide) (by decide) (by decide) (by decide) (by decide) (by decide))
            obtain rfl := ri_12_27 hfo_1 hfo_852 (hfA12 o0 ko0 27 (by decide) (by decide) (by decide) (by decide) (by decide) (by decide))
            obtain rfl := ri_12_29 hfo_1 hfo_852 (hfA12 o0 ko0 29 (by decide) (by decide) (by decide) (by decide) (by decide) (by decide))
            obtain rfl := ri_12_32 hfo_1 hfo_852 (hfA12 o0 ko0 32 (by decide) (by decide) (by decide) (by decide) (by decide) (by decide))
            obtain rfl := ri_12_33 hfo_1 hfo_852 (hfA12 o0 ko0 33 (by decide) (by decide) (by decide) (by decide) (by decide) (by decide))
            obtain rfl := ri_12_35 hfo_1 hfo_852 (hfA12 o0 ko0 35 (by decide) (by decide) (by decide) (by decide) (by decide) (by decide))
            obtain rfl := ri_12_38 hfo_1 hfo_852 (hfA12 o0 ko0 38 (by decide) (by decide) (by decide) (by decide) (by decide) (by decide))
            obtain rfl := ri_12_43 hfo_1 hfo_852 (hfA12 o0 ko0 43 (by decide) (by decide) (by decide) (by decide) (by decide) (by decide))
            obtain rfl := ri_12_53 hfo_1 hfo_852 (hfA12 o0 ko0 53 (by decide) (by decide) (by decide) (by decide) (by decide) (by decide))
            obtain rfl := ri_12_6 hfo_330 hfo_852 (hfa_849 o0 ko0 6 (by decide) (by decide))
            obtain rfl := ri_12_11 hfo_330 hfo_852 (hfa_849 o0 ko0 11 (by decide) (by decide))
            obtain rfl := ri_12_12 hfo_330 hfo_852 (hfa_849 o0 ko0 12 (by decide) (by decide))
            obtain rfl := ri_12_13 hfo_330 hfo_852 (hfa_849 o0 ko0 13 (by decide) (by decide))
            exact W.zret (v := x_845) (ty := .boolean) hx hb hr (zb_n (by constructor <;> omega)) (fun t ht hW => ⟨⟨x_845, f_846, rfl, ⟨hG, (by constructor <;> omega), hfr0, hrA12, hfA12, (by intro w6 z6 e6 d6; rw [hfo_1] at e6; rw [hfo_852] at d6; obtain rfl := Option.some.inj e6; obtain rfl := Option.some.inj d6; omega), (fun d9 h9 => by rw [hfo_852] at h9; obtain rfl := Option.some.inj h9; exact hT0)⟩, by rw [ht]; exact hP, va_K.moved hW.alike hK, pl_in hD⟩, hS.F ht⟩) hS.2.2 dX12_takesPair_72
      · skip
        rw [← Int32.toInt_inj, ti_0] at c_326
        refine lv_iconst (v := 0) hx hb dX12_takesPair_42 (by decide) ?_
        exact W.zret (v := 0) (ty := .boolean) hx hb hr rfl (fun t ht hW => ⟨⟨0, f_261, rfl, ⟨hG, (by decide), hfr0, hrA12, hfA12, (by intro w6 z6 e6 d6; rw [hfo_1] at e6; rw [hfo_269] at d6; obtain rfl := Option.some.inj e6; obtain rfl := Option.some.inj d6; (try rw [ti_0]) <;> omega), (fun d9 h9 => by rw [hfo_269] at h9; obtain rfl := Option.some.inj h9; exact hT0)⟩, by rw [ht]; exact hP, va_K.moved hW.alike hK, pl_in hD⟩, hS.F ht⟩) hS.2.2 dX12_takesPair_43
  · skip
    rw [← Int32.toInt_inj, ti_0] at c_189
    refine lv_iconst (v := 0) hx hb dX12_takesPair_16 (by decide) ?_
    exact W.zret (v := 0) (ty := .boolean) hx hb hr rfl (fun t ht hW => ⟨⟨0, f_123, rfl, ⟨hG, (by decide), hfr0, hrA12, hfA12, (by intro w6 z6 e6 d6; rw [hfo_1] at e6; rw [hfo_130] at d6; obtain rfl := Option.some.inj e6; obtain rfl := Option.some.inj d6; (try rw [ti_0]) <;> omega), (fun d9 h9 => by rw [hfo_130] at h9; obtain rfl := Option.some.inj h9; exact hT0)⟩, by rw [ht]; exact hP, va_K.moved hW.alike hK, pl_in hD⟩, hS.F ht⟩) hS.2.2 dX12_takesPair_17
