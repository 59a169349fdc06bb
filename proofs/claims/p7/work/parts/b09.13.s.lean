set_option maxHeartbeats 8000000 in
set_option maxRecDepth 100000 in
theorem s_X12_ruled_k12 (l : Launch) (D : va_G) (cI cL cZ cR cG cH : ClassId) (Z : zT) (kd : Nat → Nat) (L : List Nat) (f : Nat → va_E) (hG : GI (okc cI cL cZ cR cG cH L kd) kd L f) (o0 : Nat) (mo0 : o0 ∈ L) (ko0 : kd o0 = 12) (hxtr0 : ∀ d9, fldR (f o0) 1 = some d9 → frel kd 576 7 f d9) : mPI l D cI cL cZ cR cG cH Z yX12_ruled cX12_ruled 6 (some .boolean) 7 150 [.ref o0] L f (fun (r : Int32) (f9 : Nat → va_E) => GI (okc cI cL cZ cR cG cH L kd) kd L f9 ∧ (0 ≤ r.toInt ∧ r.toInt ≤ 1) ∧ (∀ b, kd b ≠ 12 → kd b ≠ 576 → f9 b = f b) ∧ (∀ b, kd b = 12 → ∀ j, fldR (f9 b) j = fldR (f b) j) ∧ (∀ b, kd b = 12 → ∀ j, j ≠ 6 → j ≠ 7 → j ≠ 8 → j ≠ 11 → j ≠ 12 → j ≠ 13 → j ≠ 14 → fldI (f9 b) j = fldI (f b) j) ∧ (∀ (w6 z6 : Int32), fldI (f o0) 6 = some w6 → fldI (f9 o0) 6 = some z6 → w6.toInt ≤ z6.toInt) ∧ (∀ d9, fldR (f9 o0) 1 = some d9 → frel kd 576 8 f9 d9)) := by
  obtain ⟨dC, dI⟩ := D
  refine Met.ofW (cc := cX12_ruled) (maxL := 6) (ret := (some .boolean)) (by decide) rfl ?_
  intro p e s m args below meth c s₁ B hml hv
  obtain ⟨rfl, hP, hK, hD0, hN, hZ⟩ := hv
  have hx := B.exec
  have hb := B.bytes
  have hr := B.returns
  have hU : ∀ w ∈ wsU, w.before _ s = true := fun w h => atoms_spec (ws := wU yX12_ruled cX12_ruled 6 (some .boolean)) B.pre w (List.mem_cons_of_mem _ h)
  have hown : s.vm.findClass RX12 = some m.cls := findClass_of_methodNamed B.named
  have hlocks := B.notSynchronized
  have hD := pl_in hD0
  have hS : va_S (fun q => q ∈ L) s.heap s.heap [] := va_S.rf
  have hl := lv_entry ([.ref o0]) (n := 6) (Nat.le_of_ble_eq_true rfl)
  rw [lg_entry_eq]
  generalize (lg_sl ([.ref o0]) ++ List.replicate (6 - (lg_sl ([.ref o0])).length) Slot.unset).toArray = ls at hl ⊢
  have hl : lv_has ls 6 [(0, .ref o0)] := hl
  have hfr0 : ∀ b, kd b ≠ 12 → kd b ≠ 576 → f b = f b := fun _ _ _ => rfl
  have hrA12 : ∀ b, kd b = 12 → ∀ j, fldR (f b) j = fldR (f b) j := fun _ _ _ => rfl
  have hfA12 : ∀ b, kd b = 12 → ∀ j, j ≠ 6 → j ≠ 7 → j ≠ 8 → j ≠ 11 → j ≠ 12 → j ≠ 13 → j ≠ 14 → fldI (f b) j = fldI (f b) j := fun _ _ _ _ _ _ _ _ _ _ => rfl
  obtain ⟨a_2, a_3, a_4, v_5, a_6, v_7, v_8, v_9, v_10, v_11, v_12, v_13, v_14, v_15, v_16, a_17, a_18, a_19, a_20, a_21, a_22, a_23, a_24, v_25, v_26, v_27, v_28, v_29, a_30, v_31, a_32, a_33, v_34, v_35, a_36, v_37, a_38, a_39, v_40, v_41, a_42, a_43, a_44, v_45, a_46, a_47, a_48, a_49, a_50, a_51, a_52, a_53, a_54, v_55, v_56, a_57, hfo_1, ⟨ma_2, ka_2⟩, ⟨ma_3, ka_3⟩, ⟨ma_4, ka_4⟩, bv_5, ⟨ma_6, ka_6⟩, bv_7, bv_8, bv_13, bv_14, bv_15, ⟨ma_17, ka_17⟩, ⟨ma_18, ka_18⟩, ⟨ma_19, ka_19⟩, ⟨ma_20, ka_20⟩, ⟨ma_21, ka_21⟩, ⟨ma_22, ka_22⟩, ⟨ma_23, ka_23⟩, ⟨ma_24, ka_24⟩, bv_25, bv_27, bv_29, ⟨ma_30, ka_30⟩, bv_31, ⟨ma_32, ka_32⟩, ⟨ma_33, ka_33⟩, bv_34, ⟨ma_36, ka_36⟩, bv_37, ⟨ma_38, ka_38⟩, ⟨ma_39, ka_39⟩, bv_40, ⟨ma_42, ka_42⟩, ⟨ma_43, ka_43⟩, ⟨ma_44, ka_44⟩, bv_45, ⟨ma_46, ka_46⟩, ⟨ma_47, ka_47⟩, ⟨ma_48, ka_48⟩, ⟨ma_49, ka_49⟩, ⟨ma_50, ka_50⟩, ⟨ma_51, ka_51⟩, ⟨ma_52, ka_52⟩, ⟨ma_53, ka_53⟩, ⟨ma_54, ka_54⟩, bv_55, ⟨ma_57, ka_57⟩⟩ := un_12 (hG _ mo0) ko0
  have bv_9 : ((-2147483648) ≤ v_9.toInt ∧ v_9.toInt ≤ 2147483647) := ⟨i32_lo _, i32_hi _⟩
  have bv_10 : ((-2147483648) ≤ v_10.toInt ∧ v_10.toInt ≤ 2147483647) := ⟨i32_lo _, i32_hi _⟩
  have bv_11 : ((-2147483648) ≤ v_11.toInt ∧ v_11.toInt ≤ 2147483647) := ⟨i32_lo _, i32_hi _⟩
  have bv_12 : ((-2147483648) ≤ v_12.toInt ∧ v_12.toInt ≤ 2147483647) := ⟨i32_lo _, i32_hi _⟩
  have bv_16 : ((-2147483648) ≤ v_16.toInt ∧ v_16.toInt ≤ 2147483647) := ⟨i32_lo _, i32_hi _⟩
  have bv_26 : ((-2147483648) ≤ v_26.toInt ∧ v_26.toInt ≤ 2147483647) := ⟨i32_lo _, i32_hi _⟩
  have bv_28 : ((-2147483648) ≤ v_28.toInt ∧ v_28.toInt ≤ 2147483647) := ⟨i32_lo _, i32_hi _⟩
  have bv_35 : ((-2147483648) ≤ v_35.toInt ∧ v_35.toInt ≤ 2147483647) := ⟨i32_lo _, i32_hi _⟩
  have bv_41 : ((-2147483648) ≤ v_41.toInt ∧ v_41.toInt ≤ 2147483647) := ⟨i32_lo _, i32_hi _⟩
  have bv_56 : ((-2147483648) ≤ v_56.toInt ∧ v_56.toInt ≤ 2147483647) := ⟨i32_lo _, i32_hi _⟩
  have hT0 := hxtr0 a_3 (by rw [hfo_1]; rfl)
  have hM : ∀ z9, fldI (f o0) 6 = some z9 → v_8.toInt ≤ z9.toInt := fun z9 h9 => by rw [hfo_1] at h9; obtain rfl := Option.some.inj h9; exact Int.le_refl _
  refine lv_aload_n hx hb dX12_ruled_0 rfl (lv_at hl 0 rfl) ?_
  refine tk_getP (D := (dC, dI)) (ci := 12) (v := .ref a_3) (C := RX12) (T := TX12) (N := 56) hx hb hU inlX12 hown hK hP mo0 hfo_1 rfl 1 (by decide) (hU _ wd_170) (fun _ h9 => h9) rfl dX12_ruled_1 ?_
  refine lv_bipush (v := 17) hx hb dX12_ruled_4 (by decide) ?_
  obtain ⟨g_59, hfo_58, hbg_59⟩ := un_576 (hG _ ma_3) ka_3
  refine tk_ildP hx hb hK hP 0 ma_3 hfo_58 rfl (vp_in_nI (n := 17) (by decide) (by decide)) dX12_ruled_6 ?_
  refine lv_topi (fun x_60 ex_60 => ?_)
  have bx_60 : (0 ≤ x_60.toInt ∧ x_60.toInt ≤ 8) := by rw [ex_60]; exact hbg_59.2.2.1 _ (by decide) (by decide) (by decide)
  have hnrc_61 : (0 ≤ x_60.toInt ∧ x_60.toInt ≤ 7) := by have hq1 := (hT0.get hfo_58).2.2.2; have hq2 : x_60.toInt = (g_59 17).toInt := (by rw [ex_60]; rfl); constructor <;> omega
  refine lv_istore_n (lv' := [(1, .int x_60), (0, .ref o0)]) hx hb dX12_ruled_7 rfl hl (by decide) rfl (fun ls hl => ?_)
  refine lv_aload_n hx hb dX12_ruled_8 rfl (lv_at hl 1 rfl) ?_
  refine tk_ViP (As := []) (rest := []) (n := 0) hx hb hml hown hU hN hZ (s_X12_takesPair_k12_F7 l (dC, dI) cI cL cZ cR cG cH Z kd L f hG o0 mo0 ko0 (fun d9 h9 => by rw [hfo_1] at h9; obtain rfl := Option.some.inj h9; exact hT0)) wd_613 wd_614 wd_615 wd_5 wd_616 (by decide +kernel) ⟨Nat.le_of_ble_eq_true rfl, Nat.le_of_ble_eq_true rfl⟩ hK hP hD hS mo0 hfo_1 12 rfl rfl rfl hl.1 rfl (Nat.le_of_ble_eq_true rfl) dX12_ruled_9 ⟨Nat.le_of_ble_eq_true rfl, Nat.le_of_ble_eq_true rfl⟩ (fun x_62 f_63 H locs hw hP hD hS => ?_)
  obtain ⟨hG, bx_62, hkc_64, hra_65, hfa_66, hpost_67, hTc_68⟩ := hw
  have hfr0 : ∀ b, kd b ≠ 12 → kd b ≠ 576 → f_63 b = f b := fun b q12 q576 => (hkc_64 b q12 q576).trans (hfr0 b q12 q576)
  have hrA12 : ∀ b, kd b = 12 → ∀ j, fldR (f_63 b) j = fldR (f b) j := fun b kb j => (hra_65 b kb j).trans (hrA12 b kb j)
  have hfA12 : ∀ b, kd b = 12 → ∀ j, j ≠ 6 → j ≠ 7 → j ≠ 8 → j ≠ 11 → j ≠ 12 → j ≠ 13 → j ≠ 14 → fldI (f_63 b) j = fldI (f b) j := fun b kb j n6 n7 n8 n11 n12 n13 n14 => (hfa_66 b kb j n6 n7 n8 n11 n12 n13).trans (hfA12 b kb j n6 n7 n8 n11 n12 n13 n14)
  obtain ⟨a_71, a_72, a_73, v_74, a_75, v_76, v_77, v_78, v_79, v_80, v_81, v_82, v_83, v_84, v_85, a_86, a_87, a_88, a_89, a_90, a_91, a_92, a_93, v_94, v_95, v_96, v_97, v_98, a_99, v_100, a_101, a_102, v_103, v_104, a_105, v_106, a_107, a_108, v_109, v_110, a_111, a_112, a_113, v_114, a_115, a_116, a_117, a_118, a_119, a_120, a_121, a_122, a_123, v_124, v_125, a_126, hfo_70, ⟨ma_71, ka_71⟩, ⟨ma_72, ka_72⟩, ⟨ma_73, ka_73⟩, bv_74, ⟨ma_75, ka_75⟩, bv_76, bv_77, bv_82, bv_83, bv_84, ⟨ma_86, ka_86⟩, ⟨ma_87, ka_87⟩, ⟨ma_88, ka_88⟩, ⟨ma_89, ka_89⟩, ⟨ma_90, ka_90⟩, ⟨ma_91, ka_91⟩, ⟨ma_92, ka_92⟩, ⟨ma_93, ka_93⟩, bv_94, bv_96, bv_98, ⟨ma_99, ka_99⟩, bv_100, ⟨ma_101, ka_101⟩, ⟨ma_102, ka_102⟩, bv_103, ⟨ma_105, ka_105⟩, bv_106, ⟨ma_107, ka_107⟩, ⟨ma_108, ka_108⟩, bv_109, ⟨ma_111, ka_111⟩, ⟨ma_112, ka_112⟩, ⟨ma_113, ka_113⟩, bv_114, ⟨ma_115, ka_115⟩, ⟨ma_116, ka_116⟩, ⟨ma_117, ka_117⟩, ⟨ma_118, ka_118⟩, ⟨ma_119, ka_119⟩, ⟨ma_120, ka_120⟩, ⟨ma_121, ka_121⟩, ⟨ma_122, ka_122⟩, ⟨ma_123, ka_123⟩, bv_124, ⟨ma_126, ka_126⟩⟩ := un_12 (hG _ mo0) ko0
  have bv_78 : ((-2147483648) ≤ v_78.toInt ∧ v_78.toInt ≤ 2147483647) := ⟨i32_lo _, i32_hi _⟩
  have bv_79 : ((-2147483648) ≤ v_79.toInt ∧ v_79.toInt ≤ 2147483647) := ⟨i32_lo _, i32_hi _⟩
  have bv_80 : ((-2147483648) ≤ v_80.toInt ∧ v_80.toInt ≤ 2147483647) := ⟨i32_lo _, i32_hi _⟩
  have bv_81 : ((-2147483648) ≤ v_81.toInt ∧ v_81.toInt ≤ 2147483647) := ⟨i32_lo _, i32_hi _⟩
  have bv_85 : ((-2147483648) ≤ v_85.toInt ∧ v_85.toInt ≤ 2147483647) := ⟨i32_lo _, i32_hi _⟩
  have bv_95 : ((-2147483648) ≤ v_95.toInt ∧ v_95.toInt ≤ 2147483647) := ⟨i32_lo _, i32_hi _⟩
  have bv_97 : ((-2147483648) ≤ v_97.toInt ∧ v_97.toInt ≤ 2147483647) := ⟨i32_lo _, i32_hi _⟩
  have bv_104 : ((-2147483648) ≤ v_104.toInt ∧ v_104.toInt ≤ 2147483647) := ⟨i32_lo _, i32_hi _⟩
  have bv_110 : ((-2147483648) ≤ v_110.toInt ∧ v_110.toInt ≤ 2147483647) := ⟨i32_lo _, i32_hi _⟩
  have bv_125 : ((-2147483648) ≤ v_125.toInt ∧ v_125.toInt ≤ 2147483647) := ⟨i32_lo _, i32_hi _⟩
  obtain ⟨rfl, rfl, rfl, rfl, rfl, rfl, rfl, rfl, rfl, rfl, rfl, rfl, rfl, rfl, rfl, rfl, rfl, rfl, rfl, rfl, rfl, rfl, rfl, rfl, rfl, rfl, rfl, rfl, rfl, rfl, rfl⟩ := re_12 hfo_1 hfo_70 (hrA12 o0 ko0)
  obtain rfl := ri_12_3 hfo_1 hfo_70 (hfA12 o0 ko0 3 (by decide) (by decide) (by decide) (by decide) (by decide) (by decide) (by decide))
  obtain rfl := ri_12_5 hfo_1 hfo_70 (hfA12 o0 ko0 5 (by decide) (by decide) (by decide) (by decide) (by decide) (by decide) (by decide))
  obtain rfl := ri_12_23 hfo_1 hfo_70 (hfA12 o0 ko0 23 (by decide) (by decide) (by decide) (by decide) (by decide) (by decide) (by decide))
  obtain rfl := ri_12_25 hfo_1 hfo_70 (hfA12 o0 ko0 25 (by decide) (by decide) (by decide) (by decide) (by decide) (by decide) (by decide))
  obtain rfl := ri_12_27 hfo_1 hfo_70 (hfA12 o0 ko0 27 (by decide) (by decide) (by decide) (by decide) (by decide) (by decide) (by decide))
  obtain rfl := ri_12_29 hfo_1 hfo_70 (hfA12 o0 ko0 29 (by decide) (by decide) (by decide) (by decide) (by decide) (by decide) (by decide))
  obtain rfl := ri_12_32 hfo_1 hfo_70 (hfA12 o0 ko0 32 (by decide) (by decide) (by decide) (by decide) (by decide) (by decide) (by decide))
  obtain rfl := ri_12_33 hfo_1 hfo_70 (hfA12 o0 ko0 33 (by decide) (by decide) (by decide) (by decide) (by decide) (by decide) (by decide))
  obtain rfl := ri_12_35 hfo_1 hfo_70 (hfA12 o0 ko0 35 (by decide) (by decide) (by decide) (by decide) (by decide) (by decide) (by decide))
  obtain rfl := ri_12_38 hfo_1 hfo_70 (hfA12 o0 ko0 38 (by decide) (by decide) (by decide) (by decide) (by decide) (by decide) (by decide))
  obtain rfl := ri_12_43 hfo_1 hfo_70 (hfA12 o0 ko0 43 (by decide) (by decide) (by decide) (by decide) (by decide) (by decide) (by decide))
  obtain rfl := ri_12_53 hfo_1 hfo_70 (hfA12 o0 ko0 53 (by decide) (by decide) (by decide) (by decide) (by decide) (by decide) (by decide))
  obtain rfl := ri_12_14 hfo_1 hfo_70 (hfa_66 o0 ko0 14 (by decide) (by decide) (by decide) (by decide) (by decide) (by decide))
  have hqhpost_67 := hpost_67 v_8 v_77 (by rw [hfo_1]; rfl) (by rw [hfo_70]; rfl)
  have hMm_127 : ∀ z9, fldI (f_63 o0) 6 = some z9 → v_8.toInt ≤ z9.toInt := fun z9 h9 => by rw [hfo_70] at h9; obtain rfl := Option.some.inj h9; have h8 := hM v_8 (by rw [hfo_1]; rfl); omega
  have hT_128 := hTc_68 a_3 (by rw [hfo_70]; rfl)
  refine lv_if_ne (tgt := 17) hx hb dX12_ruled_12 (by decide) (fun c_129 => ?_) (fun c_129 => ?_)
  · skip
    rw [← Int32.toInt_inj, ti_0] at c_129
    refine lv_aload_n hx hb dX12_ruled_17 rfl (lv_at hl 1 rfl) ?_
    refine tk_ViP (As := []) (rest := []) (n := 0) hx hb hml hown hU hN hZ (s_X12_op_k12 l (dC, dI) cI cL cZ cR cG cH Z kd L f_63 hG o0 mo0 ko0) wd_635 wd_636 wd_637 wd_5 wd_638 (by decide +kernel) ⟨Nat.le_of_ble_eq_true rfl, Nat.le_of_ble_eq_true rfl⟩ hK hP hD hS mo0 hfo_70 12 rfl rfl rfl hl.1 rfl (Nat.le_of_ble_eq_true rfl) dX12_ruled_18 ⟨Nat.le_of_ble_eq_true rfl, Nat.le_of_ble_eq_true rfl⟩ (fun x_130 f_131 H locs hw hP hD hS => ?_)
    obtain ⟨hG, bx_130, hkc_132, hra_133, hfa_134, hpost_135⟩ := hw
    have hfr0 : ∀ b, kd b ≠ 12 → kd b ≠ 576 → f_131 b = f b := fun b q12 q576 => (hkc_132 b q12).trans (hfr0 b q12 q576)
    have hrA12 : ∀ b, kd b = 12 → ∀ j, fldR (f_131 b) j = fldR (f b) j := fun b kb j => (hra_133 b kb j).trans (hrA12 b kb j)
    have hfA12 : ∀ b, kd b = 12 → ∀ j, j ≠ 6 → j ≠ 7 → j ≠ 8 → j ≠ 11 → j ≠ 12 → j ≠ 13 → j ≠ 14 → fldI (f_131 b) j = fldI (f b) j := fun b kb j n6 n7 n8 n11 n12 n13 n14 => (hfa_134 b kb j n6).trans (hfA12 b kb j n6 n7 n8 n11 n12 n13 n14)
    have hT_128 : frel kd 576 7 f_131 a_3 := hT_128.keep (fun b q => hkc_132 b (by rw [q]; decide))
    obtain ⟨a_138, a_139, a_140, v_141, a_142, v_143, v_144, v_145, v_146, v_147, v_148, v_149, v_150, v_151, v_152, a_153, a_154, a_155, a_156, a_157, a_158, a_159, a_160, v_161, v_162, v_163, v_164, v_165, a_166, v_167, a_168, a_169, v_170, v_171, a_172, v_173, a_174, a_175, v_176, v_177, a_178, a_179, a_180, v_181, a_182, a_183, a_184, a_185, a_186, a_187, a_188, a_189, a_190, v_191, v_192, a_193, hfo_137, ⟨ma_138, ka_138⟩, ⟨ma_139, ka_139⟩, ⟨ma_140, ka_140⟩, bv_141, ⟨ma_142, ka_142⟩, bv_143, bv_144, bv_149, bv_150, bv_151, ⟨ma_153, ka_153⟩, ⟨ma_154, ka_154⟩, ⟨ma_155, ka_155⟩, ⟨ma_156, ka_156⟩, ⟨ma_157, ka_157⟩, ⟨ma_158, ka_158⟩, ⟨ma_159, ka_159⟩, ⟨ma_160, ka_160⟩, bv_161, bv_163, bv_165, ⟨ma_166, ka_166⟩, bv_167, ⟨ma_168, ka_168⟩, ⟨ma_169, ka_169⟩, bv_170, ⟨ma_172, ka_172⟩, bv_173, ⟨ma_174, ka_174⟩, ⟨ma_175, ka_175⟩, bv_176, ⟨ma_178, ka_178⟩, ⟨ma_179, ka_179⟩, ⟨ma_180, ka_180⟩, bv_181, ⟨ma_182, ka_182⟩, ⟨ma_183, ka_183⟩, ⟨ma_184, ka_184⟩, ⟨ma_185, ka_185⟩, ⟨ma_186, ka_186⟩, ⟨ma_187, ka_187⟩, ⟨ma_188, ka_188⟩, ⟨ma_189, ka_189⟩, ⟨ma_190, ka_190⟩, bv_191, ⟨ma_193, ka_193⟩⟩ := un_12 (hG _ mo0) ko0
    have bv_145 : ((-2147483648) ≤ v_145.toInt ∧ v_145.toInt ≤ 2147483647) := ⟨i32_lo _, i32_hi _⟩
    have bv_146 : ((-2147483648) ≤ v_146.toInt ∧ v_146.toInt ≤ 2147483647) := ⟨i32_lo _, i32_hi _⟩
    have bv_147 : ((-2147483648) ≤ v_147.toInt ∧ v_147.toInt ≤ 2147483647) := ⟨i32_lo _, i32_hi _⟩
    have bv_148 : ((-2147483648) ≤ v_148.toInt ∧ v_148.toInt ≤ 2147483647) := ⟨i32_lo _, i32_hi _⟩
    have bv_152 : ((-2147483648) ≤ v_152.toInt ∧ v_152.toInt ≤ 2147483647) := ⟨i32_lo _, i32_hi _⟩
    have bv_162 : ((-2147483648) ≤ v_162.toInt ∧ v_162.toInt ≤ 2147483647) := ⟨i32_lo _, i32_hi _⟩
    have bv_164 : ((-2147483648) ≤ v_164.toInt ∧ v_164.toInt ≤ 2147483647) := ⟨i32_lo _, i32_hi _⟩
    have bv_171 : ((-2147483648) ≤ v_171.toInt ∧ v_171.toInt ≤ 2147483647) := ⟨i32_lo _, i32_hi _⟩
    have bv_177 : ((-2147483648) ≤ v_177.toInt ∧ v_177.toInt ≤ 2147483647) := ⟨i32_lo _, i32_hi _⟩
    have bv_192 : ((-2147483648) ≤ v_192.toInt ∧ v_192.toInt ≤ 2147483647) := ⟨i32_lo _, i32_hi _⟩
    obtain ⟨rfl, rfl, rfl, rfl, rfl, rfl, rfl, rfl, rfl, rfl, rfl, rfl, rfl, rfl, rfl, rfl, rfl, rfl, rfl, rfl, rfl, rfl, rfl, rfl, rfl, rfl, rfl, rfl, rfl, rfl, rfl⟩ := re_12 hfo_1 hfo_137 (hrA12 o0 ko0)
    obtain rfl := ri_12_3 hfo_1 hfo_137 (hfA12 o0 ko0 3 (by decide) (by decide) (by decide) (by decide) (by decide) (by decide) (by decide))
    obtain rfl := ri_12_5 hfo_1 hfo_137 (hfA12 o0 ko0 5 (by decide) (by decide) (by decide) (by decide) (by decide) (by decide) (by decide))
    obtain rfl := ri_12_23 hfo_1 hfo_137 (hfA12 o0 ko0 23 (by decide) (by decide) (by decide) (by decide) (by decide) (by decide) (by decide))
    obtain rfl := ri_12_25 hfo_1 hfo_137 (hfA12 o0 ko0 25 (by decide) (by decide) (by decide) (by decide) (by decide) (by decide) (by decide))
    obtain rfl := ri_12_27 hfo_1 hfo_137 (hfA12 o0 ko0 27 (by decide) (by decide) (by decide) (by decide) (by decide) (by decide) (by decide))
    obtain rfl := ri_12_29 hfo_1 hfo_137 (hfA12 o0 ko0 29 (by decide) (by decide) (by decide) (by decide) (by decide) (by decide) (by decide))
    obtain rfl := ri_12_32 hfo_1 hfo_137 (hfA12 o0 ko0 32 (by decide) (by decide) (by decide) (by decide) (by decide) (by decide) (by decide))
    obtain rfl := ri_12_33 hfo_1 hfo_137 (hfA12 o0 ko0 33 (by decide) (by decide) (by decide) (by decide) (by decide) (by decide) (by decide))
    obtain rfl := ri_12_35 hfo_1 hfo_137 (hfA12 o0 ko0 35 (by decide) (by decide) (by decide) (by decide) (by decide) (by decide) (by decide))
    obtain rfl := ri_12_38 hfo_1 hfo_137 (hfA12 o0 ko0 38 (by decide) (by decide) (by decide) (by decide) (by decide) (by decide) (by decide))
    obtain rfl := ri_12_43 hfo_1 hfo_137 (hfA12 o0 ko0 43 (by decide) (by decide) (by decide) (by decide) (by decide) (by decide) (by decide))
    obtain rfl := ri_12_53 hfo_1 hfo_137 (hfA12 o0 ko0 53 (by decide) (by decide) (by decide) (by decide) (by decide) (by decide) (by decide))
    obtain rfl := ri_12_11 hfo_70 hfo_137 (hfa_134 o0 ko0 11 (by decide))
    obtain rfl := ri_12_12 hfo_70 hfo_137 (hfa_134 o0 ko0 12 (by decide))
    obtain rfl := ri_12_13 hfo_70 hfo_137 (hfa_134 o0 ko0 13 (by decide))
    obtain rfl := ri_12_14 hfo_70 hfo_137 (hfa_134 o0 ko0 14 (by decide))
    have hqhpost_135 := hpost_135 v_77 v_144 (by rw [hfo_70]; rfl) (by rw [hfo_137]; rfl)
    have hMm_194 : ∀ z9, fldI (f_131 o0) 6 = some z9 → v_8.toInt ≤ z9.toInt := fun z9 h9 => by rw [hfo_137] at h9; obtain rfl := Option.some.inj h9; have h8 := hMm_127 v_77 (by rw [hfo_70]; rfl); omega
    refine lv_istore_n (lv' := [(2, .int x_130), (1, .int x_60), (0, .ref o0)]) hx hb dX12_ruled_21 rfl hl (by decide) rfl (fun ls hl => ?_)
    refine lv_iload_n hx hb dX12_ruled_22 rfl (lv_at hl 0 rfl) ?_
    refine lv_iconst (v := (-1)) hx hb dX12_ruled_23 (by decide) ?_
    refine lv_icmp_ne (tgt := 37) hx hb dX12_ruled_24 (by decide) (fun c_195 => ?_) (fun c_195 => ?_)
    · skip
      rw [← Int32.toInt_inj, ti_m1] at c_195
      refine lv_iload_n hx hb dX12_ruled_37 rfl (lv_at hl 0 rfl) ?_
      refine lv_iconst (v := 1) hx hb dX12_ruled_38 (by decide) ?_
      refine lv_icmp_eq (tgt := 47) hx hb dX12_ruled_39 (by decide) (fun c_196 => ?_) (fun c_196 => ?_)
      · skip
        rw [← Int32.toInt_inj, ti_1] at c_196
        refine lv_aload_n hx hb dX12_ruled_47 rfl (lv_at hl 2 rfl) ?_
        refine tk_getP (D := (dC, dI)) (ci := 12) (v := .int v_83) (C := RX12) (T := TX12) (N := 56) hx hb hU inlX12 hown hK hP mo0 hfo_137 rfl 12 (by decide) (hU _ wd_618) (fun _ h9 => h9) rfl dX12_ruled_48 ?_
        refine lv_if_ne (tgt := 64) hx hb dX12_ruled_51 (by decide) (fun c_197 => ?_) (fun c_197 => ?_)
        · skip
          rw [← Int32.toInt_inj, ti_0] at c_197
          refine lv_aload_n hx hb dX12_ruled_64 rfl (lv_at hl 2 rfl) ?_
          refine lv_dup hx hb dX12_ruled_65 rfl ?_
          refine tk_getP (D := (dC, dI)) (ci := 12) (v := .int v_144) (C := RX12) (T := TX12) (N := 56) hx hb hU inlX12 hown hK hP mo0 hfo_137 rfl 6 (by decide) (hU _ wd_566) (fun _ h9 => h9) rfl dX12_ruled_66 ?_
          refine lv_iload_n hx hb dX12_ruled_69 rfl (lv_at hl 0 rfl) ?_
          refine lv_if_eq (tgt := 78) hx hb dX12_ruled_70 (by decide) (fun c_198 => ?_) (fun c_198 => ?_)
          · skip
            rw [← Int32.toInt_inj, ti_0] at c_198
            exfalso
            omega
          · skip
            rw [← Int32.toInt_inj, ti_0] at c_198
            refine lv_iload_n hx hb dX12_ruled_73 rfl (lv_at hl 0 rfl) ?_
            refine lv_iconst (v := 1) hx hb dX12_ruled_74 (by decide) ?_
            refine lv_icmp_ne (tgt := 82) hx hb dX12_ruled_75 (by decide) (fun c_199 => ?_) (fun c_199 => ?_)
            · skip
              rw [← Int32.toInt_inj, ti_1] at c_199
              exfalso
              omega
            · skip
              rw [← Int32.toInt_inj, ti_1] at c_199
              refine lv_iconst (v := 2) hx hb dX12_ruled_78 (by decide) ?_
              refine lv_goto (tgt := 83) hx hb dX12_ruled_79 (by decide) ?_
              refine lv_iadd hx hb dX12_ruled_83 ?_
              refine lv_topi (fun x_200 ex_200 => ?_)
              have hx_200 : x_200.toInt = v_144.toInt + 2 := by rw [ex_200, ad_I (by rw [ti_2]; omega) (by rw [ti_2]; omega), ti_2]
              have bx_200 : (2 ≤ x_200.toInt ∧ x_200.toInt ≤ 602) := by constructor <;> omega
              have hclc_201 : (0 ≤ x_200.toInt ∧ x_200.toInt ≤ 600) := by constructor <;> omega
              refine tk_putP (D := (dC, dI)) (ci := 12) (v := .int x_200) (ty := .int) (C := RX12) (T := TX12) (N := 56) hx hb hU inlX12 tyX12 tyX12_ok nmX12 hown hK hP hD hS mo0 hfo_137 rfl 6 (by decide) (hU _ wd_566) (fun _ h9 => h9) rfl (by decide +kernel) rfl rfl (Nat.le_of_ble_eq_true rfl) dX12_ruled_84 (fun H locs hP hD hS => ?_)
              obtain ⟨f_203, ef_203⟩ : ∃ y : Nat → va_E, y = va_up f_131 o0 (.inr (12, [.ref a_2, .ref a_3, .ref a_4, .int v_5, .ref a_6, .int v_7, .int x_200, .int v_145, .int v_146, .int v_147, .int v_148, .int v_82, .int v_83, .int v_84, .int v_16, .ref a_17, .ref a_18, .ref a_19, .ref a_20, .ref a_21, .ref a_22, .ref a_23, .ref a_24, .int v_25, .int v_162, .int v_27, .int v_164, .int v_29, .ref a_30, .int v_31, .ref a_32, .ref a_33, .int v_34, .int v_35, .ref a_36, .int v_37, .ref a_38, .ref a_39, .int v_40, .int v_177, .ref a_42, .ref a_43, .ref a_44, .int v_45, .ref a_46, .ref a_47, .ref a_48, .ref a_49, .ref a_50, .ref a_51, .ref a_52, .ref a_53, .ref a_54, .int v_55, .int v_192, .ref a_57])) := ⟨_, rfl⟩
              have hP : va_P (dC, dI) vwCl (va_pl L f_203) H := by rw [ef_203]; exact hP
              have hD : va_D (fun q => q ∈ L) (va_pl L f_203) := by rw [ef_203]; exact hD
              have hG : GI (okc cI cL cZ cR cG cH L kd) kd L f_203 := by rw [ef_203]; exact hG.set o0 (mk_12 ko0 ⟨a_2, a_3, a_4, v_5, a_6, v_7, x_200, v_145, v_146, v_147, v_148, v_82, v_83, v_84, v_16, a_17, a_18, a_19, a_20, a_21, a_22, a_23, a_24, v_25, v_162, v_27, v_164, v_29, a_30, v_31, a_32, a_33, v_34, v_35, a_36, v_37, a_38, a_39, v_40, v_177, a_42, a_43, a_44, v_45, a_46, a_47, a_48, a_49, a_50, a_51, a_52, a_53, a_54, v_55, v_192, a_57, rfl, ⟨ma_2, ka_2⟩, ⟨ma_3, ka_3⟩, ⟨ma_4, ka_4⟩, (by constructor <;> omega), ⟨ma_6, ka_6⟩, (by constructor <;> omega), (by constructor <;> omega), (by constructor <;> omega), (by constructor <;> omega), (by constructor <;> omega), ⟨ma_17, ka_17⟩, ⟨ma_18, ka_18⟩, ⟨ma_19, ka_19⟩, ⟨ma_20, ka_20⟩, ⟨ma_21, ka_21⟩, ⟨ma_22, ka_22⟩, ⟨ma_23, ka_23⟩, ⟨ma_24, ka_24⟩, (by constructor <;> omega), (by constructor <;> omega), (by constructor <;> omega), ⟨ma_30, ka_30⟩, (by constructor <;> omega), ⟨ma_32, ka_32⟩, ⟨ma_33, ka_33⟩, (by constructor <;> omega), ⟨ma_36, ka_36⟩, (by constructor <;> omega), ⟨ma_38, ka_38⟩, ⟨ma_39, ka_39⟩, (by constructor <;> omega), ⟨ma_42, ka_42⟩, ⟨ma_43, ka_43⟩, ⟨ma_44, ka_44⟩, (by constructor <;> omega), ⟨ma_46, ka_46⟩, ⟨ma_47, ka_47⟩, ⟨ma_48, ka_48⟩, ⟨ma_49, ka_49⟩, ⟨ma_50, ka_50⟩, ⟨ma_51, ka_51⟩, ⟨ma_52, ka_52⟩, ⟨ma_53, ka_53⟩, ⟨ma_54, ka_54⟩, (by constructor <;> omega), ⟨ma_57, ka_57⟩⟩)
              have hfr0 : ∀ b, kd b ≠ 12 → kd b ≠ 576 → f_203 b = f b := fun b q12 q576 => (congrFun ef_203 b).trans ((up_ne (fun e9 => q12 (by rw [e9]; exact ko0))).trans (hfr0 b q12 q576))
              have hrA12 : ∀ b, kd b = 12 → ∀ j, fldR (f_203 b) j = fldR (f b) j := fun b kb j => ((congrArg (fun x => fldR x j) (congrFun ef_203 b)).trans (fra_up (fun j => by rw [hfo_137]; exact fr_set (k := 6) rfl rfl j) j b)).trans (hrA12 b kb j)
              have hfA12 : ∀ b, kd b = 12 → ∀ j, j ≠ 6 → j ≠ 7 → j ≠ 8 → j ≠ 11 → j ≠ 12 → j ≠ 13 → j ≠ 14 → fldI (f_203 b) j = fldI (f b) j := fun b kb j n6 n7 n8 n11 n12 n13 n14 => ((congrArg (fun x => fldI x j) (congrFun ef_203 b)).trans (fia_up (fun h9 => by rw [hfo_137]; exact fi_set (k := 6) rfl h9) n6 b)).trans (hfA12 b kb j n6 n7 n8 n11 n12 n13 n14)
              have hT_128 : frel kd 576 7 f_203 a_3 := by rw [ef_203]; exact hT_128.keep (fun b q => up_ne (kd_ne ko0 q (by decide)))
              have hMm_194 : ∀ z9, fldI (f_203 o0) 6 = some z9 → v_8.toInt ≤ z9.toInt := by rw [ef_203]; exact (fun z9 h9 => by rw [up_self] at h9; obtain rfl := Option.some.inj h9; have h8 := hMm_194 v_144 (by rw [hfo_137]; rfl); omega)
              have hfo_204 : f_203 o0 = .inr (12, [.ref a_2, .ref a_3, .ref a_4, .int v_5, .ref a_6, .int v_7, .int x_200, .int v_145, .int v_146, .int v_147, .int v_148, .int v_82, .int v_83, .int v_84, .int v_16, .ref a_17, .ref a_18, .ref a_19, .ref a_20, .ref a_21, .ref a_22, .ref a_23, .ref a_24, .int v_25, .int v_162, .int v_27, .int v_164, .int v_29, .ref a_30, .int v_31, .ref a_32, .ref a_33, .int v_34, .int v_35, .ref a_36, .int v_37, .ref a_38, .ref a_39, .int v_40, .int v_177, .ref a_42, .ref a_43, .ref a_44, .int v_45, .ref a_46, .ref a_47, .ref a_48, .ref a_49, .ref a_50, .ref a_51, .ref a_52, .ref a_53, .ref a_54, .int v_55, .int v_192, .ref a_57]) := by rw [ef_203]; exact up_self
              refine lv_iconst (v := 0) hx hb dX12_ruled_87 (by decide) ?_
              refine lv_istore_n (lv' := [(3, .int 0), (2, .int x_130), (1, .int x_60), (0, .ref o0)]) hx hb dX12_ruled_88 rfl hl (by decide) rfl (fun ls hl => ?_)
              refine lv_iconst (v := 1) hx hb dX12_ruled_89 (by decide) ?_
              refine lv_istore (lv' := [(4, .int 1), (3, .int 0), (2, .int x_130), (1, .int x_60), (0, .ref o0)]) hx hb dX12_ruled_90 hl (by decide) rfl (fun ls hl => ?_)
              have hloop_211 : ∀ (n : Nat), ∀ (y_212 : Int32), (0 ≤ y_212.toInt ∧ y_212.toInt ≤ 1) → ∀ (y_213 : Int32), (0 ≤ y_213.toInt ∧ y_213.toInt ≤ 3) → ∀ (f_215 : Nat → va_E), GI (okc cI cL cZ cR cG cH L kd) kd L f_215 → ∀ (H : Heap) (locs : List Loc), va_P (dC, dI) vwCl (va_pl L f_215) H → va_S (fun q => q ∈ L) s.heap H locs → va_D (fun q => q ∈ L) (va_pl L f_215) → (∀ b, kd b ≠ 12 → kd b ≠ 576 → f_215 b = f b) → (∀ b, kd b = 12 → ∀ j, fldR (f_215 b) j = fldR (f b) j) → (∀ b, kd b = 12 → ∀ j, j ≠ 6 → j ≠ 7 → j ≠ 8 → j ≠ 11 → j ≠ 12 → j ≠ 13 → j ≠ 14 → fldI (f_215 b) j = fldI (f b) j) → frel kd 576 7 f_215 a_3 → ∀ z9, fldI (f_215 o0) 6 = some z9 → v_8.toInt ≤ z9.toInt → (y_212.toInt = 0 ∨ y_213.toInt ≤ 2) → 4 - y_213.toInt < (n : Int) → ∀ (ls : Array Slot), lv_has ls 6 [(4, .int y_212), (3, .int y_213), (2, .int x_130), (1, .int x_60), (0, .ref o0)] → W p l e (headSpec (wU yX12_ruled cX12_ruled 6 (some .boolean)) { frames := 7, cells := 0, slots := 0, locals := 150 }).room s m [.ref o0].toArray below meth c H locs 0 0 (MQ below (va_Qi (fun (r : Int32) (f9 : Nat → va_E) => GI (okc cI cL cZ cR cG cH L kd) kd L f9 ∧ (0 ≤ r.toInt ∧ r.toInt ≤ 1) ∧ (∀ b, kd b ≠ 12 → kd b ≠ 576 → f9 b = f b) ∧ (∀ b, kd b = 12 → ∀ j, fldR (f9 b) j = fldR (f b) j) ∧ (∀ b, kd b = 12 → ∀ j, j ≠ 6 → j ≠ 7 → j ≠ 8 → j ≠ 11 → j ≠ 12 → j ≠ 13 → j ≠ 14 → fldI (f9 b) j = fldI (f b) j) ∧ (∀ (w6 z6 : Int32), fldI (f o0) 6 = some w6 → fldI (f9 o0) 6 = some z6 → w6.toInt ≤ z6.toInt) ∧ (∀ d9, fldR (f9 o0) 1 = some d9 → frel kd 576 8 f9 d9)) (qP (dC, dI) cI cL cZ cR cG cH L) (fun q => q ∈ L)) [.ref o0].toArray s 0 0 (fun q => q ∈ L)) (F0 m 92 ls []) := by
                intro n
                induction n with
                | zero => intro y_212 by_212 y_213 by_213 f_215 hG H locs hP hS hD hfr0 hrA12 hfA12 hT_128 hMm_194 hrelhloop_211_0 hmuhloop_211 ls hl; exfalso; omega
                | succ n ih_hloop_211 =>
                  intro y_212 by_212 y_213 by_213 f_215 hG H locs hP hS hD hfr0 hrA12 hfA12 hT_128 hMm_194 hrelhloop_211_0 hmuhloop_211 ls hl
                  refine lv_iload hx hb dX12_ruled_92 (lv_at hl 0 rfl) ?_
                  refine lv_if_eq (tgt := 168) hx hb dX12_ruled_94 (by decide) (fun c_216 => ?_) (fun c_216 => ?_)
                  · skip
                    rw [← Int32.toInt_inj, ti_0] at c_216
                    refine lv_sipush (v := 460) hx hb dX12_ruled_168 (by decide) ?_
                    refine lv_iconst (v := 4) hx hb dX12_ruled_171 (by decide) ?_
                    refine lv_iload_n hx hb dX12_ruled_172 rfl (lv_at hl 3 rfl) ?_
                    refine lv_imul hx hb dX12_ruled_173 ?_
                    refine lv_topi (fun x_217 ex_217 => ?_)
                    have hx_217 : x_217.toInt = 4 * x_60.toInt := by rw [ex_217, ml_I (by rw [ti_4]; omega) (by rw [ti_4]; omega), ti_4]
                    have bx_217 : (0 ≤ x_217.toInt ∧ x_217.toInt ≤ 28) := by constructor <;> omega
                    refine lv_iadd hx hb dX12_ruled_174 ?_
                    refine lv_topi (fun x_218 ex_218 => ?_)
                    have hx_218 : x_218.toInt = 460 + x_217.toInt := by rw [ex_218, ad_I (by rw [ti_460]; omega) (by rw [ti_460]; omega), ti_460]
                    have bx_218 : (460 ≤ x_218.toInt ∧ x_218.toInt ≤ 488) := by constructor <;> omega
                    refine lv_istore (lv' := [(5, .int x_218), (4, .int y_212), (3, .int y_213), (2, .int x_130), (1, .int x_60), (0, .ref o0)]) hx hb dX12_ruled_175 hl (by decide) rfl (fun ls hl => ?_)
                    refine lv_aload_n hx hb dX12_ruled_177 rfl (lv_at hl 5 rfl) ?_
                    obtain ⟨a_220, a_221, a_222, v_223, a_224, v_225, v_226, v_227, v_228, v_229, v_230, v_231, v_232, v_233, v_234, a_235, a_236, a_237, a_238, a_239, a_240, a_241, a_242, v_243, v_244, v_245, v_246, v_247, a_248, v_249, a_250, a_251, v_252, v_253, a_254, v_255, a_256, a_257, v_258, v_259, a_260, a_261, a_262, v_263, a_264, a_265, a_266, a_267, a_268, a_269, a_270, a_271, a_272, v_273, v_274, a_275, hfo_219, ⟨ma_220, ka_220⟩, ⟨ma_221, ka_221⟩, ⟨ma_222, ka_222⟩, bv_223, ⟨ma_224, ka_224⟩, bv_225, bv_226, bv_231, bv_232, bv_233, ⟨ma_235, ka_235⟩, ⟨ma_236, ka_236⟩, ⟨ma_237, ka_237⟩, ⟨ma_238, ka_238⟩, ⟨ma_239, ka_239⟩, ⟨ma_240, ka_240⟩, ⟨ma_241, ka_241⟩, ⟨ma_242, ka_242⟩, bv_243, bv_245, bv_247, ⟨ma_248, ka_248⟩, bv_249, ⟨ma_250, ka_250⟩, ⟨ma_251, ka_251⟩, bv_252, ⟨ma_254, ka_254⟩, bv_255, ⟨ma_256, ka_256⟩, ⟨ma_257, ka_257⟩, bv_258, ⟨ma_260, ka_260⟩, ⟨ma_261, ka_261⟩, ⟨ma_262, ka_262⟩, bv_263, ⟨ma_264, ka_264⟩, ⟨ma_265, ka_265⟩, ⟨ma_266, ka_266⟩, ⟨ma_267, ka_267⟩, ⟨ma_268, ka_268⟩, ⟨ma_269, ka_269⟩, ⟨ma_270, ka_270⟩, ⟨ma_271, ka_271⟩, ⟨ma_272, ka_272⟩, bv_273, ⟨ma_275, ka_275⟩⟩ := un_12 (hG _ mo0) ko0
                    have bv_227 : ((-2147483648) ≤ v_227.toInt ∧ v_227.toInt ≤ 2147483647) := ⟨i32_lo _, i32_hi _⟩
                    have bv_228 : ((-2147483648) ≤ v_228.toInt ∧ v_228.toInt ≤ 2147483647) := ⟨i32_lo _, i32_hi _⟩
                    have bv_229 : ((-2147483648) ≤ v_229.toInt ∧ v_229.toInt ≤ 2147483647) := ⟨i32_lo _, i32_hi _⟩
                    have bv_230 : ((-2147483648) ≤ v_230.toInt ∧ v_230.toInt ≤ 2147483647) := ⟨i32_lo _, i32_hi _⟩
                    have bv_234 : ((-2147483648) ≤ v_234.toInt ∧ v_234.toInt ≤ 2147483647) := ⟨i32_lo _, i32_hi _⟩
                    have bv_244 : ((-2147483648) ≤ v_244.toInt ∧ v_244.toInt ≤ 2147483647) := ⟨i32_lo _, i32_hi _⟩
                    have bv_246 : ((-2147483648) ≤ v_246.toInt ∧ v_246.toInt ≤ 2147483647) := ⟨i32_lo _, i32_hi _⟩
                    have bv_253 : ((-2147483648) ≤ v_253.toInt ∧ v_253.toInt ≤ 2147483647) := ⟨i32_lo _, i32_hi _⟩
                    have bv_259 : ((-2147483648) ≤ v_259.toInt ∧ v_259.toInt ≤ 2147483647) := ⟨i32_lo _, i32_hi _⟩
                    have bv_274 : ((-2147483648) ≤ v_274.toInt ∧ v_274.toInt ≤ 2147483647) := ⟨i32_lo _, i32_hi _⟩
                    obtain ⟨rfl, rfl, rfl, rfl, rfl, rfl, rfl, rfl, rfl, rfl, rfl, rfl, rfl, rfl, rfl, rfl, rfl, rfl, rfl, rfl, rfl, rfl, rfl, rfl, rfl, rfl, rfl, rfl, rfl, rfl, rfl⟩ := re_12 hfo_1 hfo_219 (hrA12 o0 ko0)
                    obtain rfl := ri_12_3 hfo_1 hfo_219 (hfA12 o0 ko0 3 (by decide) (by decide) (by decide) (by decide) (by decide) (by decide) (by decide))
                    obtain rfl := ri_12_5 hfo_1 hfo_219 (hfA12 o0 ko0 5 (by decide) (by decide) (by decide) (by decide) (by decide) (by decide) (by decide))
                    obtain rfl := ri_12_23 hfo_1 hfo_219 (hfA12 o0 ko0 23 (by decide) (by decide) (by decide) (by decide) (by decide) (by decide) (by decide))
                    obtain rfl := ri_12_25 hfo_1 hfo_219 (hfA12 o0 ko0 25 (by decide) (by decide) (by decide) (by decide) (by decide) (by decide) (by decide))
                    obtain rfl := ri_12_27 hfo_1 hfo_219 (hfA12 o0 ko0 27 (by decide) (by decide) (by decide) (by decide) (by decide) (by decide) (by decide))
                    obtain rfl := ri_12_29 hfo_1 hfo_219 (hfA12 o0 ko0 29 (by decide) (by decide) (by decide) (by decide) (by decide) (by decide) (by decide))
                    obtain rfl := ri_12_32 hfo_1 hfo_219 (hfA12 o0 ko0 32 (by decide) (by decide) (by decide) (by decide) (by decide) (by decide) (by decide))
                    obtain rfl := ri_12_33 hfo_1 hfo_219 (hfA12 o0 ko0 33 (by decide) (by decide) (by decide) (by decide) (by decide) (by decide) (by decide))
                    obtain rfl := ri_12_35 hfo_1 hfo_219 (hfA12 o0 ko0 35 (by decide) (by decide) (by decide) (by decide) (by decide) (by decide) (by decide))
                    obtain rfl := ri_12_38 hfo_1 hfo_219 (hfA12 o0 ko0 38 (by decide) (by decide) (by decide) (by decide) (by decide) (by decide) (by decide))
                    obtain rfl := ri_12_43 hfo_1 hfo_219 (hfA12 o0 ko0 43 (by decide) (by decide) (by decide) (by decide) (by decide) (by decide) (by decide))
                    obtain rfl := ri_12_53 hfo_1 hfo_219 (hfA12 o0 ko0 53 (by decide) (by decide) (by decide) (by decide) (by decide) (by decide) (by decide))
                    refine tk_getP (D := (dC, dI)) (ci := 12) (v := .ref a_3) (C := RX12) (T := TX12) (N := 56) hx hb hU inlX12 hown hK hP mo0 hfo_219 rfl 1 (by decide) (hU _ wd_170) (fun _ h9 => h9) rfl dX12_ruled_178 ?_
                    refine lv_iload hx hb dX12_ruled_181 (lv_at hl 0 rfl) ?_
                    refine lv_aload_n hx hb dX12_ruled_183 rfl (lv_at hl 5 rfl) ?_
                    refine tk_getP (D := (dC, dI)) (ci := 12) (v := .int v_232) (C := RX12) (T := TX12) (N := 56) hx hb hU inlX12 hown hK hP mo0 hfo_219 rfl 12 (by decide) (hU _ wd_618) (fun _ h9 => h9) rfl dX12_ruled_184 ?_
                    obtain ⟨g_277, hfo_276, hbg_277⟩ := un_576 (hG _ ma_3) ka_3
                    refine tk_istP hx hb hK hP hD hS 0 ma_3 hfo_276 rfl (vp_in_iff.mpr (by constructor <;> omega)) dX12_ruled_187 (fun H locs hP hD hS => ?_)
                    have hc9 := cl_I (i := x_218) (by omega)
                    obtain ⟨g_278, eqg_278⟩ : ∃ y : Nat → Int32, y = upd g_277 (Int32.toNatClampNeg x_218) v_232 := ⟨_, rfl⟩
                    rw [← eqg_278] at hP hD
                    have hbg_278 : wOK g_278 := by rw [eqg_278]; exact ⟨hbg_277.1.up (fun h1 h2 h3 => by exfalso; omega), hbg_277.2.1.up (fun h1 h2 h3 => by exfalso; omega), hbg_277.2.2.1.up (fun h1 h2 h3 => by exfalso; omega), hbg_277.2.2.2.1.up (fun h1 h2 h3 => by exfalso; omega), hbg_277.2.2.2.2.1.up (fun h1 h2 h3 => by exfalso; omega), hbg_277.2.2.2.2.2.1.up (fun h1 h2 h3 => by exfalso; omega), hbg_277.2.2.2.2.2.2.1.up (fun h1 h2 h3 => by exfalso; omega), hbg_277.2.2.2.2.2.2.2.1.up (fun h1 h2 h3 => by exfalso; omega), hbg_277.2.2.2.2.2.2.2.2.1.up (fun h1 h2 h3 => by exfalso; omega), hbg_277.2.2.2.2.2.2.2.2.2.1.up (fun h1 h2 h3 => by exfalso; omega), hbg_277.2.2.2.2.2.2.2.2.2.2.1.up (fun h1 h2 h3 => by exfalso; omega), hbg_277.2.2.2.2.2.2.2.2.2.2.2.1.up (fun h1 h2 h3 => by exfalso; omega), hbg_277.2.2.2.2.2.2.2.2.2.2.2.2.1.up (fun h1 h2 h3 => by constructor <;> omega), hbg_277.2.2.2.2.2.2.2.2.2.2.2.2.2.1.up (fun h1 h2 h3 => by exfalso; omega), hbg_277.2.2.2.2.2.2.2.2.2.2.2.2.2.2.1.up (fun h1 h2 h3 => by exfalso; omega), hbg_277.2.2.2.2.2.2.2.2.2.2.2.2.2.2.2.up (fun h1 h2 h3 => by exfalso; omega)⟩
                    obtain ⟨f_280, ef_280⟩ : ∃ y : Nat → va_E, y = va_up f_215 a_3 (.inl (cI, 1560, .inl g_278)) := ⟨_, rfl⟩
                    have hP : va_P (dC, dI) vwCl (va_pl L f_280) H := by rw [ef_280]; exact hP
                    have hD : va_D (fun q => q ∈ L) (va_pl L f_280) := by rw [ef_280]; exact hD
                    have hG : GI (okc cI cL cZ cR cG cH L kd) kd L f_280 := by rw [ef_280]; exact hG.set a_3 (mk_576 ka_3 ⟨_, rfl, hbg_278⟩)
                    have hfo_281 : f_280 o0 = .inr (12, [.ref a_2, .ref a_3, .ref a_4, .int v_5, .ref a_6, .int v_7, .int v_226, .int v_227, .int v_228, .int v_229, .int v_230, .int v_231, .int v_232, .int v_233, .int v_234, .ref a_17, .ref a_18, .ref a_19, .ref a_20, .ref a_21, .ref a_22, .ref a_23, .ref a_24, .int v_25, .int v_244, .int v_27, .int v_246, .int v_29, .ref a_30, .int v_31, .ref a_32, .ref a_33, .int v_34, .int v_35, .ref a_36, .int v_37, .ref a_38, .ref a_39, .int v_40, .int v_259, .ref a_42, .ref a_43, .ref a_44, .int v_45, .ref a_46, .ref a_47, .ref a_48, .ref a_49, .ref a_50, .ref a_51, .ref a_52, .ref a_53, .ref a_54, .int v_55, .int v_274, .ref a_57]) := by rw [ef_280, up_ne (kd_ne ka_3 ko0 (by decide))]; exact hfo_219
                    have hfr0 : ∀ b, kd b ≠ 12 → kd b ≠ 576 → f_280 b = f b := fun b q12 q576 => (congrFun ef_280 b).trans ((up_ne (fun e9 => q576 (by rw [e9]; exact ka_3))).trans (hfr0 b q12 q576))
                    have hrA12 : ∀ b, kd b = 12 → ∀ j, fldR (f_280 b) j = fldR (f b) j := fun b kb j => (congrArg (fun x => fldR x j) ((congrFun ef_280 b).trans (up_ne (kd_ne ka_3 kb (by decide))))).trans (hrA12 b kb j)
                    have hfA12 : ∀ b, kd b = 12 → ∀ j, j ≠ 6 → j ≠ 7 → j ≠ 8 → j ≠ 11 → j ≠ 12 → j ≠ 13 → j ≠ 14 → fldI (f_280 b) j = fldI (f b) j := fun b kb j n6 n7 n8 n11 n12 n13 n14 => (congrArg (fun x => fldI x j) ((congrFun ef_280 b).trans (up_ne (kd_ne ka_3 kb (by decide))))).trans (hfA12 b kb j n6 n7 n8 n11 n12 n13 n14)
                    have hT_128 : frel kd 576 7 f_280 a_3 := by rw [ef_280]; exact frel.mk ka_3 up_self (by rw [eqg_278]; exact (hT_128.get hfo_276).up (hbg_277.2.1 16 (by decide) (by decide) (by decide)).2 (by omega) (by omega) (by omega) (fun h9 => by exfalso; omega))
                    have hMm_194 : ∀ z9, fldI (f_280 o0) 6 = some z9 → v_8.toInt ≤ z9.toInt := by rw [ef_280]; exact (fun z9 h9 => hMm_194 z9 (by rw [up_ne (kd_ne ka_3 ko0 (by decide))] at h9; exact h9))
                    have hfo_282 : f_280 a_3 = .inl (cI, 1560, .inl g_278) := by rw [ef_280]; exact up_self
                    have ql_283 : v_232 = g_278 (Int32.toNatClampNeg x_218) := by rw [eqg_278, pk_us]
                    refine lv_aload_n hx hb dX12_ruled_188 rfl (lv_at hl 5 rfl) ?_
                    refine tk_getP (D := (dC, dI)) (ci := 12) (v := .ref a_3) (C := RX12) (T := TX12) (N := 56) hx hb hU inlX12 hown hK hP mo0 hfo_281 rfl 1 (by decide) (hU _ wd_170) (fun _ h9 => h9) rfl dX12_ruled_189 ?_
                    refine lv_iload hx hb dX12_ruled_192 (lv_at hl 0 rfl) ?_
                    refine lv_iconst (v := 1) hx hb dX12_ruled_194 (by decide) ?_
                    refine lv_iadd hx hb dX12_ruled_195 ?_
                    refine lv_topi (fun x_284 ex_284 => ?_)
                    have hx_284 : x_284.toInt = x_218.toInt + 1 := by rw [ex_284, ad_I (by rw [ti_1]; omega) (by rw [ti_1]; omega), ti_1]
                    have bx_284 : (461 ≤ x_284.toInt ∧ x_284.toInt ≤ 489) := by constructor <;> omega
                    refine lv_aload_n hx hb dX12_ruled_196 rfl (lv_at hl 5 rfl) ?_
                    refine tk_getP (D := (dC, dI)) (ci := 12) (v := .int v_233) (C := RX12) (T := TX12) (N := 56) hx hb hU inlX12 hown hK hP mo0 hfo_281 rfl 13 (by decide) (hU _ wd_619) (fun _ h9 => h9) rfl dX12_ruled_197 ?_
                    refine tk_istP hx hb hK hP hD hS 0 ma_3 hfo_282 rfl (vp_in_iff.mpr (by constructor <;> omega)) dX12_ruled_200 (fun H locs hP hD hS => ?_)
                    have hc9 := cl_I (i := x_284) (by omega)
                    obtain ⟨g_285, eqg_285⟩ : ∃ y : Nat → Int32, y = upd g_278 (Int32.toNatClampNeg x_284) v_233 := ⟨_, rfl⟩
                    rw [← eqg_285] at hP hD
                    have hbg_285 : wOK g_285 := by rw [eqg_285]; exact ⟨hbg_278.1.up (fun h1 h2 h3 => by exfalso; omega), hbg_278.2.1.up (fun h1 h2 h3 => by exfalso; omega), hbg_278.2.2.1.up (fun h1 h2 h3 => by exfalso; omega), hbg_278.2.2.2.1.up (fun h1 h2 h3 => by exfalso; omega), hbg_278.2.2.2.2.1.up (fun h1 h2 h3 => by exfalso; omega), hbg_278.2.2.2.2.2.1.up (fun h1 h2 h3 => by exfalso; omega), hbg_278.2.2.2.2.2.2.1.up (fun h1 h2 h3 => by exfalso; omega), hbg_278.2.2.2.2.2.2.2.1.up (fun h1 h2 h3 => by exfalso; omega), hbg_278.2.2.2.2.2.2.2.2.1.up (fun h1 h2 h3 => by exfalso; omega), hbg_278.2.2.2.2.2.2.2.2.2.1.up (fun h1 h2 h3 => by exfalso; omega), hbg_278.2.2.2.2.2.2.2.2.2.2.1.up (fun h1 h2 h3 => by exfalso; omega), hbg_278.2.2.2.2.2.2.2.2.2.2.2.1.up (fun h1 h2 h3 => by exfalso; omega), hbg_278.2.2.2.2.2.2.2.2.2.2.2.2.1.up (fun h1 h2 h3 => by constructor <;> omega), hbg_278.2.2.2.2.2.2.2.2.2.2.2.2.2.1.up (fun h1 h2 h3 => by exfalso; omega), hbg_278.2.2.2.2.2.2.2.2.2.2.2.2.2.2.1.up (fun h1 h2 h3 => by exfalso; omega), hbg_278.2.2.2.2.2.2.2.2.2.2.2.2.2.2.2.up (fun h1 h2 h3 => by exfalso; omega)⟩
                    obtain ⟨f_287, ef_287⟩ : ∃ y : Nat → va_E, y = va_up f_280 a_3 (.inl (cI, 1560, .inl g_285)) := ⟨_, rfl⟩
                    have hP : va_P (dC, dI) vwCl (va_pl L f_287) H := by rw [ef_287]; exact hP
                    have hD : va_D (fun q => q ∈ L) (va_pl L f_287) := by rw [ef_287]; exact hD
                    have hG : GI (okc cI cL cZ cR cG cH L kd) kd L f_287 := by rw [ef_287]; exact hG.set a_3 (mk_576 ka_3 ⟨_, rfl, hbg_285⟩)
                    have hfo_288 : f_287 o0 = .inr (12, [.ref a_2, .ref a_3, .ref a_4, .int v_5, .ref a_6, .int v_7, .int v_226, .int v_227, .int v_228, .int v_229, .int v_230, .int v_231, .int v_232, .int v_233, .int v_234, .ref a_17, .ref a_18, .ref a_19, .ref a_20, .ref a_21, .ref a_22, .ref a_23, .ref a_24, .int v_25, .int v_244, .int v_27, .int v_246, .int v_29, .ref a_30, .int v_31, .ref a_32, .ref a_33, .int v_34, .int v_35, .ref a_36, .int v_37, .ref a_38, .ref a_39, .int v_40, .int v_259, .ref a_42, .ref a_43, .ref a_44, .int v_45, .ref a_46, .ref a_47, .ref a_48, .ref a_49, .ref a_50, .ref a_51, .ref a_52, .ref a_53, .ref a_54, .int v_55, .int v_274, .ref a_57]) := by rw [ef_287, up_ne (kd_ne ka_3 ko0 (by decide))]; exact hfo_281
                    have hfr0 : ∀ b, kd b ≠ 12 → kd b ≠ 576 → f_287 b = f b := fun b q12 q576 => (congrFun ef_287 b).trans ((up_ne (fun e9 => q576 (by rw [e9]; exact ka_3))).trans (hfr0 b q12 q576))
                    have hrA12 : ∀ b, kd b = 12 → ∀ j, fldR (f_287 b) j = fldR (f b) j := fun b kb j => (congrArg (fun x => fldR x j) ((congrFun ef_287 b).trans (up_ne (kd_ne ka_3 kb (by decide))))).trans (hrA12 b kb j)
                    have hfA12 : ∀ b, kd b = 12 → ∀ j, j ≠ 6 → j ≠ 7 → j ≠ 8 → j ≠ 11 → j ≠ 12 → j ≠ 13 → j ≠ 14 → fldI (f_287 b) j = fldI (f b) j := fun b kb j n6 n7 n8 n11 n12 n13 n14 => (congrArg (fun x => fldI x j) ((congrFun ef_287 b).trans (up_ne (kd_ne ka_3 kb (by decide))))).trans (hfA12 b kb j n6 n7 n8 n11 n12 n13 n14)
                    have hT_128 : frel kd 576 7 f_287 a_3 := by rw [ef_287]; exact frel.mk ka_3 up_self (by rw [eqg_285]; exact (hT_128.get hfo_282).up (hbg_278.2.1 16 (by decide) (by decide) (by decide)).2 (by omega) (by omega) (by omega) (fun h9 => by exfalso; omega))
                    have hMm_194 : ∀ z9, fldI (f_287 o0) 6 = some z9 → v_8.toInt ≤ z9.toInt := by rw [ef_287]; exact (fun z9 h9 => hMm_194 z9 (by rw [up_ne (kd_ne ka_3 ko0 (by decide))] at h9; exact h9))
                    have hfo_289 : f_287 a_3 = .inl (cI, 1560, .inl g_285) := by rw [ef_287]; exact up_self
                    have ql_290 : v_233 = g_285 (Int32.toNatClampNeg x_284) := by rw [eqg_285, pk_us]
                    refine lv_aload_n hx hb dX12_ruled_201 rfl (lv_at hl 5 rfl) ?_
                    refine tk_getP (D := (dC, dI)) (ci := 12) (v := .ref a_3) (C := RX12) (T := TX12) (N := 56) hx hb hU inlX12 hown hK hP mo0 hfo_288 rfl 1 (by decide) (hU _ wd_170) (fun _ h9 => h9) rfl dX12_ruled_202 ?_
                    refine lv_iload hx hb dX12_ruled_205 (lv_at hl 0 rfl) ?_
                    refine lv_iconst (v := 2) hx hb dX12_ruled_207 (by decide) ?_
                    refine lv_iadd hx hb dX12_ruled_208 ?_
                    refine lv_topi (fun x_291 ex_291 => ?_)
                    have hx_291 : x_291.toInt = x_218.toInt + 2 := by rw [ex_291, ad_I (by rw [ti_2]; omega) (by rw [ti_2]; omega), ti_2]
                    have bx_291 : (462 ≤ x_291.toInt ∧ x_291.toInt ≤ 490) := by constructor <;> omega
                    refine lv_iload_n hx hb dX12_ruled_209 rfl (lv_at hl 3 rfl) ?_
                    refine tk_istP hx hb hK hP hD hS 0 ma_3 hfo_289 rfl (vp_in_iff.mpr (by constructor <;> omega)) dX12_ruled_210 (fun H locs hP hD hS => ?_)
                    have hc9 := cl_I (i := x_291) (by omega)
                    obtain ⟨g_292, eqg_292⟩ : ∃ y : Nat → Int32, y = upd g_285 (Int32.toNatClampNeg x_291) x_130 := ⟨_, rfl⟩
                    rw [← eqg_292] at hP hD
                    have hbg_292 : wOK g_292 := by rw [eqg_292]; exact ⟨hbg_285.1.up (fun h1 h2 h3 => by exfalso; omega), hbg_285.2.1.up (fun h1 h2 h3 => by exfalso; omega), hbg_285.2.2.1.up (fun h1 h2 h3 => by exfalso; omega), hbg_285.2.2.2.1.up (fun h1 h2 h3 => by exfalso; omega), hbg_285.2.2.2.2.1.up (fun h1 h2 h3 => by exfalso; omega), hbg_285.2.2.2.2.2.1.up (fun h1 h2 h3 => by exfalso; omega), hbg_285.2.2.2.2.2.2.1.up (fun h1 h2 h3 => by exfalso; omega), hbg_285.2.2.2.2.2.2.2.1.up (fun h1 h2 h3 => by exfalso; omega), hbg_285.2.2.2.2.2.2.2.2.1.up (fun h1 h2 h3 => by exfalso; omega), hbg_285.2.2.2.2.2.2.2.2.2.1.up (fun h1 h2 h3 => by exfalso; omega), hbg_285.2.2.2.2.2.2.2.2.2.2.1.up (fun h1 h2 h3 => by exfalso; omega), hbg_285.2.2.2.2.2.2.2.2.2.2.2.1.up (fun h1 h2 h3 => by exfalso; omega), hbg_285.2.2.2.2.2.2.2.2.2.2.2.2.1.up (fun h1 h2 h3 => by constructor <;> omega), hbg_285.2.2.2.2.2.2.2.2.2.2.2.2.2.1.up (fun h1 h2 h3 => by constructor <;> omega), hbg_285.2.2.2.2.2.2.2.2.2.2.2.2.2.2.1.up (fun h1 h2 h3 => by exfalso; omega), hbg_285.2.2.2.2.2.2.2.2.2.2.2.2.2.2.2.up (fun h1 h2 h3 => by exfalso; omega)⟩
                    obtain ⟨f_294, ef_294⟩ : ∃ y : Nat → va_E, y = va_up f_287 a_3 (.inl (cI, 1560, .inl g_292)) := ⟨_, rfl⟩
                    have hP : va_P (dC, dI) vwCl (va_pl L f_294) H := by rw [ef_294]; exact hP
                    have hD : va_D (fun q => q ∈ L) (va_pl L f_294) := by rw [ef_294]; exact hD
                    have hG : GI (okc cI cL cZ cR cG cH L kd) kd L f_294 := by rw [ef_294]; exact hG.set a_3 (mk_576 ka_3 ⟨_, rfl, hbg_292⟩)
                    have hfo_295 : f_294 o0 = .inr (12, [.ref a_2, .ref a_3, .ref a_4, .int v_5, .ref a_6, .int v_7, .int v_226, .int v_227, .int v_228, .int v_229, .int v_230, .int v_231, .int v_232, .int v_233, .int v_234, .ref a_17, .ref a_18, .ref a_19, .ref a_20, .ref a_21, .ref a_22, .ref a_23, .ref a_24, .int v_25, .int v_244, .int v_27, .int v_246, .int v_29, .ref a_30, .int v_31, .ref a_32, .ref a_33, .int v_34, .int v_35, .ref a_36, .int v_37, .ref a_38, .ref a_39, .int v_40, .int v_259, .ref a_42, .ref a_43, .ref a_44, .int v_45, .ref a_46, .ref a_47, .ref a_48, .ref a_49, .ref a_50, .ref a_51, .ref a_52, .ref a_53, .ref a_54, .int v_55, .int v_274, .ref a_57]) := by rw [ef_294, up_ne (kd_ne ka_3 ko0 (by decide))]; exact hfo_288
                    have hfr0 : ∀ b, kd b ≠ 12 → kd b ≠ 576 → f_294 b = f b := fun b q12 q576 => (congrFun ef_294 b).trans ((up_ne (fun e9 => q576 (by rw [e9]; exact ka_3))).trans (hfr0 b q12 q576))
                    have hrA12 : ∀ b, kd b = 12 → ∀ j, fldR (f_294 b) j = fldR (f b) j := fun b kb j => (congrArg (fun x => fldR x j) ((congrFun ef_294 b).trans (up_ne (kd_ne ka_3 kb (by decide))))).trans (hrA12 b kb j)
                    have hfA12 : ∀ b, kd b = 12 → ∀ j, j ≠ 6 → j ≠ 7 → j ≠ 8 → j ≠ 11 → j ≠ 12 → j ≠ 13 → j ≠ 14 → fldI (f_294 b) j = fldI (f b) j := fun b kb j n6 n7 n8 n11 n12 n13 n14 => (congrArg (fun x => fldI x j) ((congrFun ef_294 b).trans (up_ne (kd_ne ka_3 kb (by decide))))).trans (hfA12 b kb j n6 n7 n8 n11 n12 n13 n14)
                    have hT_128 : frel kd 576 7 f_294 a_3 := by rw [ef_294]; exact frel.mk ka_3 up_self (by rw [eqg_292]; exact (hT_128.get hfo_289).up (hbg_285.2.1 16 (by decide) (by decide) (by decide)).2 (by omega) (by omega) (by omega) (fun h9 => by exfalso; omega))
                    have hMm_194 : ∀ z9, fldI (f_294 o0) 6 = some z9 → v_8.toInt ≤ z9.toInt := by rw [ef_294]; exact (fun z9 h9 => hMm_194 z9 (by rw [up_ne (kd_ne ka_3 ko0 (by decide))] at h9; exact h9))
                    have hfo_296 : f_294 a_3 = .inl (cI, 1560, .inl g_292) := by rw [ef_294]; exact up_self
                    have ql_297 : x_130 = g_292 (Int32.toNatClampNeg x_291) := by rw [eqg_292, pk_us]
                    refine lv_aload_n hx hb dX12_ruled_211 rfl (lv_at hl 5 rfl) ?_
                    refine tk_getP (D := (dC, dI)) (ci := 12) (v := .ref a_3) (C := RX12) (T := TX12) (N := 56) hx hb hU inlX12 hown hK hP mo0 hfo_295 rfl 1 (by decide) (hU _ wd_170) (fun _ h9 => h9) rfl dX12_ruled_212 ?_
                    refine lv_iload hx hb dX12_ruled_215 (lv_at hl 0 rfl) ?_
                    refine lv_iconst (v := 3) hx hb dX12_ruled_217 (by decide) ?_
                    refine lv_iadd hx hb dX12_ruled_218 ?_
                    refine lv_topi (fun x_298 ex_298 => ?_)
                    have hx_298 : x_298.toInt = x_218.toInt + 3 := by rw [ex_298, ad_I (by rw [ti_3]; omega) (by rw [ti_3]; omega), ti_3]
                    have bx_298 : (463 ≤ x_298.toInt ∧ x_298.toInt ≤ 491) := by constructor <;> omega
                    refine lv_iload_n hx hb dX12_ruled_219 rfl (lv_at hl 2 rfl) ?_
                    refine tk_istP hx hb hK hP hD hS 0 ma_3 hfo_296 rfl (vp_in_iff.mpr (by constructor <;> omega)) dX12_ruled_220 (fun H locs hP hD hS => ?_)
                    have hc9 := cl_I (i := x_298) (by omega)
                    obtain ⟨g_299, eqg_299⟩ : ∃ y : Nat → Int32, y = upd g_292 (Int32.toNatClampNeg x_298) y_213 := ⟨_, rfl⟩
                    rw [← eqg_299] at hP hD
                    have hbg_299 : wOK g_299 := by rw [eqg_299]; exact ⟨hbg_292.1.up (fun h1 h2 h3 => by exfalso; omega), hbg_292.2.1.up (fun h1 h2 h3 => by exfalso; omega), hbg_292.2.2.1.up (fun h1 h2 h3 => by exfalso; omega), hbg_292.2.2.2.1.up (fun h1 h2 h3 => by exfalso; omega), hbg_292.2.2.2.2.1.up (fun h1 h2 h3 => by exfalso; omega), hbg_292.2.2.2.2.2.1.up (fun h1 h2 h3 => by exfalso; omega), hbg_292.2.2.2.2.2.2.1.up (fun h1 h2 h3 => by exfalso; omega), hbg_292.2.2.2.2.2.2.2.1.up (fun h1 h2 h3 => by exfalso; omega), hbg_292.2.2.2.2.2.2.2.2.1.up (fun h1 h2 h3 => by exfalso; omega), hbg_292.2.2.2.2.2.2.2.2.2.1.up (fun h1 h2 h3 => by exfalso; omega), hbg_292.2.2.2.2.2.2.2.2.2.2.1.up (fun h1 h2 h3 => by exfalso; omega), hbg_292.2.2.2.2.2.2.2.2.2.2.2.1.up (fun h1 h2 h3 => by exfalso; omega), hbg_292.2.2.2.2.2.2.2.2.2.2.2.2.1.up (fun h1 h2 h3 => by constructor <;> omega), hbg_292.2.2.2.2.2.2.2.2.2.2.2.2.2.1.up (fun h1 h2 h3 => by exfalso; omega), hbg_292.2.2.2.2.2.2.2.2.2.2.2.2.2.2.1.up (fun h1 h2 h3 => by constructor <;> omega), hbg_292.2.2.2.2.2.2.2.2.2.2.2.2.2.2.2.up (fun h1 h2 h3 => by exfalso; omega)⟩
                    obtain ⟨f_301, ef_301⟩ : ∃ y : Nat → va_E, y = va_up f_294 a_3 (.inl (cI, 1560, .inl g_299)) := ⟨_, rfl⟩
                    have hP : va_P (dC, dI) vwCl (va_pl L f_301) H := by rw [ef_301]; exact hP
                    have hD : va_D (fun q => q ∈ L) (va_pl L f_301) := by rw [ef_301]; exact hD
                    have hG : GI (okc cI cL cZ cR cG cH L kd) kd L f_301 := by rw [ef_301]; exact hG.set a_3 (mk_576 ka_3 ⟨_, rfl, hbg_299⟩)
                    have hfo_302 : f_301 o0 = .inr (12, [.ref a_2, .ref a_3, .ref a_4, .int v_5, .ref a_6, .int v_7, .int v_226, .int v_227, .int v_228, .int v_229, .int v_230, .int v_231, .int v_232, .int v_233, .int v_234, .ref a_17, .ref a_18, .ref a_19, .ref a_20, .ref a_21, .ref a_22, .ref a_23, .ref a_24, .int v_25, .int v_244, .int v_27, .int v_246, .int v_29, .ref a_30, .int v_31, .ref a_32, .ref a_33, .int v_34, .int v_35, .ref a_36, .int v_37, .ref a_38, .ref a_39, .int v_40, .int v_259, .ref a_42, .ref a_43, .ref a_44, .int v_45, .ref a_46, .ref a_47, .ref a_48, .ref a_49, .ref a_50, .ref a_51, .ref a_52, .ref a_53, .ref a_54, .int v_55, .int v_274, .ref a_57]) := by rw [ef_301, up_ne (kd_ne ka_3 ko0 (by decide))]; exact hfo_295
                    have hfr0 : ∀ b, kd b ≠ 12 → kd b ≠ 576 → f_301 b = f b := fun b q12 q576 => (congrFun ef_301 b).trans ((up_ne (fun e9 => q576 (by rw [e9]; exact ka_3))).trans (hfr0 b q12 q576))
                    have hrA12 : ∀ b, kd b = 12 → ∀ j, fldR (f_301 b) j = fldR (f b) j := fun b kb j => (congrArg (fun x => fldR x j) ((congrFun ef_301 b).trans (up_ne (kd_ne ka_3 kb (by decide))))).trans (hrA12 b kb j)
                    have hfA12 : ∀ b, kd b = 12 → ∀ j, j ≠ 6 → j ≠ 7 → j ≠ 8 → j ≠ 11 → j ≠ 12 → j ≠ 13 → j ≠ 14 → fldI (f_301 b) j = fldI (f b) j := fun b kb j n6 n7 n8 n11 n12 n13 n14 => (congrArg (fun x => fldI x j) ((congrFun ef_301 b).trans (up_ne (kd_ne ka_3 kb (by decide))))).trans (hfA12 b kb j n6 n7 n8 n11 n12 n13 n14)
                    have hT_128 : frel kd 576 7 f_301 a_3 := by rw [ef_301]; exact frel.mk ka_3 up_self (by rw [eqg_299]; exact (hT_128.get hfo_296).up (hbg_292.2.1 16 (by decide) (by decide) (by decide)).2 (by omega) (by omega) (by omega) (fun h9 => by exfalso; omega))
                    have hMm_194 : ∀ z9, fldI (f_301 o0) 6 = some z9 → v_8.toInt ≤ z9.toInt := by rw [ef_301]; exact (fun z9 h9 => hMm_194 z9 (by rw [up_ne (kd_ne ka_3 ko0 (by decide))] at h9; exact h9))
                    have hfo_303 : f_301 a_3 = .inl (cI, 1560, .inl g_299) := by rw [ef_301]; exact up_self
                    have ql_304 : y_213 = g_299 (Int32.toNatClampNeg x_298) := by rw [eqg_299, pk_us]
                    refine lv_aload_n hx hb dX12_ruled_221 rfl (lv_at hl 5 rfl) ?_
                    refine tk_getP (D := (dC, dI)) (ci := 12) (v := .ref a_3) (C := RX12) (T := TX12) (N := 56) hx hb hU inlX12 hown hK hP mo0 hfo_302 rfl 1 (by decide) (hU _ wd_170) (fun _ h9 => h9) rfl dX12_ruled_222 ?_
                    refine lv_bipush (v := 17) hx hb dX12_ruled_225 (by decide) ?_
                    refine lv_dup2_11 hx hb dX12_ruled_227 rfl rfl ?_
                    refine tk_ildP hx hb hK hP 0 ma_3 hfo_303 rfl (vp_in_nI (n := 17) (by decide) (by decide)) dX12_ruled_228 ?_
                    refine lv_topi (fun x_305 ex_305 => ?_)
                    have bx_305 : (0 ≤ x_305.toInt ∧ x_305.toInt ≤ 8) := by rw [ex_305]; exact hbg_299.2.2.1 _ (by decide) (by decide) (by decide)
                    have hF7c_306 := hT_128.get hfo_303
                    have hnrc_307 : (0 ≤ x_305.toInt ∧ x_305.toInt ≤ 7) := by have hq1 := hF7c_306.2.2.2; have hq2 : x_305.toInt = (g_299 17).toInt := (by rw [ex_305]; rfl); constructor <;> omega
                    refine lv_iconst (v := 1) hx hb dX12_ruled_229 (by decide) ?_
                    refine lv_iadd hx hb dX12_ruled_230 ?_
                    refine lv_topi (fun x_308 ex_308 => ?_)
                    have hx_308 : x_308.toInt = x_305.toInt + 1 := by rw [ex_308, ad_I (by rw [ti_1]; omega) (by rw [ti_1]; omega), ti_1]
                    have bx_308 : (1 ≤ x_308.toInt ∧ x_308.toInt ≤ 8) := by constructor <;> omega
                    refine tk_istP hx hb hK hP hD hS 0 ma_3 hfo_303 rfl (vp_in_nI (n := 17) (by decide) (by decide)) dX12_ruled_231 (fun H locs hP hD hS => ?_)
                    have hc9 : ((Int32.toNatClampNeg 17 : Nat) : Int) = 17 := by decide
                    obtain ⟨g_309, eqg_309⟩ : ∃ y : Nat → Int32, y = upd g_299 (Int32.toNatClampNeg 17) x_308 := ⟨_, rfl⟩
                    rw [← eqg_309] at hP hD
                    have hbg_309 : wOK g_309 := by rw [eqg_309]; exact ⟨hbg_299.1.up (fun h1 h2 h3 => by exfalso; omega), hbg_299.2.1.up (fun h1 h2 h3 => by exfalso; omega), hbg_299.2.2.1.up (fun h1 h2 h3 => by constructor <;> omega), hbg_299.2.2.2.1.up (fun h1 h2 h3 => by exfalso; omega), hbg_299.2.2.2.2.1.up (fun h1 h2 h3 => by exfalso; omega), hbg_299.2.2.2.2.2.1.up (fun h1 h2 h3 => by exfalso; omega), hbg_299.2.2.2.2.2.2.1.up (fun h1 h2 h3 => by exfalso; omega), hbg_299.2.2.2.2.2.2.2.1.up (fun h1 h2 h3 => by exfalso; omega), hbg_299.2.2.2.2.2.2.2.2.1.up (fun h1 h2 h3 => by exfalso; omega), hbg_299.2.2.2.2.2.2.2.2.2.1.up (fun h1 h2 h3 => by exfalso; omega), hbg_299.2.2.2.2.2.2.2.2.2.2.1.up (fun h1 h2 h3 => by exfalso; omega), hbg_299.2.2.2.2.2.2.2.2.2.2.2.1.up (fun h1 h2 h3 => by exfalso; omega), hbg_299.2.2.2.2.2.2.2.2.2.2.2.2.1.up (fun h1 h2 h3 => by exfalso; omega), hbg_299.2.2.2.2.2.2.2.2.2.2.2.2.2.1.up (fun h1 h2 h3 => by exfalso; omega), hbg_299.2.2.2.2.2.2.2.2.2.2.2.2.2.2.1.up (fun h1 h2 h3 => by exfalso; omega), hbg_299.2.2.2.2.2.2.2.2.2.2.2.2.2.2.2.up (fun h1 h2 h3 => by exfalso; omega)⟩
                    obtain ⟨f_311, ef_311⟩ : ∃ y : Nat → va_E, y = va_up f_301 a_3 (.inl (cI, 1560, .inl g_309)) := ⟨_, rfl⟩
                    have hP : va_P (dC, dI) vwCl (va_pl L f_311) H := by rw [ef_311]; exact hP
                    have hD : va_D (fun q => q ∈ L) (va_pl L f_311) := by rw [ef_311]; exact hD
                    have hG : GI (okc cI cL cZ cR cG cH L kd) kd L f_311 := by rw [ef_311]; exact hG.set a_3 (mk_576 ka_3 ⟨_, rfl, hbg_309⟩)
                    have hfo_312 : f_311 o0 = .inr (12, [.ref a_2, .ref a_3, .ref a_4, .int v_5, .ref a_6, .int v_7, .int v_226, .int v_227, .int v_228, .int v_229, .int v_230, .int v_231, .int v_232, .int v_233, .int v_234, .ref a_17, .ref a_18, .ref a_19, .ref a_20, .ref a_21, .ref a_22, .ref a_23, .ref a_24, .int v_25, .int v_244, .int v_27, .int v_246, .int v_29, .ref a_30, .int v_31, .ref a_32, .ref a_33, .int v_34, .int v_35, .ref a_36, .int v_37, .ref a_38, .ref a_39, .int v_40, .int v_259, .ref a_42, .ref a_43, .ref a_44, .int v_45, .ref a_46, .ref a_47, .ref a_48, .ref a_49, .ref a_50, .ref a_51, .ref a_52, .ref a_53, .ref a_54, .int v_55, .int v_274, .ref a_57]) := by rw [ef_311, up_ne (kd_ne ka_3 ko0 (by decide))]; exact hfo_302
                    have hfr0 : ∀ b, kd b ≠ 12 → kd b ≠ 576 → f_311 b = f b := fun b q12 q576 => (congrFun ef_311 b).trans ((up_ne (fun e9 => q576 (by rw [e9]; exact ka_3))).trans (hfr0 b q12 q576))
                    have hrA12 : ∀ b, kd b = 12 → ∀ j, fldR (f_311 b) j = fldR (f b) j := fun b kb j => (congrArg (fun x => fldR x j) ((congrFun ef_311 b).trans (up_ne (kd_ne ka_3 kb (by decide))))).trans (hrA12 b kb j)
                    have hfA12 : ∀ b, kd b = 12 → ∀ j, j ≠ 6 → j ≠ 7 → j ≠ 8 → j ≠ 11 → j ≠ 12 → j ≠ 13 → j ≠ 14 → fldI (f_311 b) j = fldI (f b) j := fun b kb j n6 n7 n8 n11 n12 n13 n14 => (congrArg (fun x => fldI x j) ((congrFun ef_311 b).trans (up_ne (kd_ne ka_3 kb (by decide))))).trans (hfA12 b kb j n6 n7 n8 n11 n12 n13 n14)
                    have hMm_194 : ∀ z9, fldI (f_311 o0) 6 = some z9 → v_8.toInt ≤ z9.toInt := by rw [ef_311]; exact (fun z9 h9 => hMm_194 z9 (by rw [up_ne (kd_ne ka_3 ko0 (by decide))] at h9; exact h9))
                    have hfo_313 : f_311 a_3 = .inl (cI, 1560, .inl g_309) := by rw [ef_311]; exact up_self
                    have ql_314 : x_308 = g_309 (Int32.toNatClampNeg 17) := by rw [eqg_309, pk_us]
                    refine lv_iconst (v := 1) hx hb dX12_ruled_232 (by decide) ?_
                    have hM9 := hMm_194 v_226 (by rw [hfo_312]; rfl)
                    exact W.zret (v := 1) (ty := .boolean) hx hb hr rfl (fun t ht hW => ⟨⟨1, f_311, rfl, ⟨hG, (by decide), hfr0, hrA12, hfA12, (by intro w6 z6 e6 d6; rw [hfo_1] at e6; rw [hfo_312] at d6; obtain rfl := Option.some.inj e6; obtain rfl := Option.some.inj d6; (try rw [ti_1]) <;> omega), (fun d9 h9 => by rw [hfo_312] at h9; obtain rfl := Option.some.inj h9; exact frel.mk ka_3 hfo_313 (by rw [eqg_309]; exact hF7c_306.same (hbg_299.2.1 16 (by decide) (by decide) (by decide)).2 (pk_un (by decide)) (pk_un (by decide)) (fun k9 h9 => pk_un (by have hc8 : Int32.toNatClampNeg 17 = 17 := rfl; omega)) (by rw [show (17 : Nat) = Int32.toNatClampNeg 17 from rfl, pk_us]; omega)))⟩, by rw [ht]; exact hP, va_K.moved hW.alike hK, pl_in hD⟩, hS.F ht⟩) hS.2.2 dX12_ruled_233
                  · skip
                    rw [← Int32.toInt_inj, ti_0] at c_216
                    have hclc_315 : (0 ≤ y_213.toInt ∧ y_213.toInt ≤ 2) := by constructor <;> omega
                    refine lv_aload_n hx hb dX12_ruled_97 rfl (lv_at hl 4 rfl) ?_
                    refine lv_iconst (v := 3) hx hb dX12_ruled_98 (by decide) ?_
                    refine lv_iload_n hx hb dX12_ruled_99 rfl (lv_at hl 3 rfl) ?_
                    refine lv_imul hx hb dX12_ruled_100 ?_
                    refine lv_topi (fun x_316 ex_316 => ?_)
                    have hx_316 : x_316.toInt = 3 * x_60.toInt := by rw [ex_316, ml_I (by rw [ti_3]; omega) (by rw [ti_3]; omega), ti_3]
                    have bx_316 : (0 ≤ x_316.toInt ∧ x_316.toInt ≤ 21) := by constructor <;> omega
                    refine lv_iload_n hx hb dX12_ruled_101 rfl (lv_at hl 1 rfl) ?_
                    refine lv_iadd hx hb dX12_ruled_102 ?_
                    refine lv_topi (fun x_317 ex_317 => ?_)
                    have hx_317 : x_317.toInt = x_316.toInt + y_213.toInt := by rw [ex_317, ad_I (by omega) (by omega)]
                    have bx_317 : (0 ≤ x_317.toInt ∧ x_317.toInt ≤ 23) := by constructor <;> omega
                    obtain ⟨a_319, a_320, a_321, v_322, a_323, v_324, v_325, v_326, v_327, v_328, v_329, v_330, v_331, v_332, v_333, a_334, a_335, a_336, a_337, a_338, a_339, a_340, a_341, v_342, v_343, v_344, v_345, v_346, a_347, v_348, a_349, a_350, v_351, v_352, a_353, v_354, a_355, a_356, v_357, v_358, a_359, a_360, a_361, v_362, a_363, a_364, a_365, a_366, a_367, a_368, a_369, a_370, a_371, v_372, v_373, a_374, hfo_318, ⟨ma_319, ka_319⟩, ⟨ma_320, ka_320⟩, ⟨ma_321, ka_321⟩, bv_322, ⟨ma_323, ka_323⟩, bv_324, bv_325, bv_330, bv_331, bv_332, ⟨ma_334, ka_334⟩, ⟨ma_335, ka_335⟩, ⟨ma_336, ka_336⟩, ⟨ma_337, ka_337⟩, ⟨ma_338, ka_338⟩, ⟨ma_339, ka_339⟩, ⟨ma_340, ka_340⟩, ⟨ma_341, ka_341⟩, bv_342, bv_344, bv_346, ⟨ma_347, ka_347⟩, bv_348, ⟨ma_349, ka_349⟩, ⟨ma_350, ka_350⟩, bv_351, ⟨ma_353, ka_353⟩, bv_354, ⟨ma_355, ka_355⟩, ⟨ma_356, ka_356⟩, bv_357, ⟨ma_359, ka_359⟩, ⟨ma_360, ka_360⟩, ⟨ma_361, ka_361⟩, bv_362, ⟨ma_363, ka_363⟩, ⟨ma_364, ka_364⟩, ⟨ma_365, ka_365⟩, ⟨ma_366, ka_366⟩, ⟨ma_367, ka_367⟩, ⟨ma_368, ka_368⟩, ⟨ma_369, ka_369⟩, ⟨ma_370, ka_370⟩, ⟨ma_371, ka_371⟩, bv_372, ⟨ma_374, ka_374⟩⟩ := un_12 (hG _ mo0) ko0
                    have bv_326 : ((-2147483648) ≤ v_326.toInt ∧ v_326.toInt ≤ 2147483647) := ⟨i32_lo _, i32_hi _⟩
                    have bv_327 : ((-2147483648) ≤ v_327.toInt ∧ v_327.toInt ≤ 2147483647) := ⟨i32_lo _, i32_hi _⟩
                    have bv_328 : ((-2147483648) ≤ v_328.toInt ∧ v_328.toInt ≤ 2147483647) := ⟨i32_lo _, i32_hi _⟩
                    have bv_329 : ((-2147483648) ≤ v_329.toInt ∧ v_329.toInt ≤ 2147483647) := ⟨i32_lo _, i32_hi _⟩
                    have bv_333 : ((-2147483648) ≤ v_333.toInt ∧ v_333.toInt ≤ 2147483647) := ⟨i32_lo _, i32_hi _⟩
                    have bv_343 : ((-2147483648) ≤ v_343.toInt ∧ v_343.toInt ≤ 2147483647) := ⟨i32_lo _, i32_hi _⟩
                    have bv_345 : ((-2147483648) ≤ v_345.toInt ∧ v_345.toInt ≤ 2147483647) := ⟨i32_lo _, i32_hi _⟩
                    have bv_352 : ((-2147483648) ≤ v_352.toInt ∧ v_352.toInt ≤ 2147483647) := ⟨i32_lo _, i32_hi _⟩
                    have bv_358 : ((-2147483648) ≤ v_358.toInt ∧ v_358.toInt ≤ 2147483647) := ⟨i32_lo _, i32_hi _⟩
                    have bv_373 : ((-2147483648) ≤ v_373.toInt ∧ v_373.toInt ≤ 2147483647) := ⟨i32_lo _, i32_hi _⟩
                    obtain ⟨rfl, rfl, rfl, rfl, rfl, rfl, rfl, rfl, rfl, rfl, rfl, rfl, rfl, rfl, rfl, rfl, rfl, rfl, rfl, rfl, rfl, rfl, rfl, rfl, rfl, rfl, rfl, rfl, rfl, rfl, rfl⟩ := re_12 hfo_1 hfo_318 (hrA12 o0 ko0)
                    obtain rfl := ri_12_3 hfo_1 hfo_318 (hfA12 o0 ko0 3 (by decide) (by decide) (by decide) (by decide) (by decide) (by decide) (by decide))
                    obtain rfl := ri_12_5 hfo_1 hfo_318 (hfA12 o0 ko0 5 (by decide) (by decide) (by decide) (by decide) (by decide) (by decide) (by decide))
                    obtain rfl := ri_12_23 hfo_1 hfo_318 (hfA12 o0 ko0 23 (by decide) (by decide) (by decide) (by decide) (by decide) (by decide) (by decide))
                    obtain rfl := ri_12_25 hfo_1 hfo_318 (hfA12 o0 ko0 25 (by decide) (by decide) (by decide) (by decide) (by decide) (by decide) (by decide))
                    obtain rfl := ri_12_27 hfo_1 hfo_318 (hfA12 o0 ko0 27 (by decide) (by decide) (by decide) (by decide) (by decide) (by decide) (by decide))
                    obtain rfl := ri_12_29 hfo_1 hfo_318 (hfA12 o0 ko0 29 (by decide) (by decide) (by decide) (by decide) (by decide) (by decide) (by decide))
                    obtain rfl := ri_12_32 hfo_1 hfo_318 (hfA12 o0 ko0 32 (by decide) (by decide) (by decide) (by decide) (by decide) (by decide) (by decide))
                    obtain rfl := ri_12_33 hfo_1 hfo_318 (hfA12 o0 ko0 33 (by decide) (by decide) (by decide) (by decide) (by decide) (by decide) (by decide))
                    obtain rfl := ri_12_35 hfo_1 hfo_318 (hfA12 o0 ko0 35 (by decide) (by decide) (by decide) (by decide) (by decide) (by decide) (by decide))
                    obtain rfl := ri_12_38 hfo_1 hfo_318 (hfA12 o0 ko0 38 (by decide) (by decide) (by decide) (by decide) (by decide) (by decide) (by decide))
                    obtain rfl := ri_12_43 hfo_1 hfo_318 (hfA12 o0 ko0 43 (by decide) (by decide) (by decide) (by decide) (by decide) (by decide) (by decide))
                    obtain rfl := ri_12_53 hfo_1 hfo_318 (hfA12 o0 ko0 53 (by decide) (by decide) (by decide) (by decide) (by decide) (by decide) (by decide))
                    refine tk_ViP (As := [.int x_317]) (rest := []) (n := 1) hx hb hml hown hU hN hZ (s_X12_context_k12 l (dC, dI) cI cL cZ cR cG cH Z kd L f_215 hG o0 mo0 ko0 x_317 (by constructor <;> omega) (fun d9 h9 => by rw [hfo_318] at h9; obtain rfl := Option.some.inj h9; exact hT_128)) wd_639 wd_640 wd_641 wd_5 wd_642 (by decide +kernel) ⟨Nat.le_of_ble_eq_true rfl, Nat.le_of_ble_eq_true rfl⟩ hK hP hD hS mo0 hfo_318 12 rfl rfl rfl hl.1 rfl (Nat.le_of_ble_eq_true rfl) dX12_ruled_103 ⟨Nat.le_of_ble_eq_true rfl, Nat.le_of_ble_eq_true rfl⟩ (fun x_375 f_376 H locs hw hP hD hS => ?_)
                    obtain ⟨hG, bx_375, hkc_377, hra_378, hfa_379, hpost_380, hTc_381⟩ := hw
                    have hfr0 : ∀ b, kd b ≠ 12 → kd b ≠ 576 → f_376 b = f b := fun b q12 q576 => (hkc_377 b q12 q576).trans (hfr0 b q12 q576)
                    have hrA12 : ∀ b, kd b = 12 → ∀ j, fldR (f_376 b) j = fldR (f b) j := fun b kb j => (hra_378 b kb j).trans (hrA12 b kb j)
                    have hfA12 : ∀ b, kd b = 12 → ∀ j, j ≠ 6 → j ≠ 7 → j ≠ 8 → j ≠ 11 → j ≠ 12 → j ≠ 13 → j ≠ 14 → fldI (f_376 b) j = fldI (f b) j := fun b kb j n6 n7 n8 n11 n12 n13 n14 => (hfa_379 b kb j n6 n7 n8 n14).trans (hfA12 b kb j n6 n7 n8 n11 n12 n13 n14)
                    obtain ⟨a_384, a_385, a_386, v_387, a_388, v_389, v_390, v_391, v_392, v_393, v_394, v_395, v_396, v_397, v_398, a_399, a_400, a_401, a_402, a_403, a_404, a_405, a_406, v_407, v_408, v_409, v_410, v_411, a_412, v_413, a_414, a_415, v_416, v_417, a_418, v_419, a_420, a_421, v_422, v_423, a_424, a_425, a_426, v_427, a_428, a_429, a_430, a_431, a_432, a_433, a_434, a_435, a_436, v_437, v_438, a_439, hfo_383, ⟨ma_384, ka_384⟩, ⟨ma_385, ka_385⟩, ⟨ma_386, ka_386⟩, bv_387, ⟨ma_388, ka_388⟩, bv_389, bv_390, bv_395, bv_396, bv_397, ⟨ma_399, ka_399⟩, ⟨ma_400, ka_400⟩, ⟨ma_401, ka_401⟩, ⟨ma_402, ka_402⟩, ⟨ma_403, ka_403⟩, ⟨ma_404, ka_404⟩, ⟨ma_405, ka_405⟩, ⟨ma_406, ka_406⟩, bv_407, bv_409, bv_411, ⟨ma_412, ka_412⟩, bv_413, ⟨ma_414, ka_414⟩, ⟨ma_415, ka_415⟩, bv_416, ⟨ma_418, ka_418⟩, bv_419, ⟨ma_420, ka_420⟩, ⟨ma_421, ka_421⟩, bv_422, ⟨ma_424, ka_424⟩, ⟨ma_425, ka_425⟩, ⟨ma_426, ka_426⟩, bv_427, ⟨ma_428, ka_428⟩, ⟨ma_429, ka_429⟩, ⟨ma_430, ka_430⟩, ⟨ma_431, ka_431⟩, ⟨ma_432, ka_432⟩, ⟨ma_433, ka_433⟩, ⟨ma_434, ka_434⟩, ⟨ma_435, ka_435⟩, ⟨ma_436, ka_436⟩, bv_437, ⟨ma_439, ka_439⟩⟩ := un_12 (hG _ mo0) ko0
                    have bv_391 : ((-2147483648) ≤ v_391.toInt ∧ v_391.toInt ≤ 2147483647) := ⟨i32_lo _, i32_hi _⟩
                    have bv_392 : ((-2147483648) ≤ v_392.toInt ∧ v_392.toInt ≤ 2147483647) := ⟨i32_lo _, i32_hi _⟩
                    have bv_393 : ((-2147483648) ≤ v_393.toInt ∧ v_393.toInt ≤ 2147483647) := ⟨i32_lo _, i32_hi _⟩
                    have bv_394 : ((-2147483648) ≤ v_394.toInt ∧ v_394.toInt ≤ 2147483647) := ⟨i32_lo _, i32_hi _⟩
                    have bv_398 : ((-2147483648) ≤ v_398.toInt ∧ v_398.toInt ≤ 2147483647) := ⟨i32_lo _, i32_hi _⟩
                    have bv_408 : ((-2147483648) ≤ v_408.toInt ∧ v_408.toInt ≤ 2147483647) := ⟨i32_lo _, i32_hi _⟩
                    have bv_410 : ((-2147483648) ≤ v_410.toInt ∧ v_410.toInt ≤ 2147483647) := ⟨i32_lo _, i32_hi _⟩
                    have bv_417 : ((-2147483648) ≤ v_417.toInt ∧ v_417.toInt ≤ 2147483647) := ⟨i32_lo _, i32_hi _⟩
                    have bv_423 : ((-2147483648) ≤ v_423.toInt ∧ v_423.toInt ≤ 2147483647) := ⟨i32_lo _, i32_hi _⟩
                    have bv_438 : ((-2147483648) ≤ v_438.toInt ∧ v_438.toInt ≤ 2147483647) := ⟨i32_lo _, i32_hi _⟩
                    obtain ⟨rfl, rfl, rfl, rfl, rfl, rfl, rfl, rfl, rfl, rfl, rfl, rfl, rfl, rfl, rfl, rfl, rfl, rfl, rfl, rfl, rfl, rfl, rfl, rfl, rfl, rfl, rfl, rfl, rfl, rfl, rfl⟩ := re_12 hfo_1 hfo_383 (hrA12 o0 ko0)
                    obtain rfl := ri_12_3 hfo_1 hfo_383 (hfA12 o0 ko0 3 (by decide) (by decide) (by decide) (by decide) (by decide) (by decide) (by decide))
                    obtain rfl := ri_12_5 hfo_1 hfo_383 (hfA12 o0 ko0 5 (by decide) (by decide) (by decide) (by decide) (by decide) (by decide) (by decide))
                    obtain rfl := ri_12_23 hfo_1 hfo_383 (hfA12 o0 ko0 23 (by decide) (by decide) (by decide) (by decide) (by decide) (by decide) (by decide))
                    obtain rfl := ri_12_25 hfo_1 hfo_383 (hfA12 o0 ko0 25 (by decide) (by decide) (by decide) (by decide) (by decide) (by decide) (by decide))
                    obtain rfl := ri_12_27 hfo_1 hfo_383 (hfA12 o0 ko0 27 (by decide) (by decide) (by decide) (by decide) (by decide) (by decide) (by decide))
                    obtain rfl := ri_12_29 hfo_1 hfo_383 (hfA12 o0 ko0 29 (by decide) (by decide) (by decide) (by decide) (by decide) (by decide) (by decide))
                    obtain rfl := ri_12_32 hfo_1 hfo_383 (hfA12 o0 ko0 32 (by decide) (by decide) (by decide) (by decide) (by decide) (by decide) (by decide))
                    obtain rfl := ri_12_33 hfo_1 hfo_383 (hfA12 o0 ko0 33 (by decide) (by decide) (by decide) (by decide) (by decide) (by decide) (by decide))
                    obtain rfl := ri_12_35 hfo_1 hfo_383 (hfA12 o0 ko0 35 (by decide) (by decide) (by decide) (by decide) (by decide) (by decide) (by decide))
                    obtain rfl := ri_12_38 hfo_1 hfo_383 (hfA12 o0 ko0 38 (by decide) (by decide) (by decide) (by decide) (by decide) (by decide) (by decide))
                    obtain rfl := ri_12_43 hfo_1 hfo_383 (hfA12 o0 ko0 43 (by decide) (by decide) (by decide) (by decide) (by decide) (by decide) (by decide))
                    obtain rfl := ri_12_53 hfo_1 hfo_383 (hfA12 o0 ko0 53 (by decide) (by decide) (by decide) (by decide) (by decide) (by decide) (by decide))
                    obtain rfl := ri_12_11 hfo_318 hfo_383 (hfa_379 o0 ko0 11 (by decide) (by decide) (by decide) (by decide))
                    obtain rfl := ri_12_12 hfo_318 hfo_383 (hfa_379 o0 ko0 12 (by decide) (by decide) (by decide) (by decide))
                    obtain rfl := ri_12_13 hfo_318 hfo_383 (hfa_379 o0 ko0 13 (by decide) (by decide) (by decide) (by decide))
                    have hqhpost_380 := hpost_380 v_325 v_390 (by rw [hfo_318]; rfl) (by rw [hfo_383]; rfl)
                    have hMm_440 : ∀ z9, fldI (f_376 o0) 6 = some z9 → v_8.toInt ≤ z9.toInt := fun z9 h9 => by rw [hfo_383] at h9; obtain rfl := Option.some.inj h9; have h8 := hMm_194 v_325 (by rw [hfo_318]; rfl); omega
                    have hT_441 := hTc_381 a_3 (by rw [hfo_383]; rfl)
                    refine lv_if_ne (tgt := 111) hx hb dX12_ruled_106 (by decide) (fun c_442 => ?_) (fun c_442 => ?_)
                    · skip
                      rw [← Int32.toInt_inj, ti_0] at c_442
                      obtain ⟨x_443, ex_443⟩ : ∃ y : Int32, y_213 + 1 = y := ⟨_, rfl⟩
                      have hx_443 : x_443.toInt = y_213.toInt + 1 := by rw [← ex_443, ad_I (by rw [ti_1]; omega) (by rw [ti_1]; omega), ti_1]
                      have bx_443 : (1 ≤ x_443.toInt ∧ x_443.toInt ≤ 3) := by constructor <;> omega
                      refine lv_iinc (v := x_443) (lv' := [(3, .int x_443), (4, .int y_212), (2, .int x_130), (1, .int x_60), (0, .ref o0)]) hx hb dX12_ruled_111 hl (k := 1) rfl ex_443 (by decide) rfl (fun ls hl => ?_)
                      refine lv_aload_n hx hb dX12_ruled_114 rfl (lv_at hl 4 rfl) ?_
                      refine tk_ViP (As := []) (rest := []) (n := 0) hx hb hml hown hU hN hZ (s_X12_sign_k12 l (dC, dI) cI cL cZ cR cG cH Z kd L f_376 hG o0 mo0 ko0) wd_573 wd_574 wd_575 wd_5 wd_576 (by decide +kernel) ⟨Nat.le_of_ble_eq_true rfl, Nat.le_of_ble_eq_true rfl⟩ hK hP hD hS mo0 hfo_383 12 rfl rfl rfl hl.1 rfl (Nat.le_of_ble_eq_true rfl) dX12_ruled_115 ⟨Nat.le_of_ble_eq_true rfl, Nat.le_of_ble_eq_true rfl⟩ (fun x_444 f_445 H locs hw hP hD hS => ?_)
                      obtain ⟨hG, bx_444, hkc_446, hra_447, hfa_448, hpost_449⟩ := hw
                      have hfr0 : ∀ b, kd b ≠ 12 → kd b ≠ 576 → f_445 b = f b := fun b q12 q576 => (hkc_446 b q12).trans (hfr0 b q12 q576)
                      have hrA12 : ∀ b, kd b = 12 → ∀ j, fldR (f_445 b) j = fldR (f b) j := fun b kb j => (hra_447 b kb j).trans (hrA12 b kb j)
                      have hfA12 : ∀ b, kd b = 12 → ∀ j, j ≠ 6 → j ≠ 7 → j ≠ 8 → j ≠ 11 → j ≠ 12 → j ≠ 13 → j ≠ 14 → fldI (f_445 b) j = fldI (f b) j := fun b kb j n6 n7 n8 n11 n12 n13 n14 => (hfa_448 b kb j n6).trans (hfA12 b kb j n6 n7 n8 n11 n12 n13 n14)
                      have hT_441 : frel kd 576 7 f_445 a_3 := hT_441.keep (fun b q => hkc_446 b (by rw [q]; decide))
                      obtain ⟨a_452, a_453, a_454, v_455, a_456, v_457, v_458, v_459, v_460, v_461, v_462, v_463, v_464, v_465, v_466, a_467, a_468, a_469, a_470, a_471, a_472, a_473, a_474, v_475, v_476, v_477, v_478, v_479, a_480, v_481, a_482, a_483, v_484, v_485, a_486, v_487, a_488, a_489, v_490, v_491, a_492, a_493, a_494, v_495, a_496, a_497, a_498, a_499, a_500, a_501, a_502, a_503, a_504, v_505, v_506, a_507, hfo_451, ⟨ma_452, ka_452⟩, ⟨ma_453, ka_453⟩, ⟨ma_454, ka_454⟩, bv_455, ⟨ma_456, ka_456⟩, bv_457, bv_458, bv_463, bv_464, bv_465, ⟨ma_467, ka_467⟩, ⟨ma_468, ka_468⟩, ⟨ma_469, ka_469⟩, ⟨ma_470, ka_470⟩, ⟨ma_471, ka_471⟩, ⟨ma_472, ka_472⟩, ⟨ma_473, ka_473⟩, ⟨ma_474, ka_474⟩, bv_475, bv_477, bv_479, ⟨ma_480, ka_480⟩, bv_481, ⟨ma_482, ka_482⟩, ⟨ma_483, ka_483⟩, bv_484, ⟨ma_486, ka_486⟩, bv_487, ⟨ma_488, ka_488⟩, ⟨ma_489, ka_489⟩, bv_490, ⟨ma_492, ka_492⟩, ⟨ma_493, ka_493⟩, ⟨ma_494, ka_494⟩, bv_495, ⟨ma_496, ka_496⟩, ⟨ma_497, ka_497⟩, ⟨ma_498, ka_498⟩, ⟨ma_499, ka_499⟩, ⟨ma_500, ka_500⟩, ⟨ma_501, ka_501⟩, ⟨ma_502, ka_502⟩, ⟨ma_503, ka_503⟩, ⟨ma_504, ka_504⟩, bv_505, ⟨ma_507, ka_507⟩⟩ := un_12 (hG _ mo0) ko0
                      have bv_459 : ((-2147483648) ≤ v_459.toInt ∧ v_459.toInt ≤ 2147483647) := ⟨i32_lo _, i32_hi _⟩
                      have bv_460 : ((-2147483648) ≤ v_460.toInt ∧ v_460.toInt ≤ 2147483647) := ⟨i32_lo _, i32_hi _⟩
                      have bv_461 : ((-2147483648) ≤ v_461.toInt ∧ v_461.toInt ≤ 2147483647) := ⟨i32_lo _, i32_hi _⟩
                      have bv_462 : ((-2147483648) ≤ v_462.toInt ∧ v_462.toInt ≤ 2147483647) := ⟨i32_lo _, i32_hi _⟩
                      have bv_466 : ((-2147483648) ≤ v_466.toInt ∧ v_466.toInt ≤ 2147483647) := ⟨i32_lo _, i32_hi _⟩
                      have bv_476 : ((-2147483648) ≤ v_476.toInt ∧ v_476.toInt ≤ 2147483647) := ⟨i32_lo _, i32_hi _⟩
                      have bv_478 : ((-2147483648) ≤ v_478.toInt ∧ v_478.toInt ≤ 2147483647) := ⟨i32_lo _, i32_hi _⟩
                      have bv_485 : ((-2147483648) ≤ v_485.toInt ∧ v_485.toInt ≤ 2147483647) := ⟨i32_lo _, i32_hi _⟩
                      have bv_491 : ((-2147483648) ≤ v_491.toInt ∧ v_491.toInt ≤ 2147483647) := ⟨i32_lo _, i32_hi _⟩
                      have bv_506 : ((-2147483648) ≤ v_506.toInt ∧ v_506.toInt ≤ 2147483647) := ⟨i32_lo _, i32_hi _⟩
                      obtain ⟨rfl, rfl, rfl, rfl, rfl, rfl, rfl, rfl, rfl, rfl, rfl, rfl, rfl, rfl, rfl, rfl, rfl, rfl, rfl, rfl, rfl, rfl, rfl, rfl, rfl, rfl, rfl, rfl, rfl, rfl, rfl⟩ := re_12 hfo_1 hfo_451 (hrA12 o0 ko0)
                      obtain rfl := ri_12_3 hfo_1 hfo_451 (hfA12 o0 ko0 3 (by decide) (by decide) (by decide) (by decide) (by decide) (by decide) (by decide))
                      obtain rfl := ri_12_5 hfo_1 hfo_451 (hfA12 o0 ko0 5 (by decide) (by decide) (by decide) (by decide) (by decide) (by decide) (by decide))
                      obtain rfl := ri_12_23 hfo_1 hfo_451 (hfA12 o0 ko0 23 (by decide) (by decide) (by decide) (by decide) (by decide) (by decide) (by decide))
                      obtain rfl := ri_12_25 hfo_1 hfo_451 (hfA12 o0 ko0 25 (by decide) (by decide) (by decide) (by decide) (by decide) (by decide) (by decide))
                      obtain rfl := ri_12_27 hfo_1 hfo_451 (hfA12 o0 ko0 27 (by decide) (by decide) (by decide) (by decide) (by decide) (by decide) (by decide))
                      obtain rfl := ri_12_29 hfo_1 hfo_451 (hfA12 o0 ko0 29 (by decide) (by decide) (by decide) (by decide) (by decide) (by decide) (by decide))
                      obtain rfl := ri_12_32 hfo_1 hfo_451 (hfA12 o0 ko0 32 (by decide) (by decide) (by decide) (by decide) (by decide) (by decide) (by decide))
                      obtain rfl := ri_12_33 hfo_1 hfo_451 (hfA12 o0 ko0 33 (by decide) (by decide) (by decide) (by decide) (by decide) (by decide) (by decide))
                      obtain rfl := ri_12_35 hfo_1 hfo_451 (hfA12 o0 ko0 35 (by decide) (by decide) (by decide) (by decide) (by decide) (by decide) (by decide))
                      obtain rfl := ri_12_38 hfo_1 hfo_451 (hfA12 o0 ko0 38 (by decide) (by decide) (by decide) (by decide) (by decide) (by decide) (by decide))
                      obtain rfl := ri_12_43 hfo_1 hfo_451 (hfA12 o0 ko0 43 (by decide) (by decide) (by decide) (by decide) (by decide) (by decide) (by decide))
                      obtain rfl := ri_12_53 hfo_1 hfo_451 (hfA12 o0 ko0 53 (by decide) (by decide) (by decide) (by decide) (by decide) (by decide) (by decide))
                      obtain rfl := ri_12_11 hfo_383 hfo_451 (hfa_448 o0 ko0 11 (by decide))
                      obtain rfl := ri_12_12 hfo_383 hfo_451 (hfa_448 o0 ko0 12 (by decide))
                      obtain rfl := ri_12_13 hfo_383 hfo_451 (hfa_448 o0 ko0 13 (by decide))
                      obtain rfl := ri_12_14 hfo_383 hfo_451 (hfa_448 o0 ko0 14 (by decide))
                      have hqhpost_449 := hpost_449 v_390 v_458 (by rw [hfo_383]; rfl) (by rw [hfo_451]; rfl)
                      have hMm_508 : ∀ z9, fldI (f_445 o0) 6 = some z9 → v_8.toInt ≤ z9.toInt := fun z9 h9 => by rw [hfo_451] at h9; obtain rfl := Option.some.inj h9; have h8 := hMm_440 v_390 (by rw [hfo_383]; rfl); omega
                      refine lv_bipush (v := 124) hx hb dX12_ruled_118 (by decide) ?_
                      have hcut_510 : ∀ (y_509 : Int32), (0 ≤ y_509.toInt ∧ y_509.toInt ≤ 1) → ∀ (ls : Array Slot), lv_has ls 6 [(3, .int x_443), (4, .int y_212), (2, .int x_130), (1, .int x_60), (0, .ref o0)] → W p l e (headSpec (wU yX12_ruled cX12_ruled 6 (some .boolean)) { frames := 7, cells := 0, slots := 0, locals := 150 }).room s m [.ref o0].toArray below meth c H locs 0 0 (MQ below (va_Qi (fun (r : Int32) (f9 : Nat → va_E) => GI (okc cI cL cZ cR cG cH L kd) kd L f9 ∧ (0 ≤ r.toInt ∧ r.toInt ≤ 1) ∧ (∀ b, kd b ≠ 12 → kd b ≠ 576 → f9 b = f b) ∧ (∀ b, kd b = 12 → ∀ j, fldR (f9 b) j = fldR (f b) j) ∧ (∀ b, kd b = 12 → ∀ j, j ≠ 6 → j ≠ 7 → j ≠ 8 → j ≠ 11 → j ≠ 12 → j ≠ 13 → j ≠ 14 → fldI (f9 b) j = fldI (f b) j) ∧ (∀ (w6 z6 : Int32), fldI (f o0) 6 = some w6 → fldI (f9 o0) 6 = some z6 → w6.toInt ≤ z6.toInt) ∧ (∀ d9, fldR (f9 o0) 1 = some d9 → frel kd 576 8 f9 d9)) (qP (dC, dI) cI cL cZ cR cG cH L) (fun q => q ∈ L)) [.ref o0].toArray s 0 0 (fun q => q ∈ L)) (F0 m 128 ls [.int y_509]) := by
                        intro y_509 by_509 ls hl
                        refine lv_istore (lv' := [(4, .int y_509), (3, .int x_443), (2, .int x_130), (1, .int x_60), (0, .ref o0)]) hx hb dX12_ruled_128 hl (by decide) rfl (fun ls hl => ?_)
                        refine lv_iload hx hb dX12_ruled_130 (lv_at hl 0 rfl) ?_
                        refine lv_if_eq (tgt := 150) hx hb dX12_ruled_132 (by decide) (fun c_511 => ?_) (fun c_511 => ?_)
                        · skip
                          rw [← Int32.toInt_inj, ti_0] at c_511
                          refine lv_iload hx hb dX12_ruled_150 (lv_at hl 0 rfl) ?_
                          refine lv_if_eq (tgt := 92) hx hb dX12_ruled_152 (by decide) (fun c_512 => ?_) (fun c_512 => ?_)
                          · skip
                            rw [← Int32.toInt_inj, ti_0] at c_512
                            exact ih_hloop_211 y_509 (by constructor <;> omega) x_443 (by constructor <;> omega) f_445 hG _ _ hP hS hD hfr0 hrA12 hfA12 hT_441 hMm_508 (by omega) (by omega) ls (lv_sub hl [0, 1, 2, 3, 4] rfl)
                          · skip
                            rw [← Int32.toInt_inj, ti_0] at c_512
                            exfalso
                            omega
                        · skip
                          rw [← Int32.toInt_inj, ti_0] at c_511
                          refine lv_iload_n hx hb dX12_ruled_135 rfl (lv_at hl 1 rfl) ?_
                          refine lv_iconst (v := 3) hx hb dX12_ruled_136 (by decide) ?_
                          refine lv_icmp_ne (tgt := 150) hx hb dX12_ruled_137 (by decide) (fun c_513 => ?_) (fun c_513 => ?_)
                          · skip
                            rw [← Int32.toInt_inj, ti_3] at c_513
                            refine lv_iload hx hb dX12_ruled_150 (lv_at hl 0 rfl) ?_
                            refine lv_if_eq (tgt := 92) hx hb dX12_ruled_152 (by decide) (fun c_514 => ?_) (fun c_514 => ?_)
                            · skip
                              rw [← Int32.toInt_inj, ti_0] at c_514
                              exfalso
                              omega
                            · skip
                              rw [← Int32.toInt_inj, ti_0] at c_514
                              have hclc_515 : (0 ≤ v_458.toInt ∧ v_458.toInt ≤ 599) := by constructor <;> omega
                              refine lv_aload_n hx hb dX12_ruled_155 rfl (lv_at hl 4 rfl) ?_
                              refine lv_dup hx hb dX12_ruled_156 rfl ?_
                              refine tk_getP (D := (dC, dI)) (ci := 12) (v := .int v_458) (C := RX12) (T := TX12) (N := 56) hx hb hU inlX12 hown hK hP mo0 hfo_451 rfl 6 (by decide) (hU _ wd_566) (fun _ h9 => h9) rfl dX12_ruled_157 ?_
                              refine lv_iconst (v := 1) hx hb dX12_ruled_160 (by decide) ?_
                              refine lv_iadd hx hb dX12_ruled_161 ?_
                              refine lv_topi (fun x_516 ex_516 => ?_)
                              have hx_516 : x_516.toInt = v_458.toInt + 1 := by rw [ex_516, ad_I (by rw [ti_1]; omega) (by rw [ti_1]; omega), ti_1]
                              have bx_516 : (1 ≤ x_516.toInt ∧ x_516.toInt ≤ 600) := by constructor <;> omega
                              refine tk_putP (D := (dC, dI)) (ci := 12) (v := .int x_516) (ty := .int) (C := RX12) (T := TX12) (N := 56) hx hb hU inlX12 tyX12 tyX12_ok nmX12 hown hK hP hD hS mo0 hfo_451 rfl 6 (by decide) (hU _ wd_566) (fun _ h9 => h9) rfl (by decide +kernel) rfl rfl (Nat.le_of_ble_eq_true rfl) dX12_ruled_162 (fun H locs hP hD hS => ?_)
                              obtain ⟨f_518, ef_518⟩ : ∃ y : Nat → va_E, y = va_up f_445 o0 (.inr (12, [.ref a_2, .ref a_3, .ref a_4, .int v_5, .ref a_6, .int v_7, .int x_516, .int v_459, .int v_460, .int v_461, .int v_462, .int v_330, .int v_331, .int v_332, .int v_398, .ref a_17, .ref a_18, .ref a_19, .ref a_20, .ref a_21, .ref a_22, .ref a_23, .ref a_24, .int v_25, .int v_476, .int v_27, .int v_478, .int v_29, .ref a_30, .int v_31, .ref a_32, .ref a_33, .int v_34, .int v_35, .ref a_36, .int v_37, .ref a_38, .ref a_39, .int v_40, .int v_491, .ref a_42, .ref a_43, .ref a_44, .int v_45, .ref a_46, .ref a_47, .ref a_48, .ref a_49, .ref a_50, .ref a_51, .ref a_52, .ref a_53, .ref a_54, .int v_55, .int v_506, .ref a_57])) := ⟨_, rfl⟩
                              have hP : va_P (dC, dI) vwCl (va_pl L f_518) H := by rw [ef_518]; exact hP
                              have hD : va_D (fun q => q ∈ L) (va_pl L f_518) := by rw [ef_518]; exact hD
                              have hG : GI (okc cI cL cZ cR cG cH L kd) kd L f_518 := by rw [ef_518]; exact hG.set o0 (mk_12 ko0 ⟨a_2, a_3, a_4, v_5, a_6, v_7, x_516, v_459, v_460, v_461, v_462, v_330, v_331, v_332, v_398, a_17, a_18, a_19, a_20, a_21, a_22, a_23, a_24, v_25, v_476, v_27, v_478, v_29, a_30, v_31, a_32, a_33, v_34, v_35, a_36, v_37, a_38, a_39, v_40, v_491, a_42, a_43, a_44, v_45, a_46, a_47, a_48, a_49, a_50, a_51, a_52, a_53, a_54, v_55, v_506, a_57, rfl, ⟨ma_2, ka_2⟩, ⟨ma_3, ka_3⟩, ⟨ma_4, ka_4⟩, (by constructor <;> omega), ⟨ma_6, ka_6⟩, (by constructor <;> omega), (by constructor <;> omega), (by constructor <;> omega), (by constructor <;> omega), (by constructor <;> omega), ⟨ma_17, ka_17⟩, ⟨ma_18, ka_18⟩, ⟨ma_19, ka_19⟩, ⟨ma_20, ka_20⟩, ⟨ma_21, ka_21⟩, ⟨ma_22, ka_22⟩, ⟨ma_23, ka_23⟩, ⟨ma_24, ka_24⟩, (by constructor <;> omega), (by constructor <;> omega), (by constructor <;> omega), ⟨ma_30, ka_30⟩, (by constructor <;> omega), ⟨ma_32, ka_32⟩, ⟨ma_33, ka_33⟩, (by constructor <;> omega), ⟨ma_36, ka_36⟩, (by constructor <;> omega), ⟨ma_38, ka_38⟩, ⟨ma_39, ka_39⟩, (by constructor <;> omega), ⟨ma_42, ka_42⟩, ⟨ma_43, ka_43⟩, ⟨ma_44, ka_44⟩, (by constructor <;> omega), ⟨ma_46, ka_46⟩, ⟨ma_47, ka_47⟩, ⟨ma_48, ka_48⟩, ⟨ma_49, ka_49⟩, ⟨ma_50, ka_50⟩, ⟨ma_51, ka_51⟩, ⟨ma_52, ka_52⟩, ⟨ma_53, ka_53⟩, ⟨ma_54, ka_54⟩, (by constructor <;> omega), ⟨ma_57, ka_57⟩⟩)
                              have hfr0 : ∀ b, kd b ≠ 12 → kd b ≠ 576 → f_518 b = f b := fun b q12 q576 => (congrFun ef_518 b).trans ((up_ne (fun e9 => q12 (by rw [e9]; exact ko0))).trans (hfr0 b q12 q576))
                              have hrA12 : ∀ b, kd b = 12 → ∀ j, fldR (f_518 b) j = fldR (f b) j := fun b kb j => ((congrArg (fun x => fldR x j) (congrFun ef_518 b)).trans (fra_up (fun j => by rw [hfo_451]; exact fr_set (k := 6) rfl rfl j) j b)).trans (hrA12 b kb j)
                              have hfA12 : ∀ b, kd b = 12 → ∀ j, j ≠ 6 → j ≠ 7 → j ≠ 8 → j ≠ 11 → j ≠ 12 → j ≠ 13 → j ≠ 14 → fldI (f_518 b) j = fldI (f b) j := fun b kb j n6 n7 n8 n11 n12 n13 n14 => ((congrArg (fun x => fldI x j) (congrFun ef_518 b)).trans (fia_up (fun h9 => by rw [hfo_451]; exact fi_set (k := 6) rfl h9) n6 b)).trans (hfA12 b kb j n6 n7 n8 n11 n12 n13 n14)
                              have hT_441 : frel kd 576 7 f_518 a_3 := by rw [ef_518]; exact hT_441.keep (fun b q => up_ne (kd_ne ko0 q (by decide)))
                              have hMm_508 : ∀ z9, fldI (f_518 o0) 6 = some z9 → v_8.toInt ≤ z9.toInt := by rw [ef_518]; exact (fun z9 h9 => by rw [up_self] at h9; obtain rfl := Option.some.inj h9; have h8 := hMm_508 v_458 (by rw [hfo_451]; rfl); omega)
                              have hfo_519 : f_518 o0 = .inr (12, [.ref a_2, .ref a_3, .ref a_4, .int v_5, .ref a_6, .int v_7, .int x_516, .int v_459, .int v_460, .int v_461, .int v_462, .int v_330, .int v_331, .int v_332, .int v_398, .ref a_17, .ref a_18, .ref a_19, .ref a_20, .ref a_21, .ref a_22, .ref a_23, .ref a_24, .int v_25, .int v_476, .int v_27, .int v_478, .int v_29, .ref a_30, .int v_31, .ref a_32, .ref a_33, .int v_34, .int v_35, .ref a_36, .int v_37, .ref a_38, .ref a_39, .int v_40, .int v_491, .ref a_42, .ref a_43, .ref a_44, .int v_45, .ref a_46, .ref a_47, .ref a_48, .ref a_49, .ref a_50, .ref a_51, .ref a_52, .ref a_53, .ref a_54, .int v_55, .int v_506, .ref a_57]) := by rw [ef_518]; exact up_self
                              refine lv_goto (tgt := 92) hx hb dX12_ruled_165 (by decide) ?_
                              exact ih_hloop_211 y_509 (by constructor <;> omega) x_443 (by constructor <;> omega) f_518 hG _ _ hP hS hD hfr0 hrA12 hfA12 hT_441 hMm_508 (by omega) (by omega) ls (lv_sub hl [0, 1, 2, 3, 4] rfl)
                          · skip
                            rw [← Int32.toInt_inj, ti_3] at c_513
                            refine lv_aload_n hx hb dX12_ruled_140 rfl (lv_at hl 4 rfl) ?_
                            refine lv_iconst (v := 3) hx hb dX12_ruled_141 (by decide) ?_
                            refine lv_aload_n hx hb dX12_ruled_142 rfl (lv_at hl 4 rfl) ?_
                            refine tk_getP (D := (dC, dI)) (ci := 12) (v := .int v_458) (C := RX12) (T := TX12) (N := 56) hx hb hU inlX12 hown hK hP mo0 hfo_451 rfl 6 (by decide) (hU _ wd_566) (fun _ h9 => h9) rfl dX12_ruled_143 ?_
                            refine tk_ViP (As := [.int 3, .int v_458]) (rest := []) (n := 2) hx hb hml hown hU hN hZ (s_X12_bad_k12 l (dC, dI) cI cL cZ cR cG cH Z kd L f_445 hG o0 mo0 ko0 3 v_458) wd_602 wd_603 wd_604 wd_5 wd_605 (by decide +kernel) ⟨Nat.le_of_ble_eq_true rfl, Nat.le_of_ble_eq_true rfl⟩ hK hP hD hS mo0 hfo_451 12 rfl rfl rfl hl.1 rfl (Nat.le_of_ble_eq_true rfl) dX12_ruled_146 ⟨Nat.le_of_ble_eq_true rfl, Nat.le_of_ble_eq_true rfl⟩ (fun x_520 f_521 H locs hw hP hD hS => ?_)
                            obtain ⟨hG, bx_520, hkc_522, hra_523, hfa_524⟩ := hw
                            have hfr0 : ∀ b, kd b ≠ 12 → kd b ≠ 576 → f_521 b = f b := fun b q12 q576 => (hkc_522 b q12).trans (hfr0 b q12 q576)
                            have hrA12 : ∀ b, kd b = 12 → ∀ j, fldR (f_521 b) j = fldR (f b) j := fun b kb j => (hra_523 b kb j).trans (hrA12 b kb j)
                            have hfA12 : ∀ b, kd b = 12 → ∀ j, j ≠ 6 → j ≠ 7 → j ≠ 8 → j ≠ 11 → j ≠ 12 → j ≠ 13 → j ≠ 14 → fldI (f_521 b) j = fldI (f b) j := fun b kb j n6 n7 n8 n11 n12 n13 n14 => (hfa_524 b kb j n7 n8).trans (hfA12 b kb j n6 n7 n8 n11 n12 n13 n14)
                            have hT_441 : frel kd 576 7 f_521 a_3 := hT_441.keep (fun b q => hkc_522 b (by rw [q]; decide))
                            have hMm_508 : ∀ z9, fldI (f_521 o0) 6 = some z9 → v_8.toInt ≤ z9.toInt := (fun z9 h9 => hMm_508 z9 (by rw [hfa_524 o0 ko0 6 (by decide) (by decide)] at h9; exact h9))
                            obtain ⟨a_527, a_528, a_529, v_530, a_531, v_532, v_533, v_534, v_535, v_536, v_537, v_538, v_539, v_540, v_541, a_542, a_543, a_544, a_545, a_546, a_547, a_548, a_549, v_550, v_551, v_552, v_553, v_554, a_555, v_556, a_557, a_558, v_559, v_560, a_561, v_562, a_563, a_564, v_565, v_566, a_567, a_568, a_569, v_570, a_571, a_572, a_573, a_574, a_575, a_576, a_577, a_578, a_579, v_580, v_581, a_582, hfo_526, ⟨ma_527, ka_527⟩, ⟨ma_528, ka_528⟩, ⟨ma_529, ka_529⟩, bv_530, ⟨ma_531, ka_531⟩, bv_532, bv_533, bv_538, bv_539, bv_540, ⟨ma_542, ka_542⟩, ⟨ma_543, ka_543⟩, ⟨ma_544, ka_544⟩, ⟨ma_545, ka_545⟩, ⟨ma_546, ka_546⟩, ⟨ma_547, ka_547⟩, ⟨ma_548, ka_548⟩, ⟨ma_549, ka_549⟩, bv_550, bv_552, bv_554, ⟨ma_555, ka_555⟩, bv_556, ⟨ma_557, ka_557⟩, ⟨ma_558, ka_558⟩, bv_559, ⟨ma_561, ka_561⟩, bv_562, ⟨ma_563, ka_563⟩, ⟨ma_564, ka_564⟩, bv_565, ⟨ma_567, ka_567⟩, ⟨ma_568, ka_568⟩, ⟨ma_569, ka_569⟩, bv_570, ⟨ma_571, ka_571⟩, ⟨ma_572, ka_572⟩, ⟨ma_573, ka_573⟩, ⟨ma_574, ka_574⟩, ⟨ma_575, ka_575⟩, ⟨ma_576, ka_576⟩, ⟨ma_577, ka_577⟩, ⟨ma_578, ka_578⟩, ⟨ma_579, ka_579⟩, bv_580, ⟨ma_582, ka_582⟩⟩ := un_12 (hG _ mo0) ko0
                            have bv_534 : ((-2147483648) ≤ v_534.toInt ∧ v_534.toInt ≤ 2147483647) := ⟨i32_lo _, i32_hi _⟩
                            have bv_535 : ((-2147483648) ≤ v_535.toInt ∧ v_535.toInt ≤ 2147483647) := ⟨i32_lo _, i32_hi _⟩
                            have bv_536 : ((-2147483648) ≤ v_536.toInt ∧ v_536.toInt ≤ 2147483647) := ⟨i32_lo _, i32_hi _⟩
                            have bv_537 : ((-2147483648) ≤ v_537.toInt ∧ v_537.toInt ≤ 2147483647) := ⟨i32_lo _, i32_hi _⟩
                            have bv_541 : ((-2147483648) ≤ v_541.toInt ∧ v_541.toInt ≤ 2147483647) := ⟨i32_lo _, i32_hi _⟩
                            have bv_551 : ((-2147483648) ≤ v_551.toInt ∧ v_551.toInt ≤ 2147483647) := ⟨i32_lo _, i32_hi _⟩
                            have bv_553 : ((-2147483648) ≤ v_553.toInt ∧ v_553.toInt ≤ 2147483647) := ⟨i32_lo _, i32_hi _⟩
                            have bv_560 : ((-2147483648) ≤ v_560.toInt ∧ v_560.toInt ≤ 2147483647) := ⟨i32_lo _, i32_hi _⟩
                            have bv_566 : ((-2147483648) ≤ v_566.toInt ∧ v_566.toInt ≤ 2147483647) := ⟨i32_lo _, i32_hi _⟩
                            have bv_581 : ((-2147483648) ≤ v_581.toInt ∧ v_581.toInt ≤ 2147483647) := ⟨i32_lo _, i32_hi _⟩
                            obtain ⟨rfl, rfl, rfl, rfl, rfl, rfl, rfl, rfl, rfl, rfl, rfl, rfl, rfl, rfl, rfl, rfl, rfl, rfl, rfl, rfl, rfl, rfl, rfl, rfl, rfl, rfl, rfl, rfl, rfl, rfl, rfl⟩ := re_12 hfo_1 hfo_526 (hrA12 o0 ko0)
                            obtain rfl := ri_12_3 hfo_1 hfo_526 (hfA12 o0 ko0 3 (by decide) (by decide) (by decide) (by decide) (by decide) (by decide) (by decide))
                            obtain rfl := ri_12_5 hfo_1 hfo_526 (hfA12 o0 ko0 5 (by decide) (by decide) (by decide) (by decide) (by decide) (by decide) (by decide))
                            obtain rfl := ri_12_23 hfo_1 hfo_526 (hfA12 o0 ko0 23 (by decide) (by decide) (by decide) (by decide) (by decide) (by decide) (by decide))
                            obtain rfl := ri_12_25 hfo_1 hfo_526 (hfA12 o0 ko0 25 (by decide) (by decide) (by decide) (by decide) (by decide) (by decide) (by decide))
                            obtain rfl := ri_12_27 hfo_1 hfo_526 (hfA12 o0 ko0 27 (by decide) (by decide) (by decide) (by decide) (by decide) (by decide) (by decide))
                            obtain rfl := ri_12_29 hfo_1 hfo_526 (hfA12 o0 ko0 29 (by decide) (by decide) (by decide) (by decide) (by decide) (by decide) (by decide))
                            obtain rfl := ri_12_32 hfo_1 hfo_526 (hfA12 o0 ko0 32 (by decide) (by decide) (by decide) (by decide) (by decide) (by decide) (by decide))
                            obtain rfl := ri_12_33 hfo_1 hfo_526 (hfA12 o0 ko0 33 (by decide) (by decide) (by decide) (by decide) (by decide) (by decide) (by decide))
                            obtain rfl := ri_12_35 hfo_1 hfo_526 (hfA12 o0 ko0 35 (by decide) (by decide) (by decide) (by decide) (by decide) (by decide) (by decide))
                            obtain rfl := ri_12_38 hfo_1 hfo_526 (hfA12 o0 ko0 38 (by decide) (by decide) (by decide) (by decide) (by decide) (by decide) (by decide))
                            obtain rfl := ri_12_43 hfo_1 hfo_526 (hfA12 o0 ko0 43 (by decide) (by decide) (by decide) (by decide) (by decide) (by decide) (by decide))
                            obtain rfl := ri_12_53 hfo_1 hfo_526 (hfA12 o0 ko0 53 (by decide) (by decide) (by decide) (by decide) (by decide) (by decide) (by decide))
                            obtain rfl := ri_12_6 hfo_451 hfo_526 (hfa_524 o0 ko0 6 (by decide) (by decide))
                            obtain rfl := ri_12_11 hfo_451 hfo_526 (hfa_524 o0 ko0 11 (by decide) (by decide))
                            obtain rfl := ri_12_12 hfo_451 hfo_526 (hfa_524 o0 ko0 12 (by decide) (by decide))
                            obtain rfl := ri_12_13 hfo_451 hfo_526 (hfa_524 o0 ko0 13 (by decide) (by decide))
                            obtain rfl := ri_12_14 hfo_451 hfo_526 (hfa_524 o0 ko0 14 (by decide) (by decide))
                            have hM9 := hMm_508 v_458 (by rw [hfo_526]; rfl)
                            exact W.zret (v := x_520) (ty := .boolean) hx hb hr (zb_n (by constructor <;> omega)) (fun t ht hW => ⟨⟨x_520, f_521, rfl, ⟨hG, (by constructor <;> omega), hfr0, hrA12, hfA12, (by intro w6 z6 e6 d6; rw [hfo_1] at e6; rw [hfo_526] at d6; obtain rfl := Option.some.inj e6; obtain rfl := Option.some.inj d6; omega), (fun d9 h9 => by rw [hfo_526] at h9; obtain rfl := Option.some.inj h9; exact hT_441.weak)⟩, by rw [ht]; exact hP, va_K.moved hW.alike hK, pl_in hD⟩, hS.F ht⟩) hS.2.2 dX12_ruled_149
                      refine lv_icmp_ne (tgt := 127) hx hb dX12_ruled_120 (by decide) (fun c_583 => ?_) (fun c_583 => ?_)
                      · skip
                        rw [← Int32.toInt_inj, ti_124] at c_583
                        refine lv_iconst (v := 0) hx hb dX12_ruled_127 (by decide) ?_
                        exact hcut_510 0 (by decide) ls (lv_sub hl [0, 1, 2, 3, 4] rfl)
                      · skip
                        rw [← Int32.toInt_inj, ti_124] at c_583
                        refine lv_iconst (v := 1) hx hb dX12_ruled_123 (by decide) ?_
                        refine lv_goto (tgt := 128) hx hb dX12_ruled_124 (by decide) ?_
                        exact hcut_510 1 (by decide) ls (lv_sub hl [0, 1, 2, 3, 4] rfl)
                    · skip
                      rw [← Int32.toInt_inj, ti_0] at c_442
                      refine lv_iconst (v := 0) hx hb dX12_ruled_109 (by decide) ?_
                      have hM9 := hMm_440 v_390 (by rw [hfo_383]; rfl)
                      exact W.zret (v := 0) (ty := .boolean) hx hb hr rfl (fun t ht hW => ⟨⟨0, f_376, rfl, ⟨hG, (by decide), hfr0, hrA12, hfA12, (by intro w6 z6 e6 d6; rw [hfo_1] at e6; rw [hfo_383] at d6; obtain rfl := Option.some.inj e6; obtain rfl := Option.some.inj d6; (try rw [ti_0]) <;> omega), (fun d9 h9 => by rw [hfo_383] at h9; obtain rfl := Option.some.inj h9; exact hT_441.weak)⟩, by rw [ht]; exact hP, va_K.moved hW.alike hK, pl_in hD⟩, hS.F ht⟩) hS.2.2 dX12_ruled_110
              exact hloop_211 5 1 (by decide) 0 (by decide) f_203 hG _ _ hP hS hD hfr0 hrA12 hfA12 hT_128 hMm_194 (by (try rw [ti_1]) <;> (try rw [ti_0]) <;> omega) (by (try rw [ti_1]) <;> (try rw [ti_0]) <;> omega) ls hl
        · skip
          rw [← Int32.toInt_inj, ti_0] at c_197
          refine lv_aload_n hx hb dX12_ruled_54 rfl (lv_at hl 2 rfl) ?_
          refine lv_iconst (v := 2) hx hb dX12_ruled_55 (by decide) ?_
          refine lv_aload_n hx hb dX12_ruled_56 rfl (lv_at hl 2 rfl) ?_
          refine tk_getP (D := (dC, dI)) (ci := 12) (v := .int v_144) (C := RX12) (T := TX12) (N := 56) hx hb hU inlX12 hown hK hP mo0 hfo_137 rfl 6 (by decide) (hU _ wd_566) (fun _ h9 => h9) rfl dX12_ruled_57 ?_
          refine tk_ViP (As := [.int 2, .int v_144]) (rest := []) (n := 2) hx hb hml hown hU hN hZ (s_X12_bad_k12 l (dC, dI) cI cL cZ cR cG cH Z kd L f_131 hG o0 mo0 ko0 2 v_144) wd_602 wd_603 wd_604 wd_5 wd_605 (by decide +kernel) ⟨Nat.le_of_ble_eq_true rfl, Nat.le_of_ble_eq_true rfl⟩ hK hP hD hS mo0 hfo_137 12 rfl rfl rfl hl.1 rfl (Nat.le_of_ble_eq_true rfl) dX12_ruled_60 ⟨Nat.le_of_ble_eq_true rfl, Nat.le_of_ble_eq_true rfl⟩ (fun x_584 f_585 H locs hw hP hD hS => ?_)
          obtain ⟨hG, bx_584, hkc_586, hra_587, hfa_588⟩ := hw
          have hfr0 : ∀ b, kd b ≠ 12 → kd b ≠ 576 → f_585 b = f b := fun b q12 q576 => (hkc_586 b q12).trans (hfr0 b q12 q576)
          have hrA12 : ∀ b, kd b = 12 → ∀ j, fldR (f_585 b) j = fldR (f b) j := fun b kb j => (hra_587 b kb j).trans (hrA12 b kb j)
          have hfA12 : ∀ b, kd b = 12 → ∀ j, j ≠ 6 → j ≠ 7 → j ≠ 8 → j ≠ 11 → j ≠ 12 → j ≠ 13 → j ≠ 14 → fldI (f_585 b) j = fldI (f b) j := fun b kb j n6 n7 n8 n11 n12 n13 n14 => (hfa_588 b kb j n7 n8).trans (hfA12 b kb j n6 n7 n8 n11 n12 n13 n14)
          have hT_128 : frel kd 576 7 f_585 a_3 := hT_128.keep (fun b q => hkc_586 b (by rw [q]; decide))
          have hMm_194 : ∀ z9, fldI (f_585 o0) 6 = some z9 → v_8.toInt ≤ z9.toInt := (fun z9 h9 => hMm_194 z9 (by rw [hfa_588 o0 ko0 6 (by decide) (by decide)] at h9; exact h9))
          obtain ⟨a_591, a_592, a_593, v_594, a_595, v_596, v_597, v_598, v_599, v_600, v_601, v_602, v_603, v_604, v_605, a_606, a_607, a_608, a_609, a_610, a_611, a_612, a_613, v_614, v_615, v_616, v_617, v_618, a_619, v_620, a_621, a_622, v_623, v_624, a_625, v_626, a_627, a_628, v_629, v_630, a_631, a_632, a_633, v_634, a_635, a_636, a_637, a_638, a_639, a_640, a_641, a_642, a_643, v_644, v_645, a_646, hfo_590, ⟨ma_591, ka_591⟩, ⟨ma_592, ka_592⟩, ⟨ma_593, ka_593⟩, bv_594, ⟨ma_595, ka_595⟩, bv_596, bv_597, bv_602, bv_603, bv_604, ⟨ma_606, ka_606⟩, ⟨ma_607, ka_607⟩, ⟨ma_608, ka_608⟩, ⟨ma_609, ka_609⟩, ⟨ma_610, ka_610⟩, ⟨ma_611, ka_611⟩, ⟨ma_612, ka_612⟩, ⟨ma_613, ka_613⟩, bv_614, bv_616, bv_618, ⟨ma_619, ka_619⟩, bv_620, ⟨ma_621, ka_621⟩, ⟨ma_622, ka_622⟩, bv_623, ⟨ma_625, ka_625⟩, bv_626, ⟨ma_627, ka_627⟩, ⟨ma_628, ka_628⟩, bv_629, ⟨ma_631, ka_631⟩, ⟨ma_632, ka_632⟩, ⟨ma_633, ka_633⟩, bv_634, ⟨ma_635, ka_635⟩, ⟨ma_636, ka_636⟩, ⟨ma_637, ka_637⟩, ⟨ma_638, ka_638⟩, ⟨ma_639, ka_639⟩, ⟨ma_640, ka_640⟩, ⟨ma_641, ka_641⟩, ⟨ma_642, ka_642⟩, ⟨ma_643, ka_643⟩, bv_644, ⟨ma_646, ka_646⟩⟩ := un_12 (hG _ mo0) ko0
          have bv_598 : ((-2147483648) ≤ v_598.toInt ∧ v_598.toInt ≤ 2147483647) := ⟨i32_lo _, i32_hi _⟩
          have bv_599 : ((-2147483648) ≤ v_599.toInt ∧ v_599.toInt ≤ 2147483647) := ⟨i32_lo _, i32_hi _⟩
          have bv_600 : ((-2147483648) ≤ v_600.toInt ∧ v_600.toInt ≤ 2147483647) := ⟨i32_lo _, i32_hi _⟩
          have bv_601 : ((-2147483648) ≤ v_601.toInt ∧ v_601.toInt ≤ 2147483647) := ⟨i32_lo _, i32_hi _⟩
          have bv_605 : ((-2147483648) ≤ v_605.toInt ∧ v_605.toInt ≤ 2147483647) := ⟨i32_lo _, i32_hi _⟩
          have bv_615 : ((-2147483648) ≤ v_615.toInt ∧ v_615.toInt ≤ 2147483647) := ⟨i32_lo _, i32_hi _⟩
          have bv_617 : ((-2147483648) ≤ v_617.toInt ∧ v_617.toInt ≤ 2147483647) := ⟨i32_lo _, i32_hi _⟩
          have bv_624 : ((-2147483648) ≤ v_624.toInt ∧ v_624.toInt ≤ 2147483647) := ⟨i32_lo _, i32_hi _⟩
          have bv_630 : ((-2147483648) ≤ v_630.toInt ∧ v_630.toInt ≤ 2147483647) := ⟨i32_lo _, i32_hi _⟩
          have bv_645 : ((-2147483648) ≤ v_645.toInt ∧ v_645.toInt ≤ 2147483647) := ⟨i32_lo _, i32_hi _⟩
          obtain ⟨rfl, rfl, rfl, rfl, rfl, rfl, rfl, rfl, rfl, rfl, rfl, rfl, rfl, rfl, rfl, rfl, rfl, rfl, rfl, rfl, rfl, rfl, rfl, rfl, rfl, rfl, rfl, rfl, rfl, rfl, rfl⟩ := re_12 hfo_1 hfo_590 (hrA12 o0 ko0)
          obtain rfl := ri_12_3 hfo_1 hfo_590 (hfA12 o0 ko0 3 (by decide) (by decide) (by decide) (by decide) (by decide) (by decide) (by decide))
          obtain rfl := ri_12_5 hfo_1 hfo_590 (hfA12 o0 ko0 5 (by decide) (by decide) (by decide) (by decide) (by decide) (by decide) (by decide))
          obtain rfl := ri_12_23 hfo_1 hfo_590 (hfA12 o0 ko0 23 (by decide) (by decide) (by decide) (by decide) (by decide) (by decide) (by decide))
          obtain rfl := ri_12_25 hfo_1 hfo_590 (hfA12 o0 ko0 25 (by decide) (by decide) (by decide) (by decide) (by decide) (by decide) (by decide))
          obtain rfl := ri_12_27 hfo_1 hfo_590 (hfA12 o0 ko0 27 (by decide) (by decide) (by decide) (by decide) (by decide) (by decide) (by decide))
          obtain rfl := ri_12_29 hfo_1 hfo_590 (hfA12 o0 ko0 29 (by decide) (by decide) (by decide) (by decide) (by decide) (by decide) (by decide))
          obtain rfl := ri_12_32 hfo_1 hfo_590 (hfA12 o0 ko0 32 (by decide) (by decide) (by decide) (by decide) (by decide) (by decide) (by decide))
          obtain rfl := ri_12_33 hfo_1 hfo_590 (hfA12 o0 ko0 33 (by decide) (by decide) (by decide) (by decide) (by decide) (by decide) (by decide))
          obtain rfl := ri_12_35 hfo_1 hfo_590 (hfA12 o0 ko0 35 (by decide) (by decide) (by decide) (by decide) (by decide) (by decide) (by decide))
          obtain rfl := ri_12_38 hfo_1 hfo_590 (hfA12 o0 ko0 38 (by decide) (by decide) (by decide) (by decide) (by decide) (by decide) (by decide))
          obtain rfl := ri_12_43 hfo_1 hfo_590 (hfA12 o0 ko0 43 (by decide) (by decide) (by decide) (by decide) (by decide) (by decide) (by decide))
          obtain rfl := ri_12_53 hfo_1 hfo_590 (hfA12 o0 ko0 53 (by decide) (by decide) (by decide) (by decide) (by decide) (by decide) (by decide))
          obtain rfl := ri_12_6 hfo_137 hfo_590 (hfa_588 o0 ko0 6 (by decide) (by decide))
          obtain rfl := ri_12_11 hfo_137 hfo_590 (hfa_588 o0 ko0 11 (by decide) (by decide))
          obtain rfl := ri_12_12 hfo_137 hfo_590 (hfa_588 o0 ko0 12 (by decide) (by decide))
          obtain rfl := ri_12_13 hfo_137 hfo_590 (hfa_588 o0 ko0 13 (by decide) (by decide))
          obtain rfl := ri_12_14 hfo_137 hfo_590 (hfa_588 o0 ko0 14 (by decide) (by decide))
          have hM9 := hMm_194 v_144 (by rw [hfo_590]; rfl)
          exact W.zret (v := x_584) (ty := .boolean) hx hb hr (zb_n (by constructor <;> omega)) (fun t ht hW => ⟨⟨x_584, f_585, rfl, ⟨hG, (by constructor <;> omega), hfr0, hrA12, hfA12, (by intro w6 z6 e6 d6; rw [hfo_1] at e6; rw [hfo_590] at d6; obtain rfl := Option.some.inj e6; obtain rfl := Option.some.inj d6; omega), (fun d9 h9 => by rw [hfo_590] at h9; obtain rfl := Option.some.inj h9; exact hT_128.weak)⟩, by rw [ht]; exact hP, va_K.moved hW.alike hK, pl_in hD⟩, hS.F ht⟩) hS.2.2 dX12_ruled_63
      · skip
        rw [← Int32.toInt_inj, ti_1] at c_196
        refine lv_iload_n hx hb dX12_ruled_42 rfl (lv_at hl 0 rfl) ?_
        refine lv_iconst (v := 2) hx hb dX12_ruled_43 (by decide) ?_
        refine lv_icmp_ne (tgt := 64) hx hb dX12_ruled_44 (by decide) (fun c_647 => ?_) (fun c_647 => ?_)
        · skip
          rw [← Int32.toInt_inj, ti_2] at c_647
          refine lv_aload_n hx hb dX12_ruled_64 rfl (lv_at hl 2 rfl) ?_
          refine lv_dup hx hb dX12_ruled_65 rfl ?_
          refine tk_getP (D := (dC, dI)) (ci := 12) (v := .int v_144) (C := RX12) (T := TX12) (N := 56) hx hb hU inlX12 hown hK hP mo0 hfo_137 rfl 6 (by decide) (hU _ wd_566) (fun _ h9 => h9) rfl dX12_ruled_66 ?_
          refine lv_iload_n hx hb dX12_ruled_69 rfl (lv_at hl 0 rfl) ?_
          have hcut_649 : ∀ (y_648 : Int32), (2 ≤ y_648.toInt ∧ y_648.toInt ≤ 3) → ((x_130.toInt ≤ 1 ∧ y_648.toInt = 2) ∨ (2 ≤ x_130.toInt ∧ y_648.toInt = 3)) → ∀ (ls : Array Slot), lv_has ls 6 [(2, .int x_130), (1, .int x_60), (0, .ref o0)] → W p l e (headSpec (wU yX12_ruled cX12_ruled 6 (some .boolean)) { frames := 7, cells := 0, slots := 0, locals := 150 }).room s m [.ref o0].toArray below meth c H locs 0 0 (MQ below (va_Qi (fun (r : Int32) (f9 : Nat → va_E) => GI (okc cI cL cZ cR cG cH L kd) kd L f9 ∧ (0 ≤ r.toInt ∧ r.toInt ≤ 1) ∧ (∀ b, kd b ≠ 12 → kd b ≠ 576 → f9 b = f b) ∧ (∀ b, kd b = 12 → ∀ j, fldR (f9 b) j = fldR (f b) j) ∧ (∀ b, kd b = 12 → ∀ j, j ≠ 6 → j ≠ 7 → j ≠ 8 → j ≠ 11 → j ≠ 12 → j ≠ 13 → j ≠ 14 → fldI (f9 b) j = fldI (f b) j) ∧ (∀ (w6 z6 : Int32), fldI (f o0) 6 = some w6 → fldI (f9 o0) 6 = some z6 → w6.toInt ≤ z6.toInt) ∧ (∀ d9, fldR (f9 o0) 1 = some d9 → frel kd 576 8 f9 d9)) (qP (dC, dI) cI cL cZ cR cG cH L) (fun q => q ∈ L)) [.ref o0].toArray s 0 0 (fun q => q ∈ L)) (F0 m 83 ls [.int y_648, .int v_144, .ref o0]) := by
            intro y_648 by_648 hjhcut_649_0 ls hl
            refine lv_iadd hx hb dX12_ruled_83 ?_
            refine lv_topi (fun x_650 ex_650 => ?_)
            have hx_650 : x_650.toInt = v_144.toInt + y_648.toInt := by rw [ex_650, ad_I (by omega) (by omega)]
            have bx_650 : (2 ≤ x_650.toInt ∧ x_650.toInt ≤ 603) := by constructor <;> omega
            have hclc_651 : (0 ≤ x_650.toInt ∧ x_650.toInt ≤ 600) := by constructor <;> omega
            refine tk_putP (D := (dC, dI)) (ci := 12) (v := .int x_650) (ty := .int) (C := RX12) (T := TX12) (N := 56) hx hb hU inlX12 tyX12 tyX12_ok nmX12 hown hK hP hD hS mo0 hfo_137 rfl 6 (by decide) (hU _ wd_566) (fun _ h9 => h9) rfl (by decide +kernel) rfl rfl (Nat.le_of_ble_eq_true rfl) dX12_ruled_84 (fun H locs hP hD hS => ?_)
            obtain ⟨f_653, ef_653⟩ : ∃ y : Nat → va_E, y = va_up f_131 o0 (.inr (12, [.ref a_2, .ref a_3, .ref a_4, .int v_5, .ref a_6, .int v_7, .int x_650, .int v_145, .int v_146, .int v_147, .int v_148, .int v_82, .int v_83, .int v_84, .int v_16, .ref a_17, .ref a_18, .ref a_19, .ref a_20, .ref a_21, .ref a_22, .ref a_23, .ref a_24, .int v_25, .int v_162, .int v_27, .int v_164, .int v_29, .ref a_30, .int v_31, .ref a_32, .ref a_33, .int v_34, .int v_35, .ref a_36, .int v_37, .ref a_38, .ref a_39, .int v_40, .int v_177, .ref a_42, .ref a_43, .ref a_44, .int v_45, .ref a_46, .ref a_47, .ref a_48, .ref a_49, .ref a_50, .ref a_51, .ref a_52, .ref a_53, .ref a_54, .int v_55, .int v_192, .ref a_57])) := ⟨_, rfl⟩
            have hP : va_P (dC, dI) vwCl (va_pl L f_653) H := by rw [ef_653]; exact hP
            have hD : va_D (fun q => q ∈ L) (va_pl L f_653) := by rw [ef_653]; exact hD
            have hG : GI (okc cI cL cZ cR cG cH L kd) kd L f_653 := by rw [ef_653]; exact hG.set o0 (mk_12 ko0 ⟨a_2, a_3, a_4, v_5, a_6, v_7, x_650, v_145, v_146, v_147, v_148, v_82, v_83, v_84, v_16, a_17, a_18, a_19, a_20, a_21, a_22, a_23, a_24, v_25, v_162, v_27, v_164, v_29, a_30, v_31, a_32, a_33, v_34, v_35, a_36, v_37, a_38, a_39, v_40, v_177, a_42, a_43, a_44, v_45, a_46, a_47, a_48, a_49, a_50, a_51, a_52, a_53, a_54, v_55, v_192, a_57, rfl, ⟨ma_2, ka_2⟩, ⟨ma_3, ka_3⟩, ⟨ma_4, ka_4⟩, (by constructor <;> omega), ⟨ma_6, ka_6⟩, (by constructor <;> omega), (by constructor <;> omega), (by constructor <;> omega), (by constructor <;> omega), (by constructor <;> omega), ⟨ma_17, ka_17⟩, ⟨ma_18, ka_18⟩, ⟨ma_19, ka_19⟩, ⟨ma_20, ka_20⟩, ⟨ma_21, ka_21⟩, ⟨ma_22, ka_22⟩, ⟨ma_23, ka_23⟩, ⟨ma_24, ka_24⟩, (by constructor <;> omega), (by constructor <;> omega), (by constructor <;> omega), ⟨ma_30, ka_30⟩, (by constructor <;> omega), ⟨ma_32, ka_32⟩, ⟨ma_33, ka_33⟩, (by constructor <;> omega), ⟨ma_36, ka_36⟩, (by constructor <;> omega), ⟨ma_38, ka_38⟩, ⟨ma_39, ka_39⟩, (by constructor <;> omega), ⟨ma_42, ka_42⟩, ⟨ma_43, ka_43⟩, ⟨ma_44, ka_44⟩, (by constructor <;> omega), ⟨ma_46, ka_46⟩, ⟨ma_47, ka_47⟩, ⟨ma_48, ka_48⟩, ⟨ma_49, ka_49⟩, ⟨ma_50, ka_50⟩, ⟨ma_51, ka_51⟩, ⟨ma_52, ka_52⟩, ⟨ma_53, ka_53⟩, ⟨ma_54, ka_54⟩, (by constructor <;> omega), ⟨ma_57, ka_57⟩⟩)
            have hfr0 : ∀ b, kd b ≠ 12 → kd b ≠ 576 → f_653 b = f b := fun b q12 q576 => (congrFun ef_653 b).trans ((up_ne (fun e9 => q12 (by rw [e9]; exact ko0))).trans (hfr0 b q12 q576))
            have hrA12 : ∀ b, kd b = 12 → ∀ j, fldR (f_653 b) j = fldR (f b) j := fun b kb j => ((congrArg (fun x => fldR x j) (congrFun ef_653 b)).trans (fra_up (fun j => by rw [hfo_137]; exact fr_set (k := 6) rfl rfl j) j b)).trans (hrA12 b kb j)
            have hfA12 : ∀ b, kd b = 12 → ∀ j, j ≠ 6 → j ≠ 7 → j ≠ 8 → j ≠ 11 → j ≠ 12 → j ≠ 13 → j ≠ 14 → fldI (f_653 b) j = fldI (f b) j := fun b kb j n6 n7 n8 n11 n12 n13 n14 => ((congrArg (fun x => fldI x j) (congrFun ef_653 b)).trans (fia_up (fun h9 => by rw [hfo_137]; exact fi_set (k := 6) rfl h9) n6 b)).trans (hfA12 b kb j n6 n7 n8 n11 n12 n13 n14)
            have hT_128 : frel kd 576 7 f_653 a_3 := by rw [ef_653]; exact hT_128.keep (fun b q => up_ne (kd_ne ko0 q (by decide)))
            have hMm_194 : ∀ z9, fldI (f_653 o0) 6 = some z9 → v_8.toInt ≤ z9.toInt := by rw [ef_653]; exact (fun z9 h9 => by rw [up_self] at h9; obtain rfl := Option.some.inj h9; have h8 := hMm_194 v_144 (by rw [hfo_137]; rfl); omega)
            have hfo_654 : f_653 o0 = .inr (12, [.ref a_2, .ref a_3, .ref a_4, .int v_5, .ref a_6, .int v_7, .int x_650, .int v_145, .int v_146, .int v_147, .int v_148, .int v_82, .int v_83, .int v_84, .int v_16, .ref a_17, .ref a_18, .ref a_19, .ref a_20, .ref a_21, .ref a_22, .ref a_23, .ref a_24, .int v_25, .int v_162, .int v_27, .int v_164, .int v_29, .ref a_30, .int v_31, .ref a_32, .ref a_33, .int v_34, .int v_35, .ref a_36, .int v_37, .ref a_38, .ref a_39, .int v_40, .int v_177, .ref a_42, .ref a_43, .ref a_44, .int v_45, .ref a_46, .ref a_47, .ref a_48, .ref a_49, .ref a_50, .ref a_51, .ref a_52, .ref a_53, .ref a_54, .int v_55, .int v_192, .ref a_57]) := by rw [ef_653]; exact up_self
            refine lv_iconst (v := 0) hx hb dX12_ruled_87 (by decide) ?_
            refine lv_istore_n (lv' := [(3, .int 0), (2, .int x_130), (1, .int x_60), (0, .ref o0)]) hx hb dX12_ruled_88 rfl hl (by decide) rfl (fun ls hl => ?_)
            refine lv_iconst (v := 1) hx hb dX12_ruled_89 (by decide) ?_
            refine lv_istore (lv' := [(4, .int 1), (3, .int 0), (2, .int x_130), (1, .int x_60), (0, .ref o0)]) hx hb dX12_ruled_90 hl (by decide) rfl (fun ls hl => ?_)
            have hloop_660 : ∀ (n : Nat), ∀ (y_661 : Int32), (0 ≤ y_661.toInt ∧ y_661.toInt ≤ 1) → ∀ (y_662 : Int32), (0 ≤ y_662.toInt ∧ y_662.toInt ≤ 3) → ∀ (f_664 : Nat → va_E), GI (okc cI cL cZ cR cG cH L kd) kd L f_664 → ∀ (H : Heap) (locs : List Loc), va_P (dC, dI) vwCl (va_pl L f_664) H → va_S (fun q => q ∈ L) s.heap H locs → va_D (fun q => q ∈ L) (va_pl L f_664) → (∀ b, kd b ≠ 12 → kd b ≠ 576 → f_664 b = f b) → (∀ b, kd b = 12 → ∀ j, fldR (f_664 b) j = fldR (f b) j) → (∀ b, kd b = 12 → ∀ j, j ≠ 6 → j ≠ 7 → j ≠ 8 → j ≠ 11 → j ≠ 12 → j ≠ 13 → j ≠ 14 → fldI (f_664 b) j = fldI (f b) j) → frel kd 576 7 f_664 a_3 → ∀ z9, fldI (f_664 o0) 6 = some z9 → v_8.toInt ≤ z9.toInt → (y_661.toInt = 0 ∨ y_662.toInt ≤ 2) → 4 - y_662.toInt < (n : Int) → ∀ (ls : Array Slot), lv_has ls 6 [(4, .int y_661), (3, .int y_662), (2, .int x_130), (1, .int x_60), (0, .ref o0)] → W p l e (headSpec (wU yX12_ruled cX12_ruled 6 (some .boolean)) { frames := 7, cells := 0, slots := 0, locals := 150 }).room s m [.ref o0].toArray below meth c H locs 0 0 (MQ below (va_Qi (fun (r : Int32) (f9 : Nat → va_E) => GI (okc cI cL cZ cR cG cH L kd) kd L f9 ∧ (0 ≤ r.toInt ∧ r.toInt ≤ 1) ∧ (∀ b, kd b ≠ 12 → kd b ≠ 576 → f9 b = f b) ∧ (∀ b, kd b = 12 → ∀ j, fldR (f9 b) j = fldR (f b) j) ∧ (∀ b, kd b = 12 → ∀ j, j ≠ 6 → j ≠ 7 → j ≠ 8 → j ≠ 11 → j ≠ 12 → j ≠ 13 → j ≠ 14 → fldI (f9 b) j = fldI (f b) j) ∧ (∀ (w6 z6 : Int32), fldI (f o0) 6 = some w6 → fldI (f9 o0) 6 = some z6 → w6.toInt ≤ z6.toInt) ∧ (∀ d9, fldR (f9 o0) 1 = some d9 → frel kd 576 8 f9 d9)) (qP (dC, dI) cI cL cZ cR cG cH L) (fun q => q ∈ L)) [.ref o0].toArray s 0 0 (fun q => q ∈ L)) (F0 m 92 ls []) := by
              intro n
              induction n with
              | zero => intro y_661 by_661 y_662 by_662 f_664 hG H locs hP hS hD hfr0 hrA12 hfA12 hT_128 hMm_194 hrelhloop_660_0 hmuhloop_660 ls hl; exfalso; omega
              | succ n ih_hloop_660 =>
                intro y_661 by_661 y_662 by_662 f_664 hG H locs hP hS hD hfr0 hrA12 hfA12 hT_128 hMm_194 hrelhloop_660_0 hmuhloop_660 ls hl
                refine lv_iload hx hb dX12_ruled_92 (lv_at hl 0 rfl) ?_
                refine lv_if_eq (tgt := 168) hx hb dX12_ruled_94 (by decide) (fun c_665 => ?_) (fun c_665 => ?_)
                · skip
                  rw [← Int32.toInt_inj, ti_0] at c_665
                  refine lv_sipush (v := 460) hx hb dX12_ruled_168 (by decide) ?_
                  refine lv_iconst (v := 4) hx hb dX12_ruled_171 (by decide) ?_
                  refine lv_iload_n hx hb dX12_ruled_172 rfl (lv_at hl 3 rfl) ?_
                  refine lv_imul hx hb dX12_ruled_173 ?_
                  refine lv_topi (fun x_666 ex_666 => ?_)
                  have hx_666 : x_666.toInt = 4 * x_60.toInt := by rw [ex_666, ml_I (by rw [ti_4]; omega) (by rw [ti_4]; omega), ti_4]
                  have bx_666 : (0 ≤ x_666.toInt ∧ x_666.toInt ≤ 28) := by constructor <;> omega
                  refine lv_iadd hx hb dX12_ruled_174 ?_
                  refine lv_topi (fun x_667 ex_667 => ?_)
                  have hx_667 : x_667.toInt = 460 + x_666.toInt := by rw [ex_667, ad_I (by rw [ti_460]; omega) (by rw [ti_460]; omega), ti_460]
                  have bx_667 : (460 ≤ x_667.toInt ∧ x_667.toInt ≤ 488) := by constructor <;> omega
                  refine lv_istore (lv' := [(5, .int x_667), (4, .int y_661), (3, .int y_662), (2, .int x_130), (1, .int x_60), (0, .ref o0)]) hx hb dX12_ruled_175 hl (by decide) rfl (fun ls hl => ?_)
                  refine lv_aload_n hx hb dX12_ruled_177 rfl (lv_at hl 5 rfl) ?_
                  obtain ⟨a_669, a_670, a_671, v_672, a_673, v_674, v_675, v_676, v_677, v_678, v_679, v_680, v_681, v_682, v_683, a_684, a_685, a_686, a_687, a_688, a_689, a_690, a_691, v_692, v_693, v_694, v_695, v_696, a_697, v_698, a_699, a_700, v_701, v_702, a_703, v_704, a_705, a_706, v_707, v_708, a_709, a_710, a_711, v_712, a_713, a_714, a_715, a_716, a_717, a_718, a_719, a_720, a_721, v_722, v_723, a_724, hfo_668, ⟨ma_669, ka_669⟩, ⟨ma_670, ka_670⟩, ⟨ma_671, ka_671⟩, bv_672, ⟨ma_673, ka_673⟩, bv_674, bv_675, bv_680, bv_681, bv_682, ⟨ma_684, ka_684⟩, ⟨ma_685, ka_685⟩, ⟨ma_686, ka_686⟩, ⟨ma_687, ka_687⟩, ⟨ma_688, ka_688⟩, ⟨ma_689, ka_689⟩, ⟨ma_690, ka_690⟩, ⟨ma_691, ka_691⟩, bv_692, bv_694, bv_696, ⟨ma_697, ka_697⟩, bv_698, ⟨ma_699, ka_699⟩, ⟨ma_700, ka_700⟩, bv_701, ⟨ma_703, ka_703⟩, bv_704, ⟨ma_705, ka_705⟩, ⟨ma_706, ka_706⟩, bv_707, ⟨ma_709, ka_709⟩, ⟨ma_710, ka_710⟩, ⟨ma_711, ka_711⟩, bv_712, ⟨ma_713, ka_713⟩, ⟨ma_714, ka_714⟩, ⟨ma_715, ka_715⟩, ⟨ma_716, ka_716⟩, ⟨ma_717, ka_717⟩, ⟨ma_718, ka_718⟩, ⟨ma_719, ka_719⟩, ⟨ma_720, ka_720⟩, ⟨ma_721, ka_721⟩, bv_722, ⟨ma_724, ka_724⟩⟩ := un_12 (hG _ mo0) ko0
                  have bv_676 : ((-2147483648) ≤ v_676.toInt ∧ v_676.toInt ≤ 2147483647) := ⟨i32_lo _, i32_hi _⟩
                  have bv_677 : ((-2147483648) ≤ v_677.toInt ∧ v_677.toInt ≤ 2147483647) := ⟨i32_lo _, i32_hi _⟩
                  have bv_678 : ((-2147483648) ≤ v_678.toInt ∧ v_678.toInt ≤ 2147483647) := ⟨i32_lo _, i32_hi _⟩
                  have bv_679 : ((-2147483648) ≤ v_679.toInt ∧ v_679.toInt ≤ 2147483647) := ⟨i32_lo _, i32_hi _⟩
                  have bv_683 : ((-2147483648) ≤ v_683.toInt ∧ v_683.toInt ≤ 2147483647) := ⟨i32_lo _, i32_hi _⟩
                  have bv_693 : ((-2147483648) ≤ v_693.toInt ∧ v_693.toInt ≤ 2147483647) := ⟨i32_lo _, i32_hi _⟩
                  have bv_695 : ((-2147483648) ≤ v_695.toInt ∧ v_695.toInt ≤ 2147483647) := ⟨i32_lo _, i32_hi _⟩
                  have bv_702 : ((-2147483648) ≤ v_702.toInt ∧ v_702.toInt ≤ 2147483647) := ⟨i32_lo _, i32_hi _⟩
                  have bv_708 : ((-2147483648) ≤ v_708.toInt ∧ v_708.toInt ≤ 2147483647) := ⟨i32_lo _, i32_hi _⟩
                  have bv_723 : ((-2147483648) ≤ v_723.toInt ∧ v_723.toInt ≤ 2147483647) := ⟨i32_lo _, i32_hi _⟩
                  obtain ⟨rfl, rfl, rfl, rfl, rfl, rfl, rfl, rfl, rfl, rfl, rfl, rfl, rfl, rfl, rfl, rfl, rfl, rfl, rfl, rfl, rfl, rfl, rfl, rfl, rfl, rfl, rfl, rfl, rfl, rfl, rfl⟩ := re_12 hfo_1 hfo_668 (hrA12 o0 ko0)
                  obtain rfl := ri_12_3 hfo_1 hfo_668 (hfA12 o0 ko0 3 (by decide) (by decide) (by decide) (by decide) (by decide) (by decide) (by decide))
                  obtain rfl := ri_12_5 hfo_1 hfo_668 (hfA12 o0 ko0 5 (by decide) (by decide) (by decide) (by decide) (by decide) (by decide) (by decide))
                  obtain rfl := ri_12_23 hfo_1 hfo_668 (hfA12 o0 ko0 23 (by decide) (by decide) (by decide) (by decide) (by decide) (by decide) (by decide))
                  obtain rfl := ri_12_25 hfo_1 hfo_668 (hfA12 o0 ko0 25 (by decide) (by decide) (by decide) (by decide) (by decide) (by decide) (by decide))
                  obtain rfl := ri_12_27 hfo_1 hfo_668 (hfA12 o0 ko0 27 (by decide) (by decide) (by decide) (by decide) (by decide) (by decide) (by decide))
                  obtain rfl := ri_12_29 hfo_1 hfo_668 (hfA12 o0 ko0 29 (by decide) (by decide) (by decide) (by decide) (by decide) (by decide) (by decide))
                  obtain rfl := ri_12_32 hfo_1 hfo_668 (hfA12 o0 ko0 32 (by decide) (by decide) (by decide) (by decide) (by decide) (by decide) (by decide))
                  obtain rfl := ri_12_33 hfo_1 hfo_668 (hfA12 o0 ko0 33 (by decide) (by decide) (by decide) (by decide) (by decide) (by decide) (by decide))
                  obtain rfl := ri_12_35 hfo_1 hfo_668 (hfA12 o0 ko0 35 (by decide) (by decide) (by decide) (by decide) (by decide) (by decide) (by decide))
                  obtain rfl := ri_12_38 hfo_1 hfo_668 (hfA12 o0 ko0 38 (by decide) (by decide) (by decide) (by decide) (by decide) (by decide) (by decide))
                  obtain rfl := ri_12_43 hfo_1 hfo_668 (hfA12 o0 ko0 43 (by decide) (by decide) (by decide) (by decide) (by decide) (by decide) (by decide))
                  obtain rfl := ri_12_53 hfo_1 hfo_668 (hfA12 o0 ko0 53 (by decide) (by decide) (by decide) (by decide) (by decide) (by decide) (by decide))
                  refine tk_getP (D := (dC, dI)) (ci := 12) (v := .ref a_3) (C := RX12) (T := TX12) (N := 56) hx hb hU inlX12 hown hK hP mo0 hfo_668 rfl 1 (by decide) (hU _ wd_170) (fun _ h9 => h9) rfl dX12_ruled_178 ?_
                  refine lv_iload hx hb dX12_ruled_181 (lv_at hl 0 rfl) ?_
                  refine lv_aload_n hx hb dX12_ruled_183 rfl (lv_at hl 5 rfl) ?_
                  refine tk_getP (D := (dC, dI)) (ci := 12) (v := .int v_681) (C := RX12) (T := TX12) (N := 56) hx hb hU inlX12 hown hK hP mo0 hfo_668 rfl 12 (by decide) (hU _ wd_618) (fun _ h9 => h9) rfl dX12_ruled_184 ?_
                  obtain ⟨g_726, hfo_725, hbg_726⟩ := un_576 (hG _ ma_3) ka_3
                  refine tk_istP hx hb hK hP hD hS 0 ma_3 hfo_725 rfl (vp_in_iff.mpr (by constructor <;> omega)) dX12_ruled_187 (fun H locs hP hD hS => ?_)
                  have hc9 := cl_I (i := x_667) (by omega)
                  obtain ⟨g_727, eqg_727⟩ : ∃ y : Nat → Int32, y = upd g_726 (Int32.toNatClampNeg x_667) v_681 := ⟨_, rfl⟩
                  rw [← eqg_727] at hP hD
                  have hbg_727 : wOK g_727 := by rw [eqg_727]; exact ⟨hbg_726.1.up (fun h1 h2 h3 => by exfalso; omega), hbg_726.2.1.up (fun h1 h2 h3 => by exfalso; omega), hbg_726.2.2.1.up (fun h1 h2 h3 => by exfalso; omega), hbg_726.2.2.2.1.up (fun h1 h2 h3 => by exfalso; omega), hbg_726.2.2.2.2.1.up (fun h1 h2 h3 => by exfalso; omega), hbg_726.2.2.2.2.2.1.up (fun h1 h2 h3 => by exfalso; omega), hbg_726.2.2.2.2.2.2.1.up (fun h1 h2 h3 => by exfalso; omega), hbg_726.2.2.2.2.2.2.2.1.up (fun h1 h2 h3 => by exfalso; omega), hbg_726.2.2.2.2.2.2.2.2.1.up (fun h1 h2 h3 => by exfalso; omega), hbg_726.2.2.2.2.2.2.2.2.2.1.up (fun h1 h2 h3 => by exfalso; omega), hbg_726.2.2.2.2.2.2.2.2.2.2.1.up (fun h1 h2 h3 => by exfalso; omega), hbg_726.2.2.2.2.2.2.2.2.2.2.2.1.up (fun h1 h2 h3 => by exfalso; omega), hbg_726.2.2.2.2.2.2.2.2.2.2.2.2.1.up (fun h1 h2 h3 => by constructor <;> omega), hbg_726.2.2.2.2.2.2.2.2.2.2.2.2.2.1.up (fun h1 h2 h3 => by exfalso; omega), hbg_726.2.2.2.2.2.2.2.2.2.2.2.2.2.2.1.up (fun h1 h2 h3 => by exfalso; omega), hbg_726.2.2.2.2.2.2.2.2.2.2.2.2.2.2.2.up (fun h1 h2 h3 => by exfalso; omega)⟩
                  obtain ⟨f_729, ef_729⟩ : ∃ y : Nat → va_E, y = va_up f_664 a_3 (.inl (cI, 1560, .inl g_727)) := ⟨_, rfl⟩
                  have hP : va_P (dC, dI) vwCl (va_pl L f_729) H := by rw [ef_729]; exact hP
                  have hD : va_D (fun q => q ∈ L) (va_pl L f_729) := by rw [ef_729]; exact hD
                  have hG : GI (okc cI cL cZ cR cG cH L kd) kd L f_729 := by rw [ef_729]; exact hG.set a_3 (mk_576 ka_3 ⟨_, rfl, hbg_727⟩)
                  have hfo_730 : f_729 o0 = .inr (12, [.ref a_2, .ref a_3, .ref a_4, .int v_5, .ref a_6, .int v_7, .int v_675, .int v_676, .int v_677, .int v_678, .int v_679, .int v_680, .int v_681, .int v_682, .int v_683, .ref a_17, .ref a_18, .ref a_19, .ref a_20, .ref a_21, .ref a_22, .ref a_23, .ref a_24, .int v_25, .int v_693, .int v_27, .int v_695, .int v_29, .ref a_30, .int v_31, .ref a_32, .ref a_33, .int v_34, .int v_35, .ref a_36, .int v_37, .ref a_38, .ref a_39, .int v_40, .int v_708, .ref a_42, .ref a_43, .ref a_44, .int v_45, .ref a_46, .ref a_47, .ref a_48, .ref a_49, .ref a_50, .ref a_51, .ref a_52, .ref a_53, .ref a_54, .int v_55, .int v_723, .ref a_57]) := by rw [ef_729, up_ne (kd_ne ka_3 ko0 (by decide))]; exact hfo_668
                  have hfr0 : ∀ b, kd b ≠ 12 → kd b ≠ 576 → f_729 b = f b := fun b q12 q576 => (congrFun ef_729 b).trans ((up_ne (fun e9 => q576 (by rw [e9]; exact ka_3))).trans (hfr0 b q12 q576))
                  have hrA12 : ∀ b, kd b = 12 → ∀ j, fldR (f_729 b) j = fldR (f b) j := fun b kb j => (congrArg (fun x => fldR x j) ((congrFun ef_729 b).trans (up_ne (kd_ne ka_3 kb (by decide))))).trans (hrA12 b kb j)
                  have hfA12 : ∀ b, kd b = 12 → ∀ j, j ≠ 6 → j ≠ 7 → j ≠ 8 → j ≠ 11 → j ≠ 12 → j ≠ 13 → j ≠ 14 → fldI (f_729 b) j = fldI (f b) j := fun b kb j n6 n7 n8 n11 n12 n13 n14 => (congrArg (fun x => fldI x j) ((congrFun ef_729 b).trans (up_ne (kd_ne ka_3 kb (by decide))))).trans (hfA12 b kb j n6 n7 n8 n11 n12 n13 n14)
                  have hT_128 : frel kd 576 7 f_729 a_3 := by rw [ef_729]; exact frel.mk ka_3 up_self (by rw [eqg_727]; exact (hT_128.get hfo_725).up (hbg_726.2.1 16 (by decide) (by decide) (by decide)).2 (by omega) (by omega) (by omega) (fun h9 => by exfalso; omega))
                  have hMm_194 : ∀ z9, fldI (f_729 o0) 6 = some z9 → v_8.toInt ≤ z9.toInt := by rw [ef_729]; exact (fun z9 h9 => hMm_194 z9 (by rw [up_ne (kd_ne ka_3 ko0 (by decide))] at h9; exact h9))
                  have hfo_731 : f_729 a_3 = .inl (cI, 1560, .inl g_727) := by rw [ef_729]; exact up_self
                  have ql_732 : v_681 = g_727 (Int32.toNatClampNeg x_667) := by rw [eqg_727, pk_us]
                  refine lv_aload_n hx hb dX12_ruled_188 rfl (lv_at hl 5 rfl) ?_
                  refine tk_getP (D := (dC, dI)) (ci := 12) (v := .ref a_3) (C := RX12) (T := TX12) (N := 56) hx hb hU inlX12 hown hK hP mo0 hfo_730 rfl 1 (by decide) (hU _ wd_170) (fun _ h9 => h9) rfl dX12_ruled_189 ?_
                  refine lv_iload hx hb dX12_ruled_192 (lv_at hl 0 rfl) ?_
                  refine lv_iconst (v := 1) hx hb dX12_ruled_194 (by decide) ?_
                  refine lv_iadd hx hb dX12_ruled_195 ?_
                  refine lv_topi (fun x_733 ex_733 => ?_)
                  have hx_733 : x_733.toInt = x_667.toInt + 1 := by rw [ex_733, ad_I (by rw [ti_1]; omega) (by rw [ti_1]; omega), ti_1]
                  have bx_733 : (461 ≤ x_733.toInt ∧ x_733.toInt ≤ 489) := by constructor <;> omega
                  refine lv_aload_n hx hb dX12_ruled_196 rfl (lv_at hl 5 rfl) ?_
                  refine tk_getP (D := (dC, dI)) (ci := 12) (v := .int v_682) (C := RX12) (T := TX12) (N := 56) hx hb hU inlX12 hown hK hP mo0 hfo_730 rfl 13 (by decide) (hU _ wd_619) (fun _ h9 => h9) rfl dX12_ruled_197 ?_
                  refine tk_istP hx hb hK hP hD hS 0 ma_3 hfo_731 rfl (vp_in_iff.mpr (by constructor <;> omega)) dX12_ruled_200 (fun H locs hP hD hS => ?_)
                  have hc9 := cl_I (i := x_733) (by omega)
                  obtain ⟨g_734, eqg_734⟩ : ∃ y : Nat → Int32, y = upd g_727 (Int32.toNatClampNeg x_733) v_682 := ⟨_, rfl⟩
                  rw [← eqg_734] at hP hD
                  have hbg_734 : wOK g_734 := by rw [eqg_734]; exact ⟨hbg_727.1.up (fun h1 h2 h3 => by exfalso; omega), hbg_727.2.1.up (fun h1 h2 h3 => by exfalso; omega), hbg_727.2.2.1.up (fun h1 h2 h3 => by exfalso; omega), hbg_727.2.2.2.1.up (fun h1 h2 h3 => by exfalso; omega), hbg_727.2.2.2.2.1.up (fun h1 h2 h3 => by exfalso; omega), hbg_727.2.2.2.2.2.1.up (fun h1 h2 h3 => by exfalso; omega), hbg_727.2.2.2.2.2.2.1.up (fun h1 h2 h3 => by exfalso; omega), hbg_727.2.2.2.2.2.2.2.1.up (fun h1 h2 h3 => by exfalso; omega), hbg_727.2.2.2.2.2.2.2.2.1.up (fun h1 h2 h3 => by exfalso; omega), hbg_727.2.2.2.2.2.2.2.2.2.1.up (fun h1 h2 h3 => by exfalso; omega), hbg_727.2.2.2.2.2.2.2.2.2.2.1.up (fun h1 h2 h3 => by exfalso; omega), hbg_727.2.2.2.2.2.2.2.2.2.2.2.1.up (fun h1 h2 h3 => by exfalso; omega), hbg_727.2.2.2.2.2.2.2.2.2.2.2.2.1.up (fun h1 h2 h3 => by constructor <;> omega), hbg_727.2.2.2.2.2.2.2.2.2.2.2.2.2.1.up (fun h1 h2 h3 => by exfalso; omega), hbg_727.2.2.2.2.2.2.2.2.2.2.2.2.2.2.1.up (fun h1 h2 h3 => by exfalso; omega), hbg_727.2.2.2.2.2.2.2.2.2.2.2.2.2.2.2.up (fun h1 h2 h3 => by exfalso; omega)⟩
                  obtain ⟨f_736, ef_736⟩ : ∃ y : Nat → va_E, y = va_up f_729 a_3 (.inl (cI, 1560, .inl g_734)) := ⟨_, rfl⟩
                  have hP : va_P (dC, dI) vwCl (va_pl L f_736) H := by rw [ef_736]; exact hP
                  have hD : va_D (fun q => q ∈ L) (va_pl L f_736) := by rw [ef_736]; exact hD
                  have hG : GI (okc cI cL cZ cR cG cH L kd) kd L f_736 := by rw [ef_736]; exact hG.set a_3 (mk_576 ka_3 ⟨_, rfl, hbg_734⟩)
                  have hfo_737 : f_736 o0 = .inr (12, [.ref a_2, .ref a_3, .ref a_4, .int v_5, .ref a_6, .int v_7, .int v_675, .int v_676, .int v_677, .int v_678, .int v_679, .int v_680, .int v_681, .int v_682, .int v_683, .ref a_17, .ref a_18, .ref a_19, .ref a_20, .ref a_21, .ref a_22, .ref a_23, .ref a_24, .int v_25, .int v_693, .int v_27, .int v_695, .int v_29, .ref a_30, .int v_31, .ref a_32, .ref a_33, .int v_34, .int v_35, .ref a_36, .int v_37, .ref a_38, .ref a_39, .int v_40, .int v_708, .ref a_42, .ref a_43, .ref a_44, .int v_45, .ref a_46, .ref a_47, .ref a_48, .ref a_49, .ref a_50, .ref a_51, .ref a_52, .ref a_53, .ref a_54, .int v_55, .int v_723, .ref a_57]) := by rw [ef_736, up_ne (kd_ne ka_3 ko0 (by decide))]; exact hfo_730
                  have hfr0 : ∀ b, kd b ≠ 12 → kd b ≠ 576 → f_736 b = f b := fun b q12 q576 => (congrFun ef_736 b).trans ((up_ne (fun e9 => q576 (by rw [e9]; exact ka_3))).trans (hfr0 b q12 q576))
                  have hrA12 : ∀ b, kd b = 12 → ∀ j, fldR (f_736 b) j = fldR (f b) j := fun b kb j => (congrArg (fun x => fldR x j) ((congrFun ef_736 b).trans (up_ne (kd_ne ka_3 kb (by decide))))).trans (hrA12 b kb j)
                  have hfA12 : ∀ b, kd b = 12 → ∀ j, j ≠ 6 → j ≠ 7 → j ≠ 8 → j ≠ 11 → j ≠ 12 → j ≠ 13 → j ≠ 14 → fldI (f_736 b) j = fldI (f b) j := fun b kb j n6 n7 n8 n11 n12 n13 n14 => (congrArg (fun x => fldI x j) ((congrFun ef_736 b).trans (up_ne (kd_ne ka_3 kb (by decide))))).trans (hfA12 b kb j n6 n7 n8 n11 n12 n13 n14)
                  have hT_128 : frel kd 576 7 f_736 a_3 := by rw [ef_736]; exact frel.mk ka_3 up_self (by rw [eqg_734]; exact (hT_128.get hfo_731).up (hbg_727.2.1 16 (by decide) (by decide) (by decide)).2 (by omega) (by omega) (by omega) (fun h9 => by exfalso; omega))
                  have hMm_194 : ∀ z9, fldI (f_736 o0) 6 = some z9 → v_8.toInt ≤ z9.toInt := by rw [ef_736]; exact (fun z9 h9 => hMm_194 z9 (by rw [up_ne (kd_ne ka_3 ko0 (by decide))] at h9; exact h9))
                  have hfo_738 : f_736 a_3 = .inl (cI, 1560, .inl g_734) := by rw [ef_736]; exact up_self
                  have ql_739 : v_682 = g_734 (Int32.toNatClampNeg x_733) := by rw [eqg_734, pk_us]
                  refine lv_aload_n hx hb dX12_ruled_201 rfl (lv_at hl 5 rfl) ?_
                  refine tk_getP (D := (dC, dI)) (ci := 12) (v := .ref a_3) (C := RX12) (T := TX12) (N := 56) hx hb hU inlX12 hown hK hP mo0 hfo_737 rfl 1 (by decide) (hU _ wd_170) (fun _ h9 => h9) rfl dX12_ruled_202 ?_
                  refine lv_iload hx hb dX12_ruled_205 (lv_at hl 0 rfl) ?_
                  refine lv_iconst (v := 2) hx hb dX12_ruled_207 (by decide) ?_
                  refine lv_iadd hx hb dX12_ruled_208 ?_
                  refine lv_topi (fun x_740 ex_740 => ?_)
                  have hx_740 : x_740.toInt = x_667.toInt + 2 := by rw [ex_740, ad_I (by rw [ti_2]; omega) (by rw [ti_2]; omega), ti_2]
                  have bx_740 : (462 ≤ x_740.toInt ∧ x_740.toInt ≤ 490) := by constructor <;> omega
                  refine lv_iload_n hx hb dX12_ruled_209 rfl (lv_at hl 3 rfl) ?_
                  refine tk_istP hx hb hK hP hD hS 0 ma_3 hfo_738 rfl (vp_in_iff.mpr (by constructor <;> omega)) dX12_ruled_210 (fun H locs hP hD hS => ?_)
                  have hc9 := cl_I (i := x_740) (by omega)
                  obtain ⟨g_741, eqg_741⟩ : ∃ y : Nat → Int32, y = upd g_734 (Int32.toNatClampNeg x_740) x_130 := ⟨_, rfl⟩
                  rw [← eqg_741] at hP hD
                  have hbg_741 : wOK g_741 := by rw [eqg_741]; exact ⟨hbg_734.1.up (fun h1 h2 h3 => by exfalso; omega), hbg_734.2.1.up (fun h1 h2 h3 => by exfalso; omega), hbg_734.2.2.1.up (fun h1 h2 h3 => by exfalso; omega), hbg_734.2.2.2.1.up (fun h1 h2 h3 => by exfalso; omega), hbg_734.2.2.2.2.1.up (fun h1 h2 h3 => by exfalso; omega), hbg_734.2.2.2.2.2.1.up (fun h1 h2 h3 => by exfalso; omega), hbg_734.2.2.2.2.2.2.1.up (fun h1 h2 h3 => by exfalso; omega), hbg_734.2.2.2.2.2.2.2.1.up (fun h1 h2 h3 => by exfalso; omega), hbg_734.2.2.2.2.2.2.2.2.1.up (fun h1 h2 h3 => by exfalso; omega), hbg_734.2.2.2.2.2.2.2.2.2.1.up (fun h1 h2 h3 => by exfalso; omega), hbg_734.2.2.2.2.2.2.2.2.2.2.1.up (fun h1 h2 h3 => by exfalso; omega), hbg_734.2.2.2.2.2.2.2.2.2.2.2.1.up (fun h1 h2 h3 => by exfalso; omega), hbg_734.2.2.2.2.2.2.2.2.2.2.2.2.1.up (fun h1 h2 h3 => by constructor <;> omega), hbg_734.2.2.2.2.2.2.2.2.2.2.2.2.2.1.up (fun h1 h2 h3 => by constructor <;> omega), hbg_734.2.2.2.2.2.2.2.2.2.2.2.2.2.2.1.up (fun h1 h2 h3 => by exfalso; omega), hbg_734.2.2.2.2.2.2.2.2.2.2.2.2.2.2.2.up (fun h1 h2 h3 => by exfalso; omega)⟩
                  obtain ⟨f_743, ef_743⟩ : ∃ y : Nat → va_E, y = va_up f_736 a_3 (.inl (cI, 1560, .inl g_741)) := ⟨_, rfl⟩
                  have hP : va_P (dC, dI) vwCl (va_pl L f_743) H := by rw [ef_743]; exact hP
                  have hD : va_D (fun q => q ∈ L) (va_pl L f_743) := by rw [ef_743]; exact hD
                  have hG : GI (okc cI cL cZ cR cG cH L kd) kd L f_743 := by rw [ef_743]; exact hG.set a_3 (mk_576 ka_3 ⟨_, rfl, hbg_741⟩)
                  have hfo_744 : f_743 o0 = .inr (12, [.ref a_2, .ref a_3, .ref a_4, .int v_5, .ref a_6, .int v_7, .int v_675, .int v_676, .int v_677, .int v_678, .int v_679, .int v_680, .int v_681, .int v_682, .int v_683, .ref a_17, .ref a_18, .ref a_19, .ref a_20, .ref a_21, .ref a_22, .ref a_23, .ref a_24, .int v_25, .int v_693, .int v_27, .int v_695, .int v_29, .ref a_30, .int v_31, .ref a_32, .ref a_33, .int v_34, .int v_35, .ref a_36, .int v_37, .ref a_38, .ref a_39, .int v_40, .int v_708, .ref a_42, .ref a_43, .ref a_44, .int v_45, .ref a_46, .ref a_47, .ref a_48, .ref a_49, .ref a_50, .ref a_51, .ref a_52, .ref a_53, .ref a_54, .int v_55, .int v_723, .ref a_57]) := by rw [ef_743, up_ne (kd_ne ka_3 ko0 (by decide))]; exact hfo_737
                  have hfr0 : ∀ b, kd b ≠ 12 → kd b ≠ 576 → f_743 b = f b := fun b q12 q576 => (congrFun ef_743 b).trans ((up_ne (fun e9 => q576 (by rw [e9]; exact ka_3))).trans (hfr0 b q12 q576))
                  have hrA12 : ∀ b, kd b = 12 → ∀ j, fldR (f_743 b) j = fldR (f b) j := fun b kb j => (congrArg (fun x => fldR x j) ((congrFun ef_743 b).trans (up_ne (kd_ne ka_3 kb (by decide))))).trans (hrA12 b kb j)
                  have hfA12 : ∀ b, kd b = 12 → ∀ j, j ≠ 6 → j ≠ 7 → j ≠ 8 → j ≠ 11 → j ≠ 12 → j ≠ 13 → j ≠ 14 → fldI (f_743 b) j = fldI (f b) j := fun b kb j n6 n7 n8 n11 n12 n13 n14 => (congrArg (fun x => fldI x j) ((congrFun ef_743 b).trans (up_ne (kd_ne ka_3 kb (by decide))))).trans (hfA12 b kb j n6 n7 n8 n11 n12 n13 n14)
                  have hT_128 : frel kd 576 7 f_743 a_3 := by rw [ef_743]; exact frel.mk ka_3 up_self (by rw [eqg_741]; exact (hT_128.get hfo_738).up (hbg_734.2.1 16 (by decide) (by decide) (by decide)).2 (by omega) (by omega) (by omega) (fun h9 => by exfalso; omega))
                  have hMm_194 : ∀ z9, fldI (f_743 o0) 6 = some z9 → v_8.toInt ≤ z9.toInt := by rw [ef_743]; exact (fun z9 h9 => hMm_194 z9 (by rw [up_ne (kd_ne ka_3 ko0 (by decide))] at h9; exact h9))
                  have hfo_745 : f_743 a_3 = .inl (cI, 1560, .inl g_741) := by rw [ef_743]; exact up_self
                  have ql_746 : x_130 = g_741 (Int32.toNatClampNeg x_740) := by rw [eqg_741, pk_us]
                  refine lv_aload_n hx hb dX12_ruled_211 rfl (lv_at hl 5 rfl) ?_
                  refine tk_getP (D := (dC, dI)) (ci := 12) (v := .ref a_3) (C := RX12) (T := TX12) (N := 56) hx hb hU inlX12 hown hK hP mo0 hfo_744 rfl 1 (by decide) (hU _ wd_170) (fun _ h9 => h9) rfl dX12_ruled_212 ?_
                  refine lv_iload hx hb dX12_ruled_215 (lv_at hl 0 rfl) ?_
                  refine lv_iconst (v := 3) hx hb dX12_ruled_217 (by decide) ?_
                  refine lv_iadd hx hb dX12_ruled_218 ?_
                  refine lv_topi (fun x_747 ex_747 => ?_)
                  have hx_747 : x_747.toInt = x_667.toInt + 3 := by rw [ex_747, ad_I (by rw [ti_3]; omega) (by rw [ti_3]; omega), ti_3]
                  have bx_747 : (463 ≤ x_747.toInt ∧ x_747.toInt ≤ 491) := by constructor <;> omega
                  refine lv_iload_n hx hb dX12_ruled_219 rfl (lv_at hl 2 rfl) ?_
                  refine tk_istP hx hb hK hP hD hS 0 ma_3 hfo_745 rfl (vp_in_iff.mpr (by constructor <;> omega)) dX12_ruled_220 (fun H locs hP hD hS => ?_)
                  have hc9 := cl_I (i := x_747) (by omega)
                  obtain ⟨g_748, eqg_748⟩ : ∃ y : Nat → Int32, y = upd g_741 (Int32.toNatClampNeg x_747) y_662 := ⟨_, rfl⟩
                  rw [← eqg_748] at hP hD
                  have hbg_748 : wOK g_748 := by rw [eqg_748]; exact ⟨hbg_741.1.up (fun h1 h2 h3 => by exfalso; omega), hbg_741.2.1.up (fun h1 h2 h3 => by exfalso; omega), hbg_741.2.2.1.up (fun h1 h2 h3 => by exfalso; omega), hbg_741.2.2.2.1.up (fun h1 h2 h3 => by exfalso; omega), hbg_741.2.2.2.2.1.up (fun h1 h2 h3 => by exfalso; omega), hbg_741.2.2.2.2.2.1.up (fun h1 h2 h3 => by exfalso; omega), hbg_741.2.2.2.2.2.2.1.up (fun h1 h2 h3 => by exfalso; omega), hbg_741.2.2.2.2.2.2.2.1.up (fun h1 h2 h3 => by exfalso; omega), hbg_741.2.2.2.2.2.2.2.2.1.up (fun h1 h2 h3 => by exfalso; omega), hbg_741.2.2.2.2.2.2.2.2.2.1.up (fun h1 h2 h3 => by exfalso; omega), hbg_741.2.2.2.2.2.2.2.2.2.2.1.up (fun h1 h2 h3 => by exfalso; omega), hbg_741.2.2.2.2.2.2.2.2.2.2.2.1.up (fun h1 h2 h3 => by exfalso; omega), hbg_741.2.2.2.2.2.2.2.2.2.2.2.2.1.up (fun h1 h2 h3 => by constructor <;> omega), hbg_741.2.2.2.2.2.2.2.2.2.2.2.2.2.1.up (fun h1 h2 h3 => by exfalso; omega), hbg_741.2.2.2.2.2.2.2.2.2.2.2.2.2.2.1.up (fun h1 h2 h3 => by constructor <;> omega), hbg_741.2.2.2.2.2.2.2.2.2.2.2.2.2.2.2.up (fun h1 h2 h3 => by exfalso; omega)⟩
                  obtain ⟨f_750, ef_750⟩ : ∃ y : Nat → va_E, y = va_up f_743 a_3 (.inl (cI, 1560, .inl g_748)) := ⟨_, rfl⟩
                  have hP : va_P (dC, dI) vwCl (va_pl L f_750) H := by rw [ef_750]; exact hP
                  have hD : va_D (fun q => q ∈ L) (va_pl L f_750) := by rw [ef_750]; exact hD
                  have hG : GI (okc cI cL cZ cR cG cH L kd) kd L f_750 := by rw [ef_750]; exact hG.set a_3 (mk_576 ka_3 ⟨_, rfl, hbg_748⟩)
                  have hfo_751 : f_750 o0 = .inr (12, [.ref a_2, .ref a_3, .ref a_4, .int v_5, .ref a_6, .int v_7, .int v_675, .int v_676, .int v_677, .int v_678, .int v_679, .int v_680, .int v_681, .int v_682, .int v_683, .ref a_17, .ref a_18, .ref a_19, .ref a_20, .ref a_21, .ref a_22, .ref a_23, .ref a_24, .int v_25, .int v_693, .int v_27, .int v_695, .int v_29, .ref a_30, .int v_31, .ref a_32, .ref a_33, .int v_34, .int v_35, .ref a_36, .int v_37, .ref a_38, .ref a_39, .int v_40, .int v_708, .ref a_42, .ref a_43, .ref a_44, .int v_45, .ref a_46, .ref a_47, .ref a_48, .ref a_49, .ref a_50, .ref a_51, .ref a_52, .ref a_53, .ref a_54, .int v_55, .int v_723, .ref a_57]) := by rw [ef_750, up_ne (kd_ne ka_3 ko0 (by decide))]; exact hfo_744
                  have hfr0 : ∀ b, kd b ≠ 12 → kd b ≠ 576 → f_750 b = f b := fun b q12 q576 => (congrFun ef_750 b).trans ((up_ne (fun e9 => q576 (by rw [e9]; exact ka_3))).trans (hfr0 b q12 q576))
                  have hrA12 : ∀ b, kd b = 12 → ∀ j, fldR (f_750 b) j = fldR (f b) j := fun b kb j => (congrArg (fun x => fldR x j) ((congrFun ef_750 b).trans (up_ne (kd_ne ka_3 kb (by decide))))).trans (hrA12 b kb j)
                  have hfA12 : ∀ b, kd b = 12 → ∀ j, j ≠ 6 → j ≠ 7 → j ≠ 8 → j ≠ 11 → j ≠ 12 → j ≠ 13 → j ≠ 14 → fldI (f_750 b) j = fldI (f b) j := fun b kb j n6 n7 n8 n11 n12 n13 n14 => (congrArg (fun x => fldI x j) ((congrFun ef_750 b).trans (up_ne (kd_ne ka_3 kb (by decide))))).trans (hfA12 b kb j n6 n7 n8 n11 n12 n13 n14)
                  have hT_128 : frel kd 576 7 f_750 a_3 := by rw [ef_750]; exact frel.mk ka_3 up_self (by rw [eqg_748]; exact (hT_128.get hfo_745).up (hbg_741.2.1 16 (by decide) (by decide) (by decide)).2 (by omega) (by omega) (by omega) (fun h9 => by exfalso; omega))
                  have hMm_194 : ∀ z9, fldI (f_750 o0) 6 = some z9 → v_8.toInt ≤ z9.toInt := by rw [ef_750]; exact (fun z9 h9 => hMm_194 z9 (by rw [up_ne (kd_ne ka_3 ko0 (by decide))] at h9; exact h9))
                  have hfo_752 : f_750 a_3 = .inl (cI, 1560, .inl g_748) := by rw [ef_750]; exact up_self
                  have ql_753 : y_662 = g_748 (Int32.toNatClampNeg x_747) := by rw [eqg_748, pk_us]
                  refine lv_aload_n hx hb dX12_ruled_221 rfl (lv_at hl 5 rfl) ?_
                  refine tk_getP (D := (dC, dI)) (ci := 12) (v := .ref a_3) (C := RX12) (T := TX12) (N := 56) hx hb hU inlX12 hown hK hP mo0 hfo_751 rfl 1 (by decide) (hU _ wd_170) (fun _ h9 => h9) rfl dX12_ruled_222 ?_
                  refine lv_bipush (v := 17) hx hb dX12_ruled_225 (by decide) ?_
                  refine lv_dup2_11 hx hb dX12_ruled_227 rfl rfl ?_
                  refine tk_ildP hx hb hK hP 0 ma_3 hfo_752 rfl (vp_in_nI (n := 17) (by decide) (by decide)) dX12_ruled_228 ?_
                  refine lv_topi (fun x_754 ex_754 => ?_)
                  have bx_754 : (0 ≤ x_754.toInt ∧ x_754.toInt ≤ 8) := by rw [ex_754]; exact hbg_748.2.2.1 _ (by decide) (by decide) (by decide)
                  have hF7c_755 := hT_128.get hfo_752
                  have hnrc_756 : (0 ≤ x_754.toInt ∧ x_754.toInt ≤ 7) := by have hq1 := hF7c_755.2.2.2; have hq2 : x_754.toInt = (g_748 17).toInt := (by rw [ex_754]; rfl); constructor <;> omega
                  refine lv_iconst (v := 1) hx hb dX12_ruled_229 (by decide) ?_
                  refine lv_iadd hx hb dX12_ruled_230 ?_
                  refine lv_topi (fun x_757 ex_757 => ?_)
                  have hx_757 : x_757.toInt = x_754.toInt + 1 := by rw [ex_757, ad_I (by rw [ti_1]; omega) (by rw [ti_1]; omega), ti_1]
                  have bx_757 : (1 ≤ x_757.toInt ∧ x_757.toInt ≤ 8) := by constructor <;> omega
                  refine tk_istP hx hb hK hP hD hS 0 ma_3 hfo_752 rfl (vp_in_nI (n := 17) (by decide) (by decide)) dX12_ruled_231 (fun H locs hP hD hS => ?_)
                  have hc9 : ((Int32.toNatClampNeg 17 : Nat) : Int) = 17 := by decide
                  obtain ⟨g_758, eqg_758⟩ : ∃ y : Nat → Int32, y = upd g_748 (Int32.toNatClampNeg 17) x_757 := ⟨_, rfl⟩
                  rw [← eqg_758] at hP hD
                  have hbg_758 : wOK g_758 := by rw [eqg_758]; exact ⟨hbg_748.1.up (fun h1 h2 h3 => by exfalso; omega), hbg_748.2.1.up (fun h1 h2 h3 => by exfalso; omega), hbg_748.2.2.1.up (fun h1 h2 h3 => by constructor <;> omega), hbg_748.2.2.2.1.up (fun h1 h2 h3 => by exfalso; omega), hbg_748.2.2.2.2.1.up (fun h1 h2 h3 => by exfalso; omega), hbg_748.2.2.2.2.2.1.up (fun h1 h2 h3 => by exfalso; omega), hbg_748.2.2.2.2.2.2.1.up (fun h1 h2 h3 => by exfalso; omega), hbg_748.2.2.2.2.2.2.2.1.up (fun h1 h2 h3 => by exfalso; omega), hbg_748.2.2.2.2.2.2.2.2.1.up (fun h1 h2 h3 => by exfalso; omega), hbg_748.2.2.2.2.2.2.2.2.2.1.up (fun h1 h2 h3 => by exfalso; omega), hbg_748.2.2.2.2.2.2.2.2.2.2.1.up (fun h1 h2 h3 => by exfalso; omega), hbg_748.2.2.2.2.2.2.2.2.2.2.2.1.up (fun h1 h2 h3 => by exfalso; omega), hbg_748.2.2.2.2.2.2.2.2.2.2.2.2.1.up (fun h1 h2 h3 => by exfalso; omega), hbg_748.2.2.2.2.2.2.2.2.2.2.2.2.2.1.up (fun h1 h2 h3 => by exfalso; omega), hbg_748.2.2.2.2.2.2.2.2.2.2.2.2.2.2.1.up (fun h1 h2 h3 => by exfalso; omega), hbg_748.2.2.2.2.2.2.2.2.2.2.2.2.2.2.2.up (fun h1 h2 h3 => by exfalso; omega)⟩
                  obtain ⟨f_760, ef_760⟩ : ∃ y : Nat → va_E, y = va_up f_750 a_3 (.inl (cI, 1560, .inl g_758)) := ⟨_, rfl⟩
                  have hP : va_P (dC, dI) vwCl (va_pl L f_760) H := by rw [ef_760]; exact hP
                  have hD : va_D (fun q => q ∈ L) (va_pl L f_760) := by rw [ef_760]; exact hD
                  have hG : GI (okc cI cL cZ cR cG cH L kd) kd L f_760 := by rw [ef_760]; exact hG.set a_3 (mk_576 ka_3 ⟨_, rfl, hbg_758⟩)
                  have hfo_761 : f_760 o0 = .inr (12, [.ref a_2, .ref a_3, .ref a_4, .int v_5, .ref a_6, .int v_7, .int v_675, .int v_676, .int v_677, .int v_678, .int v_679, .int v_680, .int v_681, .int v_682, .int v_683, .ref a_17, .ref a_18, .ref a_19, .ref a_20, .ref a_21, .ref a_22, .ref a_23, .ref a_24, .int v_25, .int v_693, .int v_27, .int v_695, .int v_29, .ref a_30, .int v_31, .ref a_32, .ref a_33, .int v_34, .int v_35, .ref a_36, .int v_37, .ref a_38, .ref a_39, .int v_40, .int v_708, .ref a_42, .ref a_43, .ref a_44, .int v_45, .ref a_46, .ref a_47, .ref a_48, .ref a_49, .ref a_50, .ref a_51, .ref a_52, .ref a_53, .ref a_54, .int v_55, .int v_723, .ref a_57]) := by rw [ef_760, up_ne (kd_ne ka_3 ko0 (by decide))]; exact hfo_751
                  have hfr0 : ∀ b, kd b ≠ 12 → kd b ≠ 576 → f_760 b = f b := fun b q12 q576 => (congrFun ef_760 b).trans ((up_ne (fun e9 => q576 (by rw [e9]; exact ka_3))).trans (hfr0 b q12 q576))
                  have hrA12 : ∀ b, kd b = 12 → ∀ j, fldR (f_760 b) j = fldR (f b) j := fun b kb j => (congrArg (fun x => fldR x j) ((congrFun ef_760 b).trans (up_ne (kd_ne ka_3 kb (by decide))))).trans (hrA12 b kb j)
                  have hfA12 : ∀ b, kd b = 12 → ∀ j, j ≠ 6 → j ≠ 7 → j ≠ 8 → j ≠ 11 → j ≠ 12 → j ≠ 13 → j ≠ 14 → fldI (f_760 b) j = fldI (f b) j := fun b kb j n6 n7 n8 n11 n12 n13 n14 => (congrArg (fun x => fldI x j) ((congrFun ef_760 b).trans (up_ne (kd_ne ka_3 kb (by decide))))).trans (hfA12 b kb j n6 n7 n8 n11 n12 n13 n14)
                  have hMm_194 : ∀ z9, fldI (f_760 o0) 6 = some z9 → v_8.toInt ≤ z9.toInt := by rw [ef_760]; exact (fun z9 h9 => hMm_194 z9 (by rw [up_ne (kd_ne ka_3 ko0 (by decide))] at h9; exact h9))
                  have hfo_762 : f_760 a_3 = .inl (cI, 1560, .inl g_758) := by rw [ef_760]; exact up_self
                  have ql_763 : x_757 = g_758 (Int32.toNatClampNeg 17) := by rw [eqg_758, pk_us]
                  refine lv_iconst (v := 1) hx hb dX12_ruled_232 (by decide) ?_
                  have hM9 := hMm_194 v_675 (by rw [hfo_761]; rfl)
                  exact W.zret (v := 1) (ty := .boolean) hx hb hr rfl (fun t ht hW => ⟨⟨1, f_760, rfl, ⟨hG, (by decide), hfr0, hrA12, hfA12, (by intro w6 z6 e6 d6; rw [hfo_1] at e6; rw [hfo_761] at d6; obtain rfl := Option.some.inj e6; obtain rfl := Option.some.inj d6; (try rw [ti_1]) <;> omega), (fun d9 h9 => by rw [hfo_761] at h9; obtain rfl := Option.some.inj h9; exact frel.mk ka_3 hfo_762 (by rw [eqg_758]; exact hF7c_755.same (hbg_748.2.1 16 (by decide) (by decide) (by decide)).2 (pk_un (by decide)) (pk_un (by decide)) (fun k9 h9 => pk_un (by have hc8 : Int32.toNatClampNeg 17 = 17 := rfl; omega)) (by rw [show (17 : Nat) = Int32.toNatClampNeg 17 from rfl, pk_us]; omega)))⟩, by rw [ht]; exact hP, va_K.moved hW.alike hK, pl_in hD⟩, hS.F ht⟩) hS.2.2 dX12_ruled_233
                · skip
                  rw [← Int32.toInt_inj, ti_0] at c_665
                  have hclc_764 : (0 ≤ y_662.toInt ∧ y_662.toInt ≤ 2) := by constructor <;> omega
                  refine lv_aload_n hx hb dX12_ruled_97 rfl (lv_at hl 4 rfl) ?_
                  refine lv_iconst (v := 3) hx hb dX12_ruled_98 (by decide) ?_
                  refine lv_iload_n hx hb dX12_ruled_99 rfl (lv_at hl 3 rfl) ?_
                  refine lv_imul hx hb dX12_ruled_100 ?_
                  refine lv_topi (fun x_765 ex_765 => ?_)
                  have hx_765 : x_765.toInt = 3 * x_60.toInt := by rw [ex_765, ml_I (by rw [ti_3]; omega) (by rw [ti_3]; omega), ti_3]
                  have bx_765 : (0 ≤ x_765.toInt ∧ x_765.toInt ≤ 21) := by constructor <;> omega
                  refine lv_iload_n hx hb dX12_ruled_101 rfl (lv_at hl 1 rfl) ?_
                  refine lv_iadd hx hb dX12_ruled_102 ?_
                  refine lv_topi (fun x_766 ex_766 => ?_)
                  have hx_766 : x_766.toInt = x_765.toInt + y_662.toInt := by rw [ex_766, ad_I (by omega) (by omega)]
                  have bx_766 : (0 ≤ x_766.toInt ∧ x_766.toInt ≤ 23) := by constructor <;> omega
                  obtain ⟨a_768, a_769, a_770, v_771, a_772, v_773, v_774, v_775, v_776, v_777, v_778, v_779, v_780, v_781, v_782, a_783, a_784, a_785, a_786, a_787, a_788, a_789, a_790, v_791, v_792, v_793, v_794, v_795, a_796, v_797, a_798, a_799, v_800, v_801, a_802, v_803, a_804, a_805, v_806, v_807, a_808, a_809, a_810, v_811, a_812, a_813, a_814, a_815, a_816, a_817, a_818, a_819, a_820, v_821, v_822, a_823, hfo_767, ⟨ma_768, ka_768⟩, ⟨ma_769, ka_769⟩, ⟨ma_770, ka_770⟩, bv_771, ⟨ma_772, ka_772⟩, bv_773, bv_774, bv_779, bv_780, bv_781, ⟨ma_783, ka_783⟩, ⟨ma_784, ka_784⟩, ⟨ma_785, ka_785⟩, ⟨ma_786, ka_786⟩, ⟨ma_787, ka_787⟩, ⟨ma_788, ka_788⟩, ⟨ma_789, ka_789⟩, ⟨ma_790, ka_790⟩, bv_791, bv_793, bv_795, ⟨ma_796, ka_796⟩, bv_797, ⟨ma_798, ka_798⟩, ⟨ma_799, ka_799⟩, bv_800, ⟨ma_802, ka_802⟩, bv_803, ⟨ma_804, ka_804⟩, ⟨ma_805, ka_805⟩, bv_806, ⟨ma_808, ka_808⟩, ⟨ma_809, ka_809⟩, ⟨ma_810, ka_810⟩, bv_811, ⟨ma_812, ka_812⟩, ⟨ma_813, ka_813⟩, ⟨ma_814, ka_814⟩, ⟨ma_815, ka_815⟩, ⟨ma_816, ka_816⟩, ⟨ma_817, ka_817⟩, ⟨ma_818, ka_818⟩, ⟨ma_819, ka_819⟩, ⟨ma_820, ka_820⟩, bv_821, ⟨ma_823, ka_823⟩⟩ := un_12 (hG _ mo0) ko0
                  have bv_775 : ((-2147483648) ≤ v_775.toInt ∧ v_775.toInt ≤ 2147483647) := ⟨i32_lo _, i32_hi _⟩
                  have bv_776 : ((-2147483648) ≤ v_776.toInt ∧ v_776.toInt ≤ 2147483647) := ⟨i32_lo _, i32_hi _⟩
                  have bv_777 : ((-2147483648) ≤ v_777.toInt ∧ v_777.toInt ≤ 2147483647) := ⟨i32_lo _, i32_hi _⟩
                  have bv_778 : ((-2147483648) ≤ v_778.toInt ∧ v_778.toInt ≤ 2147483647) := ⟨i32_lo _, i32_hi _⟩
                  have bv_782 : ((-2147483648) ≤ v_782.toInt ∧ v_782.toInt ≤ 2147483647) := ⟨i32_lo _, i32_hi _⟩
                  have bv_792 : ((-2147483648) ≤ v_792.toInt ∧ v_792.toInt ≤ 2147483647) := ⟨i32_lo _, i32_hi _⟩
                  have bv_794 : ((-2147483648) ≤ v_794.toInt ∧ v_794.toInt ≤ 2147483647) := ⟨i32_lo _, i32_hi _⟩
                  have bv_801 : ((-2147483648) ≤ v_801.toInt ∧ v_801.toInt ≤ 2147483647) := ⟨i32_lo _, i32_hi _⟩
                  have bv_807 : ((-2147483648) ≤ v_807.toInt ∧ v_807.toInt ≤ 2147483647) := ⟨i32_lo _, i32_hi _⟩
                  have bv_822 : ((-2147483648) ≤ v_822.toInt ∧ v_822.toInt ≤ 2147483647) := ⟨i32_lo _, i32_hi _⟩
                  obtain ⟨rfl, rfl, rfl, rfl, rfl, rfl, rfl, rfl, rfl, rfl, rfl, rfl, rfl, rfl, rfl, rfl, rfl, rfl, rfl, rfl, rfl, rfl, rfl, rfl, rfl, rfl, rfl, rfl, rfl, rfl, rfl⟩ := re_12 hfo_1 hfo_767 (hrA12 o0 ko0)
                  obtain rfl := ri_12_3 hfo_1 hfo_767 (hfA12 o0 ko0 3 (by decide) (by decide) (by decide) (by decide) (by decide) (by decide) (by decide))
                  obtain rfl := ri_12_5 hfo_1 hfo_767 (hfA12 o0 ko0 5 (by decide) (by decide) (by decide) (by decide) (by decide) (by decide) (by decide))
                  obtain rfl := ri_12_23 hfo_1 hfo_767 (hfA12 o0 ko0 23 (by decide) (by decide) (by decide) (by decide) (by decide) (by decide) (by decide))
                  obtain rfl := ri_12_25 hfo_1 hfo_767 (hfA12 o0 ko0 25 (by decide) (by decide) (by decide) (by decide) (by decide) (by decide) (by decide))
                  obtain rfl := ri_12_27 hfo_1 hfo_767 (hfA12 o0 ko0 27 (by decide) (by decide) (by decide) (by decide) (by decide) (by decide) (by decide))
                  obtain rfl := ri_12_29 hfo_1 hfo_767 (hfA12 o0 ko0 29 (by decide) (by decide) (by decide) (by decide) (by decide) (by decide) (by decide))
                  obtain rfl := ri_12_32 hfo_1 hfo_767 (hfA12 o0 ko0 32 (by decide) (by decide) (by decide) (by decide) (by decide) (by decide) (by decide))
                  obtain rfl := ri_12_33 hfo_1 hfo_767 (hfA12 o0 ko0 33 (by decide) (by decide) (by decide) (by decide) (by decide) (by decide) (by decide))
                  obtain rfl := ri_12_35 hfo_1 hfo_767 (hfA12 o0 ko0 35 (by decide) (by decide) (by decide) (by decide) (by decide) (by decide) (by decide))
                  obtain rfl := ri_12_38 hfo_1 hfo_767 (hfA12 o0 ko0 38 (by decide) (by decide) (by decide) (by decide) (by decide) (by decide) (by decide))
                  obtain rfl := ri_12_43 hfo_1 hfo_767 (hfA12 o0 ko0 43 (by decide) (by decide) (by decide) (by decide) (by decide) (by decide) (by decide))
                  obtain rfl := ri_12_53 hfo_1 hfo_767 (hfA12 o0 ko0 53 (by decide) (by decide) (by decide) (by decide) (by decide) (by decide) (by decide))
                  refine tk_ViP (As := [.int x_766]) (rest := []) (n := 1) hx hb hml hown hU hN hZ (s_X12_context_k12 l (dC, dI) cI cL cZ cR cG cH Z kd L f_664 hG o0 mo0 ko0 x_766 (by constructor <;> omega) (fun d9 h9 => by rw [hfo_767] at h9; obtain rfl := Option.some.inj h9; exact hT_128)) wd_639 wd_640 wd_641 wd_5 wd_642 (by decide +kernel) ⟨Nat.le_of_ble_eq_true rfl, Nat.le_of_ble_eq_true rfl⟩ hK hP hD hS mo0 hfo_767 12 rfl rfl rfl hl.1 rfl (Nat.le_of_ble_eq_true rfl) dX12_ruled_103 ⟨Nat.le_of_ble_eq_true rfl, Nat.le_of_ble_eq_true rfl⟩ (fun x_824 f_825 H locs hw hP hD hS => ?_)
                  obtain ⟨hG, bx_824, hkc_826, hra_827, hfa_828, hpost_829, hTc_830⟩ := hw
                  have hfr0 : ∀ b, kd b ≠ 12 → kd b ≠ 576 → f_825 b = f b := fun b q12 q576 => (hkc_826 b q12 q576).trans (hfr0 b q12 q576)
                  have hrA12 : ∀ b, kd b = 12 → ∀ j, fldR (f_825 b) j = fldR (f b) j := fun b kb j => (hra_827 b kb j).trans (hrA12 b kb j)
                  have hfA12 : ∀ b, kd b = 12 → ∀ j, j ≠ 6 → j ≠ 7 → j ≠ 8 → j ≠ 11 → j ≠ 12 → j ≠ 13 → j ≠ 14 → fldI (f_825 b) j = fldI (f b) j := fun b kb j n6 n7 n8 n11 n12 n13 n14 => (hfa_828 b kb j n6 n7 n8 n14).trans (hfA12 b kb j n6 n7 n8 n11 n12 n13 n14)
                  obtain ⟨a_833, a_834, a_835, v_836, a_837, v_838, v_839, v_840, v_841, v_842, v_843, v_844, v_845, v_846, v_847, a_848, a_849, a_850, a_851, a_852, a_853, a_854, a_855, v_856, v_857, v_858, v_859, v_860, a_861, v_862, a_863, a_864, v_865, v_866, a_867, v_868, a_869, a_870, v_871, v_872, a_873, a_874, a_875, v_876, a_877, a_878, a_879, a_880, a_881, a_882, a_883, a_884, a_885, v_886, v_887, a_888, hfo_832, ⟨ma_833, ka_833⟩, ⟨ma_834, ka_834⟩, ⟨ma_835, ka_835⟩, bv_836, ⟨ma_837, ka_837⟩, bv_838, bv_839, bv_844, bv_845, bv_846, ⟨ma_848, ka_848⟩, ⟨ma_849, ka_849⟩, ⟨ma_850, ka_850⟩, ⟨ma_851, ka_851⟩, ⟨ma_852, ka_852⟩, ⟨ma_853, ka_853⟩, ⟨ma_854, ka_854⟩, ⟨ma_855, ka_855⟩, bv_856, bv_858, bv_860, ⟨ma_861, ka_861⟩, bv_862, ⟨ma_863, ka_863⟩, ⟨ma_864, ka_864⟩, bv_865, ⟨ma_867, ka_867⟩, bv_868, ⟨ma_869, ka_869⟩, ⟨ma_870, ka_870⟩, bv_871, ⟨ma_873, ka_873⟩, ⟨ma_874, ka_874⟩, ⟨ma_875, ka_875⟩, bv_876, ⟨ma_877, ka_877⟩, ⟨ma_878, ka_878⟩, ⟨ma_879, ka_879⟩, ⟨ma_880, ka_880⟩, ⟨ma_881, ka_881⟩, ⟨ma_882, ka_882⟩, ⟨ma_883, ka_883⟩, ⟨ma_884, ka_884⟩, ⟨ma_885, ka_885⟩, bv_886, ⟨ma_888, ka_888⟩⟩ := un_12 (hG _ mo0) ko0
                  have bv_840 : ((-2147483648) ≤ v_840.toInt ∧ v_840.toInt ≤ 2147483647) := ⟨i32_lo _, i32_hi _⟩
                  have bv_841 : ((-2147483648) ≤ v_841.toInt ∧ v_841.toInt ≤ 2147483647) := ⟨i32_lo _, i32_hi _⟩
                  have bv_842 : ((-2147483648) ≤ v_842.toInt ∧ v_842.toInt ≤ 2147483647) := ⟨i32_lo _, i32_hi _⟩
                  have bv_843 : ((-2147483648) ≤ v_843.toInt ∧ v_843.toInt ≤ 2147483647) := ⟨i32_lo _, i32_hi _⟩
                  have bv_847 : ((-2147483648) ≤ v_847.toInt ∧ v_847.toInt ≤ 2147483647) := ⟨i32_lo _, i32_hi _⟩
                  have bv_857 : ((-2147483648) ≤ v_857.toInt ∧ v_857.toInt ≤ 2147483647) := ⟨i32_lo _, i32_hi _⟩
                  have bv_859 : ((-2147483648) ≤ v_859.toInt ∧ v_859.toInt ≤ 2147483647) := ⟨i32_lo _, i32_hi _⟩
                  have bv_866 : ((-2147483648) ≤ v_866.toInt ∧ v_866.toInt ≤ 2147483647) := ⟨i32_lo _, i32_hi _⟩
                  have bv_872 : ((-2147483648) ≤ v_872.toInt ∧ v_872.toInt ≤ 2147483647) := ⟨i32_lo _, i32_hi _⟩
                  have bv_887 : ((-2147483648) ≤ v_887.toInt ∧ v_887.toInt ≤ 2147483647) := ⟨i32_lo _, i32_hi _⟩
                  obtain ⟨rfl, rfl, rfl, rfl, rfl, rfl, rfl, rfl, rfl, rfl, rfl, rfl, rfl, rfl, rfl, rfl, rfl, rfl, rfl, rfl, rfl, rfl, rfl, rfl, rfl, rfl, rfl, rfl, rfl, rfl, rfl⟩ := re_12 hfo_1 hfo_832 (hrA12 o0 ko0)
                  obtain rfl := ri_12_3 hfo_1 hfo_832 (hfA12 o0 ko0 3 (by decide) (by decide) (by decide) (by decide) (by decide) (by decide) (by decide))
                  obtain rfl := ri_12_5 hfo_1 hfo_832 (hfA12 o0 ko0 5 (by decide) (by decide) (by decide) (by decide) (by decide) (by decide) (by decide))
                  obtain rfl := ri_12_23 hfo_1 hfo_832 (hfA12 o0 ko0 23 (by decide) (by decide) (by decide) (by decide) (by decide) (by decide) (by decide))
                  obtain rfl := ri_12_25 hfo_1 hfo_832 (hfA12 o0 ko0 25 (by decide) (by decide) (by decide) (by decide) (by decide) (by decide) (by decide))
                  obtain rfl := ri_12_27 hfo_1 hfo_832 (hfA12 o0 ko0 27 (by decide) (by decide) (by decide) (by decide) (by decide) (by decide) (by decide))
                  obtain rfl := ri_12_29 hfo_1 hfo_832 (hfA12 o0 ko0 29 (by decide) (by decide) (by decide) (by decide) (by decide) (by decide) (by decide))
                  obtain rfl := ri_12_32 hfo_1 hfo_832 (hfA12 o0 ko0 32 (by decide) (by decide) (by decide) (by decide) (by decide) (by decide) (by decide))
                  obtain rfl := ri_12_33 hfo_1 hfo_832 (hfA12 o0 ko0 33 (by decide) (by decide) (by decide) (by decide) (by decide) (by decide) (by decide))
                  obtain rfl := ri_12_35 hfo_1 hfo_832 (hfA12 o0 ko0 35 (by decide) (by decide) (by decide) (by decide) (by decide) (by decide) (by decide))
                  obtain rfl := ri_12_38 hfo_1 hfo_832 (hfA12 o0 ko0 38 (by decide) (by decide) (by decide) (by decide) (by decide) (by decide) (by decide))
                  obtain rfl := ri_12_43 hfo_1 hfo_832 (hfA12 o0 ko0 43 (by decide) (by decide) (by decide) (by decide) (by decide) (by decide) (by decide))
                  obtain rfl := ri_12_53 hfo_1 hfo_832 (hfA12 o0 ko0 53 (by decide) (by decide) (by decide) (by decide) (by decide) (by decide) (by decide))
                  obtain rfl := ri_12_11 hfo_767 hfo_832 (hfa_828 o0 ko0 11 (by decide) (by decide) (by decide) (by decide))
                  obtain rfl := ri_12_12 hfo_767 hfo_832 (hfa_828 o0 ko0 12 (by decide) (by decide) (by decide) (by decide))
                  obtain rfl := ri_12_13 hfo_767 hfo_832 (hfa_828 o0 ko0 13 (by decide) (by decide) (by decide) (by decide))
                  have hqhpost_829 := hpost_829 v_774 v_839 (by rw [hfo_767]; rfl) (by rw [hfo_832]; rfl)
                  have hMm_889 : ∀ z9, fldI (f_825 o0) 6 = some z9 → v_8.toInt ≤ z9.toInt := fun z9 h9 => by rw [hfo_832] at h9; obtain rfl := Option.some.inj h9; have h8 := hMm_194 v_774 (by rw [hfo_767]; rfl); omega
                  have hT_890 := hTc_830 a_3 (by rw [hfo_832]; rfl)
                  refine lv_if_ne (tgt := 111) hx hb dX12_ruled_106 (by decide) (fun c_891 => ?_) (fun c_891 => ?_)
                  · skip
                    rw [← Int32.toInt_inj, ti_0] at c_891
                    obtain ⟨x_892, ex_892⟩ : ∃ y : Int32, y_662 + 1 = y := ⟨_, rfl⟩
                    have hx_892 : x_892.toInt = y_662.toInt + 1 := by rw [← ex_892, ad_I (by rw [ti_1]; omega) (by rw [ti_1]; omega), ti_1]
                    have bx_892 : (1 ≤ x_892.toInt ∧ x_892.toInt ≤ 3) := by constructor <;> omega
                    refine lv_iinc (v := x_892) (lv' := [(3, .int x_892), (4, .int y_661), (2, .int x_130), (1, .int x_60), (0, .ref o0)]) hx hb dX12_ruled_111 hl (k := 1) rfl ex_892 (by decide) rfl (fun ls hl => ?_)
                    refine lv_aload_n hx hb dX12_ruled_114 rfl (lv_at hl 4 rfl) ?_
                    refine tk_ViP (As := []) (rest := []) (n := 0) hx hb hml hown hU hN hZ (s_X12_sign_k12 l (dC, dI) cI cL cZ cR cG cH Z kd L f_825 hG o0 mo0 ko0) wd_573 wd_574 wd_575 wd_5 wd_576 (by decide +kernel) ⟨Nat.le_of_ble_eq_true rfl, Nat.le_of_ble_eq_true rfl⟩ hK hP hD hS mo0 hfo_832 12 rfl rfl rfl hl.1 rfl (Nat.le_of_ble_eq_true rfl) dX12_ruled_115 ⟨Nat.le_of_ble_eq_true rfl, Nat.le_of_ble_eq_true rfl⟩ (fun x_893 f_894 H locs hw hP hD hS => ?_)
                    obtain ⟨hG, bx_893, hkc_895, hra_896, hfa_897, hpost_898⟩ := hw
                    have hfr0 : ∀ b, kd b ≠ 12 → kd b ≠ 576 → f_894 b = f b := fun b q12 q576 => (hkc_895 b q12).trans (hfr0 b q12 q576)
                    have hrA12 : ∀ b, kd b = 12 → ∀ j, fldR (f_894 b) j = fldR (f b) j := fun b kb j => (hra_896 b kb j).trans (hrA12 b kb j)
                    have hfA12 : ∀ b, kd b = 12 → ∀ j, j ≠ 6 → j ≠ 7 → j ≠ 8 → j ≠ 11 → j ≠ 12 → j ≠ 13 → j ≠ 14 → fldI (f_894 b) j = fldI (f b) j := fun b kb j n6 n7 n8 n11 n12 n13 n14 => (hfa_897 b kb j n6).trans (hfA12 b kb j n6 n7 n8 n11 n12 n13 n14)
                    have hT_890 : frel kd 576 7 f_894 a_3 := hT_890.keep (fun b q => hkc_895 b (by rw [q]; decide))
                    obtain ⟨a_901, a_902, a_903, v_904, a_905, v_906, v_907, v_908, v_909, v_910, v_911, v_912, v_913, v_914, v_915, a_916, a_917, a_918, a_919, a_920, a_921, a_922, a_923, v_924, v_925, v_926, v_927, v_928, a_929, v_930, a_931, a_932, v_933, v_934, a_935, v_936, a_937, a_938, v_939, v_940, a_941, a_942, a_943, v_944, a_945, a_946, a_947, a_948, a_949, a_950, a_951, a_952, a_953, v_954, v_955, a_956, hfo_900, ⟨ma_901, ka_901⟩, ⟨ma_902, ka_902⟩, ⟨ma_903, ka_903⟩, bv_904, ⟨ma_905, ka_905⟩, bv_906, bv_907, bv_912, bv_913, bv_914, ⟨ma_916, ka_916⟩, ⟨ma_917, ka_917⟩, ⟨ma_918, ka_918⟩, ⟨ma_919, ka_919⟩, ⟨ma_920, ka_920⟩, ⟨ma_921, ka_921⟩, ⟨ma_922, ka_922⟩, ⟨ma_923, ka_923⟩, bv_924, bv_926, bv_928, ⟨ma_929, ka_929⟩, bv_930, ⟨ma_931, ka_931⟩, ⟨ma_932, ka_932⟩, bv_933, ⟨ma_935, ka_935⟩, bv_936, ⟨ma_937, ka_937⟩, ⟨ma_938, ka_938⟩, bv_939, ⟨ma_941, ka_941⟩, ⟨ma_942, ka_942⟩, ⟨ma_943, ka_943⟩, bv_944, ⟨ma_945, ka_945⟩, ⟨ma_946, ka_946⟩, ⟨ma_947, ka_947⟩, ⟨ma_948, ka_948⟩, ⟨ma_949, ka_949⟩, ⟨ma_950, ka_950⟩, ⟨ma_951, ka_951⟩, ⟨ma_952, ka_952⟩, ⟨ma_953, ka_953⟩, bv_954, ⟨ma_956, ka_956⟩⟩ := un_12 (hG _ mo0) ko0
                    have bv_908 : ((-2147483648) ≤ v_908.toInt ∧ v_908.toInt ≤ 2147483647) := ⟨i32_lo _, i32_hi _⟩
                    have bv_909 : ((-2147483648) ≤ v_909.toInt ∧ v_909.toInt ≤ 2147483647) := ⟨i32_lo _, i32_hi _⟩
                    have bv_910 : ((-2147483648) ≤ v_910.toInt ∧ v_910.toInt ≤ 2147483647) := ⟨i32_lo _, i32_hi _⟩
                    have bv_911 : ((-2147483648) ≤ v_911.toInt ∧ v_911.toInt ≤ 2147483647) := ⟨i32_lo _, i32_hi _⟩
                    have bv_915 : ((-2147483648) ≤ v_915.toInt ∧ v_915.toInt ≤ 2147483647) := ⟨i32_lo _, i32_hi _⟩
                    have bv_925 : ((-2147483648) ≤ v_925.toInt ∧ v_925.toInt ≤ 2147483647) := ⟨i32_lo _, i32_hi _⟩
                    have bv_927 : ((-2147483648) ≤ v_927.toInt ∧ v_927.toInt ≤ 2147483647) := ⟨i32_lo _, i32_hi _⟩
                    have bv_934 : ((-2147483648) ≤ v_934.toInt ∧ v_934.toInt ≤ 2147483647) := ⟨i32_lo _, i32_hi _⟩
                    have bv_940 : ((-2147483648) ≤ v_940.toInt ∧ v_940.toInt ≤ 2147483647) := ⟨i32_lo _, i32_hi _⟩
                    have bv_955 : ((-2147483648) ≤ v_955.toInt ∧ v_955.toInt ≤ 2147483647) := ⟨i32_lo _, i32_hi _⟩
                    obtain ⟨rfl, rfl, rfl, rfl, rfl, rfl, rfl, rfl, rfl, rfl, rfl, rfl, rfl, rfl, rfl, rfl, rfl, rfl, rfl, rfl, rfl, rfl, rfl, rfl, rfl, rfl, rfl, rfl, rfl, rfl, rfl⟩ := re_12 hfo_1 hfo_900 (hrA12 o0 ko0)
                    obtain rfl := ri_12_3 hfo_1 hfo_900 (hfA12 o0 ko0 3 (by decide) (by decide) (by decide) (by decide) (by decide) (by decide) (by decide))
                    obtain rfl := ri_12_5 hfo_1 hfo_900 (hfA12 o0 ko0 5 (by decide) (by decide) (by decide) (by decide) (by decide) (by decide) (by decide))
                    obtain rfl := ri_12_23 hfo_1 hfo_900 (hfA12 o0 ko0 23 (by decide) (by decide) (by decide) (by decide) (by decide) (by decide) (by decide))
                    obtain rfl := ri_12_25 hfo_1 hfo_900 (hfA12 o0 ko0 25 (by decide) (by decide) (by decide) (by decide) (by decide) (by decide) (by decide))
                    obtain rfl := ri_12_27 hfo_1 hfo_900 (hfA12 o0 ko0 27 (by decide) (by decide) (by decide) (by decide) (by decide) (by decide) (by decide))
                    obtain rfl := ri_12_29 hfo_1 hfo_900 (hfA12 o0 ko0 29 (by decide) (by decide) (by decide) (by decide) (by decide) (by decide) (by decide))
                    obtain rfl := ri_12_32 hfo_1 hfo_900 (hfA12 o0 ko0 32 (by decide) (by decide) (by decide) (by decide) (by decide) (by decide) (by decide))
                    obtain rfl := ri_12_33 hfo_1 hfo_900 (hfA12 o0 ko0 33 (by decide) (by decide) (by decide) (by decide) (by decide) (by decide) (by decide))
                    obtain rfl := ri_12_35 hfo_1 hfo_900 (hfA12 o0 ko0 35 (by decide) (by decide) (by decide) (by decide) (by decide) (by decide) (by decide))
                    obtain rfl := ri_12_38 hfo_1 hfo_900 (hfA12 o0 ko0 38 (by decide) (by decide) (by decide) (by decide) (by decide) (by decide) (by decide))
                    obtain rfl := ri_12_43 hfo_1 hfo_900 (hfA12 o0 ko0 43 (by decide) (by decide) (by decide) (by decide) (by decide) (by decide) (by decide))
                    obtain rfl := ri_12_53 hfo_1 hfo_900 (hfA12 o0 ko0 53 (by decide) (by decide) (by decide) (by decide) (by decide) (by decide) (by decide))
                    obtain rfl := ri_12_11 hfo_832 hfo_900 (hfa_897 o0 ko0 11 (by decide))
                    obtain rfl := ri_12_12 hfo_832 hfo_900 (hfa_897 o0 ko0 12 (by decide))
                    obtain rfl := ri_12_13 hfo_832 hfo_900 (hfa_897 o0 ko0 13 (by decide))
                    obtain rfl := ri_12_14 hfo_832 hfo_900 (hfa_897 o0 ko0 14 (by decide))
                    have hqhpost_898 := hpost_898 v_839 v_907 (by rw [hfo_832]; rfl) (by rw [hfo_900]; rfl)
                    have hMm_957 : ∀ z9, fldI (f_894 o0) 6 = some z9 → v_8.toInt ≤ z9.toInt := fun z9 h9 => by rw [hfo_900] at h9; obtain rfl := Option.some.inj h9; have h8 := hMm_889 v_839 (by rw [hfo_832]; rfl); omega
                    refine lv_bipush (v := 124) hx hb dX12_ruled_118 (by decide) ?_
                    have hcut_959 : ∀ (y_958 : Int32), (0 ≤ y_958.toInt ∧ y_958.toInt ≤ 1) → ∀ (ls : Array Slot), lv_has ls 6 [(3, .int x_892), (4, .int y_661), (2, .int x_130), (1, .int x_60), (0, .ref o0)] → W p l e (headSpec (wU yX12_ruled cX12_ruled 6 (some .boolean)) { frames := 7, cells := 0, slots := 0, locals := 150 }).room s m [.ref o0].toArray below meth c H locs 0 0 (MQ below (va_Qi (fun (r : Int32) (f9 : Nat → va_E) => GI (okc cI cL cZ cR cG cH L kd) kd L f9 ∧ (0 ≤ r.toInt ∧ r.toInt ≤ 1) ∧ (∀ b, kd b ≠ 12 → kd b ≠ 576 → f9 b = f b) ∧ (∀ b, kd b = 12 → ∀ j, fldR (f9 b) j = fldR (f b) j) ∧ (∀ b, kd b = 12 → ∀ j, j ≠ 6 → j ≠ 7 → j ≠ 8 → j ≠ 11 → j ≠ 12 → j ≠ 13 → j ≠ 14 → fldI (f9 b) j = fldI (f b) j) ∧ (∀ (w6 z6 : Int32), fldI (f o0) 6 = some w6 → fldI (f9 o0) 6 = some z6 → w6.toInt ≤ z6.toInt) ∧ (∀ d9, fldR (f9 o0) 1 = some d9 → frel kd 576 8 f9 d9)) (qP (dC, dI) cI cL cZ cR cG cH L) (fun q => q ∈ L)) [.ref o0].toArray s 0 0 (fun q => q ∈ L)) (F0 m 128 ls [.int y_958]) := by
                      intro y_958 by_958 ls hl
                      refine lv_istore (lv' := [(4, .int y_958), (3, .int x_892), (2, .int x_130), (1, .int x_60), (0, .ref o0)]) hx hb dX12_ruled_128 hl (by decide) rfl (fun ls hl => ?_)
                      refine lv_iload hx hb dX12_ruled_130 (lv_at hl 0 rfl) ?_
                      refine lv_if_eq (tgt := 150) hx hb dX12_ruled_132 (by decide) (fun c_960 => ?_) (fun c_960 => ?_)
                      · skip
                        rw [← Int32.toInt_inj, ti_0] at c_960
                        refine lv_iload hx hb dX12_ruled_150 (lv_at hl 0 rfl) ?_
                        refine lv_if_eq (tgt := 92) hx hb dX12_ruled_152 (by decide) (fun c_961 => ?_) (fun c_961 => ?_)
                        · skip
                          rw [← Int32.toInt_inj, ti_0] at c_961
                          exact ih_hloop_660 y_958 (by constructor <;> omega) x_892 (by constructor <;> omega) f_894 hG _ _ hP hS hD hfr0 hrA12 hfA12 hT_890 hMm_957 (by omega) (by omega) ls (lv_sub hl [0, 1, 2, 3, 4] rfl)
                        · skip
                          rw [← Int32.toInt_inj, ti_0] at c_961
                          exfalso
                          omega
                      · skip
                        rw [← Int32.toInt_inj, ti_0] at c_960
                        refine lv_iload_n hx hb dX12_ruled_135 rfl (lv_at hl 1 rfl) ?_
                        refine lv_iconst (v := 3) hx hb dX12_ruled_136 (by decide) ?_
                        refine lv_icmp_ne (tgt := 150) hx hb dX12_ruled_137 (by decide) (fun c_962 => ?_) (fun c_962 => ?_)
                        · skip
                          rw [← Int32.toInt_inj, ti_3] at c_962
                          refine lv_iload hx hb dX12_ruled_150 (lv_at hl 0 rfl) ?_
                          refine lv_if_eq (tgt := 92) hx hb dX12_ruled_152 (by decide) (fun c_963 => ?_) (fun c_963 => ?_)
                          · skip
                            rw [← Int32.toInt_inj, ti_0] at c_963
                            exfalso
                            omega
                          · skip
                            rw [← Int32.toInt_inj, ti_0] at c_963
                            have hclc_964 : (0 ≤ v_907.toInt ∧ v_907.toInt ≤ 599) := by constructor <;> omega
                            refine lv_aload_n hx hb dX12_ruled_155 rfl (lv_at hl 4 rfl) ?_
                            refine lv_dup hx hb dX12_ruled_156 rfl ?_
                            refine tk_getP (D := (dC, dI)) (ci := 12) (v := .int v_907) (C := RX12) (T := TX12) (N := 56) hx hb hU inlX12 hown hK hP mo0 hfo_900 rfl 6 (by decide) (hU _ wd_566) (fun _ h9 => h9) rfl dX12_ruled_157 ?_
                            refine lv_iconst (v := 1) hx hb dX12_ruled_160 (by decide) ?_
                            refine lv_iadd hx hb dX12_ruled_161 ?_
                            refine lv_topi (fun x_965 ex_965 => ?_)
                            have hx_965 : x_965.toInt = v_907.toInt + 1 := by rw [ex_965, ad_I (by rw [ti_1]; omega) (by rw [ti_1]; omega), ti_1]
                            have bx_965 : (1 ≤ x_965.toInt ∧ x_965.toInt ≤ 600) := by constructor <;> omega
                            refine tk_putP (D := (dC, dI)) (ci := 12) (v := .int x_965) (ty := .int) (C := RX12) (T := TX12) (N := 56) hx hb hU inlX12 tyX12 tyX12_ok nmX12 hown hK hP hD hS mo0 hfo_900 rfl 6 (by decide) (hU _ wd_566) (fun _ h9 => h9) rfl (by decide +kernel) rfl rfl (Nat.le_of_ble_eq_true rfl) dX12_ruled_162 (fun H locs hP hD hS => ?_)
                            obtain ⟨f_967, ef_967⟩ : ∃ y : Nat → va_E, y = va_up f_894 o0 (.inr (12, [.ref a_2, .ref a_3, .ref a_4, .int v_5, .ref a_6, .int v_7, .int x_965, .int v_908, .int v_909, .int v_910, .int v_911, .int v_779, .int v_780, .int v_781, .int v_847, .ref a_17, .ref a_18, .ref a_19, .ref a_20, .ref a_21, .ref a_22, .ref a_23, .ref a_24, .int v_25, .int v_925, .int v_27, .int v_927, .int v_29, .ref a_30, .int v_31, .ref a_32, .ref a_33, .int v_34, .int v_35, .ref a_36, .int v_37, .ref a_38, .ref a_39, .int v_40, .int v_940, .ref a_42, .ref a_43, .ref a_44, .int v_45, .ref a_46, .ref a_47, .ref a_48, .ref a_49, .ref a_50, .ref a_51, .ref a_52, .ref a_53, .ref a_54, .int v_55, .int v_955, .ref a_57])) := ⟨_, rfl⟩
                            have hP : va_P (dC, dI) vwCl (va_pl L f_967) H := by rw [ef_967]; exact hP
                            have hD : va_D (fun q => q ∈ L) (va_pl L f_967) := by rw [ef_967]; exact hD
                            have hG : GI (okc cI cL cZ cR cG cH L kd) kd L f_967 := by rw [ef_967]; exact hG.set o0 (mk_12 ko0 ⟨a_2, a_3, a_4, v_5, a_6, v_7, x_965, v_908, v_909, v_910, v_911, v_779, v_780, v_781, v_847, a_17, a_18, a_19, a_20, a_21, a_22, a_23, a_24, v_25, v_925, v_27, v_927, v_29, a_30, v_31, a_32, a_33, v_34, v_35, a_36, v_37, a_38, a_39, v_40, v_940, a_42, a_43, a_44, v_45, a_46, a_47, a_48, a_49, a_50, a_51, a_52, a_53, a_54, v_55, v_955, a_57, rfl, ⟨ma_2, ka_2⟩, ⟨ma_3, ka_3⟩, ⟨ma_4, ka_4⟩, (by constructor <;> omega), ⟨ma_6, ka_6⟩, (by constructor <;> omega), (by constructor <;> omega), (by constructor <;> omega), (by constructor <;> omega), (by constructor <;> omega), ⟨ma_17, ka_17⟩, ⟨ma_18, ka_18⟩, ⟨ma_19, ka_19⟩, ⟨ma_20, ka_20⟩, ⟨ma_21, ka_21⟩, ⟨ma_22, ka_22⟩, ⟨ma_23, ka_23⟩, ⟨ma_24, ka_24⟩, (by constructor <;> omega), (by constructor <;> omega), (by constructor <;> omega), ⟨ma_30, ka_30⟩, (by constructor <;> omega), ⟨ma_32, ka_32⟩, ⟨ma_33, ka_33⟩, (by constructor <;> omega), ⟨ma_36, ka_36⟩, (by constructor <;> omega), ⟨ma_38, ka_38⟩, ⟨ma_39, ka_39⟩, (by constructor <;> omega), ⟨ma_42, ka_42⟩, ⟨ma_43, ka_43⟩, ⟨ma_44, ka_44⟩, (by constructor <;> omega), ⟨ma_46, ka_46⟩, ⟨ma_47, ka_47⟩, ⟨ma_48, ka_48⟩, ⟨ma_49, ka_49⟩, ⟨ma_50, ka_50⟩, ⟨ma_51, ka_51⟩, ⟨ma_52, ka_52⟩, ⟨ma_53, ka_53⟩, ⟨ma_54, ka_54⟩, (by constructor <;> omega), ⟨ma_57, ka_57⟩⟩)
                            have hfr0 : ∀ b, kd b ≠ 12 → kd b ≠ 576 → f_967 b = f b := fun b q12 q576 => (congrFun ef_967 b).trans ((up_ne (fun e9 => q12 (by rw [e9]; exact ko0))).trans (hfr0 b q12 q576))
                            have hrA12 : ∀ b, kd b = 12 → ∀ j, fldR (f_967 b) j = fldR (f b) j := fun b kb j => ((congrArg (fun x => fldR x j) (congrFun ef_967 b)).trans (fra_up (fun j => by rw [hfo_900]; exact fr_set (k := 6) rfl rfl j) j b)).trans (hrA12 b kb j)
                            have hfA12 : ∀ b, kd b = 12 → ∀ j, j ≠ 6 → j ≠ 7 → j ≠ 8 → j ≠ 11 → j ≠ 12 → j ≠ 13 → j ≠ 14 → fldI (f_967 b) j = fldI (f b) j := fun b kb j n6 n7 n8 n11 n12 n13 n14 => ((congrArg (fun x => fldI x j) (congrFun ef_967 b)).trans (fia_up (fun h9 => by rw [hfo_900]; exact fi_set (k := 6) rfl h9) n6 b)).trans (hfA12 b kb j n6 n7 n8 n11 n12 n13 n14)
                            have hT_890 : frel kd 576 7 f_967 a_3 := by rw [ef_967]; exact hT_890.keep (fun b q => up_ne (kd_ne ko0 q (by decide)))
                            have hMm_957 : ∀ z9, fldI (f_967 o0) 6 = some z9 → v_8.toInt ≤ z9.toInt := by rw [ef_967]; exact (fun z9 h9 => by rw [up_self] at h9; obtain rfl := Option.some.inj h9; have h8 := hMm_957 v_907 (by rw [hfo_900]; rfl); omega)
                            have hfo_968 : f_967 o0 = .inr (12, [.ref a_2, .ref a_3, .ref a_4, .int v_5, .ref a_6, .int v_7, .int x_965, .int v_908, .int v_909, .int v_910, .int v_911, .int v_779, .int v_780, .int v_781, .int v_847, .ref a_17, .ref a_18, .ref a_19, .ref a_20, .ref a_21, .ref a_22, .ref a_23, .ref a_24, .int v_25, .int v_925, .int v_27, .int v_927, .int v_29, .ref a_30, .int v_31, .ref a_32, .ref a_33, .int v_34, .int v_35, .ref a_36, .int v_37, .ref a_38, .ref a_39, .int v_40, .int v_940, .ref a_42, .ref a_43, .ref a_44, .int v_45, .ref a_46, .ref a_47, .ref a_48, .ref a_49, .ref a_50, .ref a_51, .ref a_52, .ref a_53, .ref a_54, .int v_55, .int v_955, .ref a_57]) := by rw [ef_967]; exact up_self
                            refine lv_goto (tgt := 92) hx hb dX12_ruled_165 (by decide) ?_
                            exact ih_hloop_660 y_958 (by constructor <;> omega) x_892 (by constructor <;> omega) f_967 hG _ _ hP hS hD hfr0 hrA12 hfA12 hT_890 hMm_957 (by omega) (by omega) ls (lv_sub hl [0, 1, 2, 3, 4] rfl)
                        · skip
                          rw [← Int32.toInt_inj, ti_3] at c_962
                          refine lv_aload_n hx hb dX12_ruled_140 rfl (lv_at hl 4 rfl) ?_
                          refine lv_iconst (v := 3) hx hb dX12_ruled_141 (by decide) ?_
                          refine lv_aload_n hx hb dX12_ruled_142 rfl (lv_at hl 4 rfl) ?_
                          refine tk_getP (D := (dC, dI)) (ci := 12) (v := .int v_907) (C := RX12) (T := TX12) (N := 56) hx hb hU inlX12 hown hK hP mo0 hfo_900 rfl 6 (by decide) (hU _ wd_566) (fun _ h9 => h9) rfl dX12_ruled_143 ?_
                          refine tk_ViP (As := [.int 3, .int v_907]) (rest := []) (n := 2) hx hb hml hown hU hN hZ (s_X12_bad_k12 l (dC, dI) cI cL cZ cR cG cH Z kd L f_894 hG o0 mo0 ko0 3 v_907) wd_602 wd_603 wd_604 wd_5 wd_605 (by decide +kernel) ⟨Nat.le_of_ble_eq_true rfl, Nat.le_of_ble_eq_true rfl⟩ hK hP hD hS mo0 hfo_900 12 rfl rfl rfl hl.1 rfl (Nat.le_of_ble_eq_true rfl) dX12_ruled_146 ⟨Nat.le_of_ble_eq_true rfl, Nat.le_of_ble_eq_true rfl⟩ (fun x_969 f_970 H locs hw hP hD hS => ?_)
                          obtain ⟨hG, bx_969, hkc_971, hra_972, hfa_973⟩ := hw
                          have hfr0 : ∀ b, kd b ≠ 12 → kd b ≠ 576 → f_970 b = f b := fun b q12 q576 => (hkc_971 b q12).trans (hfr0 b q12 q576)
                          have hrA12 : ∀ b, kd b = 12 → ∀ j, fldR (f_970 b) j = fldR (f b) j := fun b kb j => (hra_972 b kb j).trans (hrA12 b kb j)
                          have hfA12 : ∀ b, kd b = 12 → ∀ j, j ≠ 6 → j ≠ 7 → j ≠ 8 → j ≠ 11 → j ≠ 12 → j ≠ 13 → j ≠ 14 → fldI (f_970 b) j = fldI (f b) j := fun b kb j n6 n7 n8 n11 n12 n13 n14 => (hfa_973 b kb j n7 n8).trans (hfA12 b kb j n6 n7 n8 n11 n12 n13 n14)
                          have hT_890 : frel kd 576 7 f_970 a_3 := hT_890.keep (fun b q => hkc_971 b (by rw [q]; decide))
                          have hMm_957 : ∀ z9, fldI (f_970 o0) 6 = some z9 → v_8.toInt ≤ z9.toInt := (fun z9 h9 => hMm_957 z9 (by rw [hfa_973 o0 ko0 6 (by decide) (by decide)] at h9; exact h9))
                          obtain ⟨a_976, a_977, a_978, v_979, a_980, v_981, v_982, v_983, v_984, v_985, v_986, v_987, v_988, v_989, v_990, a_991, a_992, a_993, a_994, a_995, a_996, a_997, a_998, v_999, v_1000, v_1001, v_1002, v_1003, a_1004, v_1005, a_1006, a_1007, v_1008, v_1009, a_1010, v_1011, a_1012, a_1013, v_1014, v_1015, a_1016, a_1017, a_1018, v_1019, a_1020, a_1021, a_1022, a_1023, a_1024, a_1025, a_1026, a_1027, a_1028, v_1029, v_1030, a_1031, hfo_975, ⟨ma_976, ka_976⟩, ⟨ma_977, ka_977⟩, ⟨ma_978, ka_978⟩, bv_979, ⟨ma_980, ka_980⟩, bv_981, bv_982, bv_987, bv_988, bv_989, ⟨ma_991, ka_991⟩, ⟨ma_992, ka_992⟩, ⟨ma_993, ka_993⟩, ⟨ma_994, ka_994⟩, ⟨ma_995, ka_995⟩, ⟨ma_996, ka_996⟩, ⟨ma_997, ka_997⟩, ⟨ma_998, ka_998⟩, bv_999, bv_1001, bv_1003, ⟨ma_1004, ka_1004⟩, bv_1005, ⟨ma_1006, ka_1006⟩, ⟨ma_1007, ka_1007⟩, bv_1008, ⟨ma_1010, ka_1010⟩, bv_1011, ⟨ma_1012, ka_1012⟩, ⟨ma_1013, ka_1013⟩, bv_1014, ⟨ma_1016, ka_1016⟩, ⟨ma_1017, ka_1017⟩, ⟨ma_1018, ka_1018⟩, bv_1019, ⟨ma_1020, ka_1020⟩, ⟨ma_1021, ka_1021⟩, ⟨ma_1022, ka_1022⟩, ⟨ma_1023, ka_1023⟩, ⟨ma_1024, ka_1024⟩, ⟨ma_1025, ka_1025⟩, ⟨ma_1026, ka_1026⟩, ⟨ma_1027, ka_1027⟩, ⟨ma_1028, ka_1028⟩, bv_1029, ⟨ma_1031, ka_1031⟩⟩ := un_12 (hG _ mo0) ko0
                          have bv_983 : ((-2147483648) ≤ v_983.toInt ∧ v_983.toInt ≤ 2147483647) := ⟨i32_lo _, i32_hi _⟩
                          have bv_984 : ((-2147483648) ≤ v_984.toInt ∧ v_984.toInt ≤ 2147483647) := ⟨i32_lo _, i32_hi _⟩
                          have bv_985 : ((-2147483648) ≤ v_985.toInt ∧ v_985.toInt ≤ 2147483647) := ⟨i32_lo _, i32_hi _⟩
                          have bv_986 : ((-2147483648) ≤ v_986.toInt ∧ v_986.toInt ≤ 2147483647) := ⟨i32_lo _, i32_hi _⟩
                          have bv_990 : ((-2147483648) ≤ v_990.toInt ∧ v_990.toInt ≤ 2147483647) := ⟨i32_lo _, i32_hi _⟩
                          have bv_1000 : ((-2147483648) ≤ v_1000.toInt ∧ v_1000.toInt ≤ 2147483647) := ⟨i32_lo _, i32_hi _⟩
                          have bv_1002 : ((-2147483648) ≤ v_1002.toInt ∧ v_1002.toInt ≤ 2147483647) := ⟨i32_lo _, i32_hi _⟩
                          have bv_1009 : ((-2147483648) ≤ v_1009.toInt ∧ v_1009.toInt ≤ 2147483647) := ⟨i32_lo _, i32_hi _⟩
                          have bv_1015 : ((-2147483648) ≤ v_1015.toInt ∧ v_1015.toInt ≤ 2147483647) := ⟨i32_lo _, i32_hi _⟩
                          have bv_1030 : ((-2147483648) ≤ v_1030.toInt ∧ v_1030.toInt ≤ 2147483647) := ⟨i32_lo _, i32_hi _⟩
                          obtain ⟨rfl, rfl, rfl, rfl, rfl, rfl, rfl, rfl, rfl, rfl, rfl, rfl, rfl, rfl, rfl, rfl, rfl, rfl, rfl, rfl, rfl, rfl, rfl, rfl, rfl, rfl, rfl, rfl, rfl, rfl, rfl⟩ := re_12 hfo_1 hfo_975 (hrA12 o0 ko0)
                          obtain rfl := ri_12_3 hfo_1 hfo_975 (hfA12 o0 ko0 3 (by decide) (by decide) (by decide) (by decide) (by decide) (by decide) (by decide))
                          obtain rfl := ri_12_5 hfo_1 hfo_975 (hfA12 o0 ko0 5 (by decide) (by decide) (by decide) (by decide) (by decide) (by decide) (by decide))
                          obtain rfl := ri_12_23 hfo_1 hfo_975 (hfA12 o0 ko0 23 (by decide) (by decide) (by decide) (by decide) (by decide) (by decide) (by decide))
                          obtain rfl := ri_12_25 hfo_1 hfo_975 (hfA12 o0 ko0 25 (by decide) (by decide) (by decide) (by decide) (by decide) (by decide) (by decide))
                          obtain rfl := ri_12_27 hfo_1 hfo_975 (hfA12 o0 ko0 27 (by decide) (by decide) (by decide) (by decide) (by decide) (by decide) (by decide))
                          obtain rfl := ri_12_29 hfo_1 hfo_975 (hfA12 o0 ko0 29 (by decide) (by decide) (by decide) (by decide) (by decide) (by decide) (by decide))
                          obtain rfl := ri_12_32 hfo_1 hfo_975 (hfA12 o0 ko0 32 (by decide) (by decide) (by decide) (by decide) (by decide) (by decide) (by decide))
                          obtain rfl := ri_12_33 hfo_1 hfo_975 (hfA12 o0 ko0 33 (by decide) (by decide) (by decide) (by decide) (by decide) (by decide) (by decide))
                          obtain rfl := ri_12_35 hfo_1 hfo_975 (hfA12 o0 ko0 35 (by decide) (by decide) (by decide) (by decide) (by decide) (by decide) (by decide))
                          obtain rfl := ri_12_38 hfo_1 hfo_975 (hfA12 o0 ko0 38 (by decide) (by decide) (by decide) (by decide) (by decide) (by decide) (by decide))
                          obtain rfl := ri_12_43 hfo_1 hfo_975 (hfA12 o0 ko0 43 (by decide) (by decide) (by decide) (by decide) (by decide) (by decide) (by decide))
                          obtain rfl := ri_12_53 hfo_1 hfo_975 (hfA12 o0 ko0 53 (by decide) (by decide) (by decide) (by decide) (by decide) (by decide) (by decide))
                          obtain rfl := ri_12_6 hfo_900 hfo_975 (hfa_973 o0 ko0 6 (by decide) (by decide))
                          obtain rfl := ri_12_11 hfo_900 hfo_975 (hfa_973 o0 ko0 11 (by decide) (by decide))
                          obtain rfl := ri_12_12 hfo_900 hfo_975 (hfa_973 o0 ko0 12 (by decide) (by decide))
                          obtain rfl := ri_12_13 hfo_900 hfo_975 (hfa_973 o0 ko0 13 (by decide) (by decide))
                          obtain rfl := ri_12_14 hfo_900 hfo_975 (hfa_973 o0 ko0 14 (by decide) (by decide))
                          have hM9 := hMm_957 v_907 (by rw [hfo_975]; rfl)
                          exact W.zret (v := x_969) (ty := .boolean) hx hb hr (zb_n (by constructor <;> omega)) (fun t ht hW => ⟨⟨x_969, f_970, rfl, ⟨hG, (by constructor <;> omega), hfr0, hrA12, hfA12, (by intro w6 z6 e6 d6; rw [hfo_1] at e6; rw [hfo_975] at d6; obtain rfl := Option.some.inj e6; obtain rfl := Option.some.inj d6; omega), (fun d9 h9 => by rw [hfo_975] at h9; obtain rfl := Option.some.inj h9; exact hT_890.weak)⟩, by rw [ht]; exact hP, va_K.moved hW.alike hK, pl_in hD⟩, hS.F ht⟩) hS.2.2 dX12_ruled_149
                    refine lv_icmp_ne (tgt := 127) hx hb dX12_ruled_120 (by decide) (fun c_1032 => ?_) (fun c_1032 => ?_)
                    · skip
                      rw [← Int32.toInt_inj, ti_124] at c_1032
                      refine lv_iconst (v := 0) hx hb dX12_ruled_127 (by decide) ?_
                      exact hcut_959 0 (by decide) ls (lv_sub hl [0, 1, 2, 3, 4] rfl)
                    · skip
                      rw [← Int32.toInt_inj, ti_124] at c_1032
                      refine lv_iconst (v := 1) hx hb dX12_ruled_123 (by decide) ?_
                      refine lv_goto (tgt := 128) hx hb dX12_ruled_124 (by decide) ?_
                      exact hcut_959 1 (by decide) ls (lv_sub hl [0, 1, 2, 3, 4] rfl)
                  · skip
                    rw [← Int32.toInt_inj, ti_0] at c_891
                    refine lv_iconst (v := 0) hx hb dX12_ruled_109 (by decide) ?_
                    have hM9 := hMm_889 v_839 (by rw [hfo_832]; rfl)
                    exact W.zret (v := 0) (ty := .boolean) hx hb hr rfl (fun t ht hW => ⟨⟨0, f_825, rfl, ⟨hG, (by decide), hfr0, hrA12, hfA12, (by intro w6 z6 e6 d6; rw [hfo_1] at e6; rw [hfo_832] at d6; obtain rfl := Option.some.inj e6; obtain rfl := Option.some.inj d6; (try rw [ti_0]) <;> omega), (fun d9 h9 => by rw [hfo_832] at h9; obtain rfl := Option.some.inj h9; exact hT_890.weak)⟩, by rw [ht]; exact hP, va_K.moved hW.alike hK, pl_in hD⟩, hS.F ht⟩) hS.2.2 dX12_ruled_110
            exact hloop_660 5 1 (by decide) 0 (by decide) f_653 hG _ _ hP hS hD hfr0 hrA12 hfA12 hT_128 hMm_194 (by (try rw [ti_1]) <;> (try rw [ti_0]) <;> omega) (by (try rw [ti_1]) <;> (try rw [ti_0]) <;> omega) ls hl
          refine lv_if_eq (tgt := 78) hx hb dX12_ruled_70 (by decide) (fun c_1033 => ?_) (fun c_1033 => ?_)
          · skip
            rw [← Int32.toInt_inj, ti_0] at c_1033
            refine lv_iconst (v := 2) hx hb dX12_ruled_78 (by decide) ?_
            refine lv_goto (tgt := 83) hx hb dX12_ruled_79 (by decide) ?_
            exact hcut_649 2 (by decide) (by (try rw [ti_2]) <;> omega) ls (lv_sub hl [0, 1, 2] rfl)
          · skip
            rw [← Int32.toInt_inj, ti_0] at c_1033
            refine lv_iload_n hx hb dX12_ruled_73 rfl (lv_at hl 0 rfl) ?_
            refine lv_iconst (v := 1) hx hb dX12_ruled_74 (by decide) ?_
            refine lv_icmp_ne (tgt := 82) hx hb dX12_ruled_75 (by decide) (fun c_1034 => ?_) (fun c_1034 => ?_)
            · skip
              rw [← Int32.toInt_inj, ti_1] at c_1034
              refine lv_iconst (v := 3) hx hb dX12_ruled_82 (by decide) ?_
              exact hcut_649 3 (by decide) (by (try rw [ti_3]) <;> omega) ls (lv_sub hl [0, 1, 2] rfl)
            · skip
              rw [← Int32.toInt_inj, ti_1] at c_1034
              refine lv_iconst (v := 2) hx hb dX12_ruled_78 (by decide) ?_
              refine lv_goto (tgt := 83) hx hb dX12_ruled_79 (by decide) ?_
              exact hcut_649 2 (by decide) (by (try rw [ti_2]) <;> omega) ls (lv_sub hl [0, 1, 2] rfl)
        · skip
          rw [← Int32.toInt_inj, ti_2] at c_647
          refine lv_aload_n hx hb dX12_ruled_47 rfl (lv_at hl 2 rfl) ?_
          refine tk_getP (D := (dC, dI)) (ci := 12) (v := .int v_83) (C := RX12) (T := TX12) (N := 56) hx hb hU inlX12 hown hK hP mo0 hfo_137 rfl 12 (by decide) (hU _ wd_618) (fun _ h9 => h9) rfl dX12_ruled_48 ?_
          refine lv_if_ne (tgt := 64) hx hb dX12_ruled_51 (by decide) (fun c_1035 => ?_) (fun c_1035 => ?_)
          · skip
            rw [← Int32.toInt_inj, ti_0] at c_1035
            refine lv_aload_n hx hb dX12_ruled_64 rfl (lv_at hl 2 rfl) ?_
            refine lv_dup hx hb dX12_ruled_65 rfl ?_
            refine tk_getP (D := (dC, dI)) (ci := 12) (v := .int v_144) (C := RX12) (T := TX12) (N := 56) hx hb hU inlX12 hown hK hP mo0 hfo_137 rfl 6 (by decide) (hU _ wd_566) (fun _ h9 => h9) rfl dX12_ruled_66 ?_
            refine lv_iload_n hx hb dX12_ruled_69 rfl (lv_at hl 0 rfl) ?_
            refine lv_if_eq (tgt := 78) hx hb dX12_ruled_70 (by decide) (fun c_1036 => ?_) (fun c_1036 => ?_)
            · skip
              rw [← Int32.toInt_inj, ti_0] at c_1036
              exfalso
              omega
            · skip
              rw [← Int32.toInt_inj, ti_0] at c_1036
              refine lv_iload_n hx hb dX12_ruled_73 rfl (lv_at hl 0 rfl) ?_
              refine lv_iconst (v := 1) hx hb dX12_ruled_74 (by decide) ?_
              refine lv_icmp_ne (tgt := 82) hx hb dX12_ruled_75 (by decide) (fun c_1037 => ?_) (fun c_1037 => ?_)
              · skip
                rw [← Int32.toInt_inj, ti_1] at c_1037
                refine lv_iconst (v := 3) hx hb dX12_ruled_82 (by decide) ?_
                refine lv_iadd hx hb dX12_ruled_83 ?_
                refine lv_topi (fun x_1038 ex_1038 => ?_)
                have hx_1038 : x_1038.toInt = v_144.toInt + 3 := by rw [ex_1038, ad_I (by rw [ti_3]; omega) (by rw [ti_3]; omega), ti_3]
                have bx_1038 : (3 ≤ x_1038.toInt ∧ x_1038.toInt ≤ 603) := by constructor <;> omega
                have hclc_1039 : (0 ≤ x_1038.toInt ∧ x_1038.toInt ≤ 600) := by constructor <;> omega
                refine tk_putP (D := (dC, dI)) (ci := 12) (v := .int x_1038) (ty := .int) (C := RX12) (T := TX12) (N := 56) hx hb hU inlX12 tyX12 tyX12_ok nmX12 hown hK hP hD hS mo0 hfo_137 rfl 6 (by decide) (hU _ wd_566) (fun _ h9 => h9) rfl (by decide +kernel) rfl rfl (Nat.le_of_ble_eq_true rfl) dX12_ruled_84 (fun H locs hP hD hS => ?_)
                obtain ⟨f_1041, ef_1041⟩ : ∃ y : Nat → va_E, y = va_up f_131 o0 (.inr (12, [.ref a_2, .ref a_3, .ref a_4, .int v_5, .ref a_6, .int v_7, .int x_1038, .int v_145, .int v_146, .int v_147, .int v_148, .int v_82, .int v_83, .int v_84, .int v_16, .ref a_17, .ref a_18, .ref a_19, .ref a_20, .ref a_21, .ref a_22, .ref a_23, .ref a_24, .int v_25, .int v_162, .int v_27, .int v_164, .int v_29, .ref a_30, .int v_31, .ref a_32, .ref a_33, .int v_34, .int v_35, .ref a_36, .int v_37, .ref a_38, .ref a_39, .int v_40, .int v_177, .ref a_42, .ref a_43, .ref a_44, .int v_45, .ref a_46, .ref a_47, .ref a_48, .ref a_49, .ref a_50, .ref a_51, .ref a_52, .ref a_53, .ref a_54, .int v_55, .int v_192, .ref a_57])) := ⟨_, rfl⟩
                have hP : va_P (dC, dI) vwCl (va_pl L f_1041) H := by rw [ef_1041]; exact hP
                have hD : va_D (fun q => q ∈ L) (va_pl L f_1041) := by rw [ef_1041]; exact hD
                have hG : GI (okc cI cL cZ cR cG cH L kd) kd L f_1041 := by rw [ef_1041]; exact hG.set o0 (mk_12 ko0 ⟨a_2, a_3, a_4, v_5, a_6, v_7, x_1038, v_145, v_146, v_147, v_148, v_82, v_83, v_84, v_16, a_17, a_18, a_19, a_20, a_21, a_22, a_23, a_24, v_25, v_162, v_27, v_164, v_29, a_30, v_31, a_32, a_33, v_34, v_35, a_36, v_37, a_38, a_39, v_40, v_177, a_42, a_43, a_44, v_45, a_46, a_47, a_48, a_49, a_50, a_51, a_52, a_53, a_54, v_55, v_192, a_57, rfl, ⟨ma_2, ka_2⟩, ⟨ma_3, ka_3⟩, ⟨ma_4, ka_4⟩, (by constructor <;> omega), ⟨ma_6, ka_6⟩, (by constructor <;> omega), (by constructor <;> omega), (by constructor <;> omega), (by constructor <;> omega), (by constructor <;> omega), ⟨ma_17, ka_17⟩, ⟨ma_18, ka_18⟩, ⟨ma_19, ka_19⟩, ⟨ma_20, ka_20⟩, ⟨ma_21, ka_21⟩, ⟨ma_22, ka_22⟩, ⟨ma_23, ka_23⟩, ⟨ma_24, ka_24⟩, (by constructor <;> omega), (by constructor <;> omega), (by constructor <;> omega), ⟨ma_30, ka_30⟩, (by constructor <;> omega), ⟨ma_32, ka_32⟩, ⟨ma_33, ka_33⟩, (by constructor <;> omega), ⟨ma_36, ka_36⟩, (by constructor <;> omega), ⟨ma_38, ka_38⟩, ⟨ma_39, ka_39⟩, (by constructor <;> omega), ⟨ma_42, ka_42⟩, ⟨ma_43, ka_43⟩, ⟨ma_44, ka_44⟩, (by constructor <;> omega), ⟨ma_46, ka_46⟩, ⟨ma_47, ka_47⟩, ⟨ma_48, ka_48⟩, ⟨ma_49, ka_49⟩, ⟨ma_50, ka_50⟩, ⟨ma_51, ka_51⟩, ⟨ma_52, ka_52⟩, ⟨ma_53, ka_53⟩, ⟨ma_54, ka_54⟩, (by constructor <;> omega), ⟨ma_57, ka_57⟩⟩)
                have hfr0 : ∀ b, kd b ≠ 12 → kd b ≠ 576 → f_1041 b = f b := fun b q12 q576 => (congrFun ef_1041 b).trans ((up_ne (fun e9 => q12 (by rw [e9]; exact ko0))).trans (hfr0 b q12 q576))
                have hrA12 : ∀ b, kd b = 12 → ∀ j, fldR (f_1041 b) j = fldR (f b) j := fun b kb j => ((congrArg (fun x => fldR x j) (congrFun ef_1041 b)).trans (fra_up (fun j => by rw [hfo_137]; exact fr_set (k := 6) rfl rfl j) j b)).trans (hrA12 b kb j)
                have hfA12 : ∀ b, kd b = 12 → ∀ j, j ≠ 6 → j ≠ 7 → j ≠ 8 → j ≠ 11 → j ≠ 12 → j ≠ 13 → j ≠ 14 → fldI (f_1041 b) j = fldI (f b) j := fun b kb j n6 n7 n8 n11 n12 n13 n14 => ((congrArg (fun x => fldI x j) (congrFun ef_1041 b)).trans (fia_up (fun h9 => by rw [hfo_137]; exact fi_set (k := 6) rfl h9) n6 b)).trans (hfA12 b kb j n6 n7 n8 n11 n12 n13 n14)
                have hT_128 : frel kd 576 7 f_1041 a_3 := by rw [ef_1041]; exact hT_128.keep (fun b q => up_ne (kd_ne ko0 q (by decide)))
                have hMm_194 : ∀ z9, fldI (f_1041 o0) 6 = some z9 → v_8.toInt ≤ z9.toInt := by rw [ef_1041]; exact (fun z9 h9 => by rw [up_self] at h9; obtain rfl := Option.some.inj h9; have h8 := hMm_194 v_144 (by rw [hfo_137]; rfl); omega)
                have hfo_1042 : f_1041 o0 = .inr (12, [.ref a_2, .ref a_3, .ref a_4, .int v_5, .ref a_6, .int v_7, .int x_1038, .int v_145, .int v_146, .int v_147, .int v_148, .int v_82, .int v_83, .int v_84, .int v_16, .ref a_17, .ref a_18, .ref a_19, .ref a_20, .ref a_21, .ref a_22, .ref a_23, .ref a_24, .int v_25, .int v_162, .int v_27, .int v_164, .int v_29, .ref a_30, .int v_31, .ref a_32, .ref a_33, .int v_34, .int v_35, .ref a_36, .int v_37, .ref a_38, .ref a_39, .int v_40, .int v_177, .ref a_42, .ref a_43, .ref a_44, .int v_45, .ref a_46, .ref a_47, .ref a_48, .ref a_49, .ref a_50, .ref a_51, .ref a_52, .ref a_53, .ref a_54, .int v_55, .int v_192, .ref a_57]) := by rw [ef_1041]; exact up_self
                refine lv_iconst (v := 0) hx hb dX12_ruled_87 (by decide) ?_
                refine lv_istore_n (lv' := [(3, .int 0), (2, .int x_130), (1, .int x_60), (0, .ref o0)]) hx hb dX12_ruled_88 rfl hl (by decide) rfl (fun ls hl => ?_)
                refine lv_iconst (v := 1) hx hb dX12_ruled_89 (by decide) ?_
                refine lv_istore (lv' := [(4, .int 1), (3, .int 0), (2, .int x_130), (1, .int x_60), (0, .ref o0)]) hx hb dX12_ruled_90 hl (by decide) rfl (fun ls hl => ?_)
                have hloop_1048 : ∀ (n : Nat), ∀ (y_1049 : Int32), (0 ≤ y_1049.toInt ∧ y_1049.toInt ≤ 1) → ∀ (y_1050 : Int32), (0 ≤ y_1050.toInt ∧ y_1050.toInt ≤ 3) → ∀ (f_1052 : Nat → va_E), GI (okc cI cL cZ cR cG cH L kd) kd L f_1052 → ∀ (H : Heap) (locs : List Loc), va_P (dC, dI) vwCl (va_pl L f_1052) H → va_S (fun q => q ∈ L) s.heap H locs → va_D (fun q => q ∈ L) (va_pl L f_1052) → (∀ b, kd b ≠ 12 → kd b ≠ 576 → f_1052 b = f b) → (∀ b, kd b = 12 → ∀ j, fldR (f_1052 b) j = fldR (f b) j) → (∀ b, kd b = 12 → ∀ j, j ≠ 6 → j ≠ 7 → j ≠ 8 → j ≠ 11 → j ≠ 12 → j ≠ 13 → j ≠ 14 → fldI (f_1052 b) j = fldI (f b) j) → frel kd 576 7 f_1052 a_3 → ∀ z9, fldI (f_1052 o0) 6 = some z9 → v_8.toInt ≤ z9.toInt → (y_1049.toInt = 0 ∨ y_1050.toInt ≤ 2) → 4 - y_1050.toInt < (n : Int) → ∀ (ls : Array Slot), lv_has ls 6 [(4, .int y_1049), (3, .int y_1050), (2, .int x_130), (1, .int x_60), (0, .ref o0)] → W p l e (headSpec (wU yX12_ruled cX12_ruled 6 (some .boolean)) { frames := 7, cells := 0, slots := 0, locals := 150 }).room s m [.ref o0].toArray below meth c H locs 0 0 (MQ below (va_Qi (fun (r : Int32) (f9 : Nat → va_E) => GI (okc cI cL cZ cR cG cH L kd) kd L f9 ∧ (0 ≤ r.toInt ∧ r.toInt ≤ 1) ∧ (∀ b, kd b ≠ 12 → kd b ≠ 576 → f9 b = f b) ∧ (∀ b, kd b = 12 → ∀ j, fldR (f9 b) j = fldR (f b) j) ∧ (∀ b, kd b = 12 → ∀ j, j ≠ 6 → j ≠ 7 → j ≠ 8 → j ≠ 11 → j ≠ 12 → j ≠ 13 → j ≠ 14 → fldI (f9 b) j = fldI (f b) j) ∧ (∀ (w6 z6 : Int32), fldI (f o0) 6 = some w6 → fldI (f9 o0) 6 = some z6 → w6.toInt ≤ z6.toInt) ∧ (∀ d9, fldR (f9 o0) 1 = some d9 → frel kd 576 8 f9 d9)) (qP (dC, dI) cI cL cZ cR cG cH L) (fun q => q ∈ L)) [.ref o0].toArray s 0 0 (fun q => q ∈ L)) (F0 m 92 ls []) := by
                  intro n
                  induction n with
                  | zero => intro y_1049 by_1049 y_1050 by_1050 f_1052 hG H locs hP hS hD hfr0 hrA12 hfA12 hT_128 hMm_194 hrelhloop_1048_0 hmuhloop_1048 ls hl; exfalso; omega
                  | succ n ih_hloop_1048 =>
                    intro y_1049 by_1049 y_1050 by_1050 f_1052 hG H locs hP hS hD hfr0 hrA12 hfA12 hT_128 hMm_194 hrelhloop_1048_0 hmuhloop_1048 ls hl
                    refine lv_iload hx hb dX12_ruled_92 (lv_at hl 0 rfl) ?_
                    refine lv_if_eq (tgt := 168) hx hb dX12_ruled_94 (by decide) (fun c_1053 => ?_) (fun c_1053 => ?_)
                    · skip
                      rw [← Int32.toInt_inj, ti_0] at c_1053
                      refine lv_sipush (v := 460) hx hb dX12_ruled_168 (by decide) ?_
                      refine lv_iconst (v := 4) hx hb dX12_ruled_171 (by decide) ?_
                      refine lv_iload_n hx hb dX12_ruled_172 rfl (lv_at hl 3 rfl) ?_
                      refine lv_imul hx hb dX12_ruled_173 ?_
                      refine lv_topi (fun x_1054 ex_1054 => ?_)
                      have hx_1054 : x_1054.toInt = 4 * x_60.toInt := by rw [ex_1054, ml_I (by rw [ti_4]; omega) (by rw [ti_4]; omega), ti_4]
                      have bx_1054 : (0 ≤ x_1054.toInt ∧ x_1054.toInt ≤ 28) := by constructor <;> omega
                      refine lv_iadd hx hb dX12_ruled_174 ?_
                      refine lv_topi (fun x_1055 ex_1055 => ?_)
                      have hx_1055 : x_1055.toInt = 460 + x_1054.toInt := by rw [ex_1055, ad_I (by rw [ti_460]; omega) (by rw [ti_460]; omega), ti_460]
                      have bx_1055 : (460 ≤ x_1055.toInt ∧ x_1055.toInt ≤ 488) := by constructor <;> omega
                      refine lv_istore (lv' := [(5, .int x_1055), (4, .int y_1049), (3, .int y_1050), (2, .int x_130), (1, .int x_60), (0, .ref o0)]) hx hb dX12_ruled_175 hl (by decide) rfl (fun ls hl => ?_)
                      refine lv_aload_n hx hb dX12_ruled_177 rfl (lv_at hl 5 rfl) ?_
                      obtain ⟨a_1057, a_1058, a_1059, v_1060, a_1061, v_1062, v_1063, v_1064, v_1065, v_1066, v_1067, v_1068, v_1069, v_1070, v_1071, a_1072, a_1073, a_1074, a_1075, a_1076, a_1077, a_1078, a_1079, v_1080, v_1081, v_1082, v_1083, v_1084, a_1085, v_1086, a_1087, a_1088, v_1089, v_1090, a_1091, v_1092, a_1093, a_1094, v_1095, v_1096, a_1097, a_1098, a_1099, v_1100, a_1101, a_1102, a_1103, a_1104, a_1105, a_1106, a_1107, a_1108, a_1109, v_1110, v_1111, a_1112, hfo_1056, ⟨ma_1057, ka_1057⟩, ⟨ma_1058, ka_1058⟩, ⟨ma_1059, ka_1059⟩, bv_1060, ⟨ma_1061, ka_1061⟩, bv_1062, bv_1063, bv_1068, bv_1069, bv_1070, ⟨ma_1072, ka_1072⟩, ⟨ma_1073, ka_1073⟩, ⟨ma_1074, ka_1074⟩, ⟨ma_1075, ka_1075⟩, ⟨ma_1076, ka_1076⟩, ⟨ma_1077, ka_1077⟩, ⟨ma_1078, ka_1078⟩, ⟨ma_1079, ka_1079⟩, bv_1080, bv_1082, bv_1084, ⟨ma_1085, ka_1085⟩, bv_1086, ⟨ma_1087, ka_1087⟩, ⟨ma_1088, ka_1088⟩, bv_1089, ⟨ma_1091, ka_1091⟩, bv_1092, ⟨ma_1093, ka_1093⟩, ⟨ma_1094, ka_1094⟩, bv_1095, ⟨ma_1097, ka_1097⟩, ⟨ma_1098, ka_1098⟩, ⟨ma_1099, ka_1099⟩, bv_1100, ⟨ma_1101, ka_1101⟩, ⟨ma_1102, ka_1102⟩, ⟨ma_1103, ka_1103⟩, ⟨ma_1104, ka_1104⟩, ⟨ma_1105, ka_1105⟩, ⟨ma_1106, ka_1106⟩, ⟨ma_1107, ka_1107⟩, ⟨ma_1108, ka_1108⟩, ⟨ma_1109, ka_1109⟩, bv_1110, ⟨ma_1112, ka_1112⟩⟩ := un_12 (hG _ mo0) ko0
                      have bv_1064 : ((-2147483648) ≤ v_1064.toInt ∧ v_1064.toInt ≤ 2147483647) := ⟨i32_lo _, i32_hi _⟩
                      have bv_1065 : ((-2147483648) ≤ v_1065.toInt ∧ v_1065.toInt ≤ 2147483647) := ⟨i32_lo _, i32_hi _⟩
                      have bv_1066 : ((-2147483648) ≤ v_1066.toInt ∧ v_1066.toInt ≤ 2147483647) := ⟨i32_lo _, i32_hi _⟩
                      have bv_1067 : ((-2147483648) ≤ v_1067.toInt ∧ v_1067.toInt ≤ 2147483647) := ⟨i32_lo _, i32_hi _⟩
                      have bv_1071 : ((-2147483648) ≤ v_1071.toInt ∧ v_1071.toInt ≤ 2147483647) := ⟨i32_lo _, i32_hi _⟩
                      have bv_1081 : ((-2147483648) ≤ v_1081.toInt ∧ v_1081.toInt ≤ 2147483647) := ⟨i32_lo _, i32_hi _⟩
                      have bv_1083 : ((-2147483648) ≤ v_1083.toInt ∧ v_1083.toInt ≤ 2147483647) := ⟨i32_lo _, i32_hi _⟩
                      have bv_1090 : ((-2147483648) ≤ v_1090.toInt ∧ v_1090.toInt ≤ 2147483647) := ⟨i32_lo _, i32_hi _⟩
                      have bv_1096 : ((-2147483648) ≤ v_1096.toInt ∧ v_1096.toInt ≤ 2147483647) := ⟨i32_lo _, i32_hi _⟩
                      have bv_1111 : ((-2147483648) ≤ v_1111.toInt ∧ v_1111.toInt ≤ 2147483647) := ⟨i32_lo _, i32_hi _⟩
                      obtain ⟨rfl, rfl, rfl, rfl, rfl, rfl, rfl, rfl, rfl, rfl, rfl, rfl, rfl, rfl, rfl, rfl, rfl, rfl, rfl, rfl, rfl, rfl, rfl, rfl, rfl, rfl, rfl, rfl, rfl, rfl, rfl⟩ := re_12 hfo_1 hfo_1056 (hrA12 o0 ko0)
                      obtain rfl := ri_12_3 hfo_1 hfo_1056 (hfA12 o0 ko0 3 (by decide) (by decide) (by decide) (by decide) (by decide) (by decide) (by decide))
                      obtain rfl := ri_12_5 hfo_1 hfo_1056 (hfA12 o0 ko0 5 (by decide) (by decide) (by decide) (by decide) (by decide) (by decide) (by decide))
                      obtain rfl := ri_12_23 hfo_1 hfo_1056 (hfA12 o0 ko0 23 (by decide) (by decide) (by decide) (by decide) (by decide) (by decide) (by decide))
                      obtain rfl := ri_12_25 hfo_1 hfo_1056 (hfA12 o0 ko0 25 (by decide) (by decide) (by decide) (by decide) (by decide) (by decide) (by decide))
                      obtain rfl := ri_12_27 hfo_1 hfo_1056 (hfA12 o0 ko0 27 (by decide) (by decide) (by decide) (by decide) (by decide) (by decide) (by decide))
                      obtain rfl := ri_12_29 hfo_1 hfo_1056 (hfA12 o0 ko0 29 (by decide) (by decide) (by decide) (by decide) (by decide) (by decide) (by decide))
                      obtain rfl := ri_12_32 hfo_1 hfo_1056 (hfA12 o0 ko0 32 (by decide) (by decide) (by decide) (by decide) (by decide) (by decide) (by decide))
                      obtain rfl := ri_12_33 hfo_1 hfo_1056 (hfA12 o0 ko0 33 (by decide) (by decide) (by decide) (by decide) (by decide) (by decide) (by decide))
                      obtain rfl := ri_12_35 hfo_1 hfo_1056 (hfA12 o0 ko0 35 (by decide) (by decide) (by decide) (by decide) (by decide) (by decide) (by decide))
                      obtain rfl := ri_12_38 hfo_1 hfo_1056 (hfA12 o0 ko0 38 (by decide) (by decide) (by decide) (by decide) (by decide) (by decide) (by decide))
                      obtain rfl := ri_12_43 hfo_1 hfo_1056 (hfA12 o0 ko0 43 (by decide) (by decide) (by decide) (by decide) (by decide) (by decide) (by decide))
                      obtain rfl := ri_12_53 hfo_1 hfo_1056 (hfA12 o0 ko0 53 (by decide) (by decide) (by decide) (by decide) (by decide) (by decide) (by decide))
                      refine tk_getP (D := (dC, dI)) (ci := 12) (v := .ref a_3) (C := RX12) (T := TX12) (N := 56) hx hb hU inlX12 hown hK hP mo0 hfo_1056 rfl 1 (by decide) (hU _ wd_170) (fun _ h9 => h9) rfl dX12_ruled_178 ?_
                      refine lv_iload hx hb dX12_ruled_181 (lv_at hl 0 rfl) ?_
                      refine lv_aload_n hx hb dX12_ruled_183 rfl (lv_at hl 5 rfl) ?_
                      refine tk_getP (D := (dC, dI)) (ci := 12) (v := .int v_1069) (C := RX12) (T := TX12) (N := 56) hx hb hU inlX12 hown hK hP mo0 hfo_1056 rfl 12 (by decide) (hU _ wd_618) (fun _ h9 => h9) rfl dX12_ruled_184 ?_
                      obtain ⟨g_1114, hfo_1113, hbg_1114⟩ := un_576 (hG _ ma_3) ka_3
                      refine tk_istP hx hb hK hP hD hS 0 ma_3 hfo_1113 rfl (vp_in_iff.mpr (by constructor <;> omega)) dX12_ruled_187 (fun H locs hP hD hS => ?_)
                      have hc9 := cl_I (i := x_1055) (by omega)
                      obtain ⟨g_1115, eqg_1115⟩ : ∃ y : Nat → Int32, y = upd g_1114 (Int32.toNatClampNeg x_1055) v_1069 := ⟨_, rfl⟩
                      rw [← eqg_1115] at hP hD
                      have hbg_1115 : wOK g_1115 := by rw [eqg_1115]; exact ⟨hbg_1114.1.up (fun h1 h2 h3 => by exfalso; omega), hbg_1114.2.1.up (fun h1 h2 h3 => by exfalso; omega), hbg_1114.2.2.1.up (fun h1 h2 h3 => by exfalso; omega), hbg_1114.2.2.2.1.up (fun h1 h2 h3 => by exfalso; omega), hbg_1114.2.2.2.2.1.up (fun h1 h2 h3 => by exfalso; omega), hbg_1114.2.2.2.2.2.1.up (fun h1 h2 h3 => by exfalso; omega), hbg_1114.2.2.2.2.2.2.1.up (fun h1 h2 h3 => by exfalso; omega), hbg_1114.2.2.2.2.2.2.2.1.up (fun h1 h2 h3 => by exfalso; omega), hbg_1114.2.2.2.2.2.2.2.2.1.up (fun h1 h2 h3 => by exfalso; omega), hbg_1114.2.2.2.2.2.2.2.2.2.1.up (fun h1 h2 h3 => by exfalso; omega), hbg_1114.2.2.2.2.2.2.2.2.2.2.1.up (fun h1 h2 h3 => by exfalso; omega), hbg_1114.2.2.2.2.2.2.2.2.2.2.2.1.up (fun h1 h2 h3 => by exfalso; omega), hbg_1114.2.2.2.2.2.2.2.2.2.2.2.2.1.up (fun h1 h2 h3 => by constructor <;> omega), hbg_1114.2.2.2.2.2.2.2.2.2.2.2.2.2.1.up (fun h1 h2 h3 => by exfalso; omega), hbg_1114.2.2.2.2.2.2.2.2.2.2.2.2.2.2.1.up (fun h1 h2 h3 => by exfalso; omega), hbg_1114.2.2.2.2.2.2.2.2.2.2.2.2.2.2.2.up (fun h1 h2 h3 => by exfalso; omega)⟩
                      obtain ⟨f_1117, ef_1117⟩ : ∃ y : Nat → va_E, y = va_up f_1052 a_3 (.inl (cI, 1560, .inl g_1115)) := ⟨_, rfl⟩
                      have hP : va_P (dC, dI) vwCl (va_pl L f_1117) H := by rw [ef_1117]; exact hP
                      have hD : va_D (fun q => q ∈ L) (va_pl L f_1117) := by rw [ef_1117]; exact hD
                      have hG : GI (okc cI cL cZ cR cG cH L kd) kd L f_1117 := by rw [ef_1117]; exact hG.set a_3 (mk_576 ka_3 ⟨_, rfl, hbg_1115⟩)
                      have hfo_1118 : f_1117 o0 = .inr (12, [.ref a_2, .ref a_3, .ref a_4, .int v_5, .ref a_6, .int v_7, .int v_1063, .int v_1064, .int v_1065, .int v_1066, .int v_1067, .int v_1068, .int v_1069, .int v_1070, .int v_1071, .ref a_17, .ref a_18, .ref a_19, .ref a_20, .ref a_21, .ref a_22, .ref a_23, .ref a_24, .int v_25, .int v_1081, .int v_27, .int v_1083, .int v_29, .ref a_30, .int v_31, .ref a_32, .ref a_33, .int v_34, .int v_35, .ref a_36, .int v_37, .ref a_38, .ref a_39, .int v_40, .int v_1096, .ref a_42, .ref a_43, .ref a_44, .int v_45, .ref a_46, .ref a_47, .ref a_48, .ref a_49, .ref a_50, .ref a_51, .ref a_52, .ref a_53, .ref a_54, .int v_55, .int v_1111, .ref a_57]) := by rw [ef_1117, up_ne (kd_ne ka_3 ko0 (by decide))]; exact hfo_1056
                      have hfr0 : ∀ b, kd b ≠ 12 → kd b ≠ 576 → f_1117 b = f b := fun b q12 q576 => (congrFun ef_1117 b).trans ((up_ne (fun e9 => q576 (by rw [e9]; exact ka_3))).trans (hfr0 b q12 q576))
                      have hrA12 : ∀ b, kd b = 12 → ∀ j, fldR (f_1117 b) j = fldR (f b) j := fun b kb j => (congrArg (fun x => fldR x j) ((congrFun ef_1117 b).trans (up_ne (kd_ne ka_3 kb (by decide))))).trans (hrA12 b kb j)
                      have hfA12 : ∀ b, kd b = 12 → ∀ j, j ≠ 6 → j ≠ 7 → j ≠ 8 → j ≠ 11 → j ≠ 12 → j ≠ 13 → j ≠ 14 → fldI (f_1117 b) j = fldI (f b) j := fun b kb j n6 n7 n8 n11 n12 n13 n14 => (congrArg (fun x => fldI x j) ((congrFun ef_1117 b).trans (up_ne (kd_ne ka_3 kb (by decide))))).trans (hfA12 b kb j n6 n7 n8 n11 n12 n13 n14)
                      have hT_128 : frel kd 576 7 f_1117 a_3 := by rw [ef_1117]; exact frel.mk ka_3 up_self (by rw [eqg_1115]; exact (hT_128.get hfo_1113).up (hbg_1114.2.1 16 (by decide) (by decide) (by decide)).2 (by omega) (by omega) (by omega) (fun h9 => by exfalso; omega))
                      have hMm_194 : ∀ z9, fldI (f_1117 o0) 6 = some z9 → v_8.toInt ≤ z9.toInt := by rw [ef_1117]; exact (fun z9 h9 => hMm_194 z9 (by rw [up_ne (kd_ne ka_3 ko0 (by decide))] at h9; exact h9))
                      have hfo_1119 : f_1117 a_3 = .inl (cI, 1560, .inl g_1115) := by rw [ef_1117]; exact up_self
                      have ql_1120 : v_1069 = g_1115 (Int32.toNatClampNeg x_1055) := by rw [eqg_1115, pk_us]
                      refine lv_aload_n hx hb dX12_ruled_188 rfl (lv_at hl 5 rfl) ?_
                      refine tk_getP (D := (dC, dI)) (ci := 12) (v := .ref a_3) (C := RX12) (T := TX12) (N := 56) hx hb hU inlX12 hown hK hP mo0 hfo_1118 rfl 1 (by decide) (hU _ wd_170) (fun _ h9 => h9) rfl dX12_ruled_189 ?_
                      refine lv_iload hx hb dX12_ruled_192 (lv_at hl 0 rfl) ?_
                      refine lv_iconst (v := 1) hx hb dX12_ruled_194 (by decide) ?_
                      refine lv_iadd hx hb dX12_ruled_195 ?_
                      refine lv_topi (fun x_1121 ex_1121 => ?_)
                      have hx_1121 : x_1121.toInt = x_1055.toInt + 1 := by rw [ex_1121, ad_I (by rw [ti_1]; omega) (by rw [ti_1]; omega), ti_1]
                      have bx_1121 : (461 ≤ x_1121.toInt ∧ x_1121.toInt ≤ 489) := by constructor <;> omega
                      refine lv_aload_n hx hb dX12_ruled_196 rfl (lv_at hl 5 rfl) ?_
                      refine tk_getP (D := (dC, dI)) (ci := 12) (v := .int v_1070) (C := RX12) (T := TX12) (N := 56) hx hb hU inlX12 hown hK hP mo0 hfo_1118 rfl 13 (by decide) (hU _ wd_619) (fun _ h9 => h9) rfl dX12_ruled_197 ?_
                      refine tk_istP hx hb hK hP hD hS 0 ma_3 hfo_1119 rfl (vp_in_iff.mpr (by constructor <;> omega)) dX12_ruled_200 (fun H locs hP hD hS => ?_)
                      have hc9 := cl_I (i := x_1121) (by omega)
                      obtain ⟨g_1122, eqg_1122⟩ : ∃ y : Nat → Int32, y = upd g_1115 (Int32.toNatClampNeg x_1121) v_1070 := ⟨_, rfl⟩
                      rw [← eqg_1122] at hP hD
                      have hbg_1122 : wOK g_1122 := by rw [eqg_1122]; exact ⟨hbg_1115.1.up (fun h1 h2 h3 => by exfalso; omega), hbg_1115.2.1.up (fun h1 h2 h3 => by exfalso; omega), hbg_1115.2.2.1.up (fun h1 h2 h3 => by exfalso; omega), hbg_1115.2.2.2.1.up (fun h1 h2 h3 => by exfalso; omega), hbg_1115.2.2.2.2.1.up (fun h1 h2 h3 => by exfalso; omega), hbg_1115.2.2.2.2.2.1.up (fun h1 h2 h3 => by exfalso; omega), hbg_1115.2.2.2.2.2.2.1.up (fun h1 h2 h3 => by exfalso; omega), hbg_1115.2.2.2.2.2.2.2.1.up (fun h1 h2 h3 => by exfalso; omega), hbg_1115.2.2.2.2.2.2.2.2.1.up (fun h1 h2 h3 => by exfalso; omega), hbg_1115.2.2.2.2.2.2.2.2.2.1.up (fun h1 h2 h3 => by exfalso; omega), hbg_1115.2.2.2.2.2.2.2.2.2.2.1.up (fun h1 h2 h3 => by exfalso; omega), hbg_1115.2.2.2.2.2.2.2.2.2.2.2.1.up (fun h1 h2 h3 => by exfalso; omega), hbg_1115.2.2.2.2.2.2.2.2.2.2.2.2.1.up (fun h1 h2 h3 => by constructor <;> omega), hbg_1115.2.2.2.2.2.2.2.2.2.2.2.2.2.1.up (fun h1 h2 h3 => by exfalso; omega), hbg_1115.2.2.2.2.2.2.2.2.2.2.2.2.2.2.1.up (fun h1 h2 h3 => by exfalso; omega), hbg_1115.2.2.2.2.2.2.2.2.2.2.2.2.2.2.2.up (fun h1 h2 h3 => by exfalso; omega)⟩
                      obtain ⟨f_1124, ef_1124⟩ : ∃ y : Nat → va_E, y = va_up f_1117 a_3 (.inl (cI, 1560, .inl g_1122)) := ⟨_, rfl⟩
                      have hP : va_P (dC, dI) vwCl (va_pl L f_1124) H := by rw [ef_1124]; exact hP
                      have hD : va_D (fun q => q ∈ L) (va_pl L f_1124) := by rw [ef_1124]; exact hD
                      have hG : GI (okc cI cL cZ cR cG cH L kd) kd L f_1124 := by rw [ef_1124]; exact hG.set a_3 (mk_576 ka_3 ⟨_, rfl, hbg_1122⟩)
                      have hfo_1125 : f_1124 o0 = .inr (12, [.ref a_2, .ref a_3, .ref a_4, .int v_5, .ref a_6, .int v_7, .int v_1063, .int v_1064, .int v_1065, .int v_1066, .int v_1067, .int v_1068, .int v_1069, .int v_1070, .int v_1071, .ref a_17, .ref a_18, .ref a_19, .ref a_20, .ref a_21, .ref a_22, .ref a_23, .ref a_24, .int v_25, .int v_1081, .int v_27, .int v_1083, .int v_29, .ref a_30, .int v_31, .ref a_32, .ref a_33, .int v_34, .int v_35, .ref a_36, .int v_37, .ref a_38, .ref a_39, .int v_40, .int v_1096, .ref a_42, .ref a_43, .ref a_44, .int v_45, .ref a_46, .ref a_47, .ref a_48, .ref a_49, .ref a_50, .ref a_51, .ref a_52, .ref a_53, .ref a_54, .int v_55, .int v_1111, .ref a_57]) := by rw [ef_1124, up_ne (kd_ne ka_3 ko0 (by decide))]; exact hfo_1118
                      have hfr0 : ∀ b, kd b ≠ 12 → kd b ≠ 576 → f_1124 b = f b := fun b q12 q576 => (congrFun ef_1124 b).trans ((up_ne (fun e9 => q576 (by rw [e9]; exact ka_3))).trans (hfr0 b q12 q576))
                      have hrA12 : ∀ b, kd b = 12 → ∀ j, fldR (f_1124 b) j = fldR (f b) j := fun b kb j => (congrArg (fun x => fldR x j) ((congrFun ef_1124 b).trans (up_ne (kd_ne ka_3 kb (by decide))))).trans (hrA12 b kb j)
                      have hfA12 : ∀ b, kd b = 12 → ∀ j, j ≠ 6 → j ≠ 7 → j ≠ 8 → j ≠ 11 → j ≠ 12 → j ≠ 13 → j ≠ 14 → fldI (f_1124 b) j = fldI (f b) j := fun b kb j n6 n7 n8 n11 n12 n13 n14 => (congrArg (fun x => fldI x j) ((congrFun ef_1124 b).trans (up_ne (kd_ne ka_3 kb (by decide))))).trans (hfA12 b kb j n6 n7 n8 n11 n12 n13 n14)
                      have hT_128 : frel kd 576 7 f_1124 a_3 := by rw [ef_1124]; exact frel.mk ka_3 up_self (by rw [eqg_1122]; exact (hT_128.get hfo_1119).up (hbg_1115.2.1 16 (by decide) (by decide) (by decide)).2 (by omega) (by omega) (by omega) (fun h9 => by exfalso; omega))
                      have hMm_194 : ∀ z9, fldI (f_1124 o0) 6 = some z9 → v_8.toInt ≤ z9.toInt := by rw [ef_1124]; exact (fun z9 h9 => hMm_194 z9 (by rw [up_ne (kd_ne ka_3 ko0 (by decide))] at h9; exact h9))
                      have hfo_1126 : f_1124 a_3 = .inl (cI, 1560, .inl g_1122) := by rw [ef_1124]; exact up_self
                      have ql_1127 : v_1070 = g_1122 (Int32.toNatClampNeg x_1121) := by rw [eqg_1122, pk_us]
                      refine lv_aload_n hx hb dX12_ruled_201 rfl (lv_at hl 5 rfl) ?_
                      refine tk_getP (D := (dC, dI)) (ci := 12) (v := .ref a_3) (C := RX12) (T := TX12) (N := 56) hx hb hU inlX12 hown hK hP mo0 hfo_1125 rfl 1 (by decide) (hU _ wd_170) (fun _ h9 => h9) rfl dX12_ruled_202 ?_
                      refine lv_iload hx hb dX12_ruled_205 (lv_at hl 0 rfl) ?_
                      refine lv_iconst (v := 2) hx hb dX12_ruled_207 (by decide) ?_
                      refine lv_iadd hx hb dX12_ruled_208 ?_
                      refine lv_topi (fun x_1128 ex_1128 => ?_)
                      have hx_1128 : x_1128.toInt = x_1055.toInt + 2 := by rw [ex_1128, ad_I (by rw [ti_2]; omega) (by rw [ti_2]; omega), ti_2]
                      have bx_1128 : (462 ≤ x_1128.toInt ∧ x_1128.toInt ≤ 490) := by constructor <;> omega
                      refine lv_iload_n hx hb dX12_ruled_209 rfl (lv_at hl 3 rfl) ?_
                      refine tk_istP hx hb hK hP hD hS 0 ma_3 hfo_1126 rfl (vp_in_iff.mpr (by constructor <;> omega)) dX12_ruled_210 (fun H locs hP hD hS => ?_)
                      have hc9 := cl_I (i := x_1128) (by omega)
                      obtain ⟨g_1129, eqg_1129⟩ : ∃ y : Nat → Int32, y = upd g_1122 (Int32.toNatClampNeg x_1128) x_130 := ⟨_, rfl⟩
                      rw [← eqg_1129] at hP hD
                      have hbg_1129 : wOK g_1129 := by rw [eqg_1129]; exact ⟨hbg_1122.1.up (fun h1 h2 h3 => by exfalso; omega), hbg_1122.2.1.up (fun h1 h2 h3 => by exfalso; omega), hbg_1122.2.2.1.up (fun h1 h2 h3 => by exfalso; omega), hbg_1122.2.2.2.1.up (fun h1 h2 h3 => by exfalso; omega), hbg_1122.2.2.2.2.1.up (fun h1 h2 h3 => by exfalso; omega), hbg_1122.2.2.2.2.2.1.up (fun h1 h2 h3 => by exfalso; omega), hbg_1122.2.2.2.2.2.2.1.up (fun h1 h2 h3 => by exfalso; omega), hbg_1122.2.2.2.2.2.2.2.1.up (fun h1 h2 h3 => by exfalso; omega), hbg_1122.2.2.2.2.2.2.2.2.1.up (fun h1 h2 h3 => by exfalso; omega), hbg_1122.2.2.2.2.2.2.2.2.2.1.up (fun h1 h2 h3 => by exfalso; omega), hbg_1122.2.2.2.2.2.2.2.2.2.2.1.up (fun h1 h2 h3 => by exfalso; omega), hbg_1122.2.2.2.2.2.2.2.2.2.2.2.1.up (fun h1 h2 h3 => by exfalso; omega), hbg_1122.2.2.2.2.2.2.2.2.2.2.2.2.1.up (fun h1 h2 h3 => by constructor <;> omega), hbg_1122.2.2.2.2.2.2.2.2.2.2.2.2.2.1.up (fun h1 h2 h3 => by constructor <;> omega), hbg_1122.2.2.2.2.2.2.2.2.2.2.2.2.2.2.1.up (fun h1 h2 h3 => by exfalso; omega), hbg_1122.2.2.2.2.2.2.2.2.2.2.2.2.2.2.2.up (fun h1 h2 h3 => by exfalso; omega)⟩
                      obtain ⟨f_1131, ef_1131⟩ : ∃ y : Nat → va_E, y = va_up f_1124 a_3 (.inl (cI, 1560, .inl g_1129)) := ⟨_, rfl⟩
                      have hP : va_P (dC, dI) vwCl (va_pl L f_1131) H := by rw [ef_1131]; exact hP
                      have hD : va_D (fun q => q ∈ L) (va_pl L f_1131) := by rw [ef_1131]; exact hD
                      have hG : GI (okc cI cL cZ cR cG cH L kd) kd L f_1131 := by rw [ef_1131]; exact hG.set a_3 (mk_576 ka_3 ⟨_, rfl, hbg_1129⟩)
                      have hfo_1132 : f_1131 o0 = .inr (12, [.ref a_2, .ref a_3, .ref a_4, .int v_5, .ref a_6, .int v_7, .int v_1063, .int v_1064, .int v_1065, .int v_1066, .int v_1067, .int v_1068, .int v_1069, .int v_1070, .int v_1071, .ref a_17, .ref a_18, .ref a_19, .ref a_20, .ref a_21, .ref a_22, .ref a_23, .ref a_24, .int v_25, .int v_1081, .int v_27, .int v_1083, .int v_29, .ref a_30, .int v_31, .ref a_32, .ref a_33, .int v_34, .int v_35, .ref a_36, .int v_37, .ref a_38, .ref a_39, .int v_40, .int v_1096, .ref a_42, .ref a_43, .ref a_44, .int v_45, .ref a_46, .ref a_47, .ref a_48, .ref a_49, .ref a_50, .ref a_51, .ref a_52, .ref a_53, .ref a_54, .int v_55, .int v_1111, .ref a_57]) := by rw [ef_1131, up_ne (kd_ne ka_3 ko0 (by decide))]; exact hfo_1125
                      have hfr0 : ∀ b, kd b ≠ 12 → kd b ≠ 576 → f_1131 b = f b := fun b q12 q576 => (congrFun ef_1131 b).trans ((up_ne (fun e9 => q576 (by rw [e9]; exact ka_3))).trans (hfr0 b q12 q576))
                      have hrA12 : ∀ b, kd b = 12 → ∀ j, fldR (f_1131 b) j = fldR (f b) j := fun b kb j => (congrArg (fun x => fldR x j) ((congrFun ef_1131 b).trans (up_ne (kd_ne ka_3 kb (by decide))))).trans (hrA12 b kb j)
                      have hfA12 : ∀ b, kd b = 12 → ∀ j, j ≠ 6 → j ≠ 7 → j ≠ 8 → j ≠ 11 → j ≠ 12 → j ≠ 13 → j ≠ 14 → fldI (f_1131 b) j = fldI (f b) j := fun b kb j n6 n7 n8 n11 n12 n13 n14 => (congrArg (fun x => fldI x j) ((congrFun ef_1131 b).trans (up_ne (kd_ne ka_3 kb (by decide))))).trans (hfA12 b kb j n6 n7 n8 n11 n12 n13 n14)
                      have hT_128 : frel kd 576 7 f_1131 a_3 := by rw [ef_1131]; exact frel.mk ka_3 up_self (by rw [eqg_1129]; exact (hT_128.get hfo_1126).up (hbg_1122.2.1 16 (by decide) (by decide) (by decide)).2 (by omega) (by omega) (by omega) (fun h9 => by exfalso; omega))
                      have hMm_194 : ∀ z9, fldI (f_1131 o0) 6 = some z9 → v_8.toInt ≤ z9.toInt := by rw [ef_1131]; exact (fun z9 h9 => hMm_194 z9 (by rw [up_ne (kd_ne ka_3 ko0 (by decide))] at h9; exact h9))
                      have hfo_1133 : f_1131 a_3 = .inl (cI, 1560, .inl g_1129) := by rw [ef_1131]; exact up_self
                      have ql_1134 : x_130 = g_1129 (Int32.toNatClampNeg x_1128) := by rw [eqg_1129, pk_us]
                      refine lv_aload_n hx hb dX12_ruled_211 rfl (lv_at hl 5 rfl) ?_
                      refine tk_getP (D := (dC, dI)) (ci := 12) (v := .ref a_3) (C := RX12) (T := TX12) (N := 56) hx hb hU inlX12 hown hK hP mo0 hfo_1132 rfl 1 (by decide) (hU _ wd_170) (fun _ h9 => h9) rfl dX12_ruled_212 ?_
                      refine lv_iload hx hb dX12_ruled_215 (lv_at hl 0 rfl) ?_
                      refine lv_iconst (v := 3) hx hb dX12_ruled_217 (by decide) ?_
                      refine lv_iadd hx hb dX12_ruled_218 ?_
                      refine lv_topi (fun x_1135 ex_1135 => ?_)
                      have hx_1135 : x_1135.toInt = x_1055.toInt + 3 := by rw [ex_1135, ad_I (by rw [ti_3]; omega) (by rw [ti_3]; omega), ti_3]
                      have bx_1135 : (463 ≤ x_1135.toInt ∧ x_1135.toInt ≤ 491) := by constructor <;> omega
                      refine lv_iload_n hx hb dX12_ruled_219 rfl (lv_at hl 2 rfl) ?_
                      refine tk_istP hx hb hK hP hD hS 0 ma_3 hfo_1133 rfl (vp_in_iff.mpr (by constructor <;> omega)) dX12_ruled_220 (fun H locs hP hD hS => ?_)
                      have hc9 := cl_I (i := x_1135) (by omega)
                      obtain ⟨g_1136, eqg_1136⟩ : ∃ y : Nat → Int32, y = upd g_1129 (Int32.toNatClampNeg x_1135) y_1050 := ⟨_, rfl⟩
                      rw [← eqg_1136] at hP hD
                      have hbg_1136 : wOK g_1136 := by rw [eqg_1136]; exact ⟨hbg_1129.1.up (fun h1 h2 h3 => by exfalso; omega), hbg_1129.2.1.up (fun h1 h2 h3 => by exfalso; omega), hbg_1129.2.2.1.up (fun h1 h2 h3 => by exfalso; omega), hbg_1129.2.2.2.1.up (fun h1 h2 h3 => by exfalso; omega), hbg_1129.2.2.2.2.1.up (fun h1 h2 h3 => by exfalso; omega), hbg_1129.2.2.2.2.2.1.up (fun h1 h2 h3 => by exfalso; omega), hbg_1129.2.2.2.2.2.2.1.up (fun h1 h2 h3 => by exfalso; omega), hbg_1129.2.2.2.2.2.2.2.1.up (fun h1 h2 h3 => by exfalso; omega), hbg_1129.2.2.2.2.2.2.2.2.1.up (fun h1 h2 h3 => by exfalso; omega), hbg_1129.2.2.2.2.2.2.2.2.2.1.up (fun h1 h2 h3 => by exfalso; omega), hbg_1129.2.2.2.2.2.2.2.2.2.2.1.up (fun h1 h2 h3 => by exfalso; omega), hbg_1129.2.2.2.2.2.2.2.2.2.2.2.1.up (fun h1 h2 h3 => by exfalso; omega), hbg_1129.2.2.2.2.2.2.2.2.2.2.2.2.1.up (fun h1 h2 h3 => by constructor <;> omega), hbg_1129.2.2.2.2.2.2.2.2.2.2.2.2.2.1.up (fun h1 h2 h3 => by exfalso; omega), hbg_1129.2.2.2.2.2.2.2.2.2.2.2.2.2.2.1.up (fun h1 h2 h3 => by constructor <;> omega), hbg_1129.2.2.2.2.2.2.2.2.2.2.2.2.2.2.2.up (fun h1 h2 h3 => by exfalso; omega)⟩
                      obtain ⟨f_1138, ef_1138⟩ : ∃ y : Nat → va_E, y = va_up f_1131 a_3 (.inl (cI, 1560, .inl g_1136)) := ⟨_, rfl⟩
                      have hP : va_P (dC, dI) vwCl (va_pl L f_1138) H := by rw [ef_1138]; exact hP
                      have hD : va_D (fun q => q ∈ L) (va_pl L f_1138) := by rw [ef_1138]; exact hD
                      have hG : GI (okc cI cL cZ cR cG cH L kd) kd L f_1138 := by rw [ef_1138]; exact hG.set a_3 (mk_576 ka_3 ⟨_, rfl, hbg_1136⟩)
                      have hfo_1139 : f_1138 o0 = .inr (12, [.ref a_2, .ref a_3, .ref a_4, .int v_5, .ref a_6, .int v_7, .int v_1063, .int v_1064, .int v_1065, .int v_1066, .int v_1067, .int v_1068, .int v_1069, .int v_1070, .int v_1071, .ref a_17, .ref a_18, .ref a_19, .ref a_20, .ref a_21, .ref a_22, .ref a_23, .ref a_24, .int v_25, .int v_1081, .int v_27, .int v_1083, .int v_29, .ref a_30, .int v_31, .ref a_32, .ref a_33, .int v_34, .int v_35, .ref a_36, .int v_37, .ref a_38, .ref a_39, .int v_40, .int v_1096, .ref a_42, .ref a_43, .ref a_44, .int v_45, .ref a_46, .ref a_47, .ref a_48, .ref a_49, .ref a_50, .ref a_51, .ref a_52, .ref a_53, .ref a_54, .int v_55, .int v_1111, .ref a_57]) := by rw [ef_1138, up_ne (kd_ne ka_3 ko0 (by decide))]; exact hfo_1132
                      have hfr0 : ∀ b, kd b ≠ 12 → kd b ≠ 576 → f_1138 b = f b := fun b q12 q576 => (congrFun ef_1138 b).trans ((up_ne (fun e9 => q576 (by rw [e9]; exact ka_3))).trans (hfr0 b q12 q576))
                      have hrA12 : ∀ b, kd b = 12 → ∀ j, fldR (f_1138 b) j = fldR (f b) j := fun b kb j => (congrArg (fun x => fldR x j) ((congrFun ef_1138 b).trans (up_ne (kd_ne ka_3 kb (by decide))))).trans (hrA12 b kb j)
                      have hfA12 : ∀ b, kd b = 12 → ∀ j, j ≠ 6 → j ≠ 7 → j ≠ 8 → j ≠ 11 → j ≠ 12 → j ≠ 13 → j ≠ 14 → fldI (f_1138 b) j = fldI (f b) j := fun b kb j n6 n7 n8 n11 n12 n13 n14 => (congrArg (fun x => fldI x j) ((congrFun ef_1138 b).trans (up_ne (kd_ne ka_3 kb (by decide))))).trans (hfA12 b kb j n6 n7 n8 n11 n12 n13 n14)
                      have hT_128 : frel kd 576 7 f_1138 a_3 := by rw [ef_1138]; exact frel.mk ka_3 up_self (by rw [eqg_1136]; exact (hT_128.get hfo_1133).up (hbg_1129.2.1 16 (by decide) (by decide) (by decide)).2 (by omega) (by omega) (by omega) (fun h9 => by exfalso; omega))
                      have hMm_194 : ∀ z9, fldI (f_1138 o0) 6 = some z9 → v_8.toInt ≤ z9.toInt := by rw [ef_1138]; exact (fun z9 h9 => hMm_194 z9 (by rw [up_ne (kd_ne ka_3 ko0 (by decide))] at h9; exact h9))
                      have hfo_1140 : f_1138 a_3 = .inl (cI, 1560, .inl g_1136) := by rw [ef_1138]; exact up_self
                      have ql_1141 : y_1050 = g_1136 (Int32.toNatClampNeg x_1135) := by rw [eqg_1136, pk_us]
                      refine lv_aload_n hx hb dX12_ruled_221 rfl (lv_at hl 5 rfl) ?_
                      refine tk_getP (D := (dC, dI)) (ci := 12) (v := .ref a_3) (C := RX12) (T := TX12) (N := 56) hx hb hU inlX12 hown hK hP mo0 hfo_1139 rfl 1 (by decide) (hU _ wd_170) (fun _ h9 => h9) rfl dX12_ruled_222 ?_
                      refine lv_bipush (v := 17) hx hb dX12_ruled_225 (by decide) ?_
                      refine lv_dup2_11 hx hb dX12_ruled_227 rfl rfl ?_
                      refine tk_ildP hx hb hK hP 0 ma_3 hfo_1140 rfl (vp_in_nI (n := 17) (by decide) (by decide)) dX12_ruled_228 ?_
                      refine lv_topi (fun x_1142 ex_1142 => ?_)
                      have bx_1142 : (0 ≤ x_1142.toInt ∧ x_1142.toInt ≤ 8) := by rw [ex_1142]; exact hbg_1136.2.2.1 _ (by decide) (by decide) (by decide)
                      have hF7c_1143 := hT_128.get hfo_1140
                      have hnrc_1144 : (0 ≤ x_1142.toInt ∧ x_1142.toInt ≤ 7) := by have hq1 := hF7c_1143.2.2.2; have hq2 : x_1142.toInt = (g_1136 17).toInt := (by rw [ex_1142]; rfl); constructor <;> omega
                      refine lv_iconst (v := 1) hx hb dX12_ruled_229 (by decide) ?_
                      refine lv_iadd hx hb dX12_ruled_230 ?_
                      refine lv_topi (fun x_1145 ex_1145 => ?_)
                      have hx_1145 : x_1145.toInt = x_1142.toInt + 1 := by rw [ex_1145, ad_I (by rw [ti_1]; omega) (by rw [ti_1]; omega), ti_1]
                      have bx_1145 : (1 ≤ x_1145.toInt ∧ x_1145.toInt ≤ 8) := by constructor <;> omega
                      refine tk_istP hx hb hK hP hD hS 0 ma_3 hfo_1140 rfl (vp_in_nI (n := 17) (by decide) (by decide)) dX12_ruled_231 (fun H locs hP hD hS => ?_)
                      have hc9 : ((Int32.toNatClampNeg 17 : Nat) : Int) = 17 := by decide
                      obtain ⟨g_1146, eqg_1146⟩ : ∃ y : Nat → Int32, y = upd g_1136 (Int32.toNatClampNeg 17) x_1145 := ⟨_, rfl⟩
                      rw [← eqg_1146] at hP hD
                      have hbg_1146 : wOK g_1146 := by rw [eqg_1146]; exact ⟨hbg_1136.1.up (fun h1 h2 h3 => by exfalso; omega), hbg_1136.2.1.up (fun h1 h2 h3 => by exfalso; omega), hbg_1136.2.2.1.up (fun h1 h2 h3 => by constructor <;> omega), hbg_1136.2.2.2.1.up (fun h1 h2 h3 => by exfalso; omega), hbg_1136.2.2.2.2.1.up (fun h1 h2 h3 => by exfalso; omega), hbg_1136.2.2.2.2.2.1.up (fun h1 h2 h3 => by exfalso; omega), hbg_1136.2.2.2.2.2.2.1.up (fun h1 h2 h3 => by exfalso; omega), hbg_1136.2.2.2.2.2.2.2.1.up (fun h1 h2 h3 => by exfalso; omega), hbg_1136.2.2.2.2.2.2.2.2.1.up (fun h1 h2 h3 => by exfalso; omega), hbg_1136.2.2.2.2.2.2.2.2.2.1.up (fun h1 h2 h3 => by exfalso; omega), hbg_1136.2.2.2.2.2.2.2.2.2.2.1.up (fun h1 h2 h3 => by exfalso; omega), hbg_1136.2.2.2.2.2.2.2.2.2.2.2.1.up (fun h1 h2 h3 => by exfalso; omega), hbg_1136.2.2.2.2.2.2.2.2.2.2.2.2.1.up (fun h1 h2 h3 => by exfalso; omega), hbg_1136.2.2.2.2.2.2.2.2.2.2.2.2.2.1.up (fun h1 h2 h3 => by exfalso; omega), hbg_1136.2.2.2.2.2.2.2.2.2.2.2.2.2.2.1.up (fun h1 h2 h3 => by exfalso; omega), hbg_1136.2.2.2.2.2.2.2.2.2.2.2.2.2.2.2.up (fun h1 h2 h3 => by exfalso; omega)⟩
                      obtain ⟨f_1148, ef_1148⟩ : ∃ y : Nat → va_E, y = va_up f_1138 a_3 (.inl (cI, 1560, .inl g_1146)) := ⟨_, rfl⟩
                      have hP : va_P (dC, dI) vwCl (va_pl L f_1148) H := by rw [ef_1148]; exact hP
                      have hD : va_D (fun q => q ∈ L) (va_pl L f_1148) := by rw [ef_1148]; exact hD
                      have hG : GI (okc cI cL cZ cR cG cH L kd) kd L f_1148 := by rw [ef_1148]; exact hG.set a_3 (mk_576 ka_3 ⟨_, rfl, hbg_1146⟩)
                      have hfo_1149 : f_1148 o0 = .inr (12, [.ref a_2, .ref a_3, .ref a_4, .int v_5, .ref a_6, .int v_7, .int v_1063, .int v_1064, .int v_1065, .int v_1066, .int v_1067, .int v_1068, .int v_1069, .int v_1070, .int v_1071, .ref a_17, .ref a_18, .ref a_19, .ref a_20, .ref a_21, .ref a_22, .ref a_23, .ref a_24, .int v_25, .int v_1081, .int v_27, .int v_1083, .int v_29, .ref a_30, .int v_31, .ref a_32, .ref a_33, .int v_34, .int v_35, .ref a_36, .int v_37, .ref a_38, .ref a_39, .int v_40, .int v_1096, .ref a_42, .ref a_43, .ref a_44, .int v_45, .ref a_46, .ref a_47, .ref a_48, .ref a_49, .ref a_50, .ref a_51, .ref a_52, .ref a_53, .ref a_54, .int v_55, .int v_1111, .ref a_57]) := by rw [ef_1148, up_ne (kd_ne ka_3 ko0 (by decide))]; exact hfo_1139
                      have hfr0 : ∀ b, kd b ≠ 12 → kd b ≠ 576 → f_1148 b = f b := fun b q12 q576 => (congrFun ef_1148 b).trans ((up_ne (fun e9 => q576 (by rw [e9]; exact ka_3))).trans (hfr0 b q12 q576))
                      have hrA12 : ∀ b, kd b = 12 → ∀ j, fldR (f_1148 b) j = fldR (f b) j := fun b kb j => (congrArg (fun x => fldR x j) ((congrFun ef_1148 b).trans (up_ne (kd_ne ka_3 kb (by decide))))).trans (hrA12 b kb j)
                      have hfA12 : ∀ b, kd b = 12 → ∀ j, j ≠ 6 → j ≠ 7 → j ≠ 8 → j ≠ 11 → j ≠ 12 → j ≠ 13 → j ≠ 14 → fldI (f_1148 b) j = fldI (f b) j := fun b kb j n6 n7 n8 n11 n12 n13 n14 => (congrArg (fun x => fldI x j) ((congrFun ef_1148 b).trans (up_ne (kd_ne ka_3 kb (by decide))))).trans (hfA12 b kb j n6 n7 n8 n11 n12 n13 n14)
                      have hMm_194 : ∀ z9, fldI (f_1148 o0) 6 = some z9 → v_8.toInt ≤ z9.toInt := by rw [ef_1148]; exact (fun z9 h9 => hMm_194 z9 (by rw [up_ne (kd_ne ka_3 ko0 (by decide))] at h9; exact h9))
                      have hfo_1150 : f_1148 a_3 = .inl (cI, 1560, .inl g_1146) := by rw [ef_1148]; exact up_self
                      have ql_1151 : x_1145 = g_1146 (Int32.toNatClampNeg 17) := by rw [eqg_1146, pk_us]
                      refine lv_iconst (v := 1) hx hb dX12_ruled_232 (by decide) ?_
                      have hM9 := hMm_194 v_1063 (by rw [hfo_1149]; rfl)
                      exact W.zret (v := 1) (ty := .boolean) hx hb hr rfl (fun t ht hW => ⟨⟨1, f_1148, rfl, ⟨hG, (by decide), hfr0, hrA12, hfA12, (by intro w6 z6 e6 d6; rw [hfo_1] at e6; rw [hfo_1149] at d6; obtain rfl := Option.some.inj e6; obtain rfl := Option.some.inj d6; (try rw [ti_1]) <;> omega), (fun d9 h9 => by rw [hfo_1149] at h9; obtain rfl := Option.some.inj h9; exact frel.mk ka_3 hfo_1150 (by rw [eqg_1146]; exact hF7c_1143.same (hbg_1136.2.1 16 (by decide) (by decide) (by decide)).2 (pk_un (by decide)) (pk_un (by decide)) (fun k9 h9 => pk_un (by have hc8 : Int32.toNatClampNeg 17 = 17 := rfl; omega)) (by rw [show (17 : Nat) = Int32.toNatClampNeg 17 from rfl, pk_us]; omega)))⟩, by rw [ht]; exact hP, va_K.moved hW.alike hK, pl_in hD⟩, hS.F ht⟩) hS.2.2 dX12_ruled_233
                    · skip
                      rw [← Int32.toInt_inj, ti_0] at c_1053
                      have hclc_1152 : (0 ≤ y_1050.toInt ∧ y_1050.toInt ≤ 2) := by constructor <;> omega
                      refine lv_aload_n hx hb dX12_ruled_97 rfl (lv_at hl 4 rfl) ?_
                      refine lv_iconst (v := 3) hx hb dX12_ruled_98 (by decide) ?_
                      refine lv_iload_n hx hb dX12_ruled_99 rfl (lv_at hl 3 rfl) ?_
                      refine lv_imul hx hb dX12_ruled_100 ?_
                      refine lv_topi (fun x_1153 ex_1153 => ?_)
                      have hx_1153 : x_1153.toInt = 3 * x_60.toInt := by rw [ex_1153, ml_I (by rw [ti_3]; omega) (by rw [ti_3]; omega), ti_3]
                      have bx_1153 : (0 ≤ x_1153.toInt ∧ x_1153.toInt ≤ 21) := by constructor <;> omega
                      refine lv_iload_n hx hb dX12_ruled_101 rfl (lv_at hl 1 rfl) ?_
                      refine lv_iadd hx hb dX12_ruled_102 ?_
                      refine lv_topi (fun x_1154 ex_1154 => ?_)
                      have hx_1154 : x_1154.toInt = x_1153.toInt + y_1050.toInt := by rw [ex_1154, ad_I (by omega) (by omega)]
                      have bx_1154 : (0 ≤ x_1154.toInt ∧ x_1154.toInt ≤ 23) := by constructor <;> omega
                      obtain ⟨a_1156, a_1157, a_1158, v_1159, a_1160, v_1161, v_1162, v_1163, v_1164, v_1165, v_1166, v_1167, v_1168, v_1169, v_1170, a_1171, a_1172, a_1173, a_1174, a_1175, a_1176, a_1177, a_1178, v_1179, v_1180, v_1181, v_1182, v_1183, a_1184, v_1185, a_1186, a_1187, v_1188, v_1189, a_1190, v_1191, a_1192, a_1193, v_1194, v_1195, a_1196, a_1197, a_1198, v_1199, a_1200, a_1201, a_1202, a_1203, a_1204, a_1205, a_1206, a_1207, a_1208, v_1209, v_1210, a_1211, hfo_1155, ⟨ma_1156, ka_1156⟩, ⟨ma_1157, ka_1157⟩, ⟨ma_1158, ka_1158⟩, bv_1159, ⟨ma_1160, ka_1160⟩, bv_1161, bv_1162, bv_1167, bv_1168, bv_1169, ⟨ma_1171, ka_1171⟩, ⟨ma_1172, ka_1172⟩, ⟨ma_1173, ka_1173⟩, ⟨ma_1174, ka_1174⟩, ⟨ma_1175, ka_1175⟩, ⟨ma_1176, ka_1176⟩, ⟨ma_1177, ka_1177⟩, ⟨ma_1178, ka_1178⟩, bv_1179, bv_1181, bv_1183, ⟨ma_1184, ka_1184⟩, bv_1185, ⟨ma_1186, ka_1186⟩, ⟨ma_1187, ka_1187⟩, bv_1188, ⟨ma_1190, ka_1190⟩, bv_1191, ⟨ma_1192, ka_1192⟩, ⟨ma_1193, ka_1193⟩, bv_1194, ⟨ma_1196, ka_1196⟩, ⟨ma_1197, ka_1197⟩, ⟨ma_1198, ka_1198⟩, bv_1199, ⟨ma_1200, ka_1200⟩, ⟨ma_1201, ka_1201⟩, ⟨ma_1202, ka_1202⟩, ⟨ma_1203, ka_1203⟩, ⟨ma_1204, ka_1204⟩, ⟨ma_1205, ka_1205⟩, ⟨ma_1206, ka_1206⟩, ⟨ma_1207, ka_1207⟩, ⟨ma_1208, ka_1208⟩, bv_1209, ⟨ma_1211, ka_1211⟩⟩ := un_12 (hG _ mo0) ko0
                      have bv_1163 : ((-2147483648) ≤ v_1163.toInt ∧ v_1163.toInt ≤ 2147483647) := ⟨i32_lo _, i32_hi _⟩
                      have bv_1164 : ((-2147483648) ≤ v_1164.toInt ∧ v_1164.toInt ≤ 2147483647) := ⟨i32_lo _, i32_hi _⟩
                      have bv_1165 : ((-2147483648) ≤ v_1165.toInt ∧ v_1165.toInt ≤ 2147483647) := ⟨i32_lo _, i32_hi _⟩
                      have bv_1166 : ((-2147483648) ≤ v_1166.toInt ∧ v_1166.toInt ≤ 2147483647) := ⟨i32_lo _, i32_hi _⟩
                      have bv_1170 : ((-2147483648) ≤ v_1170.toInt ∧ v_1170.toInt ≤ 2147483647) := ⟨i32_lo _, i32_hi _⟩
                      have bv_1180 : ((-2147483648) ≤ v_1180.toInt ∧ v_1180.toInt ≤ 2147483647) := ⟨i32_lo _, i32_hi _⟩
                      have bv_1182 : ((-2147483648) ≤ v_1182.toInt ∧ v_1182.toInt ≤ 2147483647) := ⟨i32_lo _, i32_hi _⟩
                      have bv_1189 : ((-2147483648) ≤ v_1189.toInt ∧ v_1189.toInt ≤ 2147483647) := ⟨i32_lo _, i32_hi _⟩
                      have bv_1195 : ((-2147483648) ≤ v_1195.toInt ∧ v_1195.toInt ≤ 2147483647) := ⟨i32_lo _, i32_hi _⟩
                      have bv_1210 : ((-2147483648) ≤ v_1210.toInt ∧ v_1210.toInt ≤ 2147483647) := ⟨i32_lo _, i32_hi _⟩
                      obtain ⟨rfl, rfl, rfl, rfl, rfl, rfl, rfl, rfl, rfl, rfl, rfl, rfl, rfl, rfl, rfl, rfl, rfl, rfl, rfl, rfl, rfl, rfl, rfl, rfl, rfl, rfl, rfl, rfl, rfl, rfl, rfl⟩ := re_12 hfo_1 hfo_1155 (hrA12 o0 ko0)
                      obtain rfl := ri_12_3 hfo_1 hfo_1155 (hfA12 o0 ko0 3 (by decide) (by decide) (by decide) (by decide) (by decide) (by decide) (by decide))
                      obtain rfl := ri_12_5 hfo_1 hfo_1155 (hfA12 o0 ko0 5 (by decide) (by decide) (by decide) (by decide) (by decide) (by decide) (by decide))
                      obtain rfl := ri_12_23 hfo_1 hfo_1155 (hfA12 o0 ko0 23 (by decide) (by decide) (by decide) (by decide) (by decide) (by decide) (by decide))
                      obtain rfl := ri_12_25 hfo_1 hfo_1155 (hfA12 o0 ko0 25 (by decide) (by decide) (by decide) (by decide) (by decide) (by decide) (by decide))
                      obtain rfl := ri_12_27 hfo_1 hfo_1155 (hfA12 o0 ko0 27 (by decide) (by decide) (by decide) (by decide) (by decide) (by decide) (by decide))
                      obtain rfl := ri_12_29 hfo_1 hfo_1155 (hfA12 o0 ko0 29 (by decide) (by decide) (by decide) (by decide) (by decide) (by decide) (by decide))
                      obtain rfl := ri_12_32 hfo_1 hfo_1155 (hfA12 o0 ko0 32 (by decide) (by decide) (by decide) (by decide) (by decide) (by decide) (by decide))
                      obtain rfl := ri_12_33 hfo_1 hfo_1155 (hfA12 o0 ko0 33 (by decide) (by decide) (by decide) (by decide) (by decide) (by decide) (by decide))
                      obtain rfl := ri_12_35 hfo_1 hfo_1155 (hfA12 o0 ko0 35 (by decide) (by decide) (by decide) (by decide) (by decide) (by decide) (by decide))
                      obtain rfl := ri_12_38 hfo_1 hfo_1155 (hfA12 o0 ko0 38 (by decide) (by decide) (by decide) (by decide) (by decide) (by decide) (by decide))
                      obtain rfl := ri_12_43 hfo_1 hfo_1155 (hfA12 o0 ko0 43 (by decide) (by decide) (by decide) (by decide) (by decide) (by decide) (by decide))
                      obtain rfl := ri_12_53 hfo_1 hfo_1155 (hfA12 o0 ko0 53 (by decide) (by decide) (by decide) (by decide) (by decide) (by decide) (by decide))
                      refine tk_ViP (As := [.int x_1154]) (rest := []) (n := 1) hx hb hml hown hU hN hZ (s_X12_context_k12 l (dC, dI) cI cL cZ cR cG cH Z kd L f_1052 hG o0 mo0 ko0 x_1154 (by constructor <;> omega) (fun d9 h9 => by rw [hfo_1155] at h9; obtain rfl := Option.some.inj h9; exact hT_128)) wd_639 wd_640 wd_641 wd_5 wd_642 (by decide +kernel) ⟨Nat.le_of_ble_eq_true rfl, Nat.le_of_ble_eq_true rfl⟩ hK hP hD hS mo0 hfo_1155 12 rfl rfl rfl hl.1 rfl (Nat.le_of_ble_eq_true rfl) dX12_ruled_103 ⟨Nat.le_of_ble_eq_true rfl, Nat.le_of_ble_eq_true rfl⟩ (fun x_1212 f_1213 H locs hw hP hD hS => ?_)
                      obtain ⟨hG, bx_1212, hkc_1214, hra_1215, hfa_1216, hpost_1217, hTc_1218⟩ := hw
                      have hfr0 : ∀ b, kd b ≠ 12 → kd b ≠ 576 → f_1213 b = f b := fun b q12 q576 => (hkc_1214 b q12 q576).trans (hfr0 b q12 q576)
                      have hrA12 : ∀ b, kd b = 12 → ∀ j, fldR (f_1213 b) j = fldR (f b) j := fun b kb j => (hra_1215 b kb j).trans (hrA12 b kb j)
                      have hfA12 : ∀ b, kd b = 12 → ∀ j, j ≠ 6 → j ≠ 7 → j ≠ 8 → j ≠ 11 → j ≠ 12 → j ≠ 13 → j ≠ 14 → fldI (f_1213 b) j = fldI (f b) j := fun b kb j n6 n7 n8 n11 n12 n13 n14 => (hfa_1216 b kb j n6 n7 n8 n14).trans (hfA12 b kb j n6 n7 n8 n11 n12 n13 n14)
                      obtain ⟨a_1221, a_1222, a_1223, v_1224, a_1225, v_1226, v_1227, v_1228, v_1229, v_1230, v_1231, v_1232, v_1233, v_1234, v_1235, a_1236, a_1237, a_1238, a_1239, a_1240, a_1241, a_1242, a_1243, v_1244, v_1245, v_1246, v_1247, v_1248, a_1249, v_1250, a_1251, a_1252, v_1253, v_1254, a_1255, v_1256, a_1257, a_1258, v_1259, v_1260, a_1261, a_1262, a_1263, v_1264, a_1265, a_1266, a_1267, a_1268, a_1269, a_1270, a_1271, a_1272, a_1273, v_1274, v_1275, a_1276, hfo_1220, ⟨ma_1221, ka_1221⟩, ⟨ma_1222, ka_1222⟩, ⟨ma_1223, ka_1223⟩, bv_1224, ⟨ma_1225, ka_1225⟩, bv_1226, bv_1227, bv_1232, bv_1233, bv_1234, ⟨ma_1236, ka_1236⟩, ⟨ma_1237, ka_1237⟩, ⟨ma_1238, ka_1238⟩, ⟨ma_1239, ka_1239⟩, ⟨ma_1240, ka_1240⟩, ⟨ma_1241, ka_1241⟩, ⟨ma_1242, ka_1242⟩, ⟨ma_1243, ka_1243⟩, bv_1244, bv_1246, bv_1248, ⟨ma_1249, ka_1249⟩, bv_1250, ⟨ma_1251, ka_1251⟩, ⟨ma_1252, ka_1252⟩, bv_1253, ⟨ma_1255, ka_1255⟩, bv_1256, ⟨ma_1257, ka_1257⟩, ⟨ma_1258, ka_1258⟩, bv_1259, ⟨ma_1261, ka_1261⟩, ⟨ma_1262, ka_1262⟩, ⟨ma_1263, ka_1263⟩, bv_1264, ⟨ma_1265, ka_1265⟩, ⟨ma_1266, ka_1266⟩, ⟨ma_1267, ka_1267⟩, ⟨ma_1268, ka_1268⟩, ⟨ma_1269, ka_1269⟩, ⟨ma_1270, ka_1270⟩, ⟨ma_1271, ka_1271⟩, ⟨ma_1272, ka_1272⟩, ⟨ma_1273, ka_1273⟩, bv_1274, ⟨ma_1276, ka_1276⟩⟩ := un_12 (hG _ mo0) ko0
                      have bv_1228 : ((-2147483648) ≤ v_1228.toInt ∧ v_1228.toInt ≤ 2147483647) := ⟨i32_lo _, i32_hi _⟩
                      have bv_1229 : ((-2147483648) ≤ v_1229.toInt ∧ v_1229.toInt ≤ 2147483647) := ⟨i32_lo _, i32_hi _⟩
                      have bv_1230 : ((-2147483648) ≤ v_1230.toInt ∧ v_1230.toInt ≤ 2147483647) := ⟨i32_lo _, i32_hi _⟩
                      have bv_1231 : ((-2147483648) ≤ v_1231.toInt ∧ v_1231.toInt ≤ 2147483647) := ⟨i32_lo _, i32_hi _⟩
                      have bv_1235 : ((-2147483648) ≤ v_1235.toInt ∧ v_1235.toInt ≤ 2147483647) := ⟨i32_lo _, i32_hi _⟩
                      have bv_1245 : ((-2147483648) ≤ v_1245.toInt ∧ v_1245.toInt ≤ 2147483647) := ⟨i32_lo _, i32_hi _⟩
                      have bv_1247 : ((-2147483648) ≤ v_1247.toInt ∧ v_1247.toInt ≤ 2147483647) := ⟨i32_lo _, i32_hi _⟩
                      have bv_1254 : ((-2147483648) ≤ v_1254.toInt ∧ v_1254.toInt ≤ 2147483647) := ⟨i32_lo _, i32_hi _⟩
                      have bv_1260 : ((-2147483648) ≤ v_1260.toInt ∧ v_1260.toInt ≤ 2147483647) := ⟨i32_lo _, i32_hi _⟩
                      have bv_1275 : ((-2147483648) ≤ v_1275.toInt ∧ v_1275.toInt ≤ 2147483647) := ⟨i32_lo _, i32_hi _⟩
                      obtain ⟨rfl, rfl, rfl, rfl, rfl, rfl, rfl, rfl, rfl, rfl, rfl, rfl, rfl, rfl, rfl, rfl, rfl, rfl, rfl, rfl, rfl, rfl, rfl, rfl, rfl, rfl, rfl, rfl, rfl, rfl, rfl⟩ := re_12 hfo_1 hfo_1220 (hrA12 o0 ko0)
                      obtain rfl := ri_12_3 hfo_1 hfo_1220 (hfA12 o0 ko0 3 (by decide) (by decide) (by decide) (by decide) (by decide) (by decide) (by decide))
                      obtain rfl := ri_12_5 hfo_1 hfo_1220 (hfA12 o0 ko0 5 (by decide) (by decide) (by decide) (by decide) (by decide) (by decide) (by decide))
                      obtain rfl := ri_12_23 hfo_1 hfo_1220 (hfA12 o0 ko0 23 (by decide) (by decide) (by decide) (by decide) (by decide) (by decide) (by decide))
                      obtain rfl := ri_12_25 hfo_1 hfo_1220 (hfA12 o0 ko0 25 (by decide) (by decide) (by decide) (by decide) (by decide) (by decide) (by decide))
                      obtain rfl := ri_12_27 hfo_1 hfo_1220 (hfA12 o0 ko0 27 (by decide) (by decide) (by decide) (by decide) (by decide) (by decide) (by decide))
                      obtain rfl := ri_12_29 hfo_1 hfo_1220 (hfA12 o0 ko0 29 (by decide) (by decide) (by decide) (by decide) (by decide) (by decide) (by decide))
                      obtain rfl := ri_12_32 hfo_1 hfo_1220 (hfA12 o0 ko0 32 (by decide) (by decide) (by decide) (by decide) (by decide) (by decide) (by decide))
                      obtain rfl := ri_12_33 hfo_1 hfo_1220 (hfA12 o0 ko0 33 (by decide) (by decide) (by decide) (by decide) (by decide) (by decide) (by decide))
                      obtain rfl := ri_12_35 hfo_1 hfo_1220 (hfA12 o0 ko0 35 (by decide) (by decide) (by decide) (by decide) (by decide) (by decide) (by decide))
                      obtain rfl := ri_12_38 hfo_1 hfo_1220 (hfA12 o0 ko0 38 (by decide) (by decide) (by decide) (by decide) (by decide) (by decide) (by decide))
                      obtain rfl := ri_12_43 hfo_1 hfo_1220 (hfA12 o0 ko0 43 (by decide) (by decide) (by decide) (by decide) (by decide) (by decide) (by decide))
                      obtain rfl := ri_12_53 hfo_1 hfo_1220 (hfA12 o0 ko0 53 (by decide) (by decide) (by decide) (by decide) (by decide) (by decide) (by decide))
                      obtain rfl := ri_12_11 hfo_1155 hfo_1220 (hfa_1216 o0 ko0 11 (by decide) (by decide) (by decide) (by decide))
                      obtain rfl := ri_12_12 hfo_1155 hfo_1220 (hfa_1216 o0 ko0 12 (by decide) (by decide) (by decide) (by decide))
                      obtain rfl := ri_12_13 hfo_1155 hfo_1220 (hfa_1216 o0 ko0 13 (by decide) (by decide) (by decide) (by decide))
                      have hqhpost_1217 := hpost_1217 v_1162 v_1227 (by rw [hfo_1155]; rfl) (by rw [hfo_1220]; rfl)
                      have hMm_1277 : ∀ z9, fldI (f_1213 o0) 6 = some z9 → v_8.toInt ≤ z9.toInt := fun z9 h9 => by rw [hfo_1220] at h9; obtain rfl := Option.some.inj h9; have h8 := hMm_194 v_1162 (by rw [hfo_1155]; rfl); omega
                      have hT_1278 := hTc_1218 a_3 (by rw [hfo_1220]; rfl)
                      refine lv_if_ne (tgt := 111) hx hb dX12_ruled_106 (by decide) (fun c_1279 => ?_) (fun c_1279 => ?_)
                      · skip
                        rw [← Int32.toInt_inj, ti_0] at c_1279
                        obtain ⟨x_1280, ex_1280⟩ : ∃ y : Int32, y_1050 + 1 = y := ⟨_, rfl⟩
                        have hx_1280 : x_1280.toInt = y_1050.toInt + 1 := by rw [← ex_1280, ad_I (by rw [ti_1]; omega) (by rw [ti_1]; omega), ti_1]
                        have bx_1280 : (1 ≤ x_1280.toInt ∧ x_1280.toInt ≤ 3) := by constructor <;> omega
                        refine lv_iinc (v := x_1280) (lv' := [(3, .int x_1280), (4, .int y_1049), (2, .int x_130), (1, .int x_60), (0, .ref o0)]) hx hb dX12_ruled_111 hl (k := 1) rfl ex_1280 (by decide) rfl (fun ls hl => ?_)
                        refine lv_aload_n hx hb dX12_ruled_114 rfl (lv_at hl 4 rfl) ?_
                        refine tk_ViP (As := []) (rest := []) (n := 0) hx hb hml hown hU hN hZ (s_X12_sign_k12 l (dC, dI) cI cL cZ cR cG cH Z kd L f_1213 hG o0 mo0 ko0) wd_573 wd_574 wd_575 wd_5 wd_576 (by decide +kernel) ⟨Nat.le_of_ble_eq_true rfl, Nat.le_of_ble_eq_true rfl⟩ hK hP hD hS mo0 hfo_1220 12 rfl rfl rfl hl.1 rfl (Nat.le_of_ble_eq_true rfl) dX12_ruled_115 ⟨Nat.le_of_ble_eq_true rfl, Nat.le_of_ble_eq_true rfl⟩ (fun x_1281 f_1282 H locs hw hP hD hS => ?_)
                        obtain ⟨hG, bx_1281, hkc_1283, hra_1284, hfa_1285, hpost_1286⟩ := hw
                        have hfr0 : ∀ b, kd b ≠ 12 → kd b ≠ 576 → f_1282 b = f b := fun b q12 q576 => (hkc_1283 b q12).trans (hfr0 b q12 q576)
                        have hrA12 : ∀ b, kd b = 12 → ∀ j, fldR (f_1282 b) j = fldR (f b) j := fun b kb j => (hra_1284 b kb j).trans (hrA12 b kb j)
                        have hfA12 : ∀ b, kd b = 12 → ∀ j, j ≠ 6 → j ≠ 7 → j ≠ 8 → j ≠ 11 → j ≠ 12 → j ≠ 13 → j ≠ 14 → fldI (f_1282 b) j = fldI (f b) j := fun b kb j n6 n7 n8 n11 n12 n13 n14 => (hfa_1285 b kb j n6).trans (hfA12 b kb j n6 n7 n8 n11 n12 n13 n14)
                        have hT_1278 : frel kd 576 7 f_1282 a_3 := hT_1278.keep (fun b q => hkc_1283 b (by rw [q]; decide))
                        obtain ⟨a_1289, a_1290, a_1291, v_1292, a_1293, v_1294, v_1295, v_1296, v_1297, v_1298, v_1299, v_1300, v_1301, v_1302, v_1303, a_1304, a_1305, a_1306, a_1307, a_1308, a_1309, a_1310, a_1311, v_1312, v_1313, v_1314, v_1315, v_1316, a_1317, v_1318, a_1319, a_1320, v_1321, v_1322, a_1323, v_1324, a_1325, a_1326, v_1327, v_1328, a_1329, a_1330, a_1331, v_1332, a_1333, a_1334, a_1335, a_1336, a_1337, a_1338, a_1339, a_1340, a_1341, v_1342, v_1343, a_1344, hfo_1288, ⟨ma_1289, ka_1289⟩, ⟨ma_1290, ka_1290⟩, ⟨ma_1291, ka_1291⟩, bv_1292, ⟨ma_1293, ka_1293⟩, bv_1294, bv_1295, bv_1300, bv_1301, bv_1302, ⟨ma_1304, ka_1304⟩, ⟨ma_1305, ka_1305⟩, ⟨ma_1306, ka_1306⟩, ⟨ma_1307, ka_1307⟩, ⟨ma_1308, ka_1308⟩, ⟨ma_1309, ka_1309⟩, ⟨ma_1310, ka_1310⟩, ⟨ma_1311, ka_1311⟩, bv_1312, bv_1314, bv_1316, ⟨ma_1317, ka_1317⟩, bv_1318, ⟨ma_1319, ka_1319⟩, ⟨ma_1320, ka_1320⟩, bv_1321, ⟨ma_1323, ka_1323⟩, bv_1324, ⟨ma_1325, ka_1325⟩, ⟨ma_1326, ka_1326⟩, bv_1327, ⟨ma_1329, ka_1329⟩, ⟨ma_1330, ka_1330⟩, ⟨ma_1331, ka_1331⟩, bv_1332, ⟨ma_1333, ka_1333⟩, ⟨ma_1334, ka_1334⟩, ⟨ma_1335, ka_1335⟩, ⟨ma_1336, ka_1336⟩, ⟨ma_1337, ka_1337⟩, ⟨ma_1338, ka_1338⟩, ⟨ma_1339, ka_1339⟩, ⟨ma_1340, ka_1340⟩, ⟨ma_1341, ka_1341⟩, bv_1342, ⟨ma_1344, ka_1344⟩⟩ := un_12 (hG _ mo0) ko0
                        have bv_1296 : ((-2147483648) ≤ v_1296.toInt ∧ v_1296.toInt ≤ 2147483647) := ⟨i32_lo _, i32_hi _⟩
                        have bv_1297 : ((-2147483648) ≤ v_1297.toInt ∧ v_1297.toInt ≤ 2147483647) := ⟨i32_lo _, i32_hi _⟩
                        have bv_1298 : ((-2147483648) ≤ v_1298.toInt ∧ v_1298.toInt ≤ 2147483647) := ⟨i32_lo _, i32_hi _⟩
                        have bv_1299 : ((-2147483648) ≤ v_1299.toInt ∧ v_1299.toInt ≤ 2147483647) := ⟨i32_lo _, i32_hi _⟩
                        have bv_1303 : ((-2147483648) ≤ v_1303.toInt ∧ v_1303.toInt ≤ 2147483647) := ⟨i32_lo _, i32_hi _⟩
                        have bv_1313 : ((-2147483648) ≤ v_1313.toInt ∧ v_1313.toInt ≤ 2147483647) := ⟨i32_lo _, i32_hi _⟩
                        have bv_1315 : ((-2147483648) ≤ v_1315.toInt ∧ v_1315.toInt ≤ 2147483647) := ⟨i32_lo _, i32_hi _⟩
                        have bv_1322 : ((-2147483648) ≤ v_1322.toInt ∧ v_1322.toInt ≤ 2147483647) := ⟨i32_lo _, i32_hi _⟩
                        have bv_1328 : ((-2147483648) ≤ v_1328.toInt ∧ v_1328.toInt ≤ 2147483647) := ⟨i32_lo _, i32_hi _⟩
                        have bv_1343 : ((-2147483648) ≤ v_1343.toInt ∧ v_1343.toInt ≤ 2147483647) := ⟨i32_lo _, i32_hi _⟩
                        obtain ⟨rfl, rfl, rfl, rfl, rfl, rfl, rfl, rfl, rfl, rfl, rfl, rfl, rfl, rfl, rfl, rfl, rfl, rfl, rfl, rfl, rfl, rfl, rfl, rfl, rfl, rfl, rfl, rfl, rfl, rfl, rfl⟩ := re_12 hfo_1 hfo_1288 (hrA12 o0 ko0)
                        obtain rfl := ri_12_3 hfo_1 hfo_1288 (hfA12 o0 ko0 3 (by decide) (by decide) (by decide) (by decide) (by decide) (by decide) (by decide))
                        obtain rfl := ri_12_5 hfo_1 hfo_1288 (hfA12 o0 ko0 5 (by decide) (by decide) (by decide) (by decide) (by decide) (by decide) (by decide))
                        obtain rfl := ri_12_23 hfo_1 hfo_1288 (hfA12 o0 ko0 23 (by decide) (by decide) (by decide) (by decide) (by decide) (by decide) (by decide))
                        obtain rfl := ri_12_25 hfo_1 hfo_1288 (hfA12 o0 ko0 25 (by decide) (by decide) (by decide) (by decide) (by decide) (by decide) (by decide))
                        obtain rfl := ri_12_27 hfo_1 hfo_1288 (hfA12 o0 ko0 27 (by decide) (by decide) (by decide) (by decide) (by decide) (by decide) (by decide))
                        obtain rfl := ri_12_29 hfo_1 hfo_1288 (hfA12 o0 ko0 29 (by decide) (by decide) (by decide) (by decide) (by decide) (by decide) (by decide))
                        obtain rfl := ri_12_32 hfo_1 hfo_1288 (hfA12 o0 ko0 32 (by decide) (by decide) (by decide) (by decide) (by decide) (by decide) (by decide))
                        obtain rfl := ri_12_33 hfo_1 hfo_1288 (hfA12 o0 ko0 33 (by decide) (by decide) (by decide) (by decide) (by decide) (by decide) (by decide))
                        obtain rfl := ri_12_35 hfo_1 hfo_1288 (hfA12 o0 ko0 35 (by decide) (by decide) (by decide) (by decide) (by decide) (by decide) (by decide))
                        obtain rfl := ri_12_38 hfo_1 hfo_1288 (hfA12 o0 ko0 38 (by decide) (by decide) (by decide) (by decide) (by decide) (by decide) (by decide))
                        obtain rfl := ri_12_43 hfo_1 hfo_1288 (hfA12 o0 ko0 43 (by decide) (by decide) (by decide) (by decide) (by decide) (by decide) (by decide))
                        obtain rfl := ri_12_53 hfo_1 hfo_1288 (hfA12 o0 ko0 53 (by decide) (by decide) (by decide) (by decide) (by decide) (by decide) (by decide))
                        obtain rfl := ri_12_11 hfo_1220 hfo_1288 (hfa_1285 o0 ko0 11 (by decide))
                        obtain rfl := ri_12_12 hfo_1220 hfo_1288 (hfa_1285 o0 ko0 12 (by decide))
                        obtain rfl := ri_12_13 hfo_1220 hfo_1288 (hfa_1285 o0 ko0 13 (by decide))
                        obtain rfl := ri_12_14 hfo_1220 hfo_1288 (hfa_1285 o0 ko0 14 (by decide))
                        have hqhpost_1286 := hpost_1286 v_1227 v_1295 (by rw [hfo_1220]; rfl) (by rw [hfo_1288]; rfl)
                        have hMm_1345 : ∀ z9, fldI (f_1282 o0) 6 = some z9 → v_8.toInt ≤ z9.toInt := fun z9 h9 => by rw [hfo_1288] at h9; obtain rfl := Option.some.inj h9; have h8 := hMm_1277 v_1227 (by rw [hfo_1220]; rfl); omega
                        refine lv_bipush (v := 124) hx hb dX12_ruled_118 (by decide) ?_
                        have hcut_1347 : ∀ (y_1346 : Int32), (0 ≤ y_1346.toInt ∧ y_1346.toInt ≤ 1) → ∀ (ls : Array Slot), lv_has ls 6 [(3, .int x_1280), (4, .int y_1049), (2, .int x_130), (1, .int x_60), (0, .ref o0)] → W p l e (headSpec (wU yX12_ruled cX12_ruled 6 (some .boolean)) { frames := 7, cells := 0, slots := 0, locals := 150 }).room s m [.ref o0].toArray below meth c H locs 0 0 (MQ below (va_Qi (fun (r : Int32) (f9 : Nat → va_E) => GI (okc cI cL cZ cR cG cH L kd) kd L f9 ∧ (0 ≤ r.toInt ∧ r.toInt ≤ 1) ∧ (∀ b, kd b ≠ 12 → kd b ≠ 576 → f9 b = f b) ∧ (∀ b, kd b = 12 → ∀ j, fldR (f9 b) j = fldR (f b) j) ∧ (∀ b, kd b = 12 → ∀ j, j ≠ 6 → j ≠ 7 → j ≠ 8 → j ≠ 11 → j ≠ 12 → j ≠ 13 → j ≠ 14 → fldI (f9 b) j = fldI (f b) j) ∧ (∀ (w6 z6 : Int32), fldI (f o0) 6 = some w6 → fldI (f9 o0) 6 = some z6 → w6.toInt ≤ z6.toInt) ∧ (∀ d9, fldR (f9 o0) 1 = some d9 → frel kd 576 8 f9 d9)) (qP (dC, dI) cI cL cZ cR cG cH L) (fun q => q ∈ L)) [.ref o0].toArray s 0 0 (fun q => q ∈ L)) (F0 m 128 ls [.int y_1346]) := by
                          intro y_1346 by_1346 ls hl
                          refine lv_istore (lv' := [(4, .int y_1346), (3, .int x_1280), (2, .int x_130), (1, .int x_60), (0, .ref o0)]) hx hb dX12_ruled_128 hl (by decide) rfl (fun ls hl => ?_)
                          refine lv_iload hx hb dX12_ruled_130 (lv_at hl 0 rfl) ?_
                          refine lv_if_eq (tgt := 150) hx hb dX12_ruled_132 (by decide) (fun c_1348 => ?_) (fun c_1348 => ?_)
                          · skip
                            rw [← Int32.toInt_inj, ti_0] at c_1348
                            refine lv_iload hx hb dX12_ruled_150 (lv_at hl 0 rfl) ?_
                            refine lv_if_eq (tgt := 92) hx hb dX12_ruled_152 (by decide) (fun c_1349 => ?_) (fun c_1349 => ?_)
                            · skip
                              rw [← Int32.toInt_inj, ti_0] at c_1349
                              exact ih_hloop_1048 y_1346 (by constructor <;> omega) x_1280 (by constructor <;> omega) f_1282 hG _ _ hP hS hD hfr0 hrA12 hfA12 hT_1278 hMm_1345 (by omega) (by omega) ls (lv_sub hl [0, 1, 2, 3, 4] rfl)
                            · skip
                              rw [← Int32.toInt_inj, ti_0] at c_1349
                              exfalso
                              omega
                          · skip
                            rw [← Int32.toInt_inj, ti_0] at c_1348
                            refine lv_iload_n hx hb dX12_ruled_135 rfl (lv_at hl 1 rfl) ?_
                            refine lv_iconst (v := 3) hx hb dX12_ruled_136 (by decide) ?_
                            refine lv_icmp_ne (tgt := 150) hx hb dX12_ruled_137 (by decide) (fun c_1350 => ?_) (fun c_1350 => ?_)
                            · skip
                              rw [← Int32.toInt_inj, ti_3] at c_1350
                              refine lv_iload hx hb dX12_ruled_150 (lv_at hl 0 rfl) ?_
                              refine lv_if_eq (tgt := 92) hx hb dX12_ruled_152 (by decide) (fun c_1351 => ?_) (fun c_1351 => ?_)
                              · skip
                                rw [← Int32.toInt_inj, ti_0] at c_1351
                                exfalso
                                omega
                              · skip
                                rw [← Int32.toInt_inj, ti_0] at c_1351
                                have hclc_1352 : (0 ≤ v_1295.toInt ∧ v_1295.toInt ≤ 599) := by constructor <;> omega
                                refine lv_aload_n hx hb dX12_ruled_155 rfl (lv_at hl 4 rfl) ?_
                                refine lv_dup hx hb dX12_ruled_156 rfl ?_
                                refine tk_getP (D := (dC, dI)) (ci := 12) (v := .int v_1295) (C := RX12) (T := TX12) (N := 56) hx hb hU inlX12 hown hK hP mo0 hfo_1288 rfl 6 (by decide) (hU _ wd_566) (fun _ h9 => h9) rfl dX12_ruled_157 ?_
                                refine lv_iconst (v := 1) hx hb dX12_ruled_160 (by decide) ?_
                                refine lv_iadd hx hb dX12_ruled_161 ?_
                                refine lv_topi (fun x_1353 ex_1353 => ?_)
                                have hx_1353 : x_1353.toInt = v_1295.toInt + 1 := by rw [ex_1353, ad_I (by rw [ti_1]; omega) (by rw [ti_1]; omega), ti_1]
                                have bx_1353 : (1 ≤ x_1353.toInt ∧ x_1353.toInt ≤ 600) := by constructor <;> omega
                                refine tk_putP (D := (dC, dI)) (ci := 12) (v := .int x_1353) (ty := .int) (C := RX12) (T := TX12) (N := 56) hx hb hU inlX12 tyX12 tyX12_ok nmX12 hown hK hP hD hS mo0 hfo_1288 rfl 6 (by decide) (hU _ wd_566) (fun _ h9 => h9) rfl (by decide +kernel) rfl rfl (Nat.le_of_ble_eq_true rfl) dX12_ruled_162 (fun H locs hP hD hS => ?_)
                                obtain ⟨f_1355, ef_1355⟩ : ∃ y : Nat → va_E, y = va_up f_1282 o0 (.inr (12, [.ref a_2, .ref a_3, .ref a_4, .int v_5, .ref a_6, .int v_7, .int x_1353, .int v_1296, .int v_1297, .int v_1298, .int v_1299, .int v_1167, .int v_1168, .int v_1169, .int v_1235, .ref a_17, .ref a_18, .ref a_19, .ref a_20, .ref a_21, .ref a_22, .ref a_23, .ref a_24, .int v_25, .int v_1313, .int v_27, .int v_1315, .int v_29, .ref a_30, .int v_31, .ref a_32, .ref a_33, .int v_34, .int v_35, .ref a_36, .int v_37, .ref a_38, .ref a_39, .int v_40, .int v_1328, .ref a_42, .ref a_43, .ref a_44, .int v_45, .ref a_46, .ref a_47, .ref a_48, .ref a_49, .ref a_50, .ref a_51, .ref a_52, .ref a_53, .ref a_54, .int v_55, .int v_1343, .ref a_57])) := ⟨_, rfl⟩
                                have hP : va_P (dC, dI) vwCl (va_pl L f_1355) H := by rw [ef_1355]; exact hP
                                have hD : va_D (fun q => q ∈ L) (va_pl L f_1355) := by rw [ef_1355]; exact hD
                                have hG : GI (okc cI cL cZ cR cG cH L kd) kd L f_1355 := by rw [ef_1355]; exact hG.set o0 (mk_12 ko0 ⟨a_2, a_3, a_4, v_5, a_6, v_7, x_1353, v_1296, v_1297, v_1298, v_1299, v_1167, v_1168, v_1169, v_1235, a_17, a_18, a_19, a_20, a_21, a_22, a_23, a_24, v_25, v_1313, v_27, v_1315, v_29, a_30, v_31, a_32, a_33, v_34, v_35, a_36, v_37, a_38, a_39, v_40, v_1328, a_42, a_43, a_44, v_45, a_46, a_47, a_48, a_49, a_50, a_51, a_52, a_53, a_54, v_55, v_1343, a_57, rfl, ⟨ma_2, ka_2⟩, ⟨ma_3, ka_3⟩, ⟨ma_4, ka_4⟩, (by constructor <;> omega), ⟨ma_6, ka_6⟩, (by constructor <;> omega), (by constructor <;> omega), (by constructor <;> omega), (by constructor <;> omega), (by constructor <;> omega), ⟨ma_17, ka_17⟩, ⟨ma_18, ka_18⟩, ⟨ma_19, ka_19⟩, ⟨ma_20, ka_20⟩, ⟨ma_21, ka_21⟩, ⟨ma_22, ka_22⟩, ⟨ma_23, ka_23⟩, ⟨ma_24, ka_24⟩, (by constructor <;> omega), (by constructor <;> omega), (by constructor <;> omega), ⟨ma_30, ka_30⟩, (by constructor <;> omega), ⟨ma_32, ka_32⟩, ⟨ma_33, ka_33⟩, (by constructor <;> omega), ⟨ma_36, ka_36⟩, (by constructor <;> omega), ⟨ma_38, ka_38⟩, ⟨ma_39, ka_39⟩, (by constructor <;> omega), ⟨ma_42, ka_42⟩, ⟨ma_43, ka_43⟩, ⟨ma_44, ka_44⟩, (by constructor <;> omega), ⟨ma_46, ka_46⟩, ⟨ma_47, ka_47⟩, ⟨ma_48, ka_48⟩, ⟨ma_49, ka_49⟩, ⟨ma_50, ka_50⟩, ⟨ma_51, ka_51⟩, ⟨ma_52, ka_52⟩, ⟨ma_53, ka_53⟩, ⟨ma_54, ka_54⟩, (by constructor <;> omega), ⟨ma_57, ka_57⟩⟩)
                                have hfr0 : ∀ b, kd b ≠ 12 → kd b ≠ 576 → f_1355 b = f b := fun b q12 q576 => (congrFun ef_1355 b).trans ((up_ne (fun e9 => q12 (by rw [e9]; exact ko0))).trans (hfr0 b q12 q576))
                                have hrA12 : ∀ b, kd b = 12 → ∀ j, fldR (f_1355 b) j = fldR (f b) j := fun b kb j => ((congrArg (fun x => fldR x j) (congrFun ef_1355 b)).trans (fra_up (fun j => by rw [hfo_1288]; exact fr_set (k := 6) rfl rfl j) j b)).trans (hrA12 b kb j)
                                have hfA12 : ∀ b, kd b = 12 → ∀ j, j ≠ 6 → j ≠ 7 → j ≠ 8 → j ≠ 11 → j ≠ 12 → j ≠ 13 → j ≠ 14 → fldI (f_1355 b) j = fldI (f b) j := fun b kb j n6 n7 n8 n11 n12 n13 n14 => ((congrArg (fun x => fldI x j) (congrFun ef_1355 b)).trans (fia_up (fun h9 => by rw [hfo_1288]; exact fi_set (k := 6) rfl h9) n6 b)).trans (hfA12 b kb j n6 n7 n8 n11 n12 n13 n14)
                                have hT_1278 : frel kd 576 7 f_1355 a_3 := by rw [ef_1355]; exact hT_1278.keep (fun b q => up_ne (kd_ne ko0 q (by decide)))
                                have hMm_1345 : ∀ z9, fldI (f_1355 o0) 6 = some z9 → v_8.toInt ≤ z9.toInt := by rw [ef_1355]; exact (fun z9 h9 => by rw [up_self] at h9; obtain rfl := Option.some.inj h9; have h8 := hMm_1345 v_1295 (by rw [hfo_1288]; rfl); omega)
                                have hfo_1356 : f_1355 o0 = .inr (12, [.ref a_2, .ref a_3, .ref a_4, .int v_5, .ref a_6, .int v_7, .int x_1353, .int v_1296, .int v_1297, .int v_1298, .int v_1299, .int v_1167, .int v_1168, .int v_1169, .int v_1235, .ref a_17, .ref a_18, .ref a_19, .ref a_20, .ref a_21, .ref a_22, .ref a_23, .ref a_24, .int v_25, .int v_1313, .int v_27, .int v_1315, .int v_29, .ref a_30, .int v_31, .ref a_32, .ref a_33, .int v_34, .int v_35, .ref a_36, .int v_37, .ref a_38, .ref a_39, .int v_40, .int v_1328, .ref a_42, .ref a_43, .ref a_44, .int v_45, .ref a_46, .ref a_47, .ref a_48, .ref a_49, .ref a_50, .ref a_51, .ref a_52, .ref a_53, .ref a_54, .int v_55, .int v_1343, .ref a_57]) := by rw [ef_1355]; exact up_self
                                refine lv_goto (tgt := 92) hx hb dX12_ruled_165 (by decide) ?_
                                exact ih_hloop_1048 y_1346 (by constructor <;> omega) x_1280 (by constructor <;> omega) f_1355 hG _ _ hP hS hD hfr0 hrA12 hfA12 hT_1278 hMm_1345 (by omega) (by omega) ls (lv_sub hl [0, 1, 2, 3, 4] rfl)
                            · skip
                              rw [← Int32.toInt_inj, ti_3] at c_1350
                              refine lv_aload_n hx hb dX12_ruled_140 rfl (lv_at hl 4 rfl) ?_
                              refine lv_iconst (v := 3) hx hb dX12_ruled_141 (by decide) ?_
                              refine lv_aload_n hx hb dX12_ruled_142 rfl (lv_at hl 4 rfl) ?_
                              refine tk_getP (D := (dC, dI)) (ci := 12) (v := .int v_1295) (C := RX12) (T := TX12) (N := 56) hx hb hU inlX12 hown hK hP mo0 hfo_1288 rfl 6 (by decide) (hU _ wd_566) (fun _ h9 => h9) rfl dX12_ruled_143 ?_
                              refine tk_ViP (As := [.int 3, .int v_1295]) (rest := []) (n := 2) hx hb hml hown hU hN hZ (s_X12_bad_k12 l (dC, dI) cI cL cZ cR cG cH Z kd L f_1282 hG o0 mo0 ko0 3 v_1295) wd_602 wd_603 wd_604 wd_5 wd_605 (by decide +kernel) ⟨Nat.le_of_ble_eq_true rfl, Nat.le_of_ble_eq_true rfl⟩ hK hP hD hS mo0 hfo_1288 12 rfl rfl rfl hl.1 rfl (Nat.le_of_ble_eq_true rfl) dX12_ruled_146 ⟨Nat.le_of_ble_eq_true rfl, Nat.le_of_ble_eq_true rfl⟩ (fun x_1357 f_1358 H locs hw hP hD hS => ?_)
                              obtain ⟨hG, bx_1357, hkc_1359, hra_1360, hfa_1361⟩ := hw
                              have hfr0 : ∀ b, kd b ≠ 12 → kd b ≠ 576 → f_1358 b = f b := fun b q12 q576 => (hkc_1359 b q12).trans (hfr0 b q12 q576)
                              have hrA12 : ∀ b, kd b = 12 → ∀ j, fldR (f_1358 b) j = fldR (f b) j := fun b kb j => (hra_1360 b kb j).trans (hrA12 b kb j)
                              have hfA12 : ∀ b, kd b = 12 → ∀ j, j ≠ 6 → j ≠ 7 → j ≠ 8 → j ≠ 11 → j ≠ 12 → j ≠ 13 → j ≠ 14 → fldI (f_1358 b) j = fldI (f b) j := fun b kb j n6 n7 n8 n11 n12 n13 n14 => (hfa_1361 b kb j n7 n8).trans (hfA12 b kb j n6 n7 n8 n11 n12 n13 n14)
                              have hT_1278 : frel kd 576 7 f_1358 a_3 := hT_1278.keep (fun b q => hkc_1359 b (by rw [q]; decide))
                              have hMm_1345 : ∀ z9, fldI (f_1358 o0) 6 = some z9 → v_8.toInt ≤ z9.toInt := (fun z9 h9 => hMm_1345 z9 (by rw [hfa_1361 o0 ko0 6 (by decide) (by decide)] at h9; exact h9))
                              obtain ⟨a_1364, a_1365, a_1366, v_1367, a_1368, v_1369, v_1370, v_1371, v_1372, v_1373, v_1374, v_1375, v_1376, v_1377, v_1378, a_1379, a_1380, a_1381, a_1382, a_1383, a_1384, a_1385, a_1386, v_1387, v_1388, v_1389, v_1390, v_1391, a_1392, v_1393, a_1394, a_1395, v_1396, v_1397, a_1398, v_1399, a_1400, a_1401, v_1402, v_1403, a_1404, a_1405, a_1406, v_1407, a_1408, a_1409, a_1410, a_1411, a_1412, a_1413, a_1414, a_1415, a_1416, v_1417, v_1418, a_1419, hfo_1363, ⟨ma_1364, ka_1364⟩, ⟨ma_1365, ka_1365⟩, ⟨ma_1366, ka_1366⟩, bv_1367, ⟨ma_1368, ka_1368⟩, bv_1369, bv_1370, bv_1375, bv_1376, bv_1377, ⟨ma_1379, ka_1379⟩, ⟨ma_1380, ka_1380⟩, ⟨ma_1381, ka_1381⟩, ⟨ma_1382, ka_1382⟩, ⟨ma_1383, ka_1383⟩, ⟨ma_1384, ka_1384⟩, ⟨ma_1385, ka_1385⟩, ⟨ma_1386, ka_1386⟩, bv_1387, bv_1389, bv_1391, ⟨ma_1392, ka_1392⟩, bv_1393, ⟨ma_1394, ka_1394⟩, ⟨ma_1395, ka_1395⟩, bv_1396, ⟨ma_1398, ka_1398⟩, bv_1399, ⟨ma_1400, ka_1400⟩, ⟨ma_1401, ka_1401⟩, bv_1402, ⟨ma_1404, ka_1404⟩, ⟨ma_1405, ka_1405⟩, ⟨ma_1406, ka_1406⟩, bv_1407, ⟨ma_1408, ka_1408⟩, ⟨ma_1409, ka_1409⟩, ⟨ma_1410, ka_1410⟩, ⟨ma_1411, ka_1411⟩, ⟨ma_1412, ka_1412⟩, ⟨ma_1413, ka_1413⟩, ⟨ma_1414, ka_1414⟩, ⟨ma_1415, ka_1415⟩, ⟨ma_1416, ka_1416⟩, bv_1417, ⟨ma_1419, ka_1419⟩⟩ := un_12 (hG _ mo0) ko0
                              have bv_1371 : ((-2147483648) ≤ v_1371.toInt ∧ v_1371.toInt ≤ 2147483647) := ⟨i32_lo _, i32_hi _⟩
                              have bv_1372 : ((-2147483648) ≤ v_1372.toInt ∧ v_1372.toInt ≤ 2147483647) := ⟨i32_lo _, i32_hi _⟩
                              have bv_1373 : ((-2147483648) ≤ v_1373.toInt ∧ v_1373.toInt ≤ 2147483647) := ⟨i32_lo _, i32_hi _⟩
                              have bv_1374 : ((-2147483648) ≤ v_1374.toInt ∧ v_1374.toInt ≤ 2147483647) := ⟨i32_lo _, i32_hi _⟩
                              have bv_1378 : ((-2147483648) ≤ v_1378.toInt ∧ v_1378.toInt ≤ 2147483647) := ⟨i32_lo _, i32_hi _⟩
                              have bv_1388 : ((-2147483648) ≤ v_1388.toInt ∧ v_1388.toInt ≤ 2147483647) := ⟨i32_lo _, i32_hi _⟩
                              have bv_1390 : ((-2147483648) ≤ v_1390.toInt ∧ v_1390.toInt ≤ 2147483647) := ⟨i32_lo _, i32_hi _⟩
                              have bv_1397 : ((-2147483648) ≤ v_1397.toInt ∧ v_1397.toInt ≤ 2147483647) := ⟨i32_lo _, i32_hi _⟩
                              have bv_1403 : ((-2147483648) ≤ v_1403.toInt ∧ v_1403.toInt ≤ 2147483647) := ⟨i32_lo _, i32_hi _⟩
                              have bv_1418 : ((-2147483648) ≤ v_1418.toInt ∧ v_1418.toInt ≤ 2147483647) := ⟨i32_lo _, i32_hi _⟩
                              obtain ⟨rfl, rfl, rfl, rfl, rfl, rfl, rfl, rfl, rfl, rfl, rfl, rfl, rfl, rfl, rfl, rfl, rfl, rfl, rfl, rfl, rfl, rfl, rfl, rfl, rfl, rfl, rfl, rfl, rfl, rfl, rfl⟩ := re_12 hfo_1 hfo_1363 (hrA12 o0 ko0)
                              obtain rfl := ri_12_3 hfo_1 hfo_1363 (hfA12 o0 ko0 3 (by decide) (by decide) (by decide) (by decide) (by decide) (by decide) (by decide))
                              obtain rfl := ri_12_5 hfo_1 hfo_1363 (hfA12 o0 ko0 5 (by decide) (by decide) (by decide) (by decide) (by decide) (by decide) (by decide))
                              obtain rfl := ri_12_23 hfo_1 hfo_1363 (hfA12 o0 ko0 23 (by decide) (by decide) (by decide) (by decide) (by decide) (by decide) (by decide))
                              obtain rfl := ri_12_25 hfo_1 hfo_1363 (hfA12 o0 ko0 25 (by decide) (by decide) (by decide) (by decide) (by decide) (by decide) (by decide))
                              obtain rfl := ri_12_27 hfo_1 hfo_1363 (hfA12 o0 ko0 27 (by decide) (by decide) (by decide) (by decide) (by decide) (by decide) (by decide))
                              obtain rfl := ri_12_29 hfo_1 hfo_1363 (hfA12 o0 ko0 29 (by decide) (by decide) (by decide) (by decide) (by decide) (by decide) (by decide))
                              obtain rfl := ri_12_32 hfo_1 hfo_1363 (hfA12 o0 ko0 32 (by decide) (by decide) (by decide) (by decide) (by decide) (by decide) (by decide))
                              obtain rfl := ri_12_33 hfo_1 hfo_1363 (hfA12 o0 ko0 33 (by decide) (by decide) (by decide) (by decide) (by decide) (by decide) (by decide))
                              obtain rfl := ri_12_35 hfo_1 hfo_1363 (hfA12 o0 ko0 35 (by decide) (by decide) (by decide) (by decide) (by decide) (by decide) (by decide))
                              obtain rfl := ri_12_38 hfo_1 hfo_1363 (hfA12 o0 ko0 38 (by decide) (by decide) (by decide) (by decide) (by decide) (by decide) (by decide))
                              obtain rfl := ri_12_43 hfo_1 hfo_1363 (hfA12 o0 ko0 43 (by decide) (by decide) (by decide) (by decide) (by decide) (by decide) (by decide))
                              obtain rfl := ri_12_53 hfo_1 hfo_1363 (hfA12 o0 ko0 53 (by decide) (by decide) (by decide) (by decide) (by decide) (by decide) (by decide))
                              obtain rfl := ri_12_6 hfo_1288 hfo_1363 (hfa_1361 o0 ko0 6 (by decide) (by decide))
                              obtain rfl := ri_12_11 hfo_1288 hfo_1363 (hfa_1361 o0 ko0 11 (by decide) (by decide))
                              obtain rfl := ri_12_12 hfo_1288 hfo_1363 (hfa_1361 o0 ko0 12 (by decide) (by decide))
                              obtain rfl := ri_12_13 hfo_1288 hfo_1363 (hfa_1361 o0 ko0 13 (by decide) (by decide))
                              obtain rfl := ri_12_14 hfo_1288 hfo_1363 (hfa_1361 o0 ko0 14 (by decide) (by decide))
                              have hM9 := hMm_1345 v_1295 (by rw [hfo_1363]; rfl)
                              exact W.zret (v := x_1357) (ty := .boolean) hx hb hr (zb_n (by constructor <;> omega)) (fun t ht hW => ⟨⟨x_1357, f_1358, rfl, ⟨hG, (by constructor <;> omega), hfr0, hrA12, hfA12, (by intro w6 z6 e6 d6; rw [hfo_1] at e6; rw [hfo_1363] at d6; obtain rfl := Option.some.inj e6; obtain rfl := Option.some.inj d6; omega), (fun d9 h9 => by rw [hfo_1363] at h9; obtain rfl := Option.some.inj h9; exact hT_1278.weak)⟩, by rw [ht]; exact hP, va_K.moved hW.alike hK, pl_in hD⟩, hS.F ht⟩) hS.2.2 dX12_ruled_149
                        refine lv_icmp_ne (tgt := 127) hx hb dX12_ruled_120 (by decide) (fun c_1420 => ?_) (fun c_1420 => ?_)
                        · skip
                          rw [← Int32.toInt_inj, ti_124] at c_1420
                          refine lv_iconst (v := 0) hx hb dX12_ruled_127 (by decide) ?_
                          exact hcut_1347 0 (by decide) ls (lv_sub hl [0, 1, 2, 3, 4] rfl)
                        · skip
                          rw [← Int32.toInt_inj, ti_124] at c_1420
                          refine lv_iconst (v := 1) hx hb dX12_ruled_123 (by decide) ?_
                          refine lv_goto (tgt := 128) hx hb dX12_ruled_124 (by decide) ?_
                          exact hcut_1347 1 (by decide) ls (lv_sub hl [0, 1, 2, 3, 4] rfl)
                      · skip
                        rw [← Int32.toInt_inj, ti_0] at c_1279
                        refine lv_iconst (v := 0) hx hb dX12_ruled_109 (by decide) ?_
                        have hM9 := hMm_1277 v_1227 (by rw [hfo_1220]; rfl)
                        exact W.zret (v := 0) (ty := .boolean) hx hb hr rfl (fun t ht hW => ⟨⟨0, f_1213, rfl, ⟨hG, (by decide), hfr0, hrA12, hfA12, (by intro w6 z6 e6 d6; rw [hfo_1] at e6; rw [hfo_1220] at d6; obtain rfl := Option.some.inj e6; obtain rfl := Option.some.inj d6; (try rw [ti_0]) <;> omega), (fun d9 h9 => by rw [hfo_1220] at h9; obtain rfl := Option.some.inj h9; exact hT_1278.weak)⟩, by rw [ht]; exact hP, va_K.moved hW.alike hK, pl_in hD⟩, hS.F ht⟩) hS.2.2 dX12_ruled_110
                exact hloop_1048 5 1 (by decide) 0 (by decide) f_1041 hG _ _ hP hS hD hfr0 hrA12 hfA12 hT_128 hMm_194 (by (try rw [ti_1]) <;> (try rw [ti_0]) <;> omega) (by (try rw [ti_1]) <;> (try rw [ti_0]) <;> omega) ls hl
              · skip
                rw [← Int32.toInt_inj, ti_1] at c_1037
                exfalso
                omega
          · skip
            rw [← Int32.toInt_inj, ti_0] at c_1035
            refine lv_aload_n hx hb dX12_ruled_54 rfl (lv_at hl 2 rfl) ?_
            refine lv_iconst (v := 2) hx hb dX12_ruled_55 (by decide) ?_
            refine lv_aload_n hx hb dX12_ruled_56 rfl (lv_at hl 2 rfl) ?_
            refine tk_getP (D := (dC, dI)) (ci := 12) (v := .int v_144) (C := RX12) (T := TX12) (N := 56) hx hb hU inlX12 hown hK hP mo0 hfo_137 rfl 6 (by decide) (hU _ wd_566) (fun _ h9 => h9) rfl dX12_ruled_57 ?_
            refine tk_ViP (As := [.int 2, .int v_144]) (rest := []) (n := 2) hx hb hml hown hU hN hZ (s_X12_bad_k12 l (dC, dI) cI cL cZ cR cG cH Z kd L f_131 hG o0 mo0 ko0 2 v_144) wd_602 wd_603 wd_604 wd_5 wd_605 (by decide +kernel) ⟨Nat.le_of_ble_eq_true rfl, Nat.le_of_ble_eq_true rfl⟩ hK hP hD hS mo0 hfo_137 12 rfl rfl rfl hl.1 rfl (Nat.le_of_ble_eq_true rfl) dX12_ruled_60 ⟨Nat.le_of_ble_eq_true rfl, Nat.le_of_ble_eq_true rfl⟩ (fun x_1421 f_1422 H locs hw hP hD hS => ?_)
            obtain ⟨hG, bx_1421, hkc_1423, hra_1424, hfa_1425⟩ := hw
            have hfr0 : ∀ b, kd b ≠ 12 → kd b ≠ 576 → f_1422 b = f b := fun b q12 q576 => (hkc_1423 b q12).trans (hfr0 b q12 q576)
            have hrA12 : ∀ b, kd b = 12 → ∀ j, fldR (f_1422 b) j = fldR (f b) j := fun b kb j => (hra_1424 b kb j).trans (hrA12 b kb j)
            have hfA12 : ∀ b, kd b = 12 → ∀ j, j ≠ 6 → j ≠ 7 → j ≠ 8 → j ≠ 11 → j ≠ 12 → j ≠ 13 → j ≠ 14 → fldI (f_1422 b) j = fldI (f b) j := fun b kb j n6 n7 n8 n11 n12 n13 n14 => (hfa_1425 b kb j n7 n8).trans (hfA12 b kb j n6 n7 n8 n11 n12 n13 n14)
            have hT_128 : frel kd 576 7 f_1422 a_3 := hT_128.keep (fun b q => hkc_1423 b (by rw [q]; decide))
            have hMm_194 : ∀ z9, fldI (f_1422 o0) 6 = some z9 → v_8.toInt ≤ z9.toInt := (fun z9 h9 => hMm_194 z9 (by rw [hfa_1425 o0 ko0 6 (by decide) (by decide)] at h9; exact h9))
            obtain ⟨a_1428, a_1429, a_1430, v_1431, a_1432, v_1433, v_1434, v_1435, v_1436, v_1437, v_1438, v_1439, v_1440, v_1441, v_1442, a_1443, a_1444, a_1445, a_1446, a_1447, a_1448, a_1449, a_1450, v_1451, v_1452, v_1453, v_1454, v_1455, a_1456, v_1457, a_1458, a_1459, v_1460, v_1461, a_1462, v_1463, a_1464, a_1465, v_1466, v_1467, a_1468, a_1469, a_1470, v_1471, a_1472, a_1473, a_1474, a_1475, a_1476, a_1477, a_1478, a_1479, a_1480, v_1481, v_1482, a_1483, hfo_1427, ⟨ma_1428, ka_1428⟩, ⟨ma_1429, ka_1429⟩, ⟨ma_1430, ka_1430⟩, bv_1431, ⟨ma_1432, ka_1432⟩, bv_1433, bv_1434, bv_1439, bv_1440, bv_1441, ⟨ma_1443, ka_1443⟩, ⟨ma_1444, ka_1444⟩, ⟨ma_1445, ka_1445⟩, ⟨ma_1446, ka_1446⟩, ⟨ma_1447, ka_1447⟩, ⟨ma_1448, ka_1448⟩, ⟨ma_1449, ka_1449⟩, ⟨ma_1450, ka_1450⟩, bv_1451, bv_1453, bv_1455, ⟨ma_1456, ka_1456⟩, bv_1457, ⟨ma_1458, ka_1458⟩, ⟨ma_1459, ka_1459⟩, bv_1460, ⟨ma_1462, ka_1462⟩, bv_1463, ⟨ma_1464, ka_1464⟩, ⟨ma_1465, ka_1465⟩, bv_1466, ⟨ma_1468, ka_1468⟩, ⟨ma_1469, ka_1469⟩, ⟨ma_1470, ka_1470⟩, bv_1471, ⟨ma_1472, ka_1472⟩, ⟨ma_1473, ka_1473⟩, ⟨ma_1474, ka_1474⟩, ⟨ma_1475, ka_1475⟩, ⟨ma_1476, ka_1476⟩, ⟨ma_1477, ka_1477⟩, ⟨ma_1478, ka_1478⟩, ⟨ma_1479, ka_1479⟩, ⟨ma_1480, ka_1480⟩, bv_1481, ⟨ma_1483, ka_1483⟩⟩ := un_12 (hG _ mo0) ko0
            have bv_1435 : ((-2147483648) ≤ v_1435.toInt ∧ v_1435.toInt ≤ 2147483647) := ⟨i32_lo _, i32_hi _⟩
            have bv_1436 : ((-2147483648) ≤ v_1436.toInt ∧ v_1436.toInt ≤ 2147483647) := ⟨i32_lo _, i32_hi _⟩
            have bv_1437 : ((-2147483648) ≤ v_1437.toInt ∧ v_1437.toInt ≤ 2147483647) := ⟨i32_lo _, i32_hi _⟩
            have bv_1438 : ((-2147483648) ≤ v_1438.toInt ∧ v_1438.toInt ≤ 2147483647) := ⟨i32_lo _, i32_hi _⟩
            have bv_1442 : ((-2147483648) ≤ v_1442.toInt ∧ v_1442.toInt ≤ 2147483647) := ⟨i32_lo _, i32_hi _⟩
            have bv_1452 : ((-2147483648) ≤ v_1452.toInt ∧ v_1452.toInt ≤ 2147483647) := ⟨i32_lo _, i32_hi _⟩
            have bv_1454 : ((-2147483648) ≤ v_1454.toInt ∧ v_1454.toInt ≤ 2147483647) := ⟨i32_lo _, i32_hi _⟩
            have bv_1461 : ((-2147483648) ≤ v_1461.toInt ∧ v_1461.toInt ≤ 2147483647) := ⟨i32_lo _, i32_hi _⟩
            have bv_1467 : ((-2147483648) ≤ v_1467.toInt ∧ v_1467.toInt ≤ 2147483647) := ⟨i32_lo _, i32_hi _⟩
            have bv_1482 : ((-2147483648) ≤ v_1482.toInt ∧ v_1482.toInt ≤ 2147483647) := ⟨i32_lo _, i32_hi _⟩
            obtain ⟨rfl, rfl, rfl, rfl, rfl, rfl, rfl, rfl, rfl, rfl, rfl, rfl, rfl, rfl, rfl, rfl, rfl, rfl, rfl, rfl, rfl, rfl, rfl, rfl, rfl, rfl, rfl, rfl, rfl, rfl, rfl⟩ := re_12 hfo_1 hfo_1427 (hrA12 o0 ko0)
            obtain rfl := ri_12_3 hfo_1 hfo_1427 (hfA12 o0 ko0 3 (by decide) (by decide) (by decide) (by decide) (by decide) (by decide) (by decide))
            obtain rfl := ri_12_5 hfo_1 hfo_1427 (hfA12 o0 ko0 5 (by decide) (by decide) (by decide) (by decide) (by decide) (by decide) (by decide))
            obtain rfl := ri_12_23 hfo_1 hfo_1427 (hfA12 o0 ko0 23 (by decide) (by decide) (by decide) (by decide) (by decide) (by decide) (by decide))
            obtain rfl := ri_12_25 hfo_1 hfo_1427 (hfA12 o0 ko0 25 (by decide) (by decide) (by decide) (by decide) (by decide) (by decide) (by decide))
            obtain rfl := ri_12_27 hfo_1 hfo_1427 (hfA12 o0 ko0 27 (by decide) (by decide) (by decide) (by decide) (by decide) (by decide) (by decide))
            obtain rfl := ri_12_29 hfo_1 hfo_1427 (hfA12 o0 ko0 29 (by decide) (by decide) (by decide) (by decide) (by decide) (by decide) (by decide))
            obtain rfl := ri_12_32 hfo_1 hfo_1427 (hfA12 o0 ko0 32 (by decide) (by decide) (by decide) (by decide) (by decide) (by decide) (by decide))
            obtain rfl := ri_12_33 hfo_1 hfo_1427 (hfA12 o0 ko0 33 (by decide) (by decide) (by decide) (by decide) (by decide) (by decide) (by decide))
            obtain rfl := ri_12_35 hfo_1 hfo_1427 (hfA12 o0 ko0 35 (by decide) (by decide) (by decide) (by decide) (by decide) (by decide) (by decide))
            obtain rfl := ri_12_38 hfo_1 hfo_1427 (hfA12 o0 ko0 38 (by decide) (by decide) (by decide) (by decide) (by decide) (by decide) (by decide))
            obtain rfl := ri_12_43 hfo_1 hfo_1427 (hfA12 o0 ko0 43 (by decide) (by decide) (by decide) (by decide) (by decide) (by decide) (by decide))
            obtain rfl := ri_12_53 hfo_1 hfo_1427 (hfA12 o0 ko0 53 (by decide) (by decide) (by decide) (by decide) (by decide) (by decide) (by decide))
            obtain rfl := ri_12_6 hfo_137 hfo_1427 (hfa_1425 o0 ko0 6 (by decide) (by decide))
            obtain rfl := ri_12_11 hfo_137 hfo_1427 (hfa_1425 o0 ko0 11 (by decide) (by decide))
            obtain rfl := ri_12_12 hfo_137 hfo_1427 (hfa_1425 o0 ko0 12 (by decide) (by decide))
            obtain rfl := ri_12_13 hfo_137 hfo_1427 (hfa_1425 o0 ko0 13 (by decide) (by decide))
            obtain rfl := ri_12_14 hfo_137 hfo_1427 (hfa_1425 o0 ko0 14 (by decide) (by decide))
            have hM9 := hMm_194 v_144 (by rw [hfo_1427]; rfl)
            exact W.zret (v := x_1421) (ty := .boolean) hx hb hr (zb_n (by constructor <;> omega)) (fun t ht hW => ⟨⟨x_1421, f_1422, rfl, ⟨hG, (by constructor <;> omega), hfr0, hrA12, hfA12, (by intro w6 z6 e6 d6; rw [hfo_1] at e6; rw [hfo_1427] at d6; obtain rfl := Option.some.inj e6; obtain rfl := Option.some.inj d6; omega), (fun d9 h9 => by rw [hfo_1427] at h9; obtain rfl := Option.some.inj h9; exact hT_128.weak)⟩, by rw [ht]; exact hP, va_K.moved hW.alike hK, pl_in hD⟩, hS.F ht⟩) hS.2.2 dX12_ruled_63
    · skip
      rw [← Int32.toInt_inj, ti_m1] at c_195
      refine lv_aload_n hx hb dX12_ruled_27 rfl (lv_at hl 2 rfl) ?_
      refine lv_iconst (v := 1) hx hb dX12_ruled_28 (by decide) ?_
      refine lv_aload_n hx hb dX12_ruled_29 rfl (lv_at hl 2 rfl) ?_
      refine tk_getP (D := (dC, dI)) (ci := 12) (v := .int v_144) (C := RX12) (T := TX12) (N := 56) hx hb hU inlX12 hown hK hP mo0 hfo_137 rfl 6 (by decide) (hU _ wd_566) (fun _ h9 => h9) rfl dX12_ruled_30 ?_
      refine tk_ViP (As := [.int 1, .int v_144]) (rest := []) (n := 2) hx hb hml hown hU hN hZ (s_X12_bad_k12 l (dC, dI) cI cL cZ cR cG cH Z kd L f_131 hG o0 mo0 ko0 1 v_144) wd_602 wd_603 wd_604 wd_5 wd_605 (by decide +kernel) ⟨Nat.le_of_ble_eq_true rfl, Nat.le_of_ble_eq_true rfl⟩ hK hP hD hS mo0 hfo_137 12 rfl rfl rfl hl.1 rfl (Nat.le_of_ble_eq_true rfl) dX12_ruled_33 ⟨Nat.le_of_ble_eq_true rfl, Nat.le_of_ble_eq_true rfl⟩ (fun x_1484 f_1485 H locs hw hP hD hS => ?_)
      obtain ⟨hG, bx_1484, hkc_1486, hra_1487, hfa_1488⟩ := hw
      have hfr0 : ∀ b, kd b ≠ 12 → kd b ≠ 576 → f_1485 b = f b := fun b q12 q576 => (hkc_1486 b q12).trans (hfr0 b q12 q576)
      have hrA12 : ∀ b, kd b = 12 → ∀ j, fldR (f_1485 b) j = fldR (f b) j := fun b kb j => (hra_1487 b kb j).trans (hrA12 b kb j)
      have hfA12 : ∀ b, kd b = 12 → ∀ j, j ≠ 6 → j ≠ 7 → j ≠ 8 → j ≠ 11 → j ≠ 12 → j ≠ 13 → j ≠ 14 → fldI (f_1485 b) j = fldI (f b) j := fun b kb j n6 n7 n8 n11 n12 n13 n14 => (hfa_1488 b kb j n7 n8).trans (hfA12 b kb j n6 n7 n8 n11 n12 n13 n14)
      have hT_128 : frel kd 576 7 f_1485 a_3 := hT_128.keep (fun b q => hkc_1486 b (by rw [q]; decide))
      have hMm_194 : ∀ z9, fldI (f_1485 o0) 6 = some z9 → v_8.toInt ≤ z9.toInt := (fun z9 h9 => hMm_194 z9 (by rw [hfa_1488 o0 ko0 6 (by decide) (by decide)] at h9; exact h9))
      obtain ⟨a_1491, a_1492, a_1493, v_1494, a_1495, v_1496, v_1497, v_1498, v_1499, v_1500, v_1501, v_1502, v_1503, v_1504, v_1505, a_1506, a_1507, a_1508, a_1509, a_1510, a_1511, a_1512, a_1513, v_1514, v_1515, v_1516, v_1517, v_1518, a_1519, v_1520, a_1521, a_1522, v_1523, v_1524, a_1525, v_1526, a_1527, a_1528, v_1529, v_1530, a_1531, a_1532, a_1533, v_1534, a_1535, a_1536, a_1537, a_1538, a_1539, a_1540, a_1541, a_1542, a_1543, v_1544, v_1545, a_1546, hfo_1490, ⟨ma_1491, ka_1491⟩, ⟨ma_1492, ka_1492⟩, ⟨ma_1493, ka_1493⟩, bv_1494, ⟨ma_1495, ka_1495⟩, bv_1496, bv_1497, bv_1502, bv_1503, bv_1504, ⟨ma_1506, ka_1506⟩, ⟨ma_1507, ka_1507⟩, ⟨ma_1508, ka_1508⟩, ⟨ma_1509, ka_1509⟩, ⟨ma_1510, ka_1510⟩, ⟨ma_1511, ka_1511⟩, ⟨ma_1512, ka_1512⟩, ⟨ma_1513, ka_1513⟩, bv_1514, bv_1516, bv_1518, ⟨ma_1519, ka_1519⟩, bv_1520, ⟨ma_1521, ka_1521⟩, ⟨ma_1522, ka_1522⟩, bv_1523, ⟨ma_1525, ka_1525⟩, bv_1526, ⟨ma_1527, ka_1527⟩, ⟨ma_1528, ka_1528⟩, bv_1529, ⟨ma_1531, ka_1531⟩, ⟨ma_1532, ka_1532⟩, ⟨ma_1533, ka_1533⟩, bv_1534, ⟨ma_1535, ka_1535⟩, ⟨ma_1536, ka_1536⟩, ⟨ma_1537, ka_1537⟩, ⟨ma_1538, ka_1538⟩, ⟨ma_1539, ka_1539⟩, ⟨ma_1540, ka_1540⟩, ⟨ma_1541, ka_1541⟩, ⟨ma_1542, ka_1542⟩, ⟨ma_1543, ka_1543⟩, bv_1544, ⟨ma_1546, ka_1546⟩⟩ := un_12 (hG _ mo0) ko0
      have bv_1498 : ((-2147483648) ≤ v_1498.toInt ∧ v_1498.toInt ≤ 2147483647) := ⟨i32_lo _, i32_hi _⟩
      have bv_1499 : ((-2147483648) ≤ v_1499.toInt ∧ v_1499.toInt ≤ 2147483647) := ⟨i32_lo _, i32_hi _⟩
      have bv_1500 : ((-2147483648) ≤ v_1500.toInt ∧ v_1500.toInt ≤ 2147483647) := ⟨i32_lo _, i32_hi _⟩
      have bv_1501 : ((-2147483648) ≤ v_1501.toInt ∧ v_1501.toInt ≤ 2147483647) := ⟨i32_lo _, i32_hi _⟩
      have bv_1505 : ((-2147483648) ≤ v_1505.toInt ∧ v_1505.toInt ≤ 2147483647) := ⟨i32_lo _, i32_hi _⟩
      have bv_1515 : ((-2147483648) ≤ v_1515.toInt ∧ v_1515.toInt ≤ 2147483647) := ⟨i32_lo _, i32_hi _⟩
      have bv_1517 : ((-2147483648) ≤ v_1517.toInt ∧ v_1517.toInt ≤ 2147483647) := ⟨i32_lo _, i32_hi _⟩
      have bv_1524 : ((-2147483648) ≤ v_1524.toInt ∧ v_1524.toInt ≤ 2147483647) := ⟨i32_lo _, i32_hi _⟩
      have bv_1530 : ((-2147483648) ≤ v_1530.toInt ∧ v_1530.toInt ≤ 2147483647) := ⟨i32_lo _, i32_hi _⟩
      have bv_1545 : ((-2147483648) ≤ v_1545.toInt ∧ v_1545.toInt ≤ 2147483647) := ⟨i32_lo _, i32_hi _⟩
      obtain ⟨rfl, rfl, rfl, rfl, rfl, rfl, rfl, rfl, rfl, rfl, rfl, rfl, rfl, rfl, rfl, rfl, rfl, rfl, rfl, rfl, rfl, rfl, rfl, rfl, rfl, rfl, rfl, rfl, rfl, rfl, rfl⟩ := re_12 hfo_1 hfo_1490 (hrA12 o0 ko0)
      obtain rfl := ri_12_3 hfo_1 hfo_1490 (hfA12 o0 ko0 3 (by decide) (by decide) (by decide) (by decide) (by decide) (by decide) (by decide))
      obtain rfl := ri_12_5 hfo_1 hfo_1490 (hfA12 o0 ko0 5 (by decide) (by decide) (by decide) (by decide) (by decide) (by decide) (by decide))
      obtain rfl := ri_12_23 hfo_1 hfo_1490 (hfA12 o0 ko0 23 (by decide) (by decide) (by decide) (by decide) (by decide) (by decide) (by decide))
      obtain rfl := ri_12_25 hfo_1 hfo_1490 (hfA12 o0 ko0 25 (by decide) (by decide) (by decide) (by decide) (by decide) (by decide) (by decide))
      obtain rfl := ri_12_27 hfo_1 hfo_1490 (hfA12 o0 ko0 27 (by decide) (by decide) (by decide) (by decide) (by decide) (by decide) (by decide))
      obtain rfl := ri_12_29 hfo_1 hfo_1490 (hfA12 o0 ko0 29 (by decide) (by decide) (by decide) (by decide) (by decide) (by decide) (by decide))
      obtain rfl := ri_12_32 hfo_1 hfo_1490 (hfA12 o0 ko0 32 (by decide) (by decide) (by decide) (by decide) (by decide) (by decide) (by decide))
      obtain rfl := ri_12_33 hfo_1 hfo_1490 (hfA12 o0 ko0 33 (by decide) (by decide) (by decide) (by decide) (by decide) (by decide) (by decide))
      obtain rfl := ri_12_35 hfo_1 hfo_1490 (hfA12 o0 ko0 35 (by decide) (by decide) (by decide) (by decide) (by decide) (by decide) (by decide))
      obtain rfl := ri_12_38 hfo_1 hfo_1490 (hfA12 o0 ko0 38 (by decide) (by decide) (by decide) (by decide) (by decide) (by decide) (by decide))
      obtain rfl := ri_12_43 hfo_1 hfo_1490 (hfA12 o0 ko0 43 (by decide) (by decide) (by decide) (by decide) (by decide) (by decide) (by decide))
      obtain rfl := ri_12_53 hfo_1 hfo_1490 (hfA12 o0 ko0 53 (by decide) (by decide) (by decide) (by decide) (by decide) (by decide) (by decide))
      obtain rfl := ri_12_6 hfo_137 hfo_1490 (hfa_1488 o0 ko0 6 (by decide) (by decide))
      obtain rfl := ri_12_11 hfo_137 hfo_1490 (hfa_1488 o0 ko0 11 (by decide) (by decide))
      obtain rfl := ri_12_12 hfo_137 hfo_1490 (hfa_1488 o0 ko0 12 (by decide) (by decide))
      obtain rfl := ri_12_13 hfo_137 hfo_1490 (hfa_1488 o0 ko0 13 (by decide) (by decide))
      obtain rfl := ri_12_14 hfo_137 hfo_1490 (hfa_1488 o0 ko0 14 (by decide) (by decide))
      have hM9 := hMm_194 v_144 (by rw [hfo_1490]; rfl)
      exact W.zret (v := x_1484) (ty := .boolean) hx hb hr (zb_n (by constructor <;> omega)) (fun t ht hW => ⟨⟨x_1484, f_1485, rfl, ⟨hG, (by constructor <;> omega), hfr0, hrA12, hfA12, (by intro w6 z6 e6 d6; rw [hfo_1] at e6; rw [hfo_1490] at d6; obtain rfl := Option.some.inj e6; obtain rfl := Option.some.inj d6; omega), (fun d9 h9 => by rw [hfo_1490] at h9; obtain rfl := Option.some.inj h9; exact hT_128.weak)⟩, by rw [ht]; exact hP, va_K.moved hW.alike hK, pl_in hD⟩, hS.F ht⟩) hS.2.2 dX12_ruled_36
  · skip
    rw [← Int32.toInt_inj, ti_0] at c_129
    refine lv_iconst (v := 0) hx hb dX12_ruled_15 (by decide) ?_
    have hM9 := hMm_127 v_77 (by rw [hfo_70]; rfl)
    exact W.zret (v := 0) (ty := .boolean) hx hb hr rfl (fun t ht hW => ⟨⟨0, f_63, rfl, ⟨hG, (by decide), hfr0, hrA12, hfA12, (by intro w6 z6 e6 d6; rw [hfo_1] at e6; rw [hfo_70] at d6; obtain rfl := Option.some.inj e6; obtain rfl := Option.some.inj d6; (try rw [ti_0]) <;> omega), (fun d9 h9 => by rw [hfo_70] at h9; obtain rfl := Option.some.inj h9; exact hT_128.weak)⟩, by rw [ht]; exact hP, va_K.moved hW.alike hK, pl_in hD⟩, hS.F ht⟩) hS.2.2 dX12_ruled_16
