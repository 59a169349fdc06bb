set_option maxHeartbeats 8000000 in
set_option maxRecDepth 100000 in
theorem s_X12_look_k12 (l : Launch) (D : va_G) (cI cL cZ cR cG cH : ClassId) (Z : zT) (kd : Nat → Nat) (L : List Nat) (f : Nat → va_E) (hG : GI (okc cI cL cZ cR cG cH L kd) kd L f) (o0 : Nat) (mo0 : o0 ∈ L) (ko0 : kd o0 = 12) (p1 : Int32) : mPI l D cI cL cZ cR cG cH Z yX12_look cX12_look 2 (some .int) 1 22 [.ref o0, .int p1] L f (fun (r : Int32) (f9 : Nat → va_E) => f = f9 ∧ ((-2147483648) ≤ r.toInt ∧ r.toInt ≤ 2147483647)) := by
  obtain ⟨dC, dI⟩ := D
  refine Met.ofW (cc := cX12_look) (maxL := 2) (ret := (some .int)) (by decide) rfl ?_
  intro p e s m args below meth c s₁ B hml hv
  obtain ⟨rfl, hP, hK, hD0, hN, hZ⟩ := hv
  have hx := B.exec
  have hb := B.bytes
  have hr := B.returns
  have hU : ∀ w ∈ wsU, w.before _ s = true := fun w h => atoms_spec (ws := wU yX12_look cX12_look 2 (some .int)) B.pre w (List.mem_cons_of_mem _ h)
  have hown : s.vm.findClass RX12 = some m.cls := findClass_of_methodNamed B.named
  have hlocks := B.notSynchronized
  have hD := pl_in hD0
  have hS : va_S (fun q => q ∈ L) s.heap s.heap [] := va_S.rf
  have hl := lv_entry ([.ref o0, .int p1]) (n := 2) (Nat.le_of_ble_eq_true rfl)
  rw [lg_entry_eq]
  generalize (lg_sl ([.ref o0, .int p1]) ++ List.replicate (2 - (lg_sl ([.ref o0, .int p1])).length) Slot.unset).toArray = ls at hl ⊢
  have hl : lv_has ls 2 [(0, .ref o0), (1, .int p1)] := hl
  have bp1 : ((-2147483648) ≤ p1.toInt ∧ p1.toInt ≤ 2147483647) := ⟨i32_lo _, i32_hi _⟩
  refine lv_iload_n hx hb dX12_look_0 rfl (lv_at hl 1 rfl) ?_
  by_cases c_1 : p1 = 0
  · refine tk_topi (y := 0) c_1 ?_
    have tc_1 : p1.toInt = 0 := by rw [c_1]; rfl
    refine lv_tableIn (tgt := 48) hx hb dX12_look_1 (by decide) (by decide) rfl (by decide) ?_
    refine lv_aload_n hx hb dX12_look_48 rfl (lv_at hl 0 rfl) ?_
    obtain ⟨a_3, a_4, a_5, v_6, a_7, v_8, v_9, v_10, v_11, v_12, v_13, v_14, v_15, v_16, v_17, a_18, a_19, a_20, a_21, a_22, a_23, a_24, a_25, v_26, v_27, v_28, v_29, v_30, a_31, v_32, a_33, a_34, v_35, v_36, a_37, v_38, a_39, a_40, v_41, v_42, a_43, a_44, a_45, v_46, a_47, a_48, a_49, a_50, a_51, a_52, a_53, a_54, a_55, v_56, v_57, a_58, hfo_2, ⟨ma_3, ka_3⟩, ⟨ma_4, ka_4⟩, ⟨ma_5, ka_5⟩, bv_6, ⟨ma_7, ka_7⟩, bv_8, bv_9, bv_14, bv_15, bv_16, ⟨ma_18, ka_18⟩, ⟨ma_19, ka_19⟩, ⟨ma_20, ka_20⟩, ⟨ma_21, ka_21⟩, ⟨ma_22, ka_22⟩, ⟨ma_23, ka_23⟩, ⟨ma_24, ka_24⟩, ⟨ma_25, ka_25⟩, bv_26, bv_28, bv_30, ⟨ma_31, ka_31⟩, bv_32, ⟨ma_33, ka_33⟩, ⟨ma_34, ka_34⟩, bv_35, ⟨ma_37, ka_37⟩, bv_38, ⟨ma_39, ka_39⟩, ⟨ma_40, ka_40⟩, bv_41, ⟨ma_43, ka_43⟩, ⟨ma_44, ka_44⟩, ⟨ma_45, ka_45⟩, bv_46, ⟨ma_47, ka_47⟩, ⟨ma_48, ka_48⟩, ⟨ma_49, ka_49⟩, ⟨ma_50, ka_50⟩, ⟨ma_51, ka_51⟩, ⟨ma_52, ka_52⟩, ⟨ma_53, ka_53⟩, ⟨ma_54, ka_54⟩, ⟨ma_55, ka_55⟩, bv_56, ⟨ma_58, ka_58⟩⟩ := un_12 (hG _ mo0) ko0
    have bv_10 : ((-2147483648) ≤ v_10.toInt ∧ v_10.toInt ≤ 2147483647) := ⟨i32_lo _, i32_hi _⟩
    have bv_11 : ((-2147483648) ≤ v_11.toInt ∧ v_11.toInt ≤ 2147483647) := ⟨i32_lo _, i32_hi _⟩
    have bv_12 : ((-2147483648) ≤ v_12.toInt ∧ v_12.toInt ≤ 2147483647) := ⟨i32_lo _, i32_hi _⟩
    have bv_13 : ((-2147483648) ≤ v_13.toInt ∧ v_13.toInt ≤ 2147483647) := ⟨i32_lo _, i32_hi _⟩
    have bv_17 : ((-2147483648) ≤ v_17.toInt ∧ v_17.toInt ≤ 2147483647) := ⟨i32_lo _, i32_hi _⟩
    have bv_27 : ((-2147483648) ≤ v_27.toInt ∧ v_27.toInt ≤ 2147483647) := ⟨i32_lo _, i32_hi _⟩
    have bv_29 : ((-2147483648) ≤ v_29.toInt ∧ v_29.toInt ≤ 2147483647) := ⟨i32_lo _, i32_hi _⟩
    have bv_36 : ((-2147483648) ≤ v_36.toInt ∧ v_36.toInt ≤ 2147483647) := ⟨i32_lo _, i32_hi _⟩
    have bv_42 : ((-2147483648) ≤ v_42.toInt ∧ v_42.toInt ≤ 2147483647) := ⟨i32_lo _, i32_hi _⟩
    have bv_57 : ((-2147483648) ≤ v_57.toInt ∧ v_57.toInt ≤ 2147483647) := ⟨i32_lo _, i32_hi _⟩
    refine tk_getP (D := (dC, dI)) (ci := 12) (v := .ref a_3) (C := RX12) (T := TX12) (N := 56) hx hb hU inlX12 hown hK hP mo0 hfo_2 rfl 0 (by decide) (hU _ wd_169) (fun _ h9 => h9) rfl dX12_look_49 ?_
    refine lv_iconst (v := 0) hx hb dX12_look_52 (by decide) ?_
    obtain ⟨g_60, hfo_59, hbg_60⟩ := un_575 (hG _ ma_3) ka_3
    refine tk_ildP hx hb hK hP 0 ma_3 hfo_59 rfl (vp_in_nI (n := 0) (by decide) (by decide)) dX12_look_53 ?_
    refine lv_topi (fun x_61 ex_61 => ?_)
    have bx_61 : (0 ≤ x_61.toInt ∧ x_61.toInt ≤ 8) := by rw [ex_61]; exact hbg_60.1 _ (by decide) (by decide) (by decide)
    exact W.iret (v := x_61) hx hb hr (fun t ht hW => ⟨⟨x_61, f, rfl, ⟨rfl, (by constructor <;> omega)⟩, by rw [ht]; exact hP, va_K.moved hW.alike hK, pl_in hD⟩, hS.F ht⟩) hS.2.2 dX12_look_54
  by_cases c_62 : p1 = 1
  · refine tk_topi (y := 1) c_62 ?_
    have tc_62 : p1.toInt = 1 := by rw [c_62]; rfl
    refine lv_tableIn (tgt := 55) hx hb dX12_look_1 (by decide) (by decide) rfl (by decide) ?_
    refine lv_aload_n hx hb dX12_look_55 rfl (lv_at hl 0 rfl) ?_
    obtain ⟨a_64, a_65, a_66, v_67, a_68, v_69, v_70, v_71, v_72, v_73, v_74, v_75, v_76, v_77, v_78, a_79, a_80, a_81, a_82, a_83, a_84, a_85, a_86, v_87, v_88, v_89, v_90, v_91, a_92, v_93, a_94, a_95, v_96, v_97, a_98, v_99, a_100, a_101, v_102, v_103, a_104, a_105, a_106, v_107, a_108, a_109, a_110, a_111, a_112, a_113, a_114, a_115, a_116, v_117, v_118, a_119, hfo_63, ⟨ma_64, ka_64⟩, ⟨ma_65, ka_65⟩, ⟨ma_66, ka_66⟩, bv_67, ⟨ma_68, ka_68⟩, bv_69, bv_70, bv_75, bv_76, bv_77, ⟨ma_79, ka_79⟩, ⟨ma_80, ka_80⟩, ⟨ma_81, ka_81⟩, ⟨ma_82, ka_82⟩, ⟨ma_83, ka_83⟩, ⟨ma_84, ka_84⟩, ⟨ma_85, ka_85⟩, ⟨ma_86, ka_86⟩, bv_87, bv_89, bv_91, ⟨ma_92, ka_92⟩, bv_93, ⟨ma_94, ka_94⟩, ⟨ma_95, ka_95⟩, bv_96, ⟨ma_98, ka_98⟩, bv_99, ⟨ma_100, ka_100⟩, ⟨ma_101, ka_101⟩, bv_102, ⟨ma_104, ka_104⟩, ⟨ma_105, ka_105⟩, ⟨ma_106, ka_106⟩, bv_107, ⟨ma_108, ka_108⟩, ⟨ma_109, ka_109⟩, ⟨ma_110, ka_110⟩, ⟨ma_111, ka_111⟩, ⟨ma_112, ka_112⟩, ⟨ma_113, ka_113⟩, ⟨ma_114, ka_114⟩, ⟨ma_115, ka_115⟩, ⟨ma_116, ka_116⟩, bv_117, ⟨ma_119, ka_119⟩⟩ := un_12 (hG _ mo0) ko0
    have bv_71 : ((-2147483648) ≤ v_71.toInt ∧ v_71.toInt ≤ 2147483647) := ⟨i32_lo _, i32_hi _⟩
    have bv_72 : ((-2147483648) ≤ v_72.toInt ∧ v_72.toInt ≤ 2147483647) := ⟨i32_lo _, i32_hi _⟩
    have bv_73 : ((-2147483648) ≤ v_73.toInt ∧ v_73.toInt ≤ 2147483647) := ⟨i32_lo _, i32_hi _⟩
    have bv_74 : ((-2147483648) ≤ v_74.toInt ∧ v_74.toInt ≤ 2147483647) := ⟨i32_lo _, i32_hi _⟩
    have bv_78 : ((-2147483648) ≤ v_78.toInt ∧ v_78.toInt ≤ 2147483647) := ⟨i32_lo _, i32_hi _⟩
    have bv_88 : ((-2147483648) ≤ v_88.toInt ∧ v_88.toInt ≤ 2147483647) := ⟨i32_lo _, i32_hi _⟩
    have bv_90 : ((-2147483648) ≤ v_90.toInt ∧ v_90.toInt ≤ 2147483647) := ⟨i32_lo _, i32_hi _⟩
    have bv_97 : ((-2147483648) ≤ v_97.toInt ∧ v_97.toInt ≤ 2147483647) := ⟨i32_lo _, i32_hi _⟩
    have bv_103 : ((-2147483648) ≤ v_103.toInt ∧ v_103.toInt ≤ 2147483647) := ⟨i32_lo _, i32_hi _⟩
    have bv_118 : ((-2147483648) ≤ v_118.toInt ∧ v_118.toInt ≤ 2147483647) := ⟨i32_lo _, i32_hi _⟩
    refine tk_getP (D := (dC, dI)) (ci := 12) (v := .ref a_64) (C := RX12) (T := TX12) (N := 56) hx hb hU inlX12 hown hK hP mo0 hfo_63 rfl 0 (by decide) (hU _ wd_169) (fun _ h9 => h9) rfl dX12_look_56 ?_
    refine lv_bipush (v := 16) hx hb dX12_look_59 (by decide) ?_
    obtain ⟨g_121, hfo_120, hbg_121⟩ := un_575 (hG _ ma_64) ka_64
    refine tk_ildP hx hb hK hP 0 ma_64 hfo_120 rfl (vp_in_nI (n := 16) (by decide) (by decide)) dX12_look_61 ?_
    refine lv_topi (fun x_122 ex_122 => ?_)
    have bx_122 : (0 ≤ x_122.toInt ∧ x_122.toInt ≤ 20) := by rw [ex_122]; exact hbg_121.2.1 _ (by decide) (by decide) (by decide)
    exact W.iret (v := x_122) hx hb hr (fun t ht hW => ⟨⟨x_122, f, rfl, ⟨rfl, (by constructor <;> omega)⟩, by rw [ht]; exact hP, va_K.moved hW.alike hK, pl_in hD⟩, hS.F ht⟩) hS.2.2 dX12_look_62
  by_cases c_123 : p1 = 2
  · refine tk_topi (y := 2) c_123 ?_
    have tc_123 : p1.toInt = 2 := by rw [c_123]; rfl
    refine lv_tableIn (tgt := 63) hx hb dX12_look_1 (by decide) (by decide) rfl (by decide) ?_
    refine lv_aload_n hx hb dX12_look_63 rfl (lv_at hl 0 rfl) ?_
    obtain ⟨a_125, a_126, a_127, v_128, a_129, v_130, v_131, v_132, v_133, v_134, v_135, v_136, v_137, v_138, v_139, a_140, a_141, a_142, a_143, a_144, a_145, a_146, a_147, v_148, v_149, v_150, v_151, v_152, a_153, v_154, a_155, a_156, v_157, v_158, a_159, v_160, a_161, a_162, v_163, v_164, a_165, a_166, a_167, v_168, a_169, a_170, a_171, a_172, a_173, a_174, a_175, a_176, a_177, v_178, v_179, a_180, hfo_124, ⟨ma_125, ka_125⟩, ⟨ma_126, ka_126⟩, ⟨ma_127, ka_127⟩, bv_128, ⟨ma_129, ka_129⟩, bv_130, bv_131, bv_136, bv_137, bv_138, ⟨ma_140, ka_140⟩, ⟨ma_141, ka_141⟩, ⟨ma_142, ka_142⟩, ⟨ma_143, ka_143⟩, ⟨ma_144, ka_144⟩, ⟨ma_145, ka_145⟩, ⟨ma_146, ka_146⟩, ⟨ma_147, ka_147⟩, bv_148, bv_150, bv_152, ⟨ma_153, ka_153⟩, bv_154, ⟨ma_155, ka_155⟩, ⟨ma_156, ka_156⟩, bv_157, ⟨ma_159, ka_159⟩, bv_160, ⟨ma_161, ka_161⟩, ⟨ma_162, ka_162⟩, bv_163, ⟨ma_165, ka_165⟩, ⟨ma_166, ka_166⟩, ⟨ma_167, ka_167⟩, bv_168, ⟨ma_169, ka_169⟩, ⟨ma_170, ka_170⟩, ⟨ma_171, ka_171⟩, ⟨ma_172, ka_172⟩, ⟨ma_173, ka_173⟩, ⟨ma_174, ka_174⟩, ⟨ma_175, ka_175⟩, ⟨ma_176, ka_176⟩, ⟨ma_177, ka_177⟩, bv_178, ⟨ma_180, ka_180⟩⟩ := un_12 (hG _ mo0) ko0
    have bv_132 : ((-2147483648) ≤ v_132.toInt ∧ v_132.toInt ≤ 2147483647) := ⟨i32_lo _, i32_hi _⟩
    have bv_133 : ((-2147483648) ≤ v_133.toInt ∧ v_133.toInt ≤ 2147483647) := ⟨i32_lo _, i32_hi _⟩
    have bv_134 : ((-2147483648) ≤ v_134.toInt ∧ v_134.toInt ≤ 2147483647) := ⟨i32_lo _, i32_hi _⟩
    have bv_135 : ((-2147483648) ≤ v_135.toInt ∧ v_135.toInt ≤ 2147483647) := ⟨i32_lo _, i32_hi _⟩
    have bv_139 : ((-2147483648) ≤ v_139.toInt ∧ v_139.toInt ≤ 2147483647) := ⟨i32_lo _, i32_hi _⟩
    have bv_149 : ((-2147483648) ≤ v_149.toInt ∧ v_149.toInt ≤ 2147483647) := ⟨i32_lo _, i32_hi _⟩
    have bv_151 : ((-2147483648) ≤ v_151.toInt ∧ v_151.toInt ≤ 2147483647) := ⟨i32_lo _, i32_hi _⟩
    have bv_158 : ((-2147483648) ≤ v_158.toInt ∧ v_158.toInt ≤ 2147483647) := ⟨i32_lo _, i32_hi _⟩
    have bv_164 : ((-2147483648) ≤ v_164.toInt ∧ v_164.toInt ≤ 2147483647) := ⟨i32_lo _, i32_hi _⟩
    have bv_179 : ((-2147483648) ≤ v_179.toInt ∧ v_179.toInt ≤ 2147483647) := ⟨i32_lo _, i32_hi _⟩
    refine tk_getP (D := (dC, dI)) (ci := 12) (v := .ref a_125) (C := RX12) (T := TX12) (N := 56) hx hb hU inlX12 hown hK hP mo0 hfo_124 rfl 0 (by decide) (hU _ wd_169) (fun _ h9 => h9) rfl dX12_look_64 ?_
    refine lv_bipush (v := 17) hx hb dX12_look_67 (by decide) ?_
    obtain ⟨g_182, hfo_181, hbg_182⟩ := un_575 (hG _ ma_125) ka_125
    refine tk_ildP hx hb hK hP 0 ma_125 hfo_181 rfl (vp_in_nI (n := 17) (by decide) (by decide)) dX12_look_69 ?_
    refine lv_topi (fun x_183 ex_183 => ?_)
    have bx_183 : (0 ≤ x_183.toInt ∧ x_183.toInt ≤ 8) := by rw [ex_183]; exact hbg_182.2.2.1 _ (by decide) (by decide) (by decide)
    exact W.iret (v := x_183) hx hb hr (fun t ht hW => ⟨⟨x_183, f, rfl, ⟨rfl, (by constructor <;> omega)⟩, by rw [ht]; exact hP, va_K.moved hW.alike hK, pl_in hD⟩, hS.F ht⟩) hS.2.2 dX12_look_70
  by_cases c_184 : p1 = 3
  · refine tk_topi (y := 3) c_184 ?_
    have tc_184 : p1.toInt = 3 := by rw [c_184]; rfl
    refine lv_tableIn (tgt := 71) hx hb dX12_look_1 (by decide) (by decide) rfl (by decide) ?_
    refine lv_aload_n hx hb dX12_look_71 rfl (lv_at hl 0 rfl) ?_
    obtain ⟨a_186, a_187, a_188, v_189, a_190, v_191, v_192, v_193, v_194, v_195, v_196, v_197, v_198, v_199, v_200, a_201, a_202, a_203, a_204, a_205, a_206, a_207, a_208, v_209, v_210, v_211, v_212, v_213, a_214, v_215, a_216, a_217, v_218, v_219, a_220, v_221, a_222, a_223, v_224, v_225, a_226, a_227, a_228, v_229, a_230, a_231, a_232, a_233, a_234, a_235, a_236, a_237, a_238, v_239, v_240, a_241, hfo_185, ⟨ma_186, ka_186⟩, ⟨ma_187, ka_187⟩, ⟨ma_188, ka_188⟩, bv_189, ⟨ma_190, ka_190⟩, bv_191, bv_192, bv_197, bv_198, bv_199, ⟨ma_201, ka_201⟩, ⟨ma_202, ka_202⟩, ⟨ma_203, ka_203⟩, ⟨ma_204, ka_204⟩, ⟨ma_205, ka_205⟩, ⟨ma_206, ka_206⟩, ⟨ma_207, ka_207⟩, ⟨ma_208, ka_208⟩, bv_209, bv_211, bv_213, ⟨ma_214, ka_214⟩, bv_215, ⟨ma_216, ka_216⟩, ⟨ma_217, ka_217⟩, bv_218, ⟨ma_220, ka_220⟩, bv_221, ⟨ma_222, ka_222⟩, ⟨ma_223, ka_223⟩, bv_224, ⟨ma_226, ka_226⟩, ⟨ma_227, ka_227⟩, ⟨ma_228, ka_228⟩, bv_229, ⟨ma_230, ka_230⟩, ⟨ma_231, ka_231⟩, ⟨ma_232, ka_232⟩, ⟨ma_233, ka_233⟩, ⟨ma_234, ka_234⟩, ⟨ma_235, ka_235⟩, ⟨ma_236, ka_236⟩, ⟨ma_237, ka_237⟩, ⟨ma_238, ka_238⟩, bv_239, ⟨ma_241, ka_241⟩⟩ := un_12 (hG _ mo0) ko0
    have bv_193 : ((-2147483648) ≤ v_193.toInt ∧ v_193.toInt ≤ 2147483647) := ⟨i32_lo _, i32_hi _⟩
    have bv_194 : ((-2147483648) ≤ v_194.toInt ∧ v_194.toInt ≤ 2147483647) := ⟨i32_lo _, i32_hi _⟩
    have bv_195 : ((-2147483648) ≤ v_195.toInt ∧ v_195.toInt ≤ 2147483647) := ⟨i32_lo _, i32_hi _⟩
    have bv_196 : ((-2147483648) ≤ v_196.toInt ∧ v_196.toInt ≤ 2147483647) := ⟨i32_lo _, i32_hi _⟩
    have bv_200 : ((-2147483648) ≤ v_200.toInt ∧ v_200.toInt ≤ 2147483647) := ⟨i32_lo _, i32_hi _⟩
    have bv_210 : ((-2147483648) ≤ v_210.toInt ∧ v_210.toInt ≤ 2147483647) := ⟨i32_lo _, i32_hi _⟩
    have bv_212 : ((-2147483648) ≤ v_212.toInt ∧ v_212.toInt ≤ 2147483647) := ⟨i32_lo _, i32_hi _⟩
    have bv_219 : ((-2147483648) ≤ v_219.toInt ∧ v_219.toInt ≤ 2147483647) := ⟨i32_lo _, i32_hi _⟩
    have bv_225 : ((-2147483648) ≤ v_225.toInt ∧ v_225.toInt ≤ 2147483647) := ⟨i32_lo _, i32_hi _⟩
    have bv_240 : ((-2147483648) ≤ v_240.toInt ∧ v_240.toInt ≤ 2147483647) := ⟨i32_lo _, i32_hi _⟩
    refine tk_getP (D := (dC, dI)) (ci := 12) (v := .ref a_186) (C := RX12) (T := TX12) (N := 56) hx hb hU inlX12 hown hK hP mo0 hfo_185 rfl 0 (by decide) (hU _ wd_169) (fun _ h9 => h9) rfl dX12_look_72 ?_
    refine lv_bipush (v := 18) hx hb dX12_look_75 (by decide) ?_
    obtain ⟨g_243, hfo_242, hbg_243⟩ := un_575 (hG _ ma_186) ka_186
    refine tk_ildP hx hb hK hP 0 ma_186 hfo_242 rfl (vp_in_nI (n := 18) (by decide) (by decide)) dX12_look_77 ?_
    refine lv_topi (fun x_244 ex_244 => ?_)
    have bx_244 : (0 ≤ x_244.toInt ∧ x_244.toInt ≤ 12) := by rw [ex_244]; exact hbg_243.2.2.2.1 _ (by decide) (by decide) (by decide)
    exact W.iret (v := x_244) hx hb hr (fun t ht hW => ⟨⟨x_244, f, rfl, ⟨rfl, (by constructor <;> omega)⟩, by rw [ht]; exact hP, va_K.moved hW.alike hK, pl_in hD⟩, hS.F ht⟩) hS.2.2 dX12_look_78
  by_cases c_245 : p1 = 4
  · refine tk_topi (y := 4) c_245 ?_
    have tc_245 : p1.toInt = 4 := by rw [c_245]; rfl
    refine lv_tableIn (tgt := 79) hx hb dX12_look_1 (by decide) (by decide) rfl (by decide) ?_
    refine lv_aload_n hx hb dX12_look_79 rfl (lv_at hl 0 rfl) ?_
    obtain ⟨a_247, a_248, a_249, v_250, a_251, v_252, v_253, v_254, v_255, v_256, v_257, v_258, v_259, v_260, v_261, a_262, a_263, a_264, a_265, a_266, a_267, a_268, a_269, v_270, v_271, v_272, v_273, v_274, a_275, v_276, a_277, a_278, v_279, v_280, a_281, v_282, a_283, a_284, v_285, v_286, a_287, a_288, a_289, v_290, a_291, a_292, a_293, a_294, a_295, a_296, a_297, a_298, a_299, v_300, v_301, a_302, hfo_246, ⟨ma_247, ka_247⟩, ⟨ma_248, ka_248⟩, ⟨ma_249, ka_249⟩, bv_250, ⟨ma_251, ka_251⟩, bv_252, bv_253, bv_258, bv_259, bv_260, ⟨ma_262, ka_262⟩, ⟨ma_263, ka_263⟩, ⟨ma_264, ka_264⟩, ⟨ma_265, ka_265⟩, ⟨ma_266, ka_266⟩, ⟨ma_267, ka_267⟩, ⟨ma_268, ka_268⟩, ⟨ma_269, ka_269⟩, bv_270, bv_272, bv_274, ⟨ma_275, ka_275⟩, bv_276, ⟨ma_277, ka_277⟩, ⟨ma_278, ka_278⟩, bv_279, ⟨ma_281, ka_281⟩, bv_282, ⟨ma_283, ka_283⟩, ⟨ma_284, ka_284⟩, bv_285, ⟨ma_287, ka_287⟩, ⟨ma_288, ka_288⟩, ⟨ma_289, ka_289⟩, bv_290, ⟨ma_291, ka_291⟩, ⟨ma_292, ka_292⟩, ⟨ma_293, ka_293⟩, ⟨ma_294, ka_294⟩, ⟨ma_295, ka_295⟩, ⟨ma_296, ka_296⟩, ⟨ma_297, ka_297⟩, ⟨ma_298, ka_298⟩, ⟨ma_299, ka_299⟩, bv_300, ⟨ma_302, ka_302⟩⟩ := un_12 (hG _ mo0) ko0
    have bv_254 : ((-2147483648) ≤ v_254.toInt ∧ v_254.toInt ≤ 2147483647) := ⟨i32_lo _, i32_hi _⟩
    have bv_255 : ((-2147483648) ≤ v_255.toInt ∧ v_255.toInt ≤ 2147483647) := ⟨i32_lo _, i32_hi _⟩
    have bv_256 : ((-2147483648) ≤ v_256.toInt ∧ v_256.toInt ≤ 2147483647) := ⟨i32_lo _, i32_hi _⟩
    have bv_257 : ((-2147483648) ≤ v_257.toInt ∧ v_257.toInt ≤ 2147483647) := ⟨i32_lo _, i32_hi _⟩
    have bv_261 : ((-2147483648) ≤ v_261.toInt ∧ v_261.toInt ≤ 2147483647) := ⟨i32_lo _, i32_hi _⟩
    have bv_271 : ((-2147483648) ≤ v_271.toInt ∧ v_271.toInt ≤ 2147483647) := ⟨i32_lo _, i32_hi _⟩
    have bv_273 : ((-2147483648) ≤ v_273.toInt ∧ v_273.toInt ≤ 2147483647) := ⟨i32_lo _, i32_hi _⟩
    have bv_280 : ((-2147483648) ≤ v_280.toInt ∧ v_280.toInt ≤ 2147483647) := ⟨i32_lo _, i32_hi _⟩
    have bv_286 : ((-2147483648) ≤ v_286.toInt ∧ v_286.toInt ≤ 2147483647) := ⟨i32_lo _, i32_hi _⟩
    have bv_301 : ((-2147483648) ≤ v_301.toInt ∧ v_301.toInt ≤ 2147483647) := ⟨i32_lo _, i32_hi _⟩
    refine tk_getP (D := (dC, dI)) (ci := 12) (v := .ref a_247) (C := RX12) (T := TX12) (N := 56) hx hb hU inlX12 hown hK hP mo0 hfo_246 rfl 0 (by decide) (hU _ wd_169) (fun _ h9 => h9) rfl dX12_look_80 ?_
    refine lv_bipush (v := 19) hx hb dX12_look_83 (by decide) ?_
    obtain ⟨g_304, hfo_303, hbg_304⟩ := un_575 (hG _ ma_247) ka_247
    refine tk_ildP hx hb hK hP 0 ma_247 hfo_303 rfl (vp_in_nI (n := 19) (by decide) (by decide)) dX12_look_85 ?_
    refine lv_topi (fun x_305 ex_305 => ?_)
    have bx_305 : (0 ≤ x_305.toInt ∧ x_305.toInt ≤ 8) := by rw [ex_305]; exact hbg_304.2.2.2.2.1 _ (by decide) (by decide) (by decide)
    exact W.iret (v := x_305) hx hb hr (fun t ht hW => ⟨⟨x_305, f, rfl, ⟨rfl, (by constructor <;> omega)⟩, by rw [ht]; exact hP, va_K.moved hW.alike hK, pl_in hD⟩, hS.F ht⟩) hS.2.2 dX12_look_86
  by_cases c_306 : p1 = 5
  · refine tk_topi (y := 5) c_306 ?_
    have tc_306 : p1.toInt = 5 := by rw [c_306]; rfl
    refine lv_tableIn (tgt := 87) hx hb dX12_look_1 (by decide) (by decide) rfl (by decide) ?_
    refine lv_aload_n hx hb dX12_look_87 rfl (lv_at hl 0 rfl) ?_
    obtain ⟨a_308, a_309, a_310, v_311, a_312, v_313, v_314, v_315, v_316, v_317, v_318, v_319, v_320, v_321, v_322, a_323, a_324, a_325, a_326, a_327, a_328, a_329, a_330, v_331, v_332, v_333, v_334, v_335, a_336, v_337, a_338, a_339, v_340, v_341, a_342, v_343, a_344, a_345, v_346, v_347, a_348, a_349, a_350, v_351, a_352, a_353, a_354, a_355, a_356, a_357, a_358, a_359, a_360, v_361, v_362, a_363, hfo_307, ⟨ma_308, ka_308⟩, ⟨ma_309, ka_309⟩, ⟨ma_310, ka_310⟩, bv_311, ⟨ma_312, ka_312⟩, bv_313, bv_314, bv_319, bv_320, bv_321, ⟨ma_323, ka_323⟩, ⟨ma_324, ka_324⟩, ⟨ma_325, ka_325⟩, ⟨ma_326, ka_326⟩, ⟨ma_327, ka_327⟩, ⟨ma_328, ka_328⟩, ⟨ma_329, ka_329⟩, ⟨ma_330, ka_330⟩, bv_331, bv_333, bv_335, ⟨ma_336, ka_336⟩, bv_337, ⟨ma_338, ka_338⟩, ⟨ma_339, ka_339⟩, bv_340, ⟨ma_342, ka_342⟩, bv_343, ⟨ma_344, ka_344⟩, ⟨ma_345, ka_345⟩, bv_346, ⟨ma_348, ka_348⟩, ⟨ma_349, ka_349⟩, ⟨ma_350, ka_350⟩, bv_351, ⟨ma_352, ka_352⟩, ⟨ma_353, ka_353⟩, ⟨ma_354, ka_354⟩, ⟨ma_355, ka_355⟩, ⟨ma_356, ka_356⟩, ⟨ma_357, ka_357⟩, ⟨ma_358, ka_358⟩, ⟨ma_359, ka_359⟩, ⟨ma_360, ka_360⟩, bv_361, ⟨ma_363, ka_363⟩⟩ := un_12 (hG _ mo0) ko0
    have bv_315 : ((-2147483648) ≤ v_315.toInt ∧ v_315.toInt ≤ 2147483647) := ⟨i32_lo _, i32_hi _⟩
    have bv_316 : ((-2147483648) ≤ v_316.toInt ∧ v_316.toInt ≤ 2147483647) := ⟨i32_lo _, i32_hi _⟩
    have bv_317 : ((-2147483648) ≤ v_317.toInt ∧ v_317.toInt ≤ 2147483647) := ⟨i32_lo _, i32_hi _⟩
    have bv_318 : ((-2147483648) ≤ v_318.toInt ∧ v_318.toInt ≤ 2147483647) := ⟨i32_lo _, i32_hi _⟩
    have bv_322 : ((-2147483648) ≤ v_322.toInt ∧ v_322.toInt ≤ 2147483647) := ⟨i32_lo _, i32_hi _⟩
    have bv_332 : ((-2147483648) ≤ v_332.toInt ∧ v_332.toInt ≤ 2147483647) := ⟨i32_lo _, i32_hi _⟩
    have bv_334 : ((-2147483648) ≤ v_334.toInt ∧ v_334.toInt ≤ 2147483647) := ⟨i32_lo _, i32_hi _⟩
    have bv_341 : ((-2147483648) ≤ v_341.toInt ∧ v_341.toInt ≤ 2147483647) := ⟨i32_lo _, i32_hi _⟩
    have bv_347 : ((-2147483648) ≤ v_347.toInt ∧ v_347.toInt ≤ 2147483647) := ⟨i32_lo _, i32_hi _⟩
    have bv_362 : ((-2147483648) ≤ v_362.toInt ∧ v_362.toInt ≤ 2147483647) := ⟨i32_lo _, i32_hi _⟩
    refine tk_getP (D := (dC, dI)) (ci := 12) (v := .ref a_308) (C := RX12) (T := TX12) (N := 56) hx hb hU inlX12 hown hK hP mo0 hfo_307 rfl 0 (by decide) (hU _ wd_169) (fun _ h9 => h9) rfl dX12_look_88 ?_
    refine lv_bipush (v := 40) hx hb dX12_look_91 (by decide) ?_
    obtain ⟨g_365, hfo_364, hbg_365⟩ := un_575 (hG _ ma_308) ka_308
    refine tk_ildP hx hb hK hP 0 ma_308 hfo_364 rfl (vp_in_nI (n := 40) (by decide) (by decide)) dX12_look_93 ?_
    refine lv_topi (fun x_366 ex_366 => ?_)
    have bx_366 : (0 ≤ x_366.toInt ∧ x_366.toInt ≤ 255) := by rw [ex_366]; exact hbg_365.2.2.2.2.2.2.1 _ (by decide) (by decide) (by decide)
    exact W.iret (v := x_366) hx hb hr (fun t ht hW => ⟨⟨x_366, f, rfl, ⟨rfl, (by constructor <;> omega)⟩, by rw [ht]; exact hP, va_K.moved hW.alike hK, pl_in hD⟩, hS.F ht⟩) hS.2.2 dX12_look_94
  by_cases c_367 : p1 = 6
  · refine tk_topi (y := 6) c_367 ?_
    have tc_367 : p1.toInt = 6 := by rw [c_367]; rfl
    refine lv_tableIn (tgt := 95) hx hb dX12_look_1 (by decide) (by decide) rfl (by decide) ?_
    refine lv_aload_n hx hb dX12_look_95 rfl (lv_at hl 0 rfl) ?_
    obtain ⟨a_369, a_370, a_371, v_372, a_373, v_374, v_375, v_376, v_377, v_378, v_379, v_380, v_381, v_382, v_383, a_384, a_385, a_386, a_387, a_388, a_389, a_390, a_391, v_392, v_393, v_394, v_395, v_396, a_397, v_398, a_399, a_400, v_401, v_402, a_403, v_404, a_405, a_406, v_407, v_408, a_409, a_410, a_411, v_412, a_413, a_414, a_415, a_416, a_417, a_418, a_419, a_420, a_421, v_422, v_423, a_424, hfo_368, ⟨ma_369, ka_369⟩, ⟨ma_370, ka_370⟩, ⟨ma_371, ka_371⟩, bv_372, ⟨ma_373, ka_373⟩, bv_374, bv_375, bv_380, bv_381, bv_382, ⟨ma_384, ka_384⟩, ⟨ma_385, ka_385⟩, ⟨ma_386, ka_386⟩, ⟨ma_387, ka_387⟩, ⟨ma_388, ka_388⟩, ⟨ma_389, ka_389⟩, ⟨ma_390, ka_390⟩, ⟨ma_391, ka_391⟩, bv_392, bv_394, bv_396, ⟨ma_397, ka_397⟩, bv_398, ⟨ma_399, ka_399⟩, ⟨ma_400, ka_400⟩, bv_401, ⟨ma_403, ka_403⟩, bv_404, ⟨ma_405, ka_405⟩, ⟨ma_406, ka_406⟩, bv_407, ⟨ma_409, ka_409⟩, ⟨ma_410, ka_410⟩, ⟨ma_411, ka_411⟩, bv_412, ⟨ma_413, ka_413⟩, ⟨ma_414, ka_414⟩, ⟨ma_415, ka_415⟩, ⟨ma_416, ka_416⟩, ⟨ma_417, ka_417⟩, ⟨ma_418, ka_418⟩, ⟨ma_419, ka_419⟩, ⟨ma_420, ka_420⟩, ⟨ma_421, ka_421⟩, bv_422, ⟨ma_424, ka_424⟩⟩ := un_12 (hG _ mo0) ko0
    have bv_376 : ((-2147483648) ≤ v_376.toInt ∧ v_376.toInt ≤ 2147483647) := ⟨i32_lo _, i32_hi _⟩
    have bv_377 : ((-2147483648) ≤ v_377.toInt ∧ v_377.toInt ≤ 2147483647) := ⟨i32_lo _, i32_hi _⟩
    have bv_378 : ((-2147483648) ≤ v_378.toInt ∧ v_378.toInt ≤ 2147483647) := ⟨i32_lo _, i32_hi _⟩
    have bv_379 : ((-2147483648) ≤ v_379.toInt ∧ v_379.toInt ≤ 2147483647) := ⟨i32_lo _, i32_hi _⟩
    have bv_383 : ((-2147483648) ≤ v_383.toInt ∧ v_383.toInt ≤ 2147483647) := ⟨i32_lo _, i32_hi _⟩
    have bv_393 : ((-2147483648) ≤ v_393.toInt ∧ v_393.toInt ≤ 2147483647) := ⟨i32_lo _, i32_hi _⟩
    have bv_395 : ((-2147483648) ≤ v_395.toInt ∧ v_395.toInt ≤ 2147483647) := ⟨i32_lo _, i32_hi _⟩
    have bv_402 : ((-2147483648) ≤ v_402.toInt ∧ v_402.toInt ≤ 2147483647) := ⟨i32_lo _, i32_hi _⟩
    have bv_408 : ((-2147483648) ≤ v_408.toInt ∧ v_408.toInt ≤ 2147483647) := ⟨i32_lo _, i32_hi _⟩
    have bv_423 : ((-2147483648) ≤ v_423.toInt ∧ v_423.toInt ≤ 2147483647) := ⟨i32_lo _, i32_hi _⟩
    refine tk_getP (D := (dC, dI)) (ci := 12) (v := .ref a_369) (C := RX12) (T := TX12) (N := 56) hx hb hU inlX12 hown hK hP mo0 hfo_368 rfl 0 (by decide) (hU _ wd_169) (fun _ h9 => h9) rfl dX12_look_96 ?_
    refine lv_bipush (v := 41) hx hb dX12_look_99 (by decide) ?_
    obtain ⟨g_426, hfo_425, hbg_426⟩ := un_575 (hG _ ma_369) ka_369
    refine tk_ildP hx hb hK hP 0 ma_369 hfo_425 rfl (vp_in_nI (n := 41) (by decide) (by decide)) dX12_look_101 ?_
    refine lv_topi (fun x_427 ex_427 => ?_)
    have bx_427 : (0 ≤ x_427.toInt ∧ x_427.toInt ≤ 1) := by rw [ex_427]; exact hbg_426.2.2.2.2.2.2.2.1 _ (by decide) (by decide) (by decide)
    exact W.iret (v := x_427) hx hb hr (fun t ht hW => ⟨⟨x_427, f, rfl, ⟨rfl, (by constructor <;> omega)⟩, by rw [ht]; exact hP, va_K.moved hW.alike hK, pl_in hD⟩, hS.F ht⟩) hS.2.2 dX12_look_102
  by_cases c_428 : p1 = 7
  · refine tk_topi (y := 7) c_428 ?_
    have tc_428 : p1.toInt = 7 := by rw [c_428]; rfl
    refine lv_tableIn (tgt := 103) hx hb dX12_look_1 (by decide) (by decide) rfl (by decide) ?_
    refine lv_aload_n hx hb dX12_look_103 rfl (lv_at hl 0 rfl) ?_
    obtain ⟨a_430, a_431, a_432, v_433, a_434, v_435, v_436, v_437, v_438, v_439, v_440, v_441, v_442, v_443, v_444, a_445, a_446, a_447, a_448, a_449, a_450, a_451, a_452, v_453, v_454, v_455, v_456, v_457, a_458, v_459, a_460, a_461, v_462, v_463, a_464, v_465, a_466, a_467, v_468, v_469, a_470, a_471, a_472, v_473, a_474, a_475, a_476, a_477, a_478, a_479, a_480, a_481, a_482, v_483, v_484, a_485, hfo_429, ⟨ma_430, ka_430⟩, ⟨ma_431, ka_431⟩, ⟨ma_432, ka_432⟩, bv_433, ⟨ma_434, ka_434⟩, bv_435, bv_436, bv_441, bv_442, bv_443, ⟨ma_445, ka_445⟩, ⟨ma_446, ka_446⟩, ⟨ma_447, ka_447⟩, ⟨ma_448, ka_448⟩, ⟨ma_449, ka_449⟩, ⟨ma_450, ka_450⟩, ⟨ma_451, ka_451⟩, ⟨ma_452, ka_452⟩, bv_453, bv_455, bv_457, ⟨ma_458, ka_458⟩, bv_459, ⟨ma_460, ka_460⟩, ⟨ma_461, ka_461⟩, bv_462, ⟨ma_464, ka_464⟩, bv_465, ⟨ma_466, ka_466⟩, ⟨ma_467, ka_467⟩, bv_468, ⟨ma_470, ka_470⟩, ⟨ma_471, ka_471⟩, ⟨ma_472, ka_472⟩, bv_473, ⟨ma_474, ka_474⟩, ⟨ma_475, ka_475⟩, ⟨ma_476, ka_476⟩, ⟨ma_477, ka_477⟩, ⟨ma_478, ka_478⟩, ⟨ma_479, ka_479⟩, ⟨ma_480, ka_480⟩, ⟨ma_481, ka_481⟩, ⟨ma_482, ka_482⟩, bv_483, ⟨ma_485, ka_485⟩⟩ := un_12 (hG _ mo0) ko0
    have bv_437 : ((-2147483648) ≤ v_437.toInt ∧ v_437.toInt ≤ 2147483647) := ⟨i32_lo _, i32_hi _⟩
    have bv_438 : ((-2147483648) ≤ v_438.toInt ∧ v_438.toInt ≤ 2147483647) := ⟨i32_lo _, i32_hi _⟩
    have bv_439 : ((-2147483648) ≤ v_439.toInt ∧ v_439.toInt ≤ 2147483647) := ⟨i32_lo _, i32_hi _⟩
    have bv_440 : ((-2147483648) ≤ v_440.toInt ∧ v_440.toInt ≤ 2147483647) := ⟨i32_lo _, i32_hi _⟩
    have bv_444 : ((-2147483648) ≤ v_444.toInt ∧ v_444.toInt ≤ 2147483647) := ⟨i32_lo _, i32_hi _⟩
    have bv_454 : ((-2147483648) ≤ v_454.toInt ∧ v_454.toInt ≤ 2147483647) := ⟨i32_lo _, i32_hi _⟩
    have bv_456 : ((-2147483648) ≤ v_456.toInt ∧ v_456.toInt ≤ 2147483647) := ⟨i32_lo _, i32_hi _⟩
    have bv_463 : ((-2147483648) ≤ v_463.toInt ∧ v_463.toInt ≤ 2147483647) := ⟨i32_lo _, i32_hi _⟩
    have bv_469 : ((-2147483648) ≤ v_469.toInt ∧ v_469.toInt ≤ 2147483647) := ⟨i32_lo _, i32_hi _⟩
    have bv_484 : ((-2147483648) ≤ v_484.toInt ∧ v_484.toInt ≤ 2147483647) := ⟨i32_lo _, i32_hi _⟩
    refine tk_getP (D := (dC, dI)) (ci := 12) (v := .ref a_430) (C := RX12) (T := TX12) (N := 56) hx hb hU inlX12 hown hK hP mo0 hfo_429 rfl 0 (by decide) (hU _ wd_169) (fun _ h9 => h9) rfl dX12_look_104 ?_
    refine lv_bipush (v := 42) hx hb dX12_look_107 (by decide) ?_
    obtain ⟨g_487, hfo_486, hbg_487⟩ := un_575 (hG _ ma_430) ka_430
    refine tk_ildP hx hb hK hP 0 ma_430 hfo_486 rfl (vp_in_nI (n := 42) (by decide) (by decide)) dX12_look_109 ?_
    refine lv_topi (fun x_488 ex_488 => ?_)
    have bx_488 : (0 ≤ x_488.toInt ∧ x_488.toInt ≤ 12) := by rw [ex_488]; exact hbg_487.2.2.2.2.2.2.2.2.1 _ (by decide) (by decide) (by decide)
    exact W.iret (v := x_488) hx hb hr (fun t ht hW => ⟨⟨x_488, f, rfl, ⟨rfl, (by constructor <;> omega)⟩, by rw [ht]; exact hP, va_K.moved hW.alike hK, pl_in hD⟩, hS.F ht⟩) hS.2.2 dX12_look_110
  rw [← Int32.toInt_inj, ti_0] at c_1
  rw [← Int32.toInt_inj, ti_1] at c_62
  rw [← Int32.toInt_inj, ti_2] at c_123
  rw [← Int32.toInt_inj, ti_3] at c_184
  rw [← Int32.toInt_inj, ti_4] at c_245
  rw [← Int32.toInt_inj, ti_5] at c_306
  rw [← Int32.toInt_inj, ti_6] at c_367
  rw [← Int32.toInt_inj, ti_7] at c_428
  refine lv_tableOut (tgt := 111) hx hb dX12_look_1 (by omega) (by decide) ?_
  refine lv_iload_n hx hb dX12_look_111 rfl (lv_at hl 1 rfl) ?_
  refine lv_bipush (v := 10) hx hb dX12_look_112 (by decide) ?_
  refine lv_bipush (v := 15) hx hb dX12_look_114 (by decide) ?_
  refine tk_SiP (As := [.int p1, .int 10, .int 15]) (rest := []) (n := 3) hx hb hml hown hU hN hZ (s_X12_isIn l (dC, dI) cI cL cZ cR cG cH Z kd L f hG p1 10 15) wd_227 wd_228 wd_5 wd_229 (by decide +kernel) ⟨Nat.le_of_ble_eq_true rfl, Nat.le_of_ble_eq_true rfl⟩ hK hP hD hS rfl hl.1 rfl (Nat.le_of_ble_eq_true rfl) dX12_look_116 ⟨Nat.le_of_ble_eq_true rfl, Nat.le_of_ble_eq_true rfl⟩ (fun x_489 f_490 H locs hw hP hD hS => ?_)
  obtain ⟨rfl, bx_489, relx_489⟩ := hw
  try rw [ti_10] at relx_489
  try rw [ti_15] at relx_489
  refine lv_if_eq (tgt := 138) hx hb dX12_look_119 (by decide) (fun c_492 => ?_) (fun c_492 => ?_)
  · skip
    rw [← Int32.toInt_inj, ti_0] at c_492
    refine lv_iload_n hx hb dX12_look_138 rfl (lv_at hl 1 rfl) ?_
    refine lv_bipush (v := 20) hx hb dX12_look_139 (by decide) ?_
    refine lv_bipush (v := 19) hx hb dX12_look_141 (by decide) ?_
    refine lv_aload_n hx hb dX12_look_143 rfl (lv_at hl 0 rfl) ?_
    obtain ⟨a_494, a_495, a_496, v_497, a_498, v_499, v_500, v_501, v_502, v_503, v_504, v_505, v_506, v_507, v_508, a_509, a_510, a_511, a_512, a_513, a_514, a_515, a_516, v_517, v_518, v_519, v_520, v_521, a_522, v_523, a_524, a_525, v_526, v_527, a_528, v_529, a_530, a_531, v_532, v_533, a_534, a_535, a_536, v_537, a_538, a_539, a_540, a_541, a_542, a_543, a_544, a_545, a_546, v_547, v_548, a_549, hfo_493, ⟨ma_494, ka_494⟩, ⟨ma_495, ka_495⟩, ⟨ma_496, ka_496⟩, bv_497, ⟨ma_498, ka_498⟩, bv_499, bv_500, bv_505, bv_506, bv_507, ⟨ma_509, ka_509⟩, ⟨ma_510, ka_510⟩, ⟨ma_511, ka_511⟩, ⟨ma_512, ka_512⟩, ⟨ma_513, ka_513⟩, ⟨ma_514, ka_514⟩, ⟨ma_515, ka_515⟩, ⟨ma_516, ka_516⟩, bv_517, bv_519, bv_521, ⟨ma_522, ka_522⟩, bv_523, ⟨ma_524, ka_524⟩, ⟨ma_525, ka_525⟩, bv_526, ⟨ma_528, ka_528⟩, bv_529, ⟨ma_530, ka_530⟩, ⟨ma_531, ka_531⟩, bv_532, ⟨ma_534, ka_534⟩, ⟨ma_535, ka_535⟩, ⟨ma_536, ka_536⟩, bv_537, ⟨ma_538, ka_538⟩, ⟨ma_539, ka_539⟩, ⟨ma_540, ka_540⟩, ⟨ma_541, ka_541⟩, ⟨ma_542, ka_542⟩, ⟨ma_543, ka_543⟩, ⟨ma_544, ka_544⟩, ⟨ma_545, ka_545⟩, ⟨ma_546, ka_546⟩, bv_547, ⟨ma_549, ka_549⟩⟩ := un_12 (hG _ mo0) ko0
    have bv_501 : ((-2147483648) ≤ v_501.toInt ∧ v_501.toInt ≤ 2147483647) := ⟨i32_lo _, i32_hi _⟩
    have bv_502 : ((-2147483648) ≤ v_502.toInt ∧ v_502.toInt ≤ 2147483647) := ⟨i32_lo _, i32_hi _⟩
    have bv_503 : ((-2147483648) ≤ v_503.toInt ∧ v_503.toInt ≤ 2147483647) := ⟨i32_lo _, i32_hi _⟩
    have bv_504 : ((-2147483648) ≤ v_504.toInt ∧ v_504.toInt ≤ 2147483647) := ⟨i32_lo _, i32_hi _⟩
    have bv_508 : ((-2147483648) ≤ v_508.toInt ∧ v_508.toInt ≤ 2147483647) := ⟨i32_lo _, i32_hi _⟩
    have bv_518 : ((-2147483648) ≤ v_518.toInt ∧ v_518.toInt ≤ 2147483647) := ⟨i32_lo _, i32_hi _⟩
    have bv_520 : ((-2147483648) ≤ v_520.toInt ∧ v_520.toInt ≤ 2147483647) := ⟨i32_lo _, i32_hi _⟩
    have bv_527 : ((-2147483648) ≤ v_527.toInt ∧ v_527.toInt ≤ 2147483647) := ⟨i32_lo _, i32_hi _⟩
    have bv_533 : ((-2147483648) ≤ v_533.toInt ∧ v_533.toInt ≤ 2147483647) := ⟨i32_lo _, i32_hi _⟩
    have bv_548 : ((-2147483648) ≤ v_548.toInt ∧ v_548.toInt ≤ 2147483647) := ⟨i32_lo _, i32_hi _⟩
    refine tk_getP (D := (dC, dI)) (ci := 12) (v := .ref a_494) (C := RX12) (T := TX12) (N := 56) hx hb hU inlX12 hown hK hP mo0 hfo_493 rfl 0 (by decide) (hU _ wd_169) (fun _ h9 => h9) rfl dX12_look_144 ?_
    refine lv_bipush (v := 18) hx hb dX12_look_147 (by decide) ?_
    obtain ⟨g_551, hfo_550, hbg_551⟩ := un_575 (hG _ ma_494) ka_494
    refine tk_ildP hx hb hK hP 0 ma_494 hfo_550 rfl (vp_in_nI (n := 18) (by decide) (by decide)) dX12_look_149 ?_
    refine lv_topi (fun x_552 ex_552 => ?_)
    have bx_552 : (0 ≤ x_552.toInt ∧ x_552.toInt ≤ 12) := by rw [ex_552]; exact hbg_551.2.2.2.1 _ (by decide) (by decide) (by decide)
    refine lv_iadd hx hb dX12_look_150 ?_
    refine lv_topi (fun x_553 ex_553 => ?_)
    have hx_553 : x_553.toInt = 19 + x_552.toInt := by rw [ex_553, ad_I (by rw [ti_19]; omega) (by rw [ti_19]; omega), ti_19]
    have bx_553 : (19 ≤ x_553.toInt ∧ x_553.toInt ≤ 31) := by constructor <;> omega
    refine tk_SiP (As := [.int p1, .int 20, .int x_553]) (rest := []) (n := 3) hx hb hml hown hU hN hZ (s_X12_isIn l (dC, dI) cI cL cZ cR cG cH Z kd L f hG p1 20 x_553) wd_227 wd_228 wd_5 wd_229 (by decide +kernel) ⟨Nat.le_of_ble_eq_true rfl, Nat.le_of_ble_eq_true rfl⟩ hK hP hD hS rfl hl.1 rfl (Nat.le_of_ble_eq_true rfl) dX12_look_151 ⟨Nat.le_of_ble_eq_true rfl, Nat.le_of_ble_eq_true rfl⟩ (fun x_554 f_555 H locs hw hP hD hS => ?_)
    obtain ⟨rfl, bx_554, relx_554⟩ := hw
    try rw [ti_20] at relx_554
    refine lv_if_eq (tgt := 173) hx hb dX12_look_154 (by decide) (fun c_557 => ?_) (fun c_557 => ?_)
    · skip
      rw [← Int32.toInt_inj, ti_0] at c_557
      refine lv_iload_n hx hb dX12_look_173 rfl (lv_at hl 1 rfl) ?_
      refine lv_bipush (v := 40) hx hb dX12_look_174 (by decide) ?_
      refine lv_bipush (v := 39) hx hb dX12_look_176 (by decide) ?_
      refine lv_aload_n hx hb dX12_look_178 rfl (lv_at hl 0 rfl) ?_
      refine tk_getP (D := (dC, dI)) (ci := 12) (v := .ref a_494) (C := RX12) (T := TX12) (N := 56) hx hb hU inlX12 hown hK hP mo0 hfo_493 rfl 0 (by decide) (hU _ wd_169) (fun _ h9 => h9) rfl dX12_look_179 ?_
      refine lv_bipush (v := 19) hx hb dX12_look_182 (by decide) ?_
      refine tk_ildP hx hb hK hP 0 ma_494 hfo_550 rfl (vp_in_nI (n := 19) (by decide) (by decide)) dX12_look_184 ?_
      refine lv_topi (fun x_558 ex_558 => ?_)
      have bx_558 : (0 ≤ x_558.toInt ∧ x_558.toInt ≤ 8) := by rw [ex_558]; exact hbg_551.2.2.2.2.1 _ (by decide) (by decide) (by decide)
      refine lv_iadd hx hb dX12_look_185 ?_
      refine lv_topi (fun x_559 ex_559 => ?_)
      have hx_559 : x_559.toInt = 39 + x_558.toInt := by rw [ex_559, ad_I (by rw [ti_39]; omega) (by rw [ti_39]; omega), ti_39]
      have bx_559 : (39 ≤ x_559.toInt ∧ x_559.toInt ≤ 47) := by constructor <;> omega
      refine tk_SiP (As := [.int p1, .int 40, .int x_559]) (rest := []) (n := 3) hx hb hml hown hU hN hZ (s_X12_isIn l (dC, dI) cI cL cZ cR cG cH Z kd L f hG p1 40 x_559) wd_227 wd_228 wd_5 wd_229 (by decide +kernel) ⟨Nat.le_of_ble_eq_true rfl, Nat.le_of_ble_eq_true rfl⟩ hK hP hD hS rfl hl.1 rfl (Nat.le_of_ble_eq_true rfl) dX12_look_186 ⟨Nat.le_of_ble_eq_true rfl, Nat.le_of_ble_eq_true rfl⟩ (fun x_560 f_561 H locs hw hP hD hS => ?_)
      obtain ⟨rfl, bx_560, relx_560⟩ := hw
      try rw [ti_40] at relx_560
      refine lv_if_eq (tgt := 209) hx hb dX12_look_189 (by decide) (fun c_563 => ?_) (fun c_563 => ?_)
      · skip
        rw [← Int32.toInt_inj, ti_0] at c_563
        refine lv_iload_n hx hb dX12_look_209 rfl (lv_at hl 1 rfl) ?_
        refine lv_bipush (v := 50) hx hb dX12_look_210 (by decide) ?_
        refine lv_bipush (v := 49) hx hb dX12_look_212 (by decide) ?_
        refine lv_aload_n hx hb dX12_look_214 rfl (lv_at hl 0 rfl) ?_
        refine tk_getP (D := (dC, dI)) (ci := 12) (v := .ref a_494) (C := RX12) (T := TX12) (N := 56) hx hb hU inlX12 hown hK hP mo0 hfo_493 rfl 0 (by decide) (hU _ wd_169) (fun _ h9 => h9) rfl dX12_look_215 ?_
        refine lv_bipush (v := 17) hx hb dX12_look_218 (by decide) ?_
        refine tk_ildP hx hb hK hP 0 ma_494 hfo_550 rfl (vp_in_nI (n := 17) (by decide) (by decide)) dX12_look_220 ?_
        refine lv_topi (fun x_564 ex_564 => ?_)
        have bx_564 : (0 ≤ x_564.toInt ∧ x_564.toInt ≤ 8) := by rw [ex_564]; exact hbg_551.2.2.1 _ (by decide) (by decide) (by decide)
        refine lv_iadd hx hb dX12_look_221 ?_
        refine lv_topi (fun x_565 ex_565 => ?_)
        have hx_565 : x_565.toInt = 49 + x_564.toInt := by rw [ex_565, ad_I (by rw [ti_49]; omega) (by rw [ti_49]; omega), ti_49]
        have bx_565 : (49 ≤ x_565.toInt ∧ x_565.toInt ≤ 57) := by constructor <;> omega
        refine tk_SiP (As := [.int p1, .int 50, .int x_565]) (rest := []) (n := 3) hx hb hml hown hU hN hZ (s_X12_isIn l (dC, dI) cI cL cZ cR cG cH Z kd L f hG p1 50 x_565) wd_227 wd_228 wd_5 wd_229 (by decide +kernel) ⟨Nat.le_of_ble_eq_true rfl, Nat.le_of_ble_eq_true rfl⟩ hK hP hD hS rfl hl.1 rfl (Nat.le_of_ble_eq_true rfl) dX12_look_222 ⟨Nat.le_of_ble_eq_true rfl, Nat.le_of_ble_eq_true rfl⟩ (fun x_566 f_567 H locs hw hP hD hS => ?_)
        obtain ⟨rfl, bx_566, relx_566⟩ := hw
        try rw [ti_50] at relx_566
        refine lv_if_eq (tgt := 243) hx hb dX12_look_225 (by decide) (fun c_569 => ?_) (fun c_569 => ?_)
        · skip
          rw [← Int32.toInt_inj, ti_0] at c_569
          refine lv_iconst (v := (-1)) hx hb dX12_look_243 (by decide) ?_
          exact W.iret (v := (-1)) hx hb hr (fun t ht hW => ⟨⟨(-1), f, rfl, ⟨rfl, (by decide)⟩, by rw [ht]; exact hP, va_K.moved hW.alike hK, pl_in hD⟩, hS.F ht⟩) hS.2.2 dX12_look_244
        · skip
          rw [← Int32.toInt_inj, ti_0] at c_569
          refine lv_aload_n hx hb dX12_look_228 rfl (lv_at hl 0 rfl) ?_
          refine tk_getP (D := (dC, dI)) (ci := 12) (v := .ref a_494) (C := RX12) (T := TX12) (N := 56) hx hb hU inlX12 hown hK hP mo0 hfo_493 rfl 0 (by decide) (hU _ wd_169) (fun _ h9 => h9) rfl dX12_look_229 ?_
          refine lv_bipush (v := 43) hx hb dX12_look_232 (by decide) ?_
          refine lv_iload_n hx hb dX12_look_234 rfl (lv_at hl 1 rfl) ?_
          refine lv_iadd hx hb dX12_look_235 ?_
          refine lv_topi (fun x_570 ex_570 => ?_)
          have hx_570 : x_570.toInt = 43 + p1.toInt := by rw [ex_570, ad_I (by rw [ti_43]; omega) (by rw [ti_43]; omega), ti_43]
          have bx_570 : (93 ≤ x_570.toInt ∧ x_570.toInt ≤ 100) := by constructor <;> omega
          refine lv_bipush (v := 50) hx hb dX12_look_236 (by decide) ?_
          refine lv_isub hx hb dX12_look_238 ?_
          refine lv_topi (fun x_571 ex_571 => ?_)
          have hx_571 : x_571.toInt = x_570.toInt - 50 := by rw [ex_571, sb_I (by rw [ti_50]; omega) (by rw [ti_50]; omega), ti_50]
          have bx_571 : (43 ≤ x_571.toInt ∧ x_571.toInt ≤ 50) := by constructor <;> omega
          refine tk_ildP hx hb hK hP 0 ma_494 hfo_550 rfl (vp_in_iff.mpr (by constructor <;> omega)) dX12_look_239 ?_
          refine lv_topi (fun x_572 ex_572 => ?_)
          have bx_572 : (0 ≤ x_572.toInt ∧ x_572.toInt ≤ 7) := by have hc9 := cl_I (i := x_571) (by omega); rw [ex_572]; exact hbg_551.2.2.2.2.2.2.2.2.2.1 _ (by omega) (by omega) (by omega)
          refine lv_goto (tgt := 244) hx hb dX12_look_240 (by decide) ?_
          exact W.iret (v := x_572) hx hb hr (fun t ht hW => ⟨⟨x_572, f, rfl, ⟨rfl, (by constructor <;> omega)⟩, by rw [ht]; exact hP, va_K.moved hW.alike hK, pl_in hD⟩, hS.F ht⟩) hS.2.2 dX12_look_244
      · skip
        rw [← Int32.toInt_inj, ti_0] at c_563
        refine lv_aload_n hx hb dX12_look_192 rfl (lv_at hl 0 rfl) ?_
        refine tk_getP (D := (dC, dI)) (ci := 12) (v := .ref a_494) (C := RX12) (T := TX12) (N := 56) hx hb hU inlX12 hown hK hP mo0 hfo_493 rfl 0 (by decide) (hU _ wd_169) (fun _ h9 => h9) rfl dX12_look_193 ?_
        refine lv_sipush (v := 156) hx hb dX12_look_196 (by decide) ?_
        refine lv_bipush (v := 8) hx hb dX12_look_199 (by decide) ?_
        refine lv_iload_n hx hb dX12_look_201 rfl (lv_at hl 1 rfl) ?_
        refine lv_bipush (v := 40) hx hb dX12_look_202 (by decide) ?_
        refine lv_isub hx hb dX12_look_204 ?_
        refine lv_topi (fun x_573 ex_573 => ?_)
        have hx_573 : x_573.toInt = p1.toInt - 40 := by rw [ex_573, sb_I (by rw [ti_40]; omega) (by rw [ti_40]; omega), ti_40]
        have bx_573 : (0 ≤ x_573.toInt ∧ x_573.toInt ≤ 7) := by constructor <;> omega
        refine lv_imul hx hb dX12_look_205 ?_
        refine lv_topi (fun x_574 ex_574 => ?_)
        have hx_574 : x_574.toInt = 8 * x_573.toInt := by rw [ex_574, ml_I (by rw [ti_8]; omega) (by rw [ti_8]; omega), ti_8]
        have bx_574 : (0 ≤ x_574.toInt ∧ x_574.toInt ≤ 56) := by constructor <;> omega
        refine lv_iadd hx hb dX12_look_206 ?_
        refine lv_topi (fun x_575 ex_575 => ?_)
        have hx_575 : x_575.toInt = 156 + x_574.toInt := by rw [ex_575, ad_I (by rw [ti_156]; omega) (by rw [ti_156]; omega), ti_156]
        have bx_575 : (156 ≤ x_575.toInt ∧ x_575.toInt ≤ 212) := by constructor <;> omega
        refine tk_ildP hx hb hK hP 0 ma_494 hfo_550 rfl (vp_in_iff.mpr (by constructor <;> omega)) dX12_look_207 ?_
        refine lv_topi (fun x_576 ex_576 => ?_)
        have bx_576 : (0 ≤ x_576.toInt ∧ x_576.toInt ≤ 6) := by have hc9 := cl_I (i := x_575) (by omega); rw [ex_576]; exact hbg_551.2.2.2.2.2.2.2.2.2.2.2.1 _ (by omega) (by omega) (by omega)
        exact W.iret (v := x_576) hx hb hr (fun t ht hW => ⟨⟨x_576, f, rfl, ⟨rfl, (by constructor <;> omega)⟩, by rw [ht]; exact hP, va_K.moved hW.alike hK, pl_in hD⟩, hS.F ht⟩) hS.2.2 dX12_look_208
    · skip
      rw [← Int32.toInt_inj, ti_0] at c_557
      refine lv_aload_n hx hb dX12_look_157 rfl (lv_at hl 0 rfl) ?_
      refine tk_getP (D := (dC, dI)) (ci := 12) (v := .ref a_494) (C := RX12) (T := TX12) (N := 56) hx hb hU inlX12 hown hK hP mo0 hfo_493 rfl 0 (by decide) (hU _ wd_169) (fun _ h9 => h9) rfl dX12_look_158 ?_
      refine lv_bipush (v := 60) hx hb dX12_look_161 (by decide) ?_
      refine lv_bipush (v := 8) hx hb dX12_look_163 (by decide) ?_
      refine lv_iload_n hx hb dX12_look_165 rfl (lv_at hl 1 rfl) ?_
      refine lv_bipush (v := 20) hx hb dX12_look_166 (by decide) ?_
      refine lv_isub hx hb dX12_look_168 ?_
      refine lv_topi (fun x_577 ex_577 => ?_)
      have hx_577 : x_577.toInt = p1.toInt - 20 := by rw [ex_577, sb_I (by rw [ti_20]; omega) (by rw [ti_20]; omega), ti_20]
      have bx_577 : (0 ≤ x_577.toInt ∧ x_577.toInt ≤ 11) := by constructor <;> omega
      refine lv_imul hx hb dX12_look_169 ?_
      refine lv_topi (fun x_578 ex_578 => ?_)
      have hx_578 : x_578.toInt = 8 * x_577.toInt := by rw [ex_578, ml_I (by rw [ti_8]; omega) (by rw [ti_8]; omega), ti_8]
      have bx_578 : (0 ≤ x_578.toInt ∧ x_578.toInt ≤ 88) := by constructor <;> omega
      refine lv_iadd hx hb dX12_look_170 ?_
      refine lv_topi (fun x_579 ex_579 => ?_)
      have hx_579 : x_579.toInt = 60 + x_578.toInt := by rw [ex_579, ad_I (by rw [ti_60]; omega) (by rw [ti_60]; omega), ti_60]
      have bx_579 : (60 ≤ x_579.toInt ∧ x_579.toInt ≤ 148) := by constructor <;> omega
      refine tk_ildP hx hb hK hP 0 ma_494 hfo_550 rfl (vp_in_iff.mpr (by constructor <;> omega)) dX12_look_171 ?_
      refine lv_topi (fun x_580 ex_580 => ?_)
      have bx_580 : (0 ≤ x_580.toInt ∧ x_580.toInt ≤ 6) := by have hc9 := cl_I (i := x_579) (by omega); rw [ex_580]; exact hbg_551.2.2.2.2.2.2.2.2.2.2.2.1 _ (by omega) (by omega) (by omega)
      exact W.iret (v := x_580) hx hb hr (fun t ht hW => ⟨⟨x_580, f, rfl, ⟨rfl, (by constructor <;> omega)⟩, by rw [ht]; exact hP, va_K.moved hW.alike hK, pl_in hD⟩, hS.F ht⟩) hS.2.2 dX12_look_172
  · skip
    rw [← Int32.toInt_inj, ti_0] at c_492
    refine lv_aload_n hx hb dX12_look_122 rfl (lv_at hl 0 rfl) ?_
    obtain ⟨a_582, a_583, a_584, v_585, a_586, v_587, v_588, v_589, v_590, v_591, v_592, v_593, v_594, v_595, v_596, a_597, a_598, a_599, a_600, a_601, a_602, a_603, a_604, v_605, v_606, v_607, v_608, v_609, a_610, v_611, a_612, a_613, v_614, v_615, a_616, v_617, a_618, a_619, v_620, v_621, a_622, a_623, a_624, v_625, a_626, a_627, a_628, a_629, a_630, a_631, a_632, a_633, a_634, v_635, v_636, a_637, hfo_581, ⟨ma_582, ka_582⟩, ⟨ma_583, ka_583⟩, ⟨ma_584, ka_584⟩, bv_585, ⟨ma_586, ka_586⟩, bv_587, bv_588, bv_593, bv_594, bv_595, ⟨ma_597, ka_597⟩, ⟨ma_598, ka_598⟩, ⟨ma_599, ka_599⟩, ⟨ma_600, ka_600⟩, ⟨ma_601, ka_601⟩, ⟨ma_602, ka_602⟩, ⟨ma_603, ka_603⟩, ⟨ma_604, ka_604⟩, bv_605, bv_607, bv_609, ⟨ma_610, ka_610⟩, bv_611, ⟨ma_612, ka_612⟩, ⟨ma_613, ka_613⟩, bv_614, ⟨ma_616, ka_616⟩, bv_617, ⟨ma_618, ka_618⟩, ⟨ma_619, ka_619⟩, bv_620, ⟨ma_622, ka_622⟩, ⟨ma_623, ka_623⟩, ⟨ma_624, ka_624⟩, bv_625, ⟨ma_626, ka_626⟩, ⟨ma_627, ka_627⟩, ⟨ma_628, ka_628⟩, ⟨ma_629, ka_629⟩, ⟨ma_630, ka_630⟩, ⟨ma_631, ka_631⟩, ⟨ma_632, ka_632⟩, ⟨ma_633, ka_633⟩, ⟨ma_634, ka_634⟩, bv_635, ⟨ma_637, ka_637⟩⟩ := un_12 (hG _ mo0) ko0
    have bv_589 : ((-2147483648) ≤ v_589.toInt ∧ v_589.toInt ≤ 2147483647) := ⟨i32_lo _, i32_hi _⟩
    have bv_590 : ((-2147483648) ≤ v_590.toInt ∧ v_590.toInt ≤ 2147483647) := ⟨i32_lo _, i32_hi _⟩
    have bv_591 : ((-2147483648) ≤ v_591.toInt ∧ v_591.toInt ≤ 2147483647) := ⟨i32_lo _, i32_hi _⟩
    have bv_592 : ((-2147483648) ≤ v_592.toInt ∧ v_592.toInt ≤ 2147483647) := ⟨i32_lo _, i32_hi _⟩
    have bv_596 : ((-2147483648) ≤ v_596.toInt ∧ v_596.toInt ≤ 2147483647) := ⟨i32_lo _, i32_hi _⟩
    have bv_606 : ((-2147483648) ≤ v_606.toInt ∧ v_606.toInt ≤ 2147483647) := ⟨i32_lo _, i32_hi _⟩
    have bv_608 : ((-2147483648) ≤ v_608.toInt ∧ v_608.toInt ≤ 2147483647) := ⟨i32_lo _, i32_hi _⟩
    have bv_615 : ((-2147483648) ≤ v_615.toInt ∧ v_615.toInt ≤ 2147483647) := ⟨i32_lo _, i32_hi _⟩
    have bv_621 : ((-2147483648) ≤ v_621.toInt ∧ v_621.toInt ≤ 2147483647) := ⟨i32_lo _, i32_hi _⟩
    have bv_636 : ((-2147483648) ≤ v_636.toInt ∧ v_636.toInt ≤ 2147483647) := ⟨i32_lo _, i32_hi _⟩
    refine tk_getP (D := (dC, dI)) (ci := 12) (v := .ref a_582) (C := RX12) (T := TX12) (N := 56) hx hb hU inlX12 hown hK hP mo0 hfo_581 rfl 0 (by decide) (hU _ wd_169) (fun _ h9 => h9) rfl dX12_look_123 ?_
    refine lv_bipush (v := 10) hx hb dX12_look_126 (by decide) ?_
    refine lv_iload_n hx hb dX12_look_128 rfl (lv_at hl 1 rfl) ?_
    refine lv_iadd hx hb dX12_look_129 ?_
    refine lv_topi (fun x_638 ex_638 => ?_)
    have hx_638 : x_638.toInt = 10 + p1.toInt := by rw [ex_638, ad_I (by rw [ti_10]; omega) (by rw [ti_10]; omega), ti_10]
    have bx_638 : (20 ≤ x_638.toInt ∧ x_638.toInt ≤ 25) := by constructor <;> omega
    refine lv_bipush (v := 10) hx hb dX12_look_130 (by decide) ?_
    refine lv_isub hx hb dX12_look_132 ?_
    refine lv_topi (fun x_639 ex_639 => ?_)
    have hx_639 : x_639.toInt = x_638.toInt - 10 := by rw [ex_639, sb_I (by rw [ti_10]; omega) (by rw [ti_10]; omega), ti_10]
    have bx_639 : (10 ≤ x_639.toInt ∧ x_639.toInt ≤ 15) := by constructor <;> omega
    obtain ⟨g_641, hfo_640, hbg_641⟩ := un_575 (hG _ ma_582) ka_582
    refine tk_ildP hx hb hK hP 0 ma_582 hfo_640 rfl (vp_in_iff.mpr (by constructor <;> omega)) dX12_look_133 ?_
    refine lv_topi (fun x_642 ex_642 => ?_)
    have bx_642 : ((-2147483648) ≤ x_642.toInt ∧ x_642.toInt ≤ 2147483647) := ⟨i32_lo _, i32_hi _⟩
    refine tk_SiP (As := [.int x_642]) (rest := []) (n := 1) hx hb hml hown hU hN hZ (s_X12_count l (dC, dI) cI cL cZ cR cG cH Z kd L f hG x_642) wd_1380 wd_1381 wd_5 wd_1382 (by decide +kernel) ⟨Nat.le_of_ble_eq_true rfl, Nat.le_of_ble_eq_true rfl⟩ hK hP hD hS rfl hl.1 rfl (Nat.le_of_ble_eq_true rfl) dX12_look_134 ⟨Nat.le_of_ble_eq_true rfl, Nat.le_of_ble_eq_true rfl⟩ (fun x_643 f_644 H locs hw hP hD hS => ?_)
    obtain ⟨rfl, bx_643⟩ := hw
    exact W.iret (v := x_643) hx hb hr (fun t ht hW => ⟨⟨x_643, f, rfl, ⟨rfl, (by constructor <;> omega)⟩, by rw [ht]; exact hP, va_K.moved hW.alike hK, pl_in hD⟩, hS.F ht⟩) hS.2.2 dX12_look_137
