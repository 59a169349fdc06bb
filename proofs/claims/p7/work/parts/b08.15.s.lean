set_option maxHeartbeats 8000000 in
set_option maxRecDepth 100000 in
theorem s_X12_letters_k12 (l : Launch) (D : va_G) (cI cL cZ cR cG cH : ClassId) (Z : zT) (kd : Nat → Nat) (L : List Nat) (f : Nat → va_E) (hG : GI (okc cI cL cZ cR cG cH L kd) kd L f) (o0 : Nat) (mo0 : o0 ∈ L) (ko0 : kd o0 = 12) (hxtr0 : ∀ d9, fldR (f o0) 1 = some d9 → frel kd 576 8 f d9) : mPI l D cI cL cZ cR cG cH Z yX12_letters cX12_letters 3 (some .boolean) 3 61 [.ref o0] L f (fun (r : Int32) (f9 : Nat → va_E) => GI (okc cI cL cZ cR cG cH L kd) kd L f9 ∧ (0 ≤ r.toInt ∧ r.toInt ≤ 1) ∧ (∀ b, kd b ≠ 12 → kd b ≠ 576 → f9 b = f b) ∧ (∀ b, kd b = 12 → ∀ j, fldR (f9 b) j = fldR (f b) j) ∧ (∀ b, kd b = 12 → ∀ j, j ≠ 6 → j ≠ 7 → j ≠ 8 → fldI (f9 b) j = fldI (f b) j) ∧ (∀ (w6 z6 : Int32), fldI (f o0) 6 = some w6 → fldI (f9 o0) 6 = some z6 → w6.toInt ≤ z6.toInt) ∧ (∀ d9, fldR (f9 o0) 1 = some d9 → frel kd 576 8 f9 d9)) := by
  obtain ⟨dC, dI⟩ := D
  refine Met.ofW (cc := cX12_letters) (maxL := 3) (ret := (some .boolean)) (by decide) rfl ?_
  intro p e s m args below meth c s₁ B hml hv
  obtain ⟨rfl, hP, hK, hD0, hN, hZ⟩ := hv
  have hx := B.exec
  have hb := B.bytes
  have hr := B.returns
  have hU : ∀ w ∈ wsU, w.before _ s = true := fun w h => atoms_spec (ws := wU yX12_letters cX12_letters 3 (some .boolean)) B.pre w (List.mem_cons_of_mem _ h)
  have hown : s.vm.findClass RX12 = some m.cls := findClass_of_methodNamed B.named
  have hlocks := B.notSynchronized
  have hD := pl_in hD0
  have hS : va_S (fun q => q ∈ L) s.heap s.heap [] := va_S.rf
  have hl := lv_entry ([.ref o0]) (n := 3) (Nat.le_of_ble_eq_true rfl)
  rw [lg_entry_eq]
  generalize (lg_sl ([.ref o0]) ++ List.replicate (3 - (lg_sl ([.ref o0])).length) Slot.unset).toArray = ls at hl ⊢
  have hl : lv_has ls 3 [(0, .ref o0)] := hl
  have hfr0 : ∀ b, kd b ≠ 12 → kd b ≠ 576 → f b = f b := fun _ _ _ => rfl
  have hrA12 : ∀ b, kd b = 12 → ∀ j, fldR (f b) j = fldR (f b) j := fun _ _ _ => rfl
  have hfA12 : ∀ b, kd b = 12 → ∀ j, j ≠ 6 → j ≠ 7 → j ≠ 8 → fldI (f b) j = fldI (f b) j := fun _ _ _ _ _ _ => rfl
  obtain ⟨a_2, a_3, a_4, v_5, a_6, v_7, v_8, v_9, v_10, v_11, v_12, v_13, v_14, v_15, v_16, a_17, a_18, a_19, a_20, a_21, a_22, a_23, a_24, v_25, v_26, v_27, v_28, v_29, a_30, v_31, a_32, a_33, v_34, v_35, a_36, v_37, a_38, a_39, v_40, v_41, a_42, a_43, a_44, v_45, a_46, a_47, a_48, a_49, a_50, a_51, a_52, a_53, a_54, v_55, v_56, a_57, hfo_1, ⟨ma_2, ka_2⟩, ⟨ma_3, ka_3⟩, ⟨ma_4, ka_4⟩, bv_5, ⟨ma_6, ka_6⟩, bv_7, bv_8, bv_13, bv_14, bv_15, ⟨ma_17, ka_17⟩, ⟨ma_18, ka_18⟩, ⟨ma_19, ka_19⟩, ⟨ma_20, ka_20⟩, ⟨ma_21, ka_21⟩, ⟨ma_22, ka_22⟩, ⟨ma_23, ka_23⟩, ⟨ma_24, ka_24⟩, bv_25, bv_27, bv_29, ⟨ma_30, ka_30⟩, bv_31, ⟨ma_32, ka_32⟩, ⟨ma_33, ka_33⟩, bv_34, ⟨ma_36, ka_36⟩, bv_37, ⟨ma_38, ka_38⟩, ⟨ma_39, ka_39⟩, bv_40, ⟨ma_42, ka_42⟩, ⟨ma_43, ka_43⟩, ⟨ma_44, ka_44⟩, bv_45, ⟨ma_46, ka_46⟩, ⟨ma_47, ka_47⟩, ⟨ma_48, ka_48⟩, ⟨ma_49, ka_49⟩, ⟨ma_50, ka_50⟩, ⟨ma_51, ka_51⟩, ⟨ma_52, ka_52⟩, ⟨ma_53, ka_53⟩, ⟨ma_54, ka_54⟩, bv_55, ⟨ma_57, ka_57⟩⟩ := un_12 (hG _ mo0) ko0
  have bv_9 : ((-2147483648) ≤ v_9.toInt ∧ v_9.toInt ≤ 2147483647) := ⟨i32_lo _, i32_hi _⟩
  have bv_10 : ((-2147483648) ≤ v_10.toInt ∧ v_10.toInt ≤ 2147483647) := ⟨i32_lo _, i32_hi _⟩
  have bv_11 : ((-2147483648) ≤ v_11.toInt ∧ v_11.toInt ≤ 2147483647) := ⟨i32_lo _, i32_hi _⟩
  have bv_12 : ((-2147483648) ≤ v_12.toInt ∧ v_12.toInt ≤ 2147483647) := ⟨i32_lo _, i32_hi _⟩
  have bv_16 : ((-2147483648) ≤ v_16.toInt ∧ v_16.toInt ≤ 2147483647) := ⟨i32_lo _, i32_hi _⟩
  have bv_26 : ((-2147483648) ≤ v_26.toInt ∧ v_26.toInt ≤ 2147483647) := ⟨i32_lo _, i32_hi _⟩
  have bv_28 : ((-2147483648) ≤ v_28.toInt ∧ v_28.toInt ≤ 2147483647) := ⟨i32_lo _, i32_hi _⟩
  have bv_35 : ((-2147483648) ≤ v_35.toInt ∧ v_35.toInt ≤ 2147483647) := ⟨i32_lo _, i32_hi _⟩
  have bv_41 : ((-2147483648) ≤ v_41.toInt ∧ v_41.toInt ≤ 2147483647) := ⟨i32_lo _, i32_hi _⟩
  have bv_56 : ((-2147483648) ≤ v_56.toInt ∧ v_56.toInt ≤ 2147483647) := ⟨i32_lo _, i32_hi _⟩
  have hT0 := hxtr0 a_3 (by rw [hfo_1]; rfl)
  refine lv_iconst (v := 0) hx hb dX12_letters_0 (by decide) ?_
  refine lv_istore_n (lv' := [(1, .int 0), (0, .ref o0)]) hx hb dX12_letters_1 rfl hl (by decide) rfl (fun ls hl => ?_)
  have hloop_63 : ∀ (n : Nat), ∀ (y_64 : Int32), (0 ≤ y_64.toInt ∧ y_64.toInt ≤ 1) → ∀ (f_66 : Nat → va_E), GI (okc cI cL cZ cR cG cH L kd) kd L f_66 → ∀ (H : Heap) (locs : List Loc), va_P (dC, dI) vwCl (va_pl L f_66) H → va_S (fun q => q ∈ L) s.heap H locs → va_D (fun q => q ∈ L) (va_pl L f_66) → (∀ b, kd b ≠ 12 → kd b ≠ 576 → f_66 b = f b) → (∀ b, kd b = 12 → ∀ j, fldR (f_66 b) j = fldR (f b) j) → (∀ b, kd b = 12 → ∀ j, j ≠ 6 → j ≠ 7 → j ≠ 8 → fldI (f_66 b) j = fldI (f b) j) → frel kd 576 8 f_66 a_3 → ∀ (whloop_63_0_6 : Int32), fldI (f_66 o0) 6 = some whloop_63_0_6 → (v_8.toInt ≤ whloop_63_0_6.toInt) → (0 ≤ whloop_63_0_6.toInt ∧ whloop_63_0_6.toInt ≤ 600) → 600 - whloop_63_0_6.toInt < (n : Int) → ∀ (ls : Array Slot), lv_has ls 3 [(1, .int y_64), (0, .ref o0)] → W p l e (headSpec (wU yX12_letters cX12_letters 3 (some .boolean)) { frames := 3, cells := 0, slots := 0, locals := 61 }).room s m [.ref o0].toArray below meth c H locs 0 0 (MQ below (va_Qi (fun (r : Int32) (f9 : Nat → va_E) => GI (okc cI cL cZ cR cG cH L kd) kd L f9 ∧ (0 ≤ r.toInt ∧ r.toInt ≤ 1) ∧ (∀ b, kd b ≠ 12 → kd b ≠ 576 → f9 b = f b) ∧ (∀ b, kd b = 12 → ∀ j, fldR (f9 b) j = fldR (f b) j) ∧ (∀ b, kd b = 12 → ∀ j, j ≠ 6 → j ≠ 7 → j ≠ 8 → fldI (f9 b) j = fldI (f b) j) ∧ (∀ (w6 z6 : Int32), fldI (f o0) 6 = some w6 → fldI (f9 o0) 6 = some z6 → w6.toInt ≤ z6.toInt) ∧ (∀ d9, fldR (f9 o0) 1 = some d9 → frel kd 576 8 f9 d9)) (qP (dC, dI) cI cL cZ cR cG cH L) (fun q => q ∈ L)) [.ref o0].toArray s 0 0 (fun q => q ∈ L)) (F0 m 2 ls []) := by
    intro n
    induction n with
    | zero => intro y_64 by_64 f_66 hG H locs hP hS hD hfr0 hrA12 hfA12 hT0 whloop_63_0_6 hghloop_63_0_6 hrelhloop_63_0 hrelhloop_63_1 hmuhloop_63 ls hl; exfalso; omega
    | succ n ih_hloop_63 =>
      intro y_64 by_64 f_66 hG H locs hP hS hD hfr0 hrA12 hfA12 hT0 whloop_63_0_6 hghloop_63_0_6 hrelhloop_63_0 hrelhloop_63_1 hmuhloop_63 ls hl
      obtain ⟨a_68, a_69, a_70, v_71, a_72, v_73, v_74, v_75, v_76, v_77, v_78, v_79, v_80, v_81, v_82, a_83, a_84, a_85, a_86, a_87, a_88, a_89, a_90, v_91, v_92, v_93, v_94, v_95, a_96, v_97, a_98, a_99, v_100, v_101, a_102, v_103, a_104, a_105, v_106, v_107, a_108, a_109, a_110, v_111, a_112, a_113, a_114, a_115, a_116, a_117, a_118, a_119, a_120, v_121, v_122, a_123, hfo_67, ⟨ma_68, ka_68⟩, ⟨ma_69, ka_69⟩, ⟨ma_70, ka_70⟩, bv_71, ⟨ma_72, ka_72⟩, bv_73, bv_74, bv_79, bv_80, bv_81, ⟨ma_83, ka_83⟩, ⟨ma_84, ka_84⟩, ⟨ma_85, ka_85⟩, ⟨ma_86, ka_86⟩, ⟨ma_87, ka_87⟩, ⟨ma_88, ka_88⟩, ⟨ma_89, ka_89⟩, ⟨ma_90, ka_90⟩, bv_91, bv_93, bv_95, ⟨ma_96, ka_96⟩, bv_97, ⟨ma_98, ka_98⟩, ⟨ma_99, ka_99⟩, bv_100, ⟨ma_102, ka_102⟩, bv_103, ⟨ma_104, ka_104⟩, ⟨ma_105, ka_105⟩, bv_106, ⟨ma_108, ka_108⟩, ⟨ma_109, ka_109⟩, ⟨ma_110, ka_110⟩, bv_111, ⟨ma_112, ka_112⟩, ⟨ma_113, ka_113⟩, ⟨ma_114, ka_114⟩, ⟨ma_115, ka_115⟩, ⟨ma_116, ka_116⟩, ⟨ma_117, ka_117⟩, ⟨ma_118, ka_118⟩, ⟨ma_119, ka_119⟩, ⟨ma_120, ka_120⟩, bv_121, ⟨ma_123, ka_123⟩⟩ := un_12 (hG _ mo0) ko0
      have bv_75 : ((-2147483648) ≤ v_75.toInt ∧ v_75.toInt ≤ 2147483647) := ⟨i32_lo _, i32_hi _⟩
      have bv_76 : ((-2147483648) ≤ v_76.toInt ∧ v_76.toInt ≤ 2147483647) := ⟨i32_lo _, i32_hi _⟩
      have bv_77 : ((-2147483648) ≤ v_77.toInt ∧ v_77.toInt ≤ 2147483647) := ⟨i32_lo _, i32_hi _⟩
      have bv_78 : ((-2147483648) ≤ v_78.toInt ∧ v_78.toInt ≤ 2147483647) := ⟨i32_lo _, i32_hi _⟩
      have bv_82 : ((-2147483648) ≤ v_82.toInt ∧ v_82.toInt ≤ 2147483647) := ⟨i32_lo _, i32_hi _⟩
      have bv_92 : ((-2147483648) ≤ v_92.toInt ∧ v_92.toInt ≤ 2147483647) := ⟨i32_lo _, i32_hi _⟩
      have bv_94 : ((-2147483648) ≤ v_94.toInt ∧ v_94.toInt ≤ 2147483647) := ⟨i32_lo _, i32_hi _⟩
      have bv_101 : ((-2147483648) ≤ v_101.toInt ∧ v_101.toInt ≤ 2147483647) := ⟨i32_lo _, i32_hi _⟩
      have bv_107 : ((-2147483648) ≤ v_107.toInt ∧ v_107.toInt ≤ 2147483647) := ⟨i32_lo _, i32_hi _⟩
      have bv_122 : ((-2147483648) ≤ v_122.toInt ∧ v_122.toInt ≤ 2147483647) := ⟨i32_lo _, i32_hi _⟩
      obtain ⟨rfl, rfl, rfl, rfl, rfl, rfl, rfl, rfl, rfl, rfl, rfl, rfl, rfl, rfl, rfl, rfl, rfl, rfl, rfl, rfl, rfl, rfl, rfl, rfl, rfl, rfl, rfl, rfl, rfl, rfl, rfl⟩ := re_12 hfo_1 hfo_67 (hrA12 o0 ko0)
      obtain rfl := ri_12_3 hfo_1 hfo_67 (hfA12 o0 ko0 3 (by decide) (by decide) (by decide))
      obtain rfl := ri_12_5 hfo_1 hfo_67 (hfA12 o0 ko0 5 (by decide) (by decide) (by decide))
      obtain rfl := ri_12_11 hfo_1 hfo_67 (hfA12 o0 ko0 11 (by decide) (by decide) (by decide))
      obtain rfl := ri_12_12 hfo_1 hfo_67 (hfA12 o0 ko0 12 (by decide) (by decide) (by decide))
      obtain rfl := ri_12_13 hfo_1 hfo_67 (hfA12 o0 ko0 13 (by decide) (by decide) (by decide))
      obtain rfl := ri_12_14 hfo_1 hfo_67 (hfA12 o0 ko0 14 (by decide) (by decide) (by decide))
      obtain rfl := ri_12_23 hfo_1 hfo_67 (hfA12 o0 ko0 23 (by decide) (by decide) (by decide))
      obtain rfl := ri_12_25 hfo_1 hfo_67 (hfA12 o0 ko0 25 (by decide) (by decide) (by decide))
      obtain rfl := ri_12_27 hfo_1 hfo_67 (hfA12 o0 ko0 27 (by decide) (by decide) (by decide))
      obtain rfl := ri_12_29 hfo_1 hfo_67 (hfA12 o0 ko0 29 (by decide) (by decide) (by decide))
      obtain rfl := ri_12_32 hfo_1 hfo_67 (hfA12 o0 ko0 32 (by decide) (by decide) (by decide))
      obtain rfl := ri_12_33 hfo_1 hfo_67 (hfA12 o0 ko0 33 (by decide) (by decide) (by decide))
      obtain rfl := ri_12_35 hfo_1 hfo_67 (hfA12 o0 ko0 35 (by decide) (by decide) (by decide))
      obtain rfl := ri_12_38 hfo_1 hfo_67 (hfA12 o0 ko0 38 (by decide) (by decide) (by decide))
      obtain rfl := ri_12_43 hfo_1 hfo_67 (hfA12 o0 ko0 43 (by decide) (by decide) (by decide))
      obtain rfl := ri_12_53 hfo_1 hfo_67 (hfA12 o0 ko0 53 (by decide) (by decide) (by decide))
      obtain rfl : v_74 = whloop_63_0_6 := by rw [hfo_67] at hghloop_63_0_6; exact Option.some.inj hghloop_63_0_6
      refine lv_iload_n hx hb dX12_letters_2 rfl (lv_at hl 0 rfl) ?_
      refine lv_if_eq (tgt := 15) hx hb dX12_letters_3 (by decide) (fun c_124 => ?_) (fun c_124 => ?_)
      · skip
        rw [← Int32.toInt_inj, ti_0] at c_124
        refine lv_aload_n hx hb dX12_letters_15 rfl (lv_at hl 1 rfl) ?_
        refine tk_ViP (As := []) (rest := []) (n := 0) hx hb hml hown hU hN hZ (s_X12_sign_k12 l (dC, dI) cI cL cZ cR cG cH Z kd L f_66 hG o0 mo0 ko0) wd_573 wd_574 wd_575 wd_5 wd_576 (by decide +kernel) ⟨Nat.le_of_ble_eq_true rfl, Nat.le_of_ble_eq_true rfl⟩ hK hP hD hS mo0 hfo_67 12 rfl rfl rfl hl.1 rfl (Nat.le_of_ble_eq_true rfl) dX12_letters_16 ⟨Nat.le_of_ble_eq_true rfl, Nat.le_of_ble_eq_true rfl⟩ (fun x_125 f_126 H locs hw hP hD hS => ?_)
        obtain ⟨hG, bx_125, hkc_127, hra_128, hfa_129, hpost_130⟩ := hw
        have hfr0 : ∀ b, kd b ≠ 12 → kd b ≠ 576 → f_126 b = f b := fun b q12 q576 => (hkc_127 b q12).trans (hfr0 b q12 q576)
        have hrA12 : ∀ b, kd b = 12 → ∀ j, fldR (f_126 b) j = fldR (f b) j := fun b kb j => (hra_128 b kb j).trans (hrA12 b kb j)
        have hfA12 : ∀ b, kd b = 12 → ∀ j, j ≠ 6 → j ≠ 7 → j ≠ 8 → fldI (f_126 b) j = fldI (f b) j := fun b kb j n6 n7 n8 => (hfa_129 b kb j n6).trans (hfA12 b kb j n6 n7 n8)
        have hT0 : frel kd 576 8 f_126 a_3 := hT0.keep (fun b q => hkc_127 b (by rw [q]; decide))
        obtain ⟨a_133, a_134, a_135, v_136, a_137, v_138, v_139, v_140, v_141, v_142, v_143, v_144, v_145, v_146, v_147, a_148, a_149, a_150, a_151, a_152, a_153, a_154, a_155, v_156, v_157, v_158, v_159, v_160, a_161, v_162, a_163, a_164, v_165, v_166, a_167, v_168, a_169, a_170, v_171, v_172, a_173, a_174, a_175, v_176, a_177, a_178, a_179, a_180, a_181, a_182, a_183, a_184, a_185, v_186, v_187, a_188, hfo_132, ⟨ma_133, ka_133⟩, ⟨ma_134, ka_134⟩, ⟨ma_135, ka_135⟩, bv_136, ⟨ma_137, ka_137⟩, bv_138, bv_139, bv_144, bv_145, bv_146, ⟨ma_148, ka_148⟩, ⟨ma_149, ka_149⟩, ⟨ma_150, ka_150⟩, ⟨ma_151, ka_151⟩, ⟨ma_152, ka_152⟩, ⟨ma_153, ka_153⟩, ⟨ma_154, ka_154⟩, ⟨ma_155, ka_155⟩, bv_156, bv_158, bv_160, ⟨ma_161, ka_161⟩, bv_162, ⟨ma_163, ka_163⟩, ⟨ma_164, ka_164⟩, bv_165, ⟨ma_167, ka_167⟩, bv_168, ⟨ma_169, ka_169⟩, ⟨ma_170, ka_170⟩, bv_171, ⟨ma_173, ka_173⟩, ⟨ma_174, ka_174⟩, ⟨ma_175, ka_175⟩, bv_176, ⟨ma_177, ka_177⟩, ⟨ma_178, ka_178⟩, ⟨ma_179, ka_179⟩, ⟨ma_180, ka_180⟩, ⟨ma_181, ka_181⟩, ⟨ma_182, ka_182⟩, ⟨ma_183, ka_183⟩, ⟨ma_184, ka_184⟩, ⟨ma_185, ka_185⟩, bv_186, ⟨ma_188, ka_188⟩⟩ := un_12 (hG _ mo0) ko0
        have bv_140 : ((-2147483648) ≤ v_140.toInt ∧ v_140.toInt ≤ 2147483647) := ⟨i32_lo _, i32_hi _⟩
        have bv_141 : ((-2147483648) ≤ v_141.toInt ∧ v_141.toInt ≤ 2147483647) := ⟨i32_lo _, i32_hi _⟩
        have bv_142 : ((-2147483648) ≤ v_142.toInt ∧ v_142.toInt ≤ 2147483647) := ⟨i32_lo _, i32_hi _⟩
        have bv_143 : ((-2147483648) ≤ v_143.toInt ∧ v_143.toInt ≤ 2147483647) := ⟨i32_lo _, i32_hi _⟩
        have bv_147 : ((-2147483648) ≤ v_147.toInt ∧ v_147.toInt ≤ 2147483647) := ⟨i32_lo _, i32_hi _⟩
        have bv_157 : ((-2147483648) ≤ v_157.toInt ∧ v_157.toInt ≤ 2147483647) := ⟨i32_lo _, i32_hi _⟩
        have bv_159 : ((-2147483648) ≤ v_159.toInt ∧ v_159.toInt ≤ 2147483647) := ⟨i32_lo _, i32_hi _⟩
        have bv_166 : ((-2147483648) ≤ v_166.toInt ∧ v_166.toInt ≤ 2147483647) := ⟨i32_lo _, i32_hi _⟩
        have bv_172 : ((-2147483648) ≤ v_172.toInt ∧ v_172.toInt ≤ 2147483647) := ⟨i32_lo _, i32_hi _⟩
        have bv_187 : ((-2147483648) ≤ v_187.toInt ∧ v_187.toInt ≤ 2147483647) := ⟨i32_lo _, i32_hi _⟩
        obtain ⟨rfl, rfl, rfl, rfl, rfl, rfl, rfl, rfl, rfl, rfl, rfl, rfl, rfl, rfl, rfl, rfl, rfl, rfl, rfl, rfl, rfl, rfl, rfl, rfl, rfl, rfl, rfl, rfl, rfl, rfl, rfl⟩ := re_12 hfo_1 hfo_132 (hrA12 o0 ko0)
        obtain rfl := ri_12_3 hfo_1 hfo_132 (hfA12 o0 ko0 3 (by decide) (by decide) (by decide))
        obtain rfl := ri_12_5 hfo_1 hfo_132 (hfA12 o0 ko0 5 (by decide) (by decide) (by decide))
        obtain rfl := ri_12_11 hfo_1 hfo_132 (hfA12 o0 ko0 11 (by decide) (by decide) (by decide))
        obtain rfl := ri_12_12 hfo_1 hfo_132 (hfA12 o0 ko0 12 (by decide) (by decide) (by decide))
        obtain rfl := ri_12_13 hfo_1 hfo_132 (hfA12 o0 ko0 13 (by decide) (by decide) (by decide))
        obtain rfl := ri_12_14 hfo_1 hfo_132 (hfA12 o0 ko0 14 (by decide) (by decide) (by decide))
        obtain rfl := ri_12_23 hfo_1 hfo_132 (hfA12 o0 ko0 23 (by decide) (by decide) (by decide))
        obtain rfl := ri_12_25 hfo_1 hfo_132 (hfA12 o0 ko0 25 (by decide) (by decide) (by decide))
        obtain rfl := ri_12_27 hfo_1 hfo_132 (hfA12 o0 ko0 27 (by decide) (by decide) (by decide))
        obtain rfl := ri_12_29 hfo_1 hfo_132 (hfA12 o0 ko0 29 (by decide) (by decide) (by decide))
        obtain rfl := ri_12_32 hfo_1 hfo_132 (hfA12 o0 ko0 32 (by decide) (by decide) (by decide))
        obtain rfl := ri_12_33 hfo_1 hfo_132 (hfA12 o0 ko0 33 (by decide) (by decide) (by decide))
        obtain rfl := ri_12_35 hfo_1 hfo_132 (hfA12 o0 ko0 35 (by decide) (by decide) (by decide))
        obtain rfl := ri_12_38 hfo_1 hfo_132 (hfA12 o0 ko0 38 (by decide) (by decide) (by decide))
        obtain rfl := ri_12_43 hfo_1 hfo_132 (hfA12 o0 ko0 43 (by decide) (by decide) (by decide))
        obtain rfl := ri_12_53 hfo_1 hfo_132 (hfA12 o0 ko0 53 (by decide) (by decide) (by decide))
        have hqhpost_130 := hpost_130 v_74 v_139 (by rw [hfo_67]; rfl) (by rw [hfo_132]; rfl)
        refine lv_istore_n (lv' := [(2, .int x_125), (1, .int y_64), (0, .ref o0)]) hx hb dX12_letters_19 rfl hl (by decide) rfl (fun ls hl => ?_)
        refine lv_iload_n hx hb dX12_letters_20 rfl (lv_at hl 0 rfl) ?_
        refine tk_SiP (As := [.int x_125]) (rest := []) (n := 1) hx hb hml hown hU hN hZ (s_X12_isSmall l (dC, dI) cI cL cZ cR cG cH Z kd L f_126 hG x_125) wd_589 wd_590 wd_5 wd_591 (by decide +kernel) ⟨Nat.le_of_ble_eq_true rfl, Nat.le_of_ble_eq_true rfl⟩ hK hP hD hS rfl hl.1 rfl (Nat.le_of_ble_eq_true rfl) dX12_letters_21 ⟨Nat.le_of_ble_eq_true rfl, Nat.le_of_ble_eq_true rfl⟩ (fun x_189 f_190 H locs hw hP hD hS => ?_)
        obtain ⟨rfl, bx_189, relx_189⟩ := hw
        refine lv_if_ne (tgt := 37) hx hb dX12_letters_24 (by decide) (fun c_192 => ?_) (fun c_192 => ?_)
        · skip
          rw [← Int32.toInt_inj, ti_0] at c_192
          refine lv_aload_n hx hb dX12_letters_37 rfl (lv_at hl 2 rfl) ?_
          refine tk_getP (D := (dC, dI)) (ci := 12) (v := .ref a_3) (C := RX12) (T := TX12) (N := 56) hx hb hU inlX12 hown hK hP mo0 hfo_132 rfl 1 (by decide) (hU _ wd_170) (fun _ h9 => h9) rfl dX12_letters_38 ?_
          refine lv_iload_n hx hb dX12_letters_41 rfl (lv_at hl 0 rfl) ?_
          refine tk_SiP (As := [.ref a_3, .int x_125]) (rest := []) (n := 2) hx hb hml hown hU hN hZ (s_X12_letterIn_a576 l (dC, dI) cI cL cZ cR cG cH Z kd L f_126 hG a_3 ma_3 ka_3 x_125) wd_606 wd_607 wd_5 wd_608 (by decide +kernel) ⟨Nat.le_of_ble_eq_true rfl, Nat.le_of_ble_eq_true rfl⟩ hK hP hD hS rfl hl.1 rfl (Nat.le_of_ble_eq_true rfl) dX12_letters_42 ⟨Nat.le_of_ble_eq_true rfl, Nat.le_of_ble_eq_true rfl⟩ (fun x_193 f_194 H locs hw hP hD hS => ?_)
          obtain ⟨rfl, bx_193, hxp_195⟩ := hw
          obtain ⟨g_198, hfo_197, hbg_198⟩ := un_576 (hG _ ma_3) ka_3
          have hlix_193 := hxp_195 g_198 hfo_197
          refine lv_if_le (tgt := 58) hx hb dX12_letters_45 (by decide) (fun c_199 => ?_) (fun c_199 => ?_)
          · skip
            rw [Int32.le_iff_toInt_le, ti_0] at c_199
            refine lv_aload_n hx hb dX12_letters_58 rfl (lv_at hl 2 rfl) ?_
            refine tk_getP (D := (dC, dI)) (ci := 12) (v := .ref a_3) (C := RX12) (T := TX12) (N := 56) hx hb hU inlX12 hown hK hP mo0 hfo_132 rfl 1 (by decide) (hU _ wd_170) (fun _ h9 => h9) rfl dX12_letters_59 ?_
            refine lv_iconst (v := 0) hx hb dX12_letters_62 (by decide) ?_
            refine tk_ildP hx hb hK hP 0 ma_3 hfo_197 rfl (vp_in_nI (n := 0) (by decide) (by decide)) dX12_letters_63 ?_
            refine lv_topi (fun x_200 ex_200 => ?_)
            have bx_200 : (0 ≤ x_200.toInt ∧ x_200.toInt ≤ 8) := by rw [ex_200]; exact hbg_198.1 _ (by decide) (by decide) (by decide)
            refine lv_bipush (v := 8) hx hb dX12_letters_64 (by decide) ?_
            refine lv_icmp_ne (tgt := 79) hx hb dX12_letters_66 (by decide) (fun c_201 => ?_) (fun c_201 => ?_)
            · skip
              rw [← Int32.toInt_inj, ti_8] at c_201
              have hF0 := hT0.get hfo_197
              obtain ⟨x_202, ex_202⟩ : ∃ y : Int32, y = g_198 (Int32.toNatClampNeg 16) := ⟨_, rfl⟩
              have bx_202 : (0 ≤ x_202.toInt ∧ x_202.toInt ≤ 20) := by rw [ex_202]; exact hbg_198.2.1 _ (by decide) (by decide) (by decide)
              have hgx_202 : x_202.toInt = (g_198 16).toInt := by rw [ex_202]; rfl
              have hglx_200 : x_200.toInt = (g_198 0).toInt := by rw [ex_200]; rfl
              have hnrc_203 : (0 ≤ x_202.toInt ∧ x_202.toInt ≤ 19) := by have hq1 := hF0.1; have hq2 := hF0.2.1; constructor <;> omega
              refine lv_aload_n hx hb dX12_letters_79 rfl (lv_at hl 2 rfl) ?_
              refine tk_getP (D := (dC, dI)) (ci := 12) (v := .ref a_3) (C := RX12) (T := TX12) (N := 56) hx hb hU inlX12 hown hK hP mo0 hfo_132 rfl 1 (by decide) (hU _ wd_170) (fun _ h9 => h9) rfl dX12_letters_80 ?_
              refine lv_iconst (v := 1) hx hb dX12_letters_83 (by decide) ?_
              refine lv_aload_n hx hb dX12_letters_84 rfl (lv_at hl 2 rfl) ?_
              refine tk_getP (D := (dC, dI)) (ci := 12) (v := .ref a_3) (C := RX12) (T := TX12) (N := 56) hx hb hU inlX12 hown hK hP mo0 hfo_132 rfl 1 (by decide) (hU _ wd_170) (fun _ h9 => h9) rfl dX12_letters_85 ?_
              refine lv_iconst (v := 0) hx hb dX12_letters_88 (by decide) ?_
              refine tk_ildP hx hb hK hP 0 ma_3 hfo_197 rfl (vp_in_nI (n := 0) (by decide) (by decide)) dX12_letters_89 ?_
              refine tk_topi (y := x_200) ex_200.symm ?_
              refine lv_iadd hx hb dX12_letters_90 ?_
              refine lv_topi (fun x_204 ex_204 => ?_)
              have hx_204 : x_204.toInt = 1 + x_200.toInt := by rw [ex_204, ad_I (by rw [ti_1]; omega) (by rw [ti_1]; omega), ti_1]
              have bx_204 : (1 ≤ x_204.toInt ∧ x_204.toInt ≤ 8) := by constructor <;> omega
              refine lv_iload_n hx hb dX12_letters_91 rfl (lv_at hl 0 rfl) ?_
              refine tk_istP hx hb hK hP hD hS 0 ma_3 hfo_197 rfl (vp_in_iff.mpr (by constructor <;> omega)) dX12_letters_92 (fun H locs hP hD hS => ?_)
              have hc9 := cl_I (i := x_204) (by omega)
              obtain ⟨g_205, eqg_205⟩ : ∃ y : Nat → Int32, y = upd g_198 (Int32.toNatClampNeg x_204) x_125 := ⟨_, rfl⟩
              rw [← eqg_205] at hP hD
              have hbg_205 : wOK g_205 := by rw [eqg_205]; exact ⟨hbg_198.1.up (fun h1 h2 h3 => by exfalso; omega), hbg_198.2.1.up (fun h1 h2 h3 => by exfalso; omega), hbg_198.2.2.1.up (fun h1 h2 h3 => by exfalso; omega), hbg_198.2.2.2.1.up (fun h1 h2 h3 => by exfalso; omega), hbg_198.2.2.2.2.1.up (fun h1 h2 h3 => by exfalso; omega), hbg_198.2.2.2.2.2.1.up (fun h1 h2 h3 => by exfalso; omega), hbg_198.2.2.2.2.2.2.1.up (fun h1 h2 h3 => by exfalso; omega), hbg_198.2.2.2.2.2.2.2.1.up (fun h1 h2 h3 => by exfalso; omega), hbg_198.2.2.2.2.2.2.2.2.1.up (fun h1 h2 h3 => by exfalso; omega), hbg_198.2.2.2.2.2.2.2.2.2.1.up (fun h1 h2 h3 => by exfalso; omega), hbg_198.2.2.2.2.2.2.2.2.2.2.1.up (fun h1 h2 h3 => by exfalso; omega), hbg_198.2.2.2.2.2.2.2.2.2.2.2.1.up (fun h1 h2 h3 => by exfalso; omega), hbg_198.2.2.2.2.2.2.2.2.2.2.2.2.1.up (fun h1 h2 h3 => by exfalso; omega), hbg_198.2.2.2.2.2.2.2.2.2.2.2.2.2.1.up (fun h1 h2 h3 => by exfalso; omega), hbg_198.2.2.2.2.2.2.2.2.2.2.2.2.2.2.1.up (fun h1 h2 h3 => by exfalso; omega), hbg_198.2.2.2.2.2.2.2.2.2.2.2.2.2.2.2.up (fun h1 h2 h3 => by exfalso; omega)⟩
              obtain ⟨f_207, ef_207⟩ : ∃ y : Nat → va_E, y = va_up f_126 a_3 (.inl (cI, 1560, .inl g_205)) := ⟨_, rfl⟩
              have hP : va_P (dC, dI) vwCl (va_pl L f_207) H := by rw [ef_207]; exact hP
              have hD : va_D (fun q => q ∈ L) (va_pl L f_207) := by rw [ef_207]; exact hD
              have hG : GI (okc cI cL cZ cR cG cH L kd) kd L f_207 := by rw [ef_207]; exact hG.set a_3 (mk_576 ka_3 ⟨_, rfl, hbg_205⟩)
              have hfo_208 : f_207 o0 = .inr (12, [.ref a_2, .ref a_3, .ref a_4, .int v_5, .ref a_6, .int v_7, .int v_139, .int v_140, .int v_141, .int v_142, .int v_143, .int v_13, .int v_14, .int v_15, .int v_16, .ref a_17, .ref a_18, .ref a_19, .ref a_20, .ref a_21, .ref a_22, .ref a_23, .ref a_24, .int v_25, .int v_157, .int v_27, .int v_159, .int v_29, .ref a_30, .int v_31, .ref a_32, .ref a_33, .int v_34, .int v_35, .ref a_36, .int v_37, .ref a_38, .ref a_39, .int v_40, .int v_172, .ref a_42, .ref a_43, .ref a_44, .int v_45, .ref a_46, .ref a_47, .ref a_48, .ref a_49, .ref a_50, .ref a_51, .ref a_52, .ref a_53, .ref a_54, .int v_55, .int v_187, .ref a_57]) := by rw [ef_207, up_ne (kd_ne ka_3 ko0 (by decide))]; exact hfo_132
              have hfr0 : ∀ b, kd b ≠ 12 → kd b ≠ 576 → f_207 b = f b := fun b q12 q576 => (congrFun ef_207 b).trans ((up_ne (fun e9 => q576 (by rw [e9]; exact ka_3))).trans (hfr0 b q12 q576))
              have hrA12 : ∀ b, kd b = 12 → ∀ j, fldR (f_207 b) j = fldR (f b) j := fun b kb j => (congrArg (fun x => fldR x j) ((congrFun ef_207 b).trans (up_ne (kd_ne ka_3 kb (by decide))))).trans (hrA12 b kb j)
              have hfA12 : ∀ b, kd b = 12 → ∀ j, j ≠ 6 → j ≠ 7 → j ≠ 8 → fldI (f_207 b) j = fldI (f b) j := fun b kb j n6 n7 n8 => (congrArg (fun x => fldI x j) ((congrFun ef_207 b).trans (up_ne (kd_ne ka_3 kb (by decide))))).trans (hfA12 b kb j n6 n7 n8)
              have hT0 : frel kd 576 8 f_207 a_3 := by rw [ef_207]; exact frel.mk ka_3 up_self (by rw [eqg_205]; exact (hT0.get hfo_197).up (hbg_198.2.1 16 (by decide) (by decide) (by decide)).2 (by omega) (by omega) (by omega) (fun h9 => by exfalso; omega))
              have hfo_209 : f_207 a_3 = .inl (cI, 1560, .inl g_205) := by rw [ef_207]; exact up_self
              have ql_210 : x_200 = g_205 (Int32.toNatClampNeg 0) := by rw [eqg_205, pk_un (by have hc8 : Int32.toNatClampNeg 0 = 0 := rfl; omega)]; exact ex_200
              have ql_211 : x_202 = g_205 (Int32.toNatClampNeg 16) := by rw [eqg_205, pk_un (by have hc8 : Int32.toNatClampNeg 16 = 16 := rfl; omega)]; exact ex_202
              have ql_212 : x_125 = g_205 (Int32.toNatClampNeg x_204) := by rw [eqg_205, pk_us]
              refine lv_aload_n hx hb dX12_letters_93 rfl (lv_at hl 2 rfl) ?_
              refine tk_getP (D := (dC, dI)) (ci := 12) (v := .ref a_3) (C := RX12) (T := TX12) (N := 56) hx hb hU inlX12 hown hK hP mo0 hfo_208 rfl 1 (by decide) (hU _ wd_170) (fun _ h9 => h9) rfl dX12_letters_94 ?_
              refine lv_iconst (v := 0) hx hb dX12_letters_97 (by decide) ?_
              refine lv_dup2_11 hx hb dX12_letters_98 rfl rfl ?_
              refine tk_ildP hx hb hK hP 0 ma_3 hfo_209 rfl (vp_in_nI (n := 0) (by decide) (by decide)) dX12_letters_99 ?_
              refine tk_topi (y := x_200) ql_210.symm ?_
              refine lv_iconst (v := 1) hx hb dX12_letters_100 (by decide) ?_
              refine lv_iadd hx hb dX12_letters_101 ?_
              refine lv_topi (fun x_213 ex_213 => ?_)
              have hx_213 : x_213.toInt = x_200.toInt + 1 := by rw [ex_213, ad_I (by rw [ti_1]; omega) (by rw [ti_1]; omega), ti_1]
              have bx_213 : (1 ≤ x_213.toInt ∧ x_213.toInt ≤ 8) := by constructor <;> omega
              refine tk_istP hx hb hK hP hD hS 0 ma_3 hfo_209 rfl (vp_in_nI (n := 0) (by decide) (by decide)) dX12_letters_102 (fun H locs hP hD hS => ?_)
              have hc9 : ((Int32.toNatClampNeg 0 : Nat) : Int) = 0 := by decide
              obtain ⟨g_214, eqg_214⟩ : ∃ y : Nat → Int32, y = upd g_205 (Int32.toNatClampNeg 0) x_213 := ⟨_, rfl⟩
              rw [← eqg_214] at hP hD
              have hbg_214 : wOK g_214 := by rw [eqg_214]; exact ⟨hbg_205.1.up (fun h1 h2 h3 => by constructor <;> omega), hbg_205.2.1.up (fun h1 h2 h3 => by exfalso; omega), hbg_205.2.2.1.up (fun h1 h2 h3 => by exfalso; omega), hbg_205.2.2.2.1.up (fun h1 h2 h3 => by exfalso; omega), hbg_205.2.2.2.2.1.up (fun h1 h2 h3 => by exfalso; omega), hbg_205.2.2.2.2.2.1.up (fun h1 h2 h3 => by exfalso; omega), hbg_205.2.2.2.2.2.2.1.up (fun h1 h2 h3 => by exfalso; omega), hbg_205.2.2.2.2.2.2.2.1.up (fun h1 h2 h3 => by exfalso; omega), hbg_205.2.2.2.2.2.2.2.2.1.up (fun h1 h2 h3 => by exfalso; omega), hbg_205.2.2.2.2.2.2.2.2.2.1.up (fun h1 h2 h3 => by exfalso; omega), hbg_205.2.2.2.2.2.2.2.2.2.2.1.up (fun h1 h2 h3 => by exfalso; omega), hbg_205.2.2.2.2.2.2.2.2.2.2.2.1.up (fun h1 h2 h3 => by exfalso; omega), hbg_205.2.2.2.2.2.2.2.2.2.2.2.2.1.up (fun h1 h2 h3 => by exfalso; omega), hbg_205.2.2.2.2.2.2.2.2.2.2.2.2.2.1.up (fun h1 h2 h3 => by exfalso; omega), hbg_205.2.2.2.2.2.2.2.2.2.2.2.2.2.2.1.up (fun h1 h2 h3 => by exfalso; omega), hbg_205.2.2.2.2.2.2.2.2.2.2.2.2.2.2.2.up (fun h1 h2 h3 => by exfalso; omega)⟩
              obtain ⟨f_216, ef_216⟩ : ∃ y : Nat → va_E, y = va_up f_207 a_3 (.inl (cI, 1560, .inl g_214)) := ⟨_, rfl⟩
              have hP : va_P (dC, dI) vwCl (va_pl L f_216) H := by rw [ef_216]; exact hP
              have hD : va_D (fun q => q ∈ L) (va_pl L f_216) := by rw [ef_216]; exact hD
              have hG : GI (okc cI cL cZ cR cG cH L kd) kd L f_216 := by rw [ef_216]; exact hG.set a_3 (mk_576 ka_3 ⟨_, rfl, hbg_214⟩)
              have hfo_217 : f_216 o0 = .inr (12, [.ref a_2, .ref a_3, .ref a_4, .int v_5, .ref a_6, .int v_7, .int v_139, .int v_140, .int v_141, .int v_142, .int v_143, .int v_13, .int v_14, .int v_15, .int v_16, .ref a_17, .ref a_18, .ref a_19, .ref a_20, .ref a_21, .ref a_22, .ref a_23, .ref a_24, .int v_25, .int v_157, .int v_27, .int v_159, .int v_29, .ref a_30, .int v_31, .ref a_32, .ref a_33, .int v_34, .int v_35, .ref a_36, .int v_37, .ref a_38, .ref a_39, .int v_40, .int v_172, .ref a_42, .ref a_43, .ref a_44, .int v_45, .ref a_46, .ref a_47, .ref a_48, .ref a_49, .ref a_50, .ref a_51, .ref a_52, .ref a_53, .ref a_54, .int v_55, .int v_187, .ref a_57]) := by rw [ef_216, up_ne (kd_ne ka_3 ko0 (by decide))]; exact hfo_208
              have hfr0 : ∀ b, kd b ≠ 12 → kd b ≠ 576 → f_216 b = f b := fun b q12 q576 => (congrFun ef_216 b).trans ((up_ne (fun e9 => q576 (by rw [e9]; exact ka_3))).trans (hfr0 b q12 q576))
              have hrA12 : ∀ b, kd b = 12 → ∀ j, fldR (f_216 b) j = fldR (f b) j := fun b kb j => (congrArg (fun x => fldR x j) ((congrFun ef_216 b).trans (up_ne (kd_ne ka_3 kb (by decide))))).trans (hrA12 b kb j)
              have hfA12 : ∀ b, kd b = 12 → ∀ j, j ≠ 6 → j ≠ 7 → j ≠ 8 → fldI (f_216 b) j = fldI (f b) j := fun b kb j n6 n7 n8 => (congrArg (fun x => fldI x j) ((congrFun ef_216 b).trans (up_ne (kd_ne ka_3 kb (by decide))))).trans (hfA12 b kb j n6 n7 n8)
              have hfo_218 : f_216 a_3 = .inl (cI, 1560, .inl g_214) := by rw [ef_216]; exact up_self
              have ql_219 : x_202 = g_214 (Int32.toNatClampNeg 16) := by rw [eqg_214, pk_un (by decide)]; exact ql_211
              have ql_220 : x_213 = g_214 (Int32.toNatClampNeg 0) := by rw [eqg_214, pk_us]
              refine lv_aload_n hx hb dX12_letters_103 rfl (lv_at hl 2 rfl) ?_
              refine tk_getP (D := (dC, dI)) (ci := 12) (v := .ref a_3) (C := RX12) (T := TX12) (N := 56) hx hb hU inlX12 hown hK hP mo0 hfo_217 rfl 1 (by decide) (hU _ wd_170) (fun _ h9 => h9) rfl dX12_letters_104 ?_
              refine lv_bipush (v := 20) hx hb dX12_letters_107 (by decide) ?_
              refine lv_aload_n hx hb dX12_letters_109 rfl (lv_at hl 2 rfl) ?_
              refine tk_getP (D := (dC, dI)) (ci := 12) (v := .ref a_3) (C := RX12) (T := TX12) (N := 56) hx hb hU inlX12 hown hK hP mo0 hfo_217 rfl 1 (by decide) (hU _ wd_170) (fun _ h9 => h9) rfl dX12_letters_110 ?_
              refine lv_bipush (v := 16) hx hb dX12_letters_113 (by decide) ?_
              refine tk_ildP hx hb hK hP 0 ma_3 hfo_218 rfl (vp_in_nI (n := 16) (by decide) (by decide)) dX12_letters_115 ?_
              refine tk_topi (y := x_202) ql_219.symm ?_
              refine lv_iadd hx hb dX12_letters_116 ?_
              refine lv_topi (fun x_221 ex_221 => ?_)
              have hx_221 : x_221.toInt = 20 + x_202.toInt := by rw [ex_221, ad_I (by rw [ti_20]; omega) (by rw [ti_20]; omega), ti_20]
              have bx_221 : (20 ≤ x_221.toInt ∧ x_221.toInt ≤ 39) := by constructor <;> omega
              refine lv_bipush (v := 10) hx hb dX12_letters_117 (by decide) ?_
              refine lv_aload_n hx hb dX12_letters_119 rfl (lv_at hl 2 rfl) ?_
              refine tk_getP (D := (dC, dI)) (ci := 12) (v := .ref a_3) (C := RX12) (T := TX12) (N := 56) hx hb hU inlX12 hown hK hP mo0 hfo_217 rfl 1 (by decide) (hU _ wd_170) (fun _ h9 => h9) rfl dX12_letters_120 ?_
              refine lv_iconst (v := 0) hx hb dX12_letters_123 (by decide) ?_
              refine tk_ildP hx hb hK hP 0 ma_3 hfo_218 rfl (vp_in_nI (n := 0) (by decide) (by decide)) dX12_letters_124 ?_
              refine tk_topi (y := x_213) ql_220.symm ?_
              refine lv_imul hx hb dX12_letters_125 ?_
              refine lv_topi (fun x_222 ex_222 => ?_)
              have hx_222 : x_222.toInt = 10 * x_213.toInt := by rw [ex_222, ml_I (by rw [ti_10]; omega) (by rw [ti_10]; omega), ti_10]
              have bx_222 : (10 ≤ x_222.toInt ∧ x_222.toInt ≤ 80) := by constructor <;> omega
              refine tk_istP hx hb hK hP hD hS 0 ma_3 hfo_218 rfl (vp_in_iff.mpr (by constructor <;> omega)) dX12_letters_126 (fun H locs hP hD hS => ?_)
              have hc9 := cl_I (i := x_221) (by omega)
              obtain ⟨g_223, eqg_223⟩ : ∃ y : Nat → Int32, y = upd g_214 (Int32.toNatClampNeg x_221) x_222 := ⟨_, rfl⟩
              rw [← eqg_223] at hP hD
              have hbg_223 : wOK g_223 := by rw [eqg_223]; exact ⟨hbg_214.1.up (fun h1 h2 h3 => by exfalso; omega), hbg_214.2.1.up (fun h1 h2 h3 => by exfalso; omega), hbg_214.2.2.1.up (fun h1 h2 h3 => by exfalso; omega), hbg_214.2.2.2.1.up (fun h1 h2 h3 => by exfalso; omega), hbg_214.2.2.2.2.1.up (fun h1 h2 h3 => by exfalso; omega), hbg_214.2.2.2.2.2.1.up (fun h1 h2 h3 => by constructor <;> omega), hbg_214.2.2.2.2.2.2.1.up (fun h1 h2 h3 => by exfalso; omega), hbg_214.2.2.2.2.2.2.2.1.up (fun h1 h2 h3 => by exfalso; omega), hbg_214.2.2.2.2.2.2.2.2.1.up (fun h1 h2 h3 => by exfalso; omega), hbg_214.2.2.2.2.2.2.2.2.2.1.up (fun h1 h2 h3 => by exfalso; omega), hbg_214.2.2.2.2.2.2.2.2.2.2.1.up (fun h1 h2 h3 => by exfalso; omega), hbg_214.2.2.2.2.2.2.2.2.2.2.2.1.up (fun h1 h2 h3 => by exfalso; omega), hbg_214.2.2.2.2.2.2.2.2.2.2.2.2.1.up (fun h1 h2 h3 => by exfalso; omega), hbg_214.2.2.2.2.2.2.2.2.2.2.2.2.2.1.up (fun h1 h2 h3 => by exfalso; omega), hbg_214.2.2.2.2.2.2.2.2.2.2.2.2.2.2.1.up (fun h1 h2 h3 => by exfalso; omega), hbg_214.2.2.2.2.2.2.2.2.2.2.2.2.2.2.2.up (fun h1 h2 h3 => by exfalso; omega)⟩
              obtain ⟨f_225, ef_225⟩ : ∃ y : Nat → va_E, y = va_up f_216 a_3 (.inl (cI, 1560, .inl g_223)) := ⟨_, rfl⟩
              have hP : va_P (dC, dI) vwCl (va_pl L f_225) H := by rw [ef_225]; exact hP
              have hD : va_D (fun q => q ∈ L) (va_pl L f_225) := by rw [ef_225]; exact hD
              have hG : GI (okc cI cL cZ cR cG cH L kd) kd L f_225 := by rw [ef_225]; exact hG.set a_3 (mk_576 ka_3 ⟨_, rfl, hbg_223⟩)
              have hfo_226 : f_225 o0 = .inr (12, [.ref a_2, .ref a_3, .ref a_4, .int v_5, .ref a_6, .int v_7, .int v_139, .int v_140, .int v_141, .int v_142, .int v_143, .int v_13, .int v_14, .int v_15, .int v_16, .ref a_17, .ref a_18, .ref a_19, .ref a_20, .ref a_21, .ref a_22, .ref a_23, .ref a_24, .int v_25, .int v_157, .int v_27, .int v_159, .int v_29, .ref a_30, .int v_31, .ref a_32, .ref a_33, .int v_34, .int v_35, .ref a_36, .int v_37, .ref a_38, .ref a_39, .int v_40, .int v_172, .ref a_42, .ref a_43, .ref a_44, .int v_45, .ref a_46, .ref a_47, .ref a_48, .ref a_49, .ref a_50, .ref a_51, .ref a_52, .ref a_53, .ref a_54, .int v_55, .int v_187, .ref a_57]) := by rw [ef_225, up_ne (kd_ne ka_3 ko0 (by decide))]; exact hfo_217
              have hfr0 : ∀ b, kd b ≠ 12 → kd b ≠ 576 → f_225 b = f b := fun b q12 q576 => (congrFun ef_225 b).trans ((up_ne (fun e9 => q576 (by rw [e9]; exact ka_3))).trans (hfr0 b q12 q576))
              have hrA12 : ∀ b, kd b = 12 → ∀ j, fldR (f_225 b) j = fldR (f b) j := fun b kb j => (congrArg (fun x => fldR x j) ((congrFun ef_225 b).trans (up_ne (kd_ne ka_3 kb (by decide))))).trans (hrA12 b kb j)
              have hfA12 : ∀ b, kd b = 12 → ∀ j, j ≠ 6 → j ≠ 7 → j ≠ 8 → fldI (f_225 b) j = fldI (f b) j := fun b kb j n6 n7 n8 => (congrArg (fun x => fldI x j) ((congrFun ef_225 b).trans (up_ne (kd_ne ka_3 kb (by decide))))).trans (hfA12 b kb j n6 n7 n8)
              have hfo_227 : f_225 a_3 = .inl (cI, 1560, .inl g_223) := by rw [ef_225]; exact up_self
              have ql_228 : x_202 = g_223 (Int32.toNatClampNeg 16) := by rw [eqg_223, pk_un (by have hc8 : Int32.toNatClampNeg 16 = 16 := rfl; omega)]; exact ql_219
              have ql_229 : x_213 = g_223 (Int32.toNatClampNeg 0) := by rw [eqg_223, pk_un (by have hc8 : Int32.toNatClampNeg 0 = 0 := rfl; omega)]; exact ql_220
              have ql_230 : x_222 = g_223 (Int32.toNatClampNeg x_221) := by rw [eqg_223, pk_us]
              refine lv_aload_n hx hb dX12_letters_127 rfl (lv_at hl 2 rfl) ?_
              refine tk_getP (D := (dC, dI)) (ci := 12) (v := .ref a_3) (C := RX12) (T := TX12) (N := 56) hx hb hU inlX12 hown hK hP mo0 hfo_226 rfl 1 (by decide) (hU _ wd_170) (fun _ h9 => h9) rfl dX12_letters_128 ?_
              refine lv_bipush (v := 16) hx hb dX12_letters_131 (by decide) ?_
              refine lv_dup2_11 hx hb dX12_letters_133 rfl rfl ?_
              refine tk_ildP hx hb hK hP 0 ma_3 hfo_227 rfl (vp_in_nI (n := 16) (by decide) (by decide)) dX12_letters_134 ?_
              refine tk_topi (y := x_202) ql_228.symm ?_
              refine lv_iconst (v := 1) hx hb dX12_letters_135 (by decide) ?_
              refine lv_iadd hx hb dX12_letters_136 ?_
              refine lv_topi (fun x_231 ex_231 => ?_)
              have hx_231 : x_231.toInt = x_202.toInt + 1 := by rw [ex_231, ad_I (by rw [ti_1]; omega) (by rw [ti_1]; omega), ti_1]
              have bx_231 : (1 ≤ x_231.toInt ∧ x_231.toInt ≤ 20) := by constructor <;> omega
              refine tk_istP hx hb hK hP hD hS 0 ma_3 hfo_227 rfl (vp_in_nI (n := 16) (by decide) (by decide)) dX12_letters_137 (fun H locs hP hD hS => ?_)
              have hc9 : ((Int32.toNatClampNeg 16 : Nat) : Int) = 16 := by decide
              obtain ⟨g_232, eqg_232⟩ : ∃ y : Nat → Int32, y = upd g_223 (Int32.toNatClampNeg 16) x_231 := ⟨_, rfl⟩
              rw [← eqg_232] at hP hD
              have hbg_232 : wOK g_232 := by rw [eqg_232]; exact ⟨hbg_223.1.up (fun h1 h2 h3 => by exfalso; omega), hbg_223.2.1.up (fun h1 h2 h3 => by constructor <;> omega), hbg_223.2.2.1.up (fun h1 h2 h3 => by exfalso; omega), hbg_223.2.2.2.1.up (fun h1 h2 h3 => by exfalso; omega), hbg_223.2.2.2.2.1.up (fun h1 h2 h3 => by exfalso; omega), hbg_223.2.2.2.2.2.1.up (fun h1 h2 h3 => by exfalso; omega), hbg_223.2.2.2.2.2.2.1.up (fun h1 h2 h3 => by exfalso; omega), hbg_223.2.2.2.2.2.2.2.1.up (fun h1 h2 h3 => by exfalso; omega), hbg_223.2.2.2.2.2.2.2.2.1.up (fun h1 h2 h3 => by exfalso; omega), hbg_223.2.2.2.2.2.2.2.2.2.1.up (fun h1 h2 h3 => by exfalso; omega), hbg_223.2.2.2.2.2.2.2.2.2.2.1.up (fun h1 h2 h3 => by exfalso; omega), hbg_223.2.2.2.2.2.2.2.2.2.2.2.1.up (fun h1 h2 h3 => by exfalso; omega), hbg_223.2.2.2.2.2.2.2.2.2.2.2.2.1.up (fun h1 h2 h3 => by exfalso; omega), hbg_223.2.2.2.2.2.2.2.2.2.2.2.2.2.1.up (fun h1 h2 h3 => by exfalso; omega), hbg_223.2.2.2.2.2.2.2.2.2.2.2.2.2.2.1.up (fun h1 h2 h3 => by exfalso; omega), hbg_223.2.2.2.2.2.2.2.2.2.2.2.2.2.2.2.up (fun h1 h2 h3 => by exfalso; omega)⟩
              obtain ⟨f_234, ef_234⟩ : ∃ y : Nat → va_E, y = va_up f_225 a_3 (.inl (cI, 1560, .inl g_232)) := ⟨_, rfl⟩
              have hP : va_P (dC, dI) vwCl (va_pl L f_234) H := by rw [ef_234]; exact hP
              have hD : va_D (fun q => q ∈ L) (va_pl L f_234) := by rw [ef_234]; exact hD
              have hG : GI (okc cI cL cZ cR cG cH L kd) kd L f_234 := by rw [ef_234]; exact hG.set a_3 (mk_576 ka_3 ⟨_, rfl, hbg_232⟩)
              have hfo_235 : f_234 o0 = .inr (12, [.ref a_2, .ref a_3, .ref a_4, .int v_5, .ref a_6, .int v_7, .int v_139, .int v_140, .int v_141, .int v_142, .int v_143, .int v_13, .int v_14, .int v_15, .int v_16, .ref a_17, .ref a_18, .ref a_19, .ref a_20, .ref a_21, .ref a_22, .ref a_23, .ref a_24, .int v_25, .int v_157, .int v_27, .int v_159, .int v_29, .ref a_30, .int v_31, .ref a_32, .ref a_33, .int v_34, .int v_35, .ref a_36, .int v_37, .ref a_38, .ref a_39, .int v_40, .int v_172, .ref a_42, .ref a_43, .ref a_44, .int v_45, .ref a_46, .ref a_47, .ref a_48, .ref a_49, .ref a_50, .ref a_51, .ref a_52, .ref a_53, .ref a_54, .int v_55, .int v_187, .ref a_57]) := by rw [ef_234, up_ne (kd_ne ka_3 ko0 (by decide))]; exact hfo_226
              have hfr0 : ∀ b, kd b ≠ 12 → kd b ≠ 576 → f_234 b = f b := fun b q12 q576 => (congrFun ef_234 b).trans ((up_ne (fun e9 => q576 (by rw [e9]; exact ka_3))).trans (hfr0 b q12 q576))
              have hrA12 : ∀ b, kd b = 12 → ∀ j, fldR (f_234 b) j = fldR (f b) j := fun b kb j => (congrArg (fun x => fldR x j) ((congrFun ef_234 b).trans (up_ne (kd_ne ka_3 kb (by decide))))).trans (hrA12 b kb j)
              have hfA12 : ∀ b, kd b = 12 → ∀ j, j ≠ 6 → j ≠ 7 → j ≠ 8 → fldI (f_234 b) j = fldI (f b) j := fun b kb j n6 n7 n8 => (congrArg (fun x => fldI x j) ((congrFun ef_234 b).trans (up_ne (kd_ne ka_3 kb (by decide))))).trans (hfA12 b kb j n6 n7 n8)
              have hfo_236 : f_234 a_3 = .inl (cI, 1560, .inl g_232) := by rw [ef_234]; exact up_self
              have ql_237 : x_213 = g_232 (Int32.toNatClampNeg 0) := by rw [eqg_232, pk_un (by decide)]; exact ql_229
              have ql_238 : x_231 = g_232 (Int32.toNatClampNeg 16) := by rw [eqg_232, pk_us]
              have hF4 : fOK 8 g_232 := by have hi1 := cl_I (i := x_204) (by omega); have hi3 := cl_I (i := x_221) (by omega); have hz16 : Int32.toNatClampNeg 16 = 16 := rfl; have hz0 : Int32.toNatClampNeg 0 = 0 := rfl; exact hF0.letter (by rw [eqg_232, pk_un (by omega), eqg_223, pk_un (by omega), eqg_214, hz0, pk_us]; omega) (by rw [eqg_232, hz16, pk_us]; omega) (by omega) (by constructor <;> omega) (fun k9 h9 => by rw [eqg_232, pk_un (by omega), eqg_223, show 20 + k9 = Int32.toNatClampNeg x_221 by omega, pk_us]; omega) (fun k9 h9 => by rw [eqg_232, pk_un (by omega), eqg_223, pk_un (by omega), eqg_214, pk_un (by omega), eqg_205, pk_un (by omega)]) (by rw [eqg_232, pk_un (by omega), eqg_223, pk_un (by omega), eqg_214, pk_un (by omega), eqg_205, pk_un (by omega)])
              have hTt_239 : frel kd 576 8 f_234 a_3 := frel.mk ka_3 hfo_236 hF4
              have hclc_240 : (0 ≤ v_139.toInt ∧ v_139.toInt ≤ 599) := by constructor <;> omega
              refine lv_aload_n hx hb dX12_letters_138 rfl (lv_at hl 2 rfl) ?_
              refine lv_dup hx hb dX12_letters_139 rfl ?_
              refine tk_getP (D := (dC, dI)) (ci := 12) (v := .int v_139) (C := RX12) (T := TX12) (N := 56) hx hb hU inlX12 hown hK hP mo0 hfo_235 rfl 6 (by decide) (hU _ wd_566) (fun _ h9 => h9) rfl dX12_letters_140 ?_
              refine lv_iconst (v := 1) hx hb dX12_letters_143 (by decide) ?_
              refine lv_iadd hx hb dX12_letters_144 ?_
              refine lv_topi (fun x_241 ex_241 => ?_)
              have hx_241 : x_241.toInt = v_139.toInt + 1 := by rw [ex_241, ad_I (by rw [ti_1]; omega) (by rw [ti_1]; omega), ti_1]
              have bx_241 : (1 ≤ x_241.toInt ∧ x_241.toInt ≤ 600) := by constructor <;> omega
              refine tk_putP (D := (dC, dI)) (ci := 12) (v := .int x_241) (ty := .int) (C := RX12) (T := TX12) (N := 56) hx hb hU inlX12 tyX12 tyX12_ok nmX12 hown hK hP hD hS mo0 hfo_235 rfl 6 (by decide) (hU _ wd_566) (fun _ h9 => h9) rfl (by decide +kernel) rfl rfl (Nat.le_of_ble_eq_true rfl) dX12_letters_145 (fun H locs hP hD hS => ?_)
              obtain ⟨f_243, ef_243⟩ : ∃ y : Nat → va_E, y = va_up f_234 o0 (.inr (12, [.ref a_2, .ref a_3, .ref a_4, .int v_5, .ref a_6, .int v_7, .int x_241, .int v_140, .int v_141, .int v_142, .int v_143, .int v_13, .int v_14, .int v_15, .int v_16, .ref a_17, .ref a_18, .ref a_19, .ref a_20, .ref a_21, .ref a_22, .ref a_23, .ref a_24, .int v_25, .int v_157, .int v_27, .int v_159, .int v_29, .ref a_30, .int v_31, .ref a_32, .ref a_33, .int v_34, .int v_35, .ref a_36, .int v_37, .ref a_38, .ref a_39, .int v_40, .int v_172, .ref a_42, .ref a_43, .ref a_44, .int v_45, .ref a_46, .ref a_47, .ref a_48, .ref a_49, .ref a_50, .ref a_51, .ref a_52, .ref a_53, .ref a_54, .int v_55, .int v_187, .ref a_57])) := ⟨_, rfl⟩
              have hP : va_P (dC, dI) vwCl (va_pl L f_243) H := by rw [ef_243]; exact hP
              have hD : va_D (fun q => q ∈ L) (va_pl L f_243) := by rw [ef_243]; exact hD
              have hG : GI (okc cI cL cZ cR cG cH L kd) kd L f_243 := by rw [ef_243]; exact hG.set o0 (mk_12 ko0 ⟨a_2, a_3, a_4, v_5, a_6, v_7, x_241, v_140, v_141, v_142, v_143, v_13, v_14, v_15, v_16, a_17, a_18, a_19, a_20, a_21, a_22, a_23, a_24, v_25, v_157, v_27, v_159, v_29, a_30, v_31, a_32, a_33, v_34, v_35, a_36, v_37, a_38, a_39, v_40, v_172, a_42, a_43, a_44, v_45, a_46, a_47, a_48, a_49, a_50, a_51, a_52, a_53, a_54, v_55, v_187, a_57, rfl, ⟨ma_2, ka_2⟩, ⟨ma_3, ka_3⟩, ⟨ma_4, ka_4⟩, (by constructor <;> omega), ⟨ma_6, ka_6⟩, (by constructor <;> omega), (by constructor <;> omega), (by constructor <;> omega), (by constructor <;> omega), (by constructor <;> omega), ⟨ma_17, ka_17⟩, ⟨ma_18, ka_18⟩, ⟨ma_19, ka_19⟩, ⟨ma_20, ka_20⟩, ⟨ma_21, ka_21⟩, ⟨ma_22, ka_22⟩, ⟨ma_23, ka_23⟩, ⟨ma_24, ka_24⟩, (by constructor <;> omega), (by constructor <;> omega), (by constructor <;> omega), ⟨ma_30, ka_30⟩, (by constructor <;> omega), ⟨ma_32, ka_32⟩, ⟨ma_33, ka_33⟩, (by constructor <;> omega), ⟨ma_36, ka_36⟩, (by constructor <;> omega), ⟨ma_38, ka_38⟩, ⟨ma_39, ka_39⟩, (by constructor <;> omega), ⟨ma_42, ka_42⟩, ⟨ma_43, ka_43⟩, ⟨ma_44, ka_44⟩, (by constructor <;> omega), ⟨ma_46, ka_46⟩, ⟨ma_47, ka_47⟩, ⟨ma_48, ka_48⟩, ⟨ma_49, ka_49⟩, ⟨ma_50, ka_50⟩, ⟨ma_51, ka_51⟩, ⟨ma_52, ka_52⟩, ⟨ma_53, ka_53⟩, ⟨ma_54, ka_54⟩, (by constructor <;> omega), ⟨ma_57, ka_57⟩⟩)
              have hfo_244 : f_243 a_3 = .inl (cI, 1560, .inl g_232) := by rw [ef_243, up_ne (kd_ne ko0 ka_3 (by decide))]; exact hfo_236
              have hfr0 : ∀ b, kd b ≠ 12 → kd b ≠ 576 → f_243 b = f b := fun b q12 q576 => (congrFun ef_243 b).trans ((up_ne (fun e9 => q12 (by rw [e9]; exact ko0))).trans (hfr0 b q12 q576))
              have hrA12 : ∀ b, kd b = 12 → ∀ j, fldR (f_243 b) j = fldR (f b) j := fun b kb j => ((congrArg (fun x => fldR x j) (congrFun ef_243 b)).trans (fra_up (fun j => by rw [hfo_235]; exact fr_set (k := 6) rfl rfl j) j b)).trans (hrA12 b kb j)
              have hfA12 : ∀ b, kd b = 12 → ∀ j, j ≠ 6 → j ≠ 7 → j ≠ 8 → fldI (f_243 b) j = fldI (f b) j := fun b kb j n6 n7 n8 => ((congrArg (fun x => fldI x j) (congrFun ef_243 b)).trans (fia_up (fun h9 => by rw [hfo_235]; exact fi_set (k := 6) rfl h9) n6 b)).trans (hfA12 b kb j n6 n7 n8)
              have hTt_239 : frel kd 576 8 f_243 a_3 := by rw [ef_243]; exact hTt_239.keep (fun b q => up_ne (kd_ne ko0 q (by decide)))
              have hfo_245 : f_243 o0 = .inr (12, [.ref a_2, .ref a_3, .ref a_4, .int v_5, .ref a_6, .int v_7, .int x_241, .int v_140, .int v_141, .int v_142, .int v_143, .int v_13, .int v_14, .int v_15, .int v_16, .ref a_17, .ref a_18, .ref a_19, .ref a_20, .ref a_21, .ref a_22, .ref a_23, .ref a_24, .int v_25, .int v_157, .int v_27, .int v_159, .int v_29, .ref a_30, .int v_31, .ref a_32, .ref a_33, .int v_34, .int v_35, .ref a_36, .int v_37, .ref a_38, .ref a_39, .int v_40, .int v_172, .ref a_42, .ref a_43, .ref a_44, .int v_45, .ref a_46, .ref a_47, .ref a_48, .ref a_49, .ref a_50, .ref a_51, .ref a_52, .ref a_53, .ref a_54, .int v_55, .int v_187, .ref a_57]) := by rw [ef_243]; exact up_self
              refine lv_iconst (v := 1) hx hb dX12_letters_148 (by decide) ?_
              refine lv_istore_n (lv' := [(1, .int 1), (2, .int x_125), (0, .ref o0)]) hx hb dX12_letters_149 rfl hl (by decide) rfl (fun ls hl => ?_)
              refine lv_goto (tgt := 2) hx hb dX12_letters_150 (by decide) ?_
              exact ih_hloop_63 1 (by decide) f_243 hG _ _ hP hS hD hfr0 hrA12 hfA12 hTt_239 x_241 (by rw [hfo_245]; rfl) (by (try rw [ti_1]) <;> omega) (by (try rw [ti_1]) <;> omega) (by (try rw [ti_1]) <;> omega) ls (lv_sub hl [0, 2] rfl)
            · skip
              rw [← Int32.toInt_inj, ti_8] at c_201
              refine lv_aload_n hx hb dX12_letters_69 rfl (lv_at hl 2 rfl) ?_
              refine lv_iconst (v := 3) hx hb dX12_letters_70 (by decide) ?_
              refine lv_aload_n hx hb dX12_letters_71 rfl (lv_at hl 2 rfl) ?_
              refine tk_getP (D := (dC, dI)) (ci := 12) (v := .int v_139) (C := RX12) (T := TX12) (N := 56) hx hb hU inlX12 hown hK hP mo0 hfo_132 rfl 6 (by decide) (hU _ wd_566) (fun _ h9 => h9) rfl dX12_letters_72 ?_
              refine tk_ViP (As := [.int 3, .int v_139]) (rest := []) (n := 2) hx hb hml hown hU hN hZ (s_X12_bad_k12 l (dC, dI) cI cL cZ cR cG cH Z kd L f_126 hG o0 mo0 ko0 3 v_139) wd_602 wd_603 wd_604 wd_5 wd_605 (by decide +kernel) ⟨Nat.le_of_ble_eq_true rfl, Nat.le_of_ble_eq_true rfl⟩ hK hP hD hS mo0 hfo_132 12 rfl rfl rfl hl.1 rfl (Nat.le_of_ble_eq_true rfl) dX12_letters_75 ⟨Nat.le_of_ble_eq_true rfl, Nat.le_of_ble_eq_true rfl⟩ (fun x_246 f_247 H locs hw hP hD hS => ?_)
              obtain ⟨hG, bx_246, hkc_248, hra_249, hfa_250⟩ := hw
              have hfo_252 : f_247 a_3 = .inl (cI, 1560, .inl g_198) := by rw [hkc_248 a_3 (by rw [ka_3]; decide)]; exact hfo_197
              have hfr0 : ∀ b, kd b ≠ 12 → kd b ≠ 576 → f_247 b = f b := fun b q12 q576 => (hkc_248 b q12).trans (hfr0 b q12 q576)
              have hrA12 : ∀ b, kd b = 12 → ∀ j, fldR (f_247 b) j = fldR (f b) j := fun b kb j => (hra_249 b kb j).trans (hrA12 b kb j)
              have hfA12 : ∀ b, kd b = 12 → ∀ j, j ≠ 6 → j ≠ 7 → j ≠ 8 → fldI (f_247 b) j = fldI (f b) j := fun b kb j n6 n7 n8 => (hfa_250 b kb j n7 n8).trans (hfA12 b kb j n6 n7 n8)
              have hT0 : frel kd 576 8 f_247 a_3 := hT0.keep (fun b q => hkc_248 b (by rw [q]; decide))
              obtain ⟨a_254, a_255, a_256, v_257, a_258, v_259, v_260, v_261, v_262, v_263, v_264, v_265, v_266, v_267, v_268, a_269, a_270, a_271, a_272, a_273, a_274, a_275, a_276, v_277, v_278, v_279, v_280, v_281, a_282, v_283, a_284, a_285, v_286, v_287, a_288, v_289, a_290, a_291, v_292, v_293, a_294, a_295, a_296, v_297, a_298, a_299, a_300, a_301, a_302, a_303, a_304, a_305, a_306, v_307, v_308, a_309, hfo_253, ⟨ma_254, ka_254⟩, ⟨ma_255, ka_255⟩, ⟨ma_256, ka_256⟩, bv_257, ⟨ma_258, ka_258⟩, bv_259, bv_260, bv_265, bv_266, bv_267, ⟨ma_269, ka_269⟩, ⟨ma_270, ka_270⟩, ⟨ma_271, ka_271⟩, ⟨ma_272, ka_272⟩, ⟨ma_273, ka_273⟩, ⟨ma_274, ka_274⟩, ⟨ma_275, ka_275⟩, ⟨ma_276, ka_276⟩, bv_277, bv_279, bv_281, ⟨ma_282, ka_282⟩, bv_283, ⟨ma_284, ka_284⟩, ⟨ma_285, ka_285⟩, bv_286, ⟨ma_288, ka_288⟩, bv_289, ⟨ma_290, ka_290⟩, ⟨ma_291, ka_291⟩, bv_292, ⟨ma_294, ka_294⟩, ⟨ma_295, ka_295⟩, ⟨ma_296, ka_296⟩, bv_297, ⟨ma_298, ka_298⟩, ⟨ma_299, ka_299⟩, ⟨ma_300, ka_300⟩, ⟨ma_301, ka_301⟩, ⟨ma_302, ka_302⟩, ⟨ma_303, ka_303⟩, ⟨ma_304, ka_304⟩, ⟨ma_305, ka_305⟩, ⟨ma_306, ka_306⟩, bv_307, ⟨ma_309, ka_309⟩⟩ := un_12 (hG _ mo0) ko0
              have bv_261 : ((-2147483648) ≤ v_261.toInt ∧ v_261.toInt ≤ 2147483647) := ⟨i32_lo _, i32_hi _⟩
              have bv_262 : ((-2147483648) ≤ v_262.toInt ∧ v_262.toInt ≤ 2147483647) := ⟨i32_lo _, i32_hi _⟩
              have bv_263 : ((-2147483648) ≤ v_263.toInt ∧ v_263.toInt ≤ 2147483647) := ⟨i32_lo _, i32_hi _⟩
              have bv_264 : ((-2147483648) ≤ v_264.toInt ∧ v_264.toInt ≤ 2147483647) := ⟨i32_lo _, i32_hi _⟩
              have bv_268 : ((-2147483648) ≤ v_268.toInt ∧ v_268.toInt ≤ 2147483647) := ⟨i32_lo _, i32_hi _⟩
              have bv_278 : ((-2147483648) ≤ v_278.toInt ∧ v_278.toInt ≤ 2147483647) := ⟨i32_lo _, i32_hi _⟩
              have bv_280 : ((-2147483648) ≤ v_280.toInt ∧ v_280.toInt ≤ 2147483647) := ⟨i32_lo _, i32_hi _⟩
              have bv_287 : ((-2147483648) ≤ v_287.toInt ∧ v_287.toInt ≤ 2147483647) := ⟨i32_lo _, i32_hi _⟩
              have bv_293 : ((-2147483648) ≤ v_293.toInt ∧ v_293.toInt ≤ 2147483647) := ⟨i32_lo _, i32_hi _⟩
              have bv_308 : ((-2147483648) ≤ v_308.toInt ∧ v_308.toInt ≤ 2147483647) := ⟨i32_lo _, i32_hi _⟩
              obtain ⟨rfl, rfl, rfl, rfl, rfl, rfl, rfl, rfl, rfl, rfl, rfl, rfl, rfl, rfl, rfl, rfl, rfl, rfl, rfl, rfl, rfl, rfl, rfl, rfl, rfl, rfl, rfl, rfl, rfl, rfl, rfl⟩ := re_12 hfo_1 hfo_253 (hrA12 o0 ko0)
              obtain rfl := ri_12_3 hfo_1 hfo_253 (hfA12 o0 ko0 3 (by decide) (by decide) (by decide))
              obtain rfl := ri_12_5 hfo_1 hfo_253 (hfA12 o0 ko0 5 (by decide) (by decide) (by decide))
              obtain rfl := ri_12_11 hfo_1 hfo_253 (hfA12 o0 ko0 11 (by decide) (by decide) (by decide))
              obtain rfl := ri_12_12 hfo_1 hfo_253 (hfA12 o0 ko0 12 (by decide) (by decide) (by decide))
              obtain rfl := ri_12_13 hfo_1 hfo_253 (hfA12 o0 ko0 13 (by decide) (by decide) (by decide))
              obtain rfl := ri_12_14 hfo_1 hfo_253 (hfA12 o0 ko0 14 (by decide) (by decide) (by decide))
              obtain rfl := ri_12_23 hfo_1 hfo_253 (hfA12 o0 ko0 23 (by decide) (by decide) (by decide))
              obtain rfl := ri_12_25 hfo_1 hfo_253 (hfA12 o0 ko0 25 (by decide) (by decide) (by decide))
              obtain rfl := ri_12_27 hfo_1 hfo_253 (hfA12 o0 ko0 27 (by decide) (by decide) (by decide))
              obtain rfl := ri_12_29 hfo_1 hfo_253 (hfA12 o0 ko0 29 (by decide) (by decide) (by decide))
              obtain rfl := ri_12_32 hfo_1 hfo_253 (hfA12 o0 ko0 32 (by decide) (by decide) (by decide))
              obtain rfl := ri_12_33 hfo_1 hfo_253 (hfA12 o0 ko0 33 (by decide) (by decide) (by decide))
              obtain rfl := ri_12_35 hfo_1 hfo_253 (hfA12 o0 ko0 35 (by decide) (by decide) (by decide))
              obtain rfl := ri_12_38 hfo_1 hfo_253 (hfA12 o0 ko0 38 (by decide) (by decide) (by decide))
              obtain rfl := ri_12_43 hfo_1 hfo_253 (hfA12 o0 ko0 43 (by decide) (by decide) (by decide))
              obtain rfl := ri_12_53 hfo_1 hfo_253 (hfA12 o0 ko0 53 (by decide) (by decide) (by decide))
              obtain rfl := ri_12_6 hfo_132 hfo_253 (hfa_250 o0 ko0 6 (by decide) (by decide))
              exact W.zret (v := x_246) (ty := .boolean) hx hb hr (zb_n (by constructor <;> omega)) (fun t ht hW => ⟨⟨x_246, f_247, rfl, ⟨hG, (by constructor <;> omega), hfr0, hrA12, hfA12, (by intro w6 z6 e6 d6; rw [hfo_1] at e6; rw [hfo_253] at d6; obtain rfl := Option.some.inj e6; obtain rfl := Option.some.inj d6; omega), (fun d9 h9 => by rw [hfo_253] at h9; obtain rfl := Option.some.inj h9; exact hT0)⟩, by rw [ht]; exact hP, va_K.moved hW.alike hK, pl_in hD⟩, hS.F ht⟩) hS.2.2 dX12_letters_78
          · skip
            rw [Int32.le_iff_toInt_le, ti_0] at c_199
            refine lv_aload_n hx hb dX12_letters_48 rfl (lv_at hl 2 rfl) ?_
            refine lv_iconst (v := 2) hx hb dX12_letters_49 (by decide) ?_
            refine lv_aload_n hx hb dX12_letters_50 rfl (lv_at hl 2 rfl) ?_
            refine tk_getP (D := (dC, dI)) (ci := 12) (v := .int v_139) (C := RX12) (T := TX12) (N := 56) hx hb hU inlX12 hown hK hP mo0 hfo_132 rfl 6 (by decide) (hU _ wd_566) (fun _ h9 => h9) rfl dX12_letters_51 ?_
            refine tk_ViP (As := [.int 2, .int v_139]) (rest := []) (n := 2) hx hb hml hown hU hN hZ (s_X12_bad_k12 l (dC, dI) cI cL cZ cR cG cH Z kd L f_126 hG o0 mo0 ko0 2 v_139) wd_602 wd_603 wd_604 wd_5 wd_605 (by decide +kernel) ⟨Nat.le_of_ble_eq_true rfl, Nat.le_of_ble_eq_true rfl⟩ hK hP hD hS mo0 hfo_132 12 rfl rfl rfl hl.1 rfl (Nat.le_of_ble_eq_true rfl) dX12_letters_54 ⟨Nat.le_of_ble_eq_true rfl, Nat.le_of_ble_eq_true rfl⟩ (fun x_310 f_311 H locs hw hP hD hS => ?_)
            obtain ⟨hG, bx_310, hkc_312, hra_313, hfa_314⟩ := hw
            have hfo_316 : f_311 a_3 = .inl (cI, 1560, .inl g_198) := by rw [hkc_312 a_3 (by rw [ka_3]; decide)]; exact hfo_197
            have hfr0 : ∀ b, kd b ≠ 12 → kd b ≠ 576 → f_311 b = f b := fun b q12 q576 => (hkc_312 b q12).trans (hfr0 b q12 q576)
            have hrA12 : ∀ b, kd b = 12 → ∀ j, fldR (f_311 b) j = fldR (f b) j := fun b kb j => (hra_313 b kb j).trans (hrA12 b kb j)
            have hfA12 : ∀ b, kd b = 12 → ∀ j, j ≠ 6 → j ≠ 7 → j ≠ 8 → fldI (f_311 b) j = fldI (f b) j := fun b kb j n6 n7 n8 => (hfa_314 b kb j n7 n8).trans (hfA12 b kb j n6 n7 n8)
            have hT0 : frel kd 576 8 f_311 a_3 := hT0.keep (fun b q => hkc_312 b (by rw [q]; decide))
            obtain ⟨a_318, a_319, a_320, v_321, a_322, v_323, v_324, v_325, v_326, v_327, v_328, v_329, v_330, v_331, v_332, a_333, a_334, a_335, a_336, a_337, a_338, a_339, a_340, v_341, v_342, v_343, v_344, v_345, a_346, v_347, a_348, a_349, v_350, v_351, a_352, v_353, a_354, a_355, v_356, v_357, a_358, a_359, a_360, v_361, a_362, a_363, a_364, a_365, a_366, a_367, a_368, a_369, a_370, v_371, v_372, a_373, hfo_317, ⟨ma_318, ka_318⟩, ⟨ma_319, ka_319⟩, ⟨ma_320, ka_320⟩, bv_321, ⟨ma_322, ka_322⟩, bv_323, bv_324, bv_329, bv_330, bv_331, ⟨ma_333, ka_333⟩, ⟨ma_334, ka_334⟩, ⟨ma_335, ka_335⟩, ⟨ma_336, ka_336⟩, ⟨ma_337, ka_337⟩, ⟨ma_338, ka_338⟩, ⟨ma_339, ka_339⟩, ⟨ma_340, ka_340⟩, bv_341, bv_343, bv_345, ⟨ma_346, ka_346⟩, bv_347, ⟨ma_348, ka_348⟩, ⟨ma_349, ka_349⟩, bv_350, ⟨ma_352, ka_352⟩, bv_353, ⟨ma_354, ka_354⟩, ⟨ma_355, ka_355⟩, bv_356, ⟨ma_358, ka_358⟩, ⟨ma_359, ka_359⟩, ⟨ma_360, ka_360⟩, bv_361, ⟨ma_362, ka_362⟩, ⟨ma_363, ka_363⟩, ⟨ma_364, ka_364⟩, ⟨ma_365, ka_365⟩, ⟨ma_366, ka_366⟩, ⟨ma_367, ka_367⟩, ⟨ma_368, ka_368⟩, ⟨ma_369, ka_369⟩, ⟨ma_370, ka_370⟩, bv_371, ⟨ma_373, ka_373⟩⟩ := un_12 (hG _ mo0) ko0
            have bv_325 : ((-2147483648) ≤ v_325.toInt ∧ v_325.toInt ≤ 2147483647) := ⟨i32_lo _, i32_hi _⟩
            have bv_326 : ((-2147483648) ≤ v_326.toInt ∧ v_326.toInt ≤ 2147483647) := ⟨i32_lo _, i32_hi _⟩
            have bv_327 : ((-2147483648) ≤ v_327.toInt ∧ v_327.toInt ≤ 2147483647) := ⟨i32_lo _, i32_hi _⟩
            have bv_328 : ((-2147483648) ≤ v_328.toInt ∧ v_328.toInt ≤ 2147483647) := ⟨i32_lo _, i32_hi _⟩
            have bv_332 : ((-2147483648) ≤ v_332.toInt ∧ v_332.toInt ≤ 2147483647) := ⟨i32_lo _, i32_hi _⟩
            have bv_342 : ((-2147483648) ≤ v_342.toInt ∧ v_342.toInt ≤ 2147483647) := ⟨i32_lo _, i32_hi _⟩
            have bv_344 : ((-2147483648) ≤ v_344.toInt ∧ v_344.toInt ≤ 2147483647) := ⟨i32_lo _, i32_hi _⟩
            have bv_351 : ((-2147483648) ≤ v_351.toInt ∧ v_351.toInt ≤ 2147483647) := ⟨i32_lo _, i32_hi _⟩
            have bv_357 : ((-2147483648) ≤ v_357.toInt ∧ v_357.toInt ≤ 2147483647) := ⟨i32_lo _, i32_hi _⟩
            have bv_372 : ((-2147483648) ≤ v_372.toInt ∧ v_372.toInt ≤ 2147483647) := ⟨i32_lo _, i32_hi _⟩
            obtain ⟨rfl, rfl, rfl, rfl, rfl, rfl, rfl, rfl, rfl, rfl, rfl, rfl, rfl, rfl, rfl, rfl, rfl, rfl, rfl, rfl, rfl, rfl, rfl, rfl, rfl, rfl, rfl, rfl, rfl, rfl, rfl⟩ := re_12 hfo_1 hfo_317 (hrA12 o0 ko0)
            obtain rfl := ri_12_3 hfo_1 hfo_317 (hfA12 o0 ko0 3 (by decide) (by decide) (by decide))
            obtain rfl := ri_12_5 hfo_1 hfo_317 (hfA12 o0 ko0 5 (by decide) (by decide) (by decide))
            obtain rfl := ri_12_11 hfo_1 hfo_317 (hfA12 o0 ko0 11 (by decide) (by decide) (by decide))
            obtain rfl := ri_12_12 hfo_1 hfo_317 (hfA12 o0 ko0 12 (by decide) (by decide) (by decide))
            obtain rfl := ri_12_13 hfo_1 hfo_317 (hfA12 o0 ko0 13 (by decide) (by decide) (by decide))
            obtain rfl := ri_12_14 hfo_1 hfo_317 (hfA12 o0 ko0 14 (by decide) (by decide) (by decide))
            obtain rfl := ri_12_23 hfo_1 hfo_317 (hfA12 o0 ko0 23 (by decide) (by decide) (by decide))
            obtain rfl := ri_12_25 hfo_1 hfo_317 (hfA12 o0 ko0 25 (by decide) (by decide) (by decide))
            obtain rfl := ri_12_27 hfo_1 hfo_317 (hfA12 o0 ko0 27 (by decide) (by decide) (by decide))
            obtain rfl := ri_12_29 hfo_1 hfo_317 (hfA12 o0 ko0 29 (by decide) (by decide) (by decide))
            obtain rfl := ri_12_32 hfo_1 hfo_317 (hfA12 o0 ko0 32 (by decide) (by decide) (by decide))
            obtain rfl := ri_12_33 hfo_1 hfo_317 (hfA12 o0 ko0 33 (by decide) (by decide) (by decide))
            obtain rfl := ri_12_35 hfo_1 hfo_317 (hfA12 o0 ko0 35 (by decide) (by decide) (by decide))
            obtain rfl := ri_12_38 hfo_1 hfo_317 (hfA12 o0 ko0 38 (by decide) (by decide) (by decide))
            obtain rfl := ri_12_43 hfo_1 hfo_317 (hfA12 o0 ko0 43 (by decide) (by decide) (by decide))
            obtain rfl := ri_12_53 hfo_1 hfo_317 (hfA12 o0 ko0 53 (by decide) (by decide) (by decide))
            obtain rfl := ri_12_6 hfo_132 hfo_317 (hfa_314 o0 ko0 6 (by decide) (by decide))
            exact W.zret (v := x_310) (ty := .boolean) hx hb hr (zb_n (by constructor <;> omega)) (fun t ht hW => ⟨⟨x_310, f_311, rfl, ⟨hG, (by constructor <;> omega), hfr0, hrA12, hfA12, (by intro w6 z6 e6 d6; rw [hfo_1] at e6; rw [hfo_317] at d6; obtain rfl := Option.some.inj e6; obtain rfl := Option.some.inj d6; omega), (fun d9 h9 => by rw [hfo_317] at h9; obtain rfl := Option.some.inj h9; exact hT0)⟩, by rw [ht]; exact hP, va_K.moved hW.alike hK, pl_in hD⟩, hS.F ht⟩) hS.2.2 dX12_letters_57
        · skip
          rw [← Int32.toInt_inj, ti_0] at c_192
          refine lv_aload_n hx hb dX12_letters_27 rfl (lv_at hl 2 rfl) ?_
          refine lv_iconst (v := 1) hx hb dX12_letters_28 (by decide) ?_
          refine lv_aload_n hx hb dX12_letters_29 rfl (lv_at hl 2 rfl) ?_
          refine tk_getP (D := (dC, dI)) (ci := 12) (v := .int v_139) (C := RX12) (T := TX12) (N := 56) hx hb hU inlX12 hown hK hP mo0 hfo_132 rfl 6 (by decide) (hU _ wd_566) (fun _ h9 => h9) rfl dX12_letters_30 ?_
          refine tk_ViP (As := [.int 1, .int v_139]) (rest := []) (n := 2) hx hb hml hown hU hN hZ (s_X12_bad_k12 l (dC, dI) cI cL cZ cR cG cH Z kd L f_126 hG o0 mo0 ko0 1 v_139) wd_602 wd_603 wd_604 wd_5 wd_605 (by decide +kernel) ⟨Nat.le_of_ble_eq_true rfl, Nat.le_of_ble_eq_true rfl⟩ hK hP hD hS mo0 hfo_132 12 rfl rfl rfl hl.1 rfl (Nat.le_of_ble_eq_true rfl) dX12_letters_33 ⟨Nat.le_of_ble_eq_true rfl, Nat.le_of_ble_eq_true rfl⟩ (fun x_374 f_375 H locs hw hP hD hS => ?_)
          obtain ⟨hG, bx_374, hkc_376, hra_377, hfa_378⟩ := hw
          have hfr0 : ∀ b, kd b ≠ 12 → kd b ≠ 576 → f_375 b = f b := fun b q12 q576 => (hkc_376 b q12).trans (hfr0 b q12 q576)
          have hrA12 : ∀ b, kd b = 12 → ∀ j, fldR (f_375 b) j = fldR (f b) j := fun b kb j => (hra_377 b kb j).trans (hrA12 b kb j)
          have hfA12 : ∀ b, kd b = 12 → ∀ j, j ≠ 6 → j ≠ 7 → j ≠ 8 → fldI (f_375 b) j = fldI (f b) j := fun b kb j n6 n7 n8 => (hfa_378 b kb j n7 n8).trans (hfA12 b kb j n6 n7 n8)
          have hT0 : frel kd 576 8 f_375 a_3 := hT0.keep (fun b q => hkc_376 b (by rw [q]; decide))
          obtain ⟨a_381, a_382, a_383, v_384, a_385, v_386, v_387, v_388, v_389, v_390, v_391, v_392, v_393, v_394, v_395, a_396, a_397, a_398, a_399, a_400, a_401, a_402, a_403, v_404, v_405, v_406, v_407, v_408, a_409, v_410, a_411, a_412, v_413, v_414, a_415, v_416, a_417, a_418, v_419, v_420, a_421, a_422, a_423, v_424, a_425, a_426, a_427, a_428, a_429, a_430, a_431, a_432, a_433, v_434, v_435, a_436, hfo_380, ⟨ma_381, ka_381⟩, ⟨ma_382, ka_382⟩, ⟨ma_383, ka_383⟩, bv_384, ⟨ma_385, ka_385⟩, bv_386, bv_387, bv_392, bv_393, bv_394, ⟨ma_396, ka_396⟩, ⟨ma_397, ka_397⟩, ⟨ma_398, ka_398⟩, ⟨ma_399, ka_399⟩, ⟨ma_400, ka_400⟩, ⟨ma_401, ka_401⟩, ⟨ma_402, ka_402⟩, ⟨ma_403, ka_403⟩, bv_404, bv_406, bv_408, ⟨ma_409, ka_409⟩, bv_410, ⟨ma_411, ka_411⟩, ⟨ma_412, ka_412⟩, bv_413, ⟨ma_415, ka_415⟩, bv_416, ⟨ma_417, ka_417⟩, ⟨ma_418, ka_418⟩, bv_419, ⟨ma_421, ka_421⟩, ⟨ma_422, ka_422⟩, ⟨ma_423, ka_423⟩, bv_424, ⟨ma_425, ka_425⟩, ⟨ma_426, ka_426⟩, ⟨ma_427, ka_427⟩, ⟨ma_428, ka_428⟩, ⟨ma_429, ka_429⟩, ⟨ma_430, ka_430⟩, ⟨ma_431, ka_431⟩, ⟨ma_432, ka_432⟩, ⟨ma_433, ka_433⟩, bv_434, ⟨ma_436, ka_436⟩⟩ := un_12 (hG _ mo0) ko0
          have bv_388 : ((-2147483648) ≤ v_388.toInt ∧ v_388.toInt ≤ 2147483647) := ⟨i32_lo _, i32_hi _⟩
          have bv_389 : ((-2147483648) ≤ v_389.toInt ∧ v_389.toInt ≤ 2147483647) := ⟨i32_lo _, i32_hi _⟩
          have bv_390 : ((-2147483648) ≤ v_390.toInt ∧ v_390.toInt ≤ 2147483647) := ⟨i32_lo _, i32_hi _⟩
          have bv_391 : ((-2147483648) ≤ v_391.toInt ∧ v_391.toInt ≤ 2147483647) := ⟨i32_lo _, i32_hi _⟩
          have bv_395 : ((-2147483648) ≤ v_395.toInt ∧ v_395.toInt ≤ 2147483647) := ⟨i32_lo _, i32_hi _⟩
          have bv_405 : ((-2147483648) ≤ v_405.toInt ∧ v_405.toInt ≤ 2147483647) := ⟨i32_lo _, i32_hi _⟩
          have bv_407 : ((-2147483648) ≤ v_407.toInt ∧ v_407.toInt ≤ 2147483647) := ⟨i32_lo _, i32_hi _⟩
          have bv_414 : ((-2147483648) ≤ v_414.toInt ∧ v_414.toInt ≤ 2147483647) := ⟨i32_lo _, i32_hi _⟩
          have bv_420 : ((-2147483648) ≤ v_420.toInt ∧ v_420.toInt ≤ 2147483647) := ⟨i32_lo _, i32_hi _⟩
          have bv_435 : ((-2147483648) ≤ v_435.toInt ∧ v_435.toInt ≤ 2147483647) := ⟨i32_lo _, i32_hi _⟩
          obtain ⟨rfl, rfl, rfl, rfl, rfl, rfl, rfl, rfl, rfl, rfl, rfl, rfl, rfl, rfl, rfl, rfl, rfl, rfl, rfl, rfl, rfl, rfl, rfl, rfl, rfl, rfl, rfl, rfl, rfl, rfl, rfl⟩ := re_12 hfo_1 hfo_380 (hrA12 o0 ko0)
          obtain rfl := ri_12_3 hfo_1 hfo_380 (hfA12 o0 ko0 3 (by decide) (by decide) (by decide))
          obtain rfl := ri_12_5 hfo_1 hfo_380 (hfA12 o0 ko0 5 (by decide) (by decide) (by decide))
          obtain rfl := ri_12_11 hfo_1 hfo_380 (hfA12 o0 ko0 11 (by decide) (by decide) (by decide))
          obtain rfl := ri_12_12 hfo_1 hfo_380 (hfA12 o0 ko0 12 (by decide) (by decide) (by decide))
          obtain rfl := ri_12_13 hfo_1 hfo_380 (hfA12 o0 ko0 13 (by decide) (by decide) (by decide))
          obtain rfl := ri_12_14 hfo_1 hfo_380 (hfA12 o0 ko0 14 (by decide) (by decide) (by decide))
          obtain rfl := ri_12_23 hfo_1 hfo_380 (hfA12 o0 ko0 23 (by decide) (by decide) (by decide))
          obtain rfl := ri_12_25 hfo_1 hfo_380 (hfA12 o0 ko0 25 (by decide) (by decide) (by decide))
          obtain rfl := ri_12_27 hfo_1 hfo_380 (hfA12 o0 ko0 27 (by decide) (by decide) (by decide))
          obtain rfl := ri_12_29 hfo_1 hfo_380 (hfA12 o0 ko0 29 (by decide) (by decide) (by decide))
          obtain rfl := ri_12_32 hfo_1 hfo_380 (hfA12 o0 ko0 32 (by decide) (by decide) (by decide))
          obtain rfl := ri_12_33 hfo_1 hfo_380 (hfA12 o0 ko0 33 (by decide) (by decide) (by decide))
          obtain rfl := ri_12_35 hfo_1 hfo_380 (hfA12 o0 ko0 35 (by decide) (by decide) (by decide))
          obtain rfl := ri_12_38 hfo_1 hfo_380 (hfA12 o0 ko0 38 (by decide) (by decide) (by decide))
          obtain rfl := ri_12_43 hfo_1 hfo_380 (hfA12 o0 ko0 43 (by decide) (by decide) (by decide))
          obtain rfl := ri_12_53 hfo_1 hfo_380 (hfA12 o0 ko0 53 (by decide) (by decide) (by decide))
          obtain rfl := ri_12_6 hfo_132 hfo_380 (hfa_378 o0 ko0 6 (by decide) (by decide))
          exact W.zret (v := x_374) (ty := .boolean) hx hb hr (zb_n (by constructor <;> omega)) (fun t ht hW => ⟨⟨x_374, f_375, rfl, ⟨hG, (by constructor <;> omega), hfr0, hrA12, hfA12, (by intro w6 z6 e6 d6; rw [hfo_1] at e6; rw [hfo_380] at d6; obtain rfl := Option.some.inj e6; obtain rfl := Option.some.inj d6; omega), (fun d9 h9 => by rw [hfo_380] at h9; obtain rfl := Option.some.inj h9; exact hT0)⟩, by rw [ht]; exact hP, va_K.moved hW.alike hK, pl_in hD⟩, hS.F ht⟩) hS.2.2 dX12_letters_36
      · skip
        rw [← Int32.toInt_inj, ti_0] at c_124
        refine lv_aload_n hx hb dX12_letters_6 rfl (lv_at hl 1 rfl) ?_
        refine tk_ViP (As := []) (rest := []) (n := 0) hx hb hml hown hU hN hZ (s_X12_sign_k12 l (dC, dI) cI cL cZ cR cG cH Z kd L f_66 hG o0 mo0 ko0) wd_573 wd_574 wd_575 wd_5 wd_576 (by decide +kernel) ⟨Nat.le_of_ble_eq_true rfl, Nat.le_of_ble_eq_true rfl⟩ hK hP hD hS mo0 hfo_67 12 rfl rfl rfl hl.1 rfl (Nat.le_of_ble_eq_true rfl) dX12_letters_7 ⟨Nat.le_of_ble_eq_true rfl, Nat.le_of_ble_eq_true rfl⟩ (fun x_437 f_438 H locs hw hP hD hS => ?_)
        obtain ⟨hG, bx_437, hkc_439, hra_440, hfa_441, hpost_442⟩ := hw
        have hfr0 : ∀ b, kd b ≠ 12 → kd b ≠ 576 → f_438 b = f b := fun b q12 q576 => (hkc_439 b q12).trans (hfr0 b q12 q576)
        have hrA12 : ∀ b, kd b = 12 → ∀ j, fldR (f_438 b) j = fldR (f b) j := fun b kb j => (hra_440 b kb j).trans (hrA12 b kb j)
        have hfA12 : ∀ b, kd b = 12 → ∀ j, j ≠ 6 → j ≠ 7 → j ≠ 8 → fldI (f_438 b) j = fldI (f b) j := fun b kb j n6 n7 n8 => (hfa_441 b kb j n6).trans (hfA12 b kb j n6 n7 n8)
        have hT0 : frel kd 576 8 f_438 a_3 := hT0.keep (fun b q => hkc_439 b (by rw [q]; decide))
        obtain ⟨a_445, a_446, a_447, v_448, a_449, v_450, v_451, v_452, v_453, v_454, v_455, v_456, v_457, v_458, v_459, a_460, a_461, a_462, a_463, a_464, a_465, a_466, a_467, v_468, v_469, v_470, v_471, v_472, a_473, v_474, a_475, a_476, v_477, v_478, a_479, v_480, a_481, a_482, v_483, v_484, a_485, a_486, a_487, v_488, a_489, a_490, a_491, a_492, a_493, a_494, a_495, a_496, a_497, v_498, v_499, a_500, hfo_444, ⟨ma_445, ka_445⟩, ⟨ma_446, ka_446⟩, ⟨ma_447, ka_447⟩, bv_448, ⟨ma_449, ka_449⟩, bv_450, bv_451, bv_456, bv_457, bv_458, ⟨ma_460, ka_460⟩, ⟨ma_461, ka_461⟩, ⟨ma_462, ka_462⟩, ⟨ma_463, ka_463⟩, ⟨ma_464, ka_464⟩, ⟨ma_465, ka_465⟩, ⟨ma_466, ka_466⟩, ⟨ma_467, ka_467⟩, bv_468, bv_470, bv_472, ⟨ma_473, ka_473⟩, bv_474, ⟨ma_475, ka_475⟩, ⟨ma_476, ka_476⟩, bv_477, ⟨ma_479, ka_479⟩, bv_480, ⟨ma_481, ka_481⟩, ⟨ma_482, ka_482⟩, bv_483, ⟨ma_485, ka_485⟩, ⟨ma_486, ka_486⟩, ⟨ma_487, ka_487⟩, bv_488, ⟨ma_489, ka_489⟩, ⟨ma_490, ka_490⟩, ⟨ma_491, ka_491⟩, ⟨ma_492, ka_492⟩, ⟨ma_493, ka_493⟩, ⟨ma_494, ka_494⟩, ⟨ma_495, ka_495⟩, ⟨ma_496, ka_496⟩, ⟨ma_497, ka_497⟩, bv_498, ⟨ma_500, ka_500⟩⟩ := un_12 (hG _ mo0) ko0
        have bv_452 : ((-2147483648) ≤ v_452.toInt ∧ v_452.toInt ≤ 2147483647) := ⟨i32_lo _, i32_hi _⟩
        have bv_453 : ((-2147483648) ≤ v_453.toInt ∧ v_453.toInt ≤ 2147483647) := ⟨i32_lo _, i32_hi _⟩
        have bv_454 : ((-2147483648) ≤ v_454.toInt ∧ v_454.toInt ≤ 2147483647) := ⟨i32_lo _, i32_hi _⟩
        have bv_455 : ((-2147483648) ≤ v_455.toInt ∧ v_455.toInt ≤ 2147483647) := ⟨i32_lo _, i32_hi _⟩
        have bv_459 : ((-2147483648) ≤ v_459.toInt ∧ v_459.toInt ≤ 2147483647) := ⟨i32_lo _, i32_hi _⟩
        have bv_469 : ((-2147483648) ≤ v_469.toInt ∧ v_469.toInt ≤ 2147483647) := ⟨i32_lo _, i32_hi _⟩
        have bv_471 : ((-2147483648) ≤ v_471.toInt ∧ v_471.toInt ≤ 2147483647) := ⟨i32_lo _, i32_hi _⟩
        have bv_478 : ((-2147483648) ≤ v_478.toInt ∧ v_478.toInt ≤ 2147483647) := ⟨i32_lo _, i32_hi _⟩
        have bv_484 : ((-2147483648) ≤ v_484.toInt ∧ v_484.toInt ≤ 2147483647) := ⟨i32_lo _, i32_hi _⟩
        have bv_499 : ((-2147483648) ≤ v_499.toInt ∧ v_499.toInt ≤ 2147483647) := ⟨i32_lo _, i32_hi _⟩
        obtain ⟨rfl, rfl, rfl, rfl, rfl, rfl, rfl, rfl, rfl, rfl, rfl, rfl, rfl, rfl, rfl, rfl, rfl, rfl, rfl, rfl, rfl, rfl, rfl, rfl, rfl, rfl, rfl, rfl, rfl, rfl, rfl⟩ := re_12 hfo_1 hfo_444 (hrA12 o0 ko0)
        obtain rfl := ri_12_3 hfo_1 hfo_444 (hfA12 o0 ko0 3 (by decide) (by decide) (by decide))
        obtain rfl := ri_12_5 hfo_1 hfo_444 (hfA12 o0 ko0 5 (by decide) (by decide) (by decide))
        obtain rfl := ri_12_11 hfo_1 hfo_444 (hfA12 o0 ko0 11 (by decide) (by decide) (by decide))
        obtain rfl := ri_12_12 hfo_1 hfo_444 (hfA12 o0 ko0 12 (by decide) (by decide) (by decide))
        obtain rfl := ri_12_13 hfo_1 hfo_444 (hfA12 o0 ko0 13 (by decide) (by decide) (by decide))
        obtain rfl := ri_12_14 hfo_1 hfo_444 (hfA12 o0 ko0 14 (by decide) (by decide) (by decide))
        obtain rfl := ri_12_23 hfo_1 hfo_444 (hfA12 o0 ko0 23 (by decide) (by decide) (by decide))
        obtain rfl := ri_12_25 hfo_1 hfo_444 (hfA12 o0 ko0 25 (by decide) (by decide) (by decide))
        obtain rfl := ri_12_27 hfo_1 hfo_444 (hfA12 o0 ko0 27 (by decide) (by decide) (by decide))
        obtain rfl := ri_12_29 hfo_1 hfo_444 (hfA12 o0 ko0 29 (by decide) (by decide) (by decide))
        obtain rfl := ri_12_32 hfo_1 hfo_444 (hfA12 o0 ko0 32 (by decide) (by decide) (by decide))
        obtain rfl := ri_12_33 hfo_1 hfo_444 (hfA12 o0 ko0 33 (by decide) (by decide) (by decide))
        obtain rfl := ri_12_35 hfo_1 hfo_444 (hfA12 o0 ko0 35 (by decide) (by decide) (by decide))
        obtain rfl := ri_12_38 hfo_1 hfo_444 (hfA12 o0 ko0 38 (by decide) (by decide) (by decide))
        obtain rfl := ri_12_43 hfo_1 hfo_444 (hfA12 o0 ko0 43 (by decide) (by decide) (by decide))
        obtain rfl := ri_12_53 hfo_1 hfo_444 (hfA12 o0 ko0 53 (by decide) (by decide) (by decide))
        have hqhpost_442 := hpost_442 v_74 v_451 (by rw [hfo_67]; rfl) (by rw [hfo_444]; rfl)
        refine lv_bipush (v := 59) hx hb dX12_letters_10 (by decide) ?_
        refine lv_icmp_eq (tgt := 153) hx hb dX12_letters_12 (by decide) (fun c_501 => ?_) (fun c_501 => ?_)
        · skip
          rw [← Int32.toInt_inj, ti_59] at c_501
          refine lv_iconst (v := 1) hx hb dX12_letters_153 (by decide) ?_
          exact W.zret (v := 1) (ty := .boolean) hx hb hr rfl (fun t ht hW => ⟨⟨1, f_438, rfl, ⟨hG, (by decide), hfr0, hrA12, hfA12, (by intro w6 z6 e6 d6; rw [hfo_1] at e6; rw [hfo_444] at d6; obtain rfl := Option.some.inj e6; obtain rfl := Option.some.inj d6; (try rw [ti_1]) <;> omega), (fun d9 h9 => by rw [hfo_444] at h9; obtain rfl := Option.some.inj h9; exact hT0)⟩, by rw [ht]; exact hP, va_K.moved hW.alike hK, pl_in hD⟩, hS.F ht⟩) hS.2.2 dX12_letters_154
        · skip
          rw [← Int32.toInt_inj, ti_59] at c_501
          refine lv_aload_n hx hb dX12_letters_15 rfl (lv_at hl 1 rfl) ?_
          refine tk_ViP (As := []) (rest := []) (n := 0) hx hb hml hown hU hN hZ (s_X12_sign_k12 l (dC, dI) cI cL cZ cR cG cH Z kd L f_438 hG o0 mo0 ko0) wd_573 wd_574 wd_575 wd_5 wd_576 (by decide +kernel) ⟨Nat.le_of_ble_eq_true rfl, Nat.le_of_ble_eq_true rfl⟩ hK hP hD hS mo0 hfo_444 12 rfl rfl rfl hl.1 rfl (Nat.le_of_ble_eq_true rfl) dX12_letters_16 ⟨Nat.le_of_ble_eq_true rfl, Nat.le_of_ble_eq_true rfl⟩ (fun x_502 f_503 H locs hw hP hD hS => ?_)
          obtain ⟨hG, bx_502, hkc_504, hra_505, hfa_506, hpost_507⟩ := hw
          have hfr0 : ∀ b, kd b ≠ 12 → kd b ≠ 576 → f_503 b = f b := fun b q12 q576 => (hkc_504 b q12).trans (hfr0 b q12 q576)
          have hrA12 : ∀ b, kd b = 12 → ∀ j, fldR (f_503 b) j = fldR (f b) j := fun b kb j => (hra_505 b kb j).trans (hrA12 b kb j)
          have hfA12 : ∀ b, kd b = 12 → ∀ j, j ≠ 6 → j ≠ 7 → j ≠ 8 → fldI (f_503 b) j = fldI (f b) j := fun b kb j n6 n7 n8 => (hfa_506 b kb j n6).trans (hfA12 b kb j n6 n7 n8)
          have hT0 : frel kd 576 8 f_503 a_3 := hT0.keep (fun b q => hkc_504 b (by rw [q]; decide))
          obtain ⟨a_510, a_511, a_512, v_513, a_514, v_515, v_516, v_517, v_518, v_519, v_520, v_521, v_522, v_523, v_524, a_525, a_526, a_527, a_528, a_529, a_530, a_531, a_532, v_533, v_534, v_535, v_536, v_537, a_538, v_539, a_540, a_541, v_542, v_543, a_544, v_545, a_546, a_547, v_548, v_549, a_550, a_551, a_552, v_553, a_554, a_555, a_556, a_557, a_558, a_559, a_560, a_561, a_562, v_563, v_564, a_565, hfo_509, ⟨ma_510, ka_510⟩, ⟨ma_511, ka_511⟩, ⟨ma_512, ka_512⟩, bv_513, ⟨ma_514, ka_514⟩, bv_515, bv_516, bv_521, bv_522, bv_523, ⟨ma_525, ka_525⟩, ⟨ma_526, ka_526⟩, ⟨ma_527, ka_527⟩, ⟨ma_528, ka_528⟩, ⟨ma_529, ka_529⟩, ⟨ma_530, ka_530⟩, ⟨ma_531, ka_531⟩, ⟨ma_532, ka_532⟩, bv_533, bv_535, bv_537, ⟨ma_538, ka_538⟩, bv_539, ⟨ma_540, ka_540⟩, ⟨ma_541, ka_541⟩, bv_542, ⟨ma_544, ka_544⟩, bv_545, ⟨ma_546, ka_546⟩, ⟨ma_547, ka_547⟩, bv_548, ⟨ma_550, ka_550⟩, ⟨ma_551, ka_551⟩, ⟨ma_552, ka_552⟩, bv_553, ⟨ma_554, ka_554⟩, ⟨ma_555, ka_555⟩, ⟨ma_556, ka_556⟩, ⟨ma_557, ka_557⟩, ⟨ma_558, ka_558⟩, ⟨ma_559, ka_559⟩, ⟨ma_560, ka_560⟩, ⟨ma_561, ka_561⟩, ⟨ma_562, ka_562⟩, bv_563, ⟨ma_565, ka_565⟩⟩ := un_12 (hG _ mo0) ko0
          have bv_517 : ((-2147483648) ≤ v_517.toInt ∧ v_517.toInt ≤ 2147483647) := ⟨i32_lo _, i32_hi _⟩
          have bv_518 : ((-2147483648) ≤ v_518.toInt ∧ v_518.toInt ≤ 2147483647) := ⟨i32_lo _, i32_hi _⟩
          have bv_519 : ((-2147483648) ≤ v_519.toInt ∧ v_519.toInt ≤ 2147483647) := ⟨i32_lo _, i32_hi _⟩
          have bv_520 : ((-2147483648) ≤ v_520.toInt ∧ v_520.toInt ≤ 2147483647) := ⟨i32_lo _, i32_hi _⟩
          have bv_524 : ((-2147483648) ≤ v_524.toInt ∧ v_524.toInt ≤ 2147483647) := ⟨i32_lo _, i32_hi _⟩
          have bv_534 : ((-2147483648) ≤ v_534.toInt ∧ v_534.toInt ≤ 2147483647) := ⟨i32_lo _, i32_hi _⟩
          have bv_536 : ((-2147483648) ≤ v_536.toInt ∧ v_536.toInt ≤ 2147483647) := ⟨i32_lo _, i32_hi _⟩
          have bv_543 : ((-2147483648) ≤ v_543.toInt ∧ v_543.toInt ≤ 2147483647) := ⟨i32_lo _, i32_hi _⟩
          have bv_549 : ((-2147483648) ≤ v_549.toInt ∧ v_549.toInt ≤ 2147483647) := ⟨i32_lo _, i32_hi _⟩
          have bv_564 : ((-2147483648) ≤ v_564.toInt ∧ v_564.toInt ≤ 2147483647) := ⟨i32_lo _, i32_hi _⟩
          obtain ⟨rfl, rfl, rfl, rfl, rfl, rfl, rfl, rfl, rfl, rfl, rfl, rfl, rfl, rfl, rfl, rfl, rfl, rfl, rfl, rfl, rfl, rfl, rfl, rfl, rfl, rfl, rfl, rfl, rfl, rfl, rfl⟩ := re_12 hfo_1 hfo_509 (hrA12 o0 ko0)
          obtain rfl := ri_12_3 hfo_1 hfo_509 (hfA12 o0 ko0 3 (by decide) (by decide) (by decide))
          obtain rfl := ri_12_5 hfo_1 hfo_509 (hfA12 o0 ko0 5 (by decide) (by decide) (by decide))
          obtain rfl := ri_12_11 hfo_1 hfo_509 (hfA12 o0 ko0 11 (by decide) (by decide) (by decide))
          obtain rfl := ri_12_12 hfo_1 hfo_509 (hfA12 o0 ko0 12 (by decide) (by decide) (by decide))
          obtain rfl := ri_12_13 hfo_1 hfo_509 (hfA12 o0 ko0 13 (by decide) (by decide) (by decide))
          obtain rfl := ri_12_14 hfo_1 hfo_509 (hfA12 o0 ko0 14 (by decide) (by decide) (by decide))
          obtain rfl := ri_12_23 hfo_1 hfo_509 (hfA12 o0 ko0 23 (by decide) (by decide) (by decide))
          obtain rfl := ri_12_25 hfo_1 hfo_509 (hfA12 o0 ko0 25 (by decide) (by decide) (by decide))
          obtain rfl := ri_12_27 hfo_1 hfo_509 (hfA12 o0 ko0 27 (by decide) (by decide) (by decide))
          obtain rfl := ri_12_29 hfo_1 hfo_509 (hfA12 o0 ko0 29 (by decide) (by decide) (by decide))
          obtain rfl := ri_12_32 hfo_1 hfo_509 (hfA12 o0 ko0 32 (by decide) (by decide) (by decide))
          obtain rfl := ri_12_33 hfo_1 hfo_509 (hfA12 o0 ko0 33 (by decide) (by decide) (by decide))
          obtain rfl := ri_12_35 hfo_1 hfo_509 (hfA12 o0 ko0 35 (by decide) (by decide) (by decide))
          obtain rfl := ri_12_38 hfo_1 hfo_509 (hfA12 o0 ko0 38 (by decide) (by decide) (by decide))
          obtain rfl := ri_12_43 hfo_1 hfo_509 (hfA12 o0 ko0 43 (by decide) (by decide) (by decide))
          obtain rfl := ri_12_53 hfo_1 hfo_509 (hfA12 o0 ko0 53 (by decide) (by decide) (by decide))
          have hqhpost_507 := hpost_507 v_451 v_516 (by rw [hfo_444]; rfl) (by rw [hfo_509]; rfl)
          refine lv_istore_n (lv' := [(2, .int x_502), (1, .int y_64), (0, .ref o0)]) hx hb dX12_letters_19 rfl hl (by decide) rfl (fun ls hl => ?_)
          refine lv_iload_n hx hb dX12_letters_20 rfl (lv_at hl 0 rfl) ?_
          refine tk_SiP (As := [.int x_502]) (rest := []) (n := 1) hx hb hml hown hU hN hZ (s_X12_isSmall l (dC, dI) cI cL cZ cR cG cH Z kd L f_503 hG x_502) wd_589 wd_590 wd_5 wd_591 (by decide +kernel) ⟨Nat.le_of_ble_eq_true rfl, Nat.le_of_ble_eq_true rfl⟩ hK hP hD hS rfl hl.1 rfl (Nat.le_of_ble_eq_true rfl) dX12_letters_21 ⟨Nat.le_of_ble_eq_true rfl, Nat.le_of_ble_eq_true rfl⟩ (fun x_566 f_567 H locs hw hP hD hS => ?_)
          obtain ⟨rfl, bx_566, relx_566⟩ := hw
          refine lv_if_ne (tgt := 37) hx hb dX12_letters_24 (by decide) (fun c_569 => ?_) (fun c_569 => ?_)
          · skip
            rw [← Int32.toInt_inj, ti_0] at c_569
            refine lv_aload_n hx hb dX12_letters_37 rfl (lv_at hl 2 rfl) ?_
            refine tk_getP (D := (dC, dI)) (ci := 12) (v := .ref a_3) (C := RX12) (T := TX12) (N := 56) hx hb hU inlX12 hown hK hP mo0 hfo_509 rfl 1 (by decide) (hU _ wd_170) (fun _ h9 => h9) rfl dX12_letters_38 ?_
            refine lv_iload_n hx hb dX12_letters_41 rfl (lv_at hl 0 rfl) ?_
            refine tk_SiP (As := [.ref a_3, .int x_502]) (rest := []) (n := 2) hx hb hml hown hU hN hZ (s_X12_letterIn_a576 l (dC, dI) cI cL cZ cR cG cH Z kd L f_503 hG a_3 ma_3 ka_3 x_502) wd_606 wd_607 wd_5 wd_608 (by decide +kernel) ⟨Nat.le_of_ble_eq_true rfl, Nat.le_of_ble_eq_true rfl⟩ hK hP hD hS rfl hl.1 rfl (Nat.le_of_ble_eq_true rfl) dX12_letters_42 ⟨Nat.le_of_ble_eq_true rfl, Nat.le_of_ble_eq_true rfl⟩ (fun x_570 f_571 H locs hw hP hD hS => ?_)
            obtain ⟨rfl, bx_570, hxp_572⟩ := hw
            obtain ⟨g_575, hfo_574, hbg_575⟩ := un_576 (hG _ ma_3) ka_3
            have hlix_570 := hxp_572 g_575 hfo_574
            refine lv_if_le (tgt := 58) hx hb dX12_letters_45 (by decide) (fun c_576 => ?_) (fun c_576 => ?_)
            · skip
              rw [Int32.le_iff_toInt_le, ti_0] at c_576
              refine lv_aload_n hx hb dX12_letters_58 rfl (lv_at hl 2 rfl) ?_
              refine tk_getP (D := (dC, dI)) (ci := 12) (v := .ref a_3) (C := RX12) (T := TX12) (N := 56) hx hb hU inlX12 hown hK hP mo0 hfo_509 rfl 1 (by decide) (hU _ wd_170) (fun _ h9 => h9) rfl dX12_letters_59 ?_
              refine lv_iconst (v := 0) hx hb dX12_letters_62 (by decide) ?_
              refine tk_ildP hx hb hK hP 0 ma_3 hfo_574 rfl (vp_in_nI (n := 0) (by decide) (by decide)) dX12_letters_63 ?_
              refine lv_topi (fun x_577 ex_577 => ?_)
              have bx_577 : (0 ≤ x_577.toInt ∧ x_577.toInt ≤ 8) := by rw [ex_577]; exact hbg_575.1 _ (by decide) (by decide) (by decide)
              refine lv_bipush (v := 8) hx hb dX12_letters_64 (by decide) ?_
              refine lv_icmp_ne (tgt := 79) hx hb dX12_letters_66 (by decide) (fun c_578 => ?_) (fun c_578 => ?_)
              · skip
                rw [← Int32.toInt_inj, ti_8] at c_578
                have hF0 := hT0.get hfo_574
                obtain ⟨x_579, ex_579⟩ : ∃ y : Int32, y = g_575 (Int32.toNatClampNeg 16) := ⟨_, rfl⟩
                have bx_579 : (0 ≤ x_579.toInt ∧ x_579.toInt ≤ 20) := by rw [ex_579]; exact hbg_575.2.1 _ (by decide) (by decide) (by decide)
                have hgx_579 : x_579.toInt = (g_575 16).toInt := by rw [ex_579]; rfl
                have hglx_577 : x_577.toInt = (g_575 0).toInt := by rw [ex_577]; rfl
                have hnrc_580 : (0 ≤ x_579.toInt ∧ x_579.toInt ≤ 19) := by have hq1 := hF0.1; have hq2 := hF0.2.1; constructor <;> omega
                refine lv_aload_n hx hb dX12_letters_79 rfl (lv_at hl 2 rfl) ?_
                refine tk_getP (D := (dC, dI)) (ci := 12) (v := .ref a_3) (C := RX12) (T := TX12) (N := 56) hx hb hU inlX12 hown hK hP mo0 hfo_509 rfl 1 (by decide) (hU _ wd_170) (fun _ h9 => h9) rfl dX12_letters_80 ?_
                refine lv_iconst (v := 1) hx hb dX12_letters_83 (by decide) ?_
                refine lv_aload_n hx hb dX12_letters_84 rfl (lv_at hl 2 rfl) ?_
                refine tk_getP (D := (dC, dI)) (ci := 12) (v := .ref a_3) (C := RX12) (T := TX12) (N := 56) hx hb hU inlX12 hown hK hP mo0 hfo_509 rfl 1 (by decide) (hU _ wd_170) (fun _ h9 => h9) rfl dX12_letters_85 ?_
                refine lv_iconst (v := 0) hx hb dX12_letters_88 (by decide) ?_
                refine tk_ildP hx hb hK hP 0 ma_3 hfo_574 rfl (vp_in_nI (n := 0) (by decide) (by decide)) dX12_letters_89 ?_
                refine tk_topi (y := x_577) ex_577.symm ?_
                refine lv_iadd hx hb dX12_letters_90 ?_
                refine lv_topi (fun x_581 ex_581 => ?_)
                have hx_581 : x_581.toInt = 1 + x_577.toInt := by rw [ex_581, ad_I (by rw [ti_1]; omega) (by rw [ti_1]; omega), ti_1]
                have bx_581 : (1 ≤ x_581.toInt ∧ x_581.toInt ≤ 8) := by constructor <;> omega
                refine lv_iload_n hx hb dX12_letters_91 rfl (lv_at hl 0 rfl) ?_
                refine tk_istP hx hb hK hP hD hS 0 ma_3 hfo_574 rfl (vp_in_iff.mpr (by constructor <;> omega)) dX12_letters_92 (fun H locs hP hD hS => ?_)
                have hc9 := cl_I (i := x_581) (by omega)
                obtain ⟨g_582, eqg_582⟩ : ∃ y : Nat → Int32, y = upd g_575 (Int32.toNatClampNeg x_581) x_502 := ⟨_, rfl⟩
                rw [← eqg_582] at hP hD
                have hbg_582 : wOK g_582 := by rw [eqg_582]; exact ⟨hbg_575.1.up (fun h1 h2 h3 => by exfalso; omega), hbg_575.2.1.up (fun h1 h2 h3 => by exfalso; omega), hbg_575.2.2.1.up (fun h1 h2 h3 => by exfalso; omega), hbg_575.2.2.2.1.up (fun h1 h2 h3 => by exfalso; omega), hbg_575.2.2.2.2.1.up (fun h1 h2 h3 => by exfalso; omega), hbg_575.2.2.2.2.2.1.up (fun h1 h2 h3 => by exfalso; omega), hbg_575.2.2.2.2.2.2.1.up (fun h1 h2 h3 => by exfalso; omega), hbg_575.2.2.2.2.2.2.2.1.up (fun h1 h2 h3 => by exfalso; omega), hbg_575.2.2.2.2.2.2.2.2.1.up (fun h1 h2 h3 => by exfalso; omega), hbg_575.2.2.2.2.2.2.2.2.2.1.up (fun h1 h2 h3 => by exfalso; omega), hbg_575.2.2.2.2.2.2.2.2.2.2.1.up (fun h1 h2 h3 => by exfalso; omega), hbg_575.2.2.2.2.2.2.2.2.2.2.2.1.up (fun h1 h2 h3 => by exfalso; omega), hbg_575.2.2.2.2.2.2.2.2.2.2.2.2.1.up (fun h1 h2 h3 => by exfalso; omega), hbg_575.2.2.2.2.2.2.2.2.2.2.2.2.2.1.up (fun h1 h2 h3 => by exfalso; omega), hbg_575.2.2.2.2.2.2.2.2.2.2.2.2.2.2.1.up (fun h1 h2 h3 => by exfalso; omega), hbg_575.2.2.2.2.2.2.2.2.2.2.2.2.2.2.2.up (fun h1 h2 h3 => by exfalso; omega)⟩
                obtain ⟨f_584, ef_584⟩ : ∃ y : Nat → va_E, y = va_up f_503 a_3 (.inl (cI, 1560, .inl g_582)) := ⟨_, rfl⟩
                have hP : va_P (dC, dI) vwCl (va_pl L f_584) H := by rw [ef_584]; exact hP
                have hD : va_D (fun q => q ∈ L) (va_pl L f_584) := by rw [ef_584]; exact hD
                have hG : GI (okc cI cL cZ cR cG cH L kd) kd L f_584 := by rw [ef_584]; exact hG.set a_3 (mk_576 ka_3 ⟨_, rfl, hbg_582⟩)
                have hfo_585 : f_584 o0 = .inr (12, [.ref a_2, .ref a_3, .ref a_4, .int v_5, .ref a_6, .int v_7, .int v_516, .int v_517, .int v_518, .int v_519, .int v_520, .int v_13, .int v_14, .int v_15, .int v_16, .ref a_17, .ref a_18, .ref a_19, .ref a_20, .ref a_21, .ref a_22, .ref a_23, .ref a_24, .int v_25, .int v_534, .int v_27, .int v_536, .int v_29, .ref a_30, .int v_31, .ref a_32, .ref a_33, .int v_34, .int v_35, .ref a_36, .int v_37, .ref a_38, .ref a_39, .int v_40, .int v_549, .ref a_42, .ref a_43, .ref a_44, .int v_45, .ref a_46, .ref a_47, .ref a_48, .ref a_49, .ref a_50, .ref a_51, .ref a_52, .ref a_53, .ref a_54, .int v_55, .int v_564, .ref a_57]) := by rw [ef_584, up_ne (kd_ne ka_3 ko0 (by decide))]; exact hfo_509
                have hfr0 : ∀ b, kd b ≠ 12 → kd b ≠ 576 → f_584 b = f b := fun b q12 q576 => (congrFun ef_584 b).trans ((up_ne (fun e9 => q576 (by rw [e9]; exact ka_3))).trans (hfr0 b q12 q576))
                have hrA12 : ∀ b, kd b = 12 → ∀ j, fldR (f_584 b) j = fldR (f b) j := fun b kb j => (congrArg (fun x => fldR x j) ((congrFun ef_584 b).trans (up_ne (kd_ne ka_3 kb (by decide))))).trans (hrA12 b kb j)
                have hfA12 : ∀ b, kd b = 12 → ∀ j, j ≠ 6 → j ≠ 7 → j ≠ 8 → fldI (f_584 b) j = fldI (f b) j := fun b kb j n6 n7 n8 => (congrArg (fun x => fldI x j) ((congrFun ef_584 b).trans (up_ne (kd_ne ka_3 kb (by decide))))).trans (hfA12 b kb j n6 n7 n8)
                have hT0 : frel kd 576 8 f_584 a_3 := by rw [ef_584]; exact frel.mk ka_3 up_self (by rw [eqg_582]; exact (hT0.get hfo_574).up (hbg_575.2.1 16 (by decide) (by decide) (by decide)).2 (by omega) (by omega) (by omega) (fun h9 => by exfalso; omega))
                have hfo_586 : f_584 a_3 = .inl (cI, 1560, .inl g_582) := by rw [ef_584]; exact up_self
                have ql_587 : x_577 = g_582 (Int32.toNatClampNeg 0) := by rw [eqg_582, pk_un (by have hc8 : Int32.toNatClampNeg 0 = 0 := rfl; omega)]; exact ex_577
                have ql_588 : x_579 = g_582 (Int32.toNatClampNeg 16) := by rw [eqg_582, pk_un (by have hc8 : Int32.toNatClampNeg 16 = 16 := rfl; omega)]; exact ex_579
                have ql_589 : x_502 = g_582 (Int32.toNatClampNeg x_581) := by rw [eqg_582, pk_us]
                refine lv_aload_n hx hb dX12_letters_93 rfl (lv_at hl 2 rfl) ?_
                refine tk_getP (D := (dC, dI)) (ci := 12) (v := .ref a_3) (C := RX12) (T := TX12) (N := 56) hx hb hU inlX12 hown hK hP mo0 hfo_585 rfl 1 (by decide) (hU _ wd_170) (fun _ h9 => h9) rfl dX12_letters_94 ?_
                refine lv_iconst (v := 0) hx hb dX12_letters_97 (by decide) ?_
                refine lv_dup2_11 hx hb dX12_letters_98 rfl rfl ?_
                refine tk_ildP hx hb hK hP 0 ma_3 hfo_586 rfl (vp_in_nI (n := 0) (by decide) (by decide)) dX12_letters_99 ?_
                refine tk_topi (y := x_577) ql_587.symm ?_
                refine lv_iconst (v := 1) hx hb dX12_letters_100 (by decide) ?_
                refine lv_iadd hx hb dX12_letters_101 ?_
                refine lv_topi (fun x_590 ex_590 => ?_)
                have hx_590 : x_590.toInt = x_577.toInt + 1 := by rw [ex_590, ad_I (by rw [ti_1]; omega) (by rw [ti_1]; omega), ti_1]
                have bx_590 : (1 ≤ x_590.toInt ∧ x_590.toInt ≤ 8) := by constructor <;> omega
                refine tk_istP hx hb hK hP hD hS 0 ma_3 hfo_586 rfl (vp_in_nI (n := 0) (by decide) (by decide)) dX12_letters_102 (fun H locs hP hD hS => ?_)
                have hc9 : ((Int32.toNatClampNeg 0 : Nat) : Int) = 0 := by decide
                obtain ⟨g_591, eqg_591⟩ : ∃ y : Nat → Int32, y = upd g_582 (Int32.toNatClampNeg 0) x_590 := ⟨_, rfl⟩
                rw [← eqg_591] at hP hD
                have hbg_591 : wOK g_591 := by rw [eqg_591]; exact ⟨hbg_582.1.up (fun h1 h2 h3 => by constructor <;> omega), hbg_582.2.1.up (fun h1 h2 h3 => by exfalso; omega), hbg_582.2.2.1.up (fun h1 h2 h3 => by exfalso; omega), hbg_582.2.2.2.1.up (fun h1 h2 h3 => by exfalso; omega), hbg_582.2.2.2.2.1.up (fun h1 h2 h3 => by exfalso; omega), hbg_582.2.2.2.2.2.1.up (fun h1 h2 h3 => by exfalso; omega), hbg_582.2.2.2.2.2.2.1.up (fun h1 h2 h3 => by exfalso; omega), hbg_582.2.2.2.2.2.2.2.1.up (fun h1 h2 h3 => by exfalso; omega), hbg_582.2.2.2.2.2.2.2.2.1.up (fun h1 h2 h3 => by exfalso; omega), hbg_582.2.2.2.2.2.2.2.2.2.1.up (fun h1 h2 h3 => by exfalso; omega), hbg_582.2.2.2.2.2.2.2.2.2.2.1.up (fun h1 h2 h3 => by exfalso; omega), hbg_582.2.2.2.2.2.2.2.2.2.2.2.1.up (fun h1 h2 h3 => by exfalso; omega), hbg_582.2.2.2.2.2.2.2.2.2.2.2.2.1.up (fun h1 h2 h3 => by exfalso; omega), hbg_582.2.2.2.2.2.2.2.2.2.2.2.2.2.1.up (fun h1 h2 h3 => by exfalso; omega), hbg_582.2.2.2.2.2.2.2.2.2.2.2.2.2.2.1.up (fun h1 h2 h3 => by exfalso; omega), hbg_582.2.2.2.2.2.2.2.2.2.2.2.2.2.2.2.up (fun h1 h2 h3 => by exfalso; omega)⟩
                obtain ⟨f_593, ef_593⟩ : ∃ y : Nat → va_E, y = va_up f_584 a_3 (.inl (cI, 1560, .inl g_591)) := ⟨_, rfl⟩
                have hP : va_P (dC, dI) vwCl (va_pl L f_593) H := by rw [ef_593]; exact hP
                have hD : va_D (fun q => q ∈ L) (va_pl L f_593) := by rw [ef_593]; exact hD
                have hG : GI (okc cI cL cZ cR cG cH L kd) kd L f_593 := by rw [ef_593]; exact hG.set a_3 (mk_576 ka_3 ⟨_, rfl, hbg_591⟩)
                have hfo_594 : f_593 o0 = .inr (12, [.ref a_2, .ref a_3, .ref a_4, .int v_5, .ref a_6, .int v_7, .int v_516, .int v_517, .int v_518, .int v_519, .int v_520, .int v_13, .int v_14, .int v_15, .int v_16, .ref a_17, .ref a_18, .ref a_19, .ref a_20, .ref a_21, .ref a_22, .ref a_23, .ref a_24, .int v_25, .int v_534, .int v_27, .int v_536, .int v_29, .ref a_30, .int v_31, .ref a_32, .ref a_33, .int v_34, .int v_35, .ref a_36, .int v_37, .ref a_38, .ref a_39, .int v_40, .int v_549, .ref a_42, .ref a_43, .ref a_44, .int v_45, .ref a_46, .ref a_47, .ref a_48, .ref a_49, .ref a_50, .ref a_51, .ref a_52, .ref a_53, .ref a_54, .int v_55, .int v_564, .ref a_57]) := by rw [ef_593, up_ne (kd_ne ka_3 ko0 (by decide))]; exact hfo_585
                have hfr0 : ∀ b, kd b ≠ 12 → kd b ≠ 576 → f_593 b = f b := fun b q12 q576 => (congrFun ef_593 b).trans ((up_ne (fun e9 => q576 (by rw [e9]; exact ka_3))).trans (hfr0 b q12 q576))
                have hrA12 : ∀ b, kd b = 12 → ∀ j, fldR (f_593 b) j = fldR (f b) j := fun b kb j => (congrArg (fun x => fldR x j) ((congrFun ef_593 b).trans (up_ne (kd_ne ka_3 kb (by decide))))).trans (hrA12 b kb j)
                have hfA12 : ∀ b, kd b = 12 → ∀ j, j ≠ 6 → j ≠ 7 → j ≠ 8 → fldI (f_593 b) j = fldI (f b) j := fun b kb j n6 n7 n8 => (congrArg (fun x => fldI x j) ((congrFun ef_593 b).trans (up_ne (kd_ne ka_3 kb (by decide))))).trans (hfA12 b kb j n6 n7 n8)
                have hfo_595 : f_593 a_3 = .inl (cI, 1560, .inl g_591) := by rw [ef_593]; exact up_self
                have ql_596 : x_579 = g_591 (Int32.toNatClampNeg 16) := by rw [eqg_591, pk_un (by decide)]; exact ql_588
                have ql_597 : x_590 = g_591 (Int32.toNatClampNeg 0) := by rw [eqg_591, pk_us]
                refine lv_aload_n hx hb dX12_letters_103 rfl (lv_at hl 2 rfl) ?_
                refine tk_getP (D := (dC, dI)) (ci := 12) (v := .ref a_3) (C := RX12) (T := TX12) (N := 56) hx hb hU inlX12 hown hK hP mo0 hfo_594 rfl 1 (by decide) (hU _ wd_170) (fun _ h9 => h9) rfl dX12_letters_104 ?_
                refine lv_bipush (v := 20) hx hb dX12_letters_107 (by decide) ?_
                refine lv_aload_n hx hb dX12_letters_109 rfl (lv_at hl 2 rfl) ?_
                refine tk_getP (D := (dC, dI)) (ci := 12) (v := .ref a_3) (C := RX12) (T := TX12) (N := 56) hx hb hU inlX12 hown hK hP mo0 hfo_594 rfl 1 (by decide) (hU _ wd_170) (fun _ h9 => h9) rfl dX12_letters_110 ?_
                refine lv_bipush (v := 16) hx hb dX12_letters_113 (by decide) ?_
                refine tk_ildP hx hb hK hP 0 ma_3 hfo_595 rfl (vp_in_nI (n := 16) (by decide) (by decide)) dX12_letters_115 ?_
                refine tk_topi (y := x_579) ql_596.symm ?_
                refine lv_iadd hx hb dX12_letters_116 ?_
                refine lv_topi (fun x_598 ex_598 => ?_)
                have hx_598 : x_598.toInt = 20 + x_579.toInt := by rw [ex_598, ad_I (by rw [ti_20]; omega) (by rw [ti_20]; omega), ti_20]
                have bx_598 : (20 ≤ x_598.toInt ∧ x_598.toInt ≤ 39) := by constructor <;> omega
                refine lv_bipush (v := 10) hx hb dX12_letters_117 (by decide) ?_
                refine lv_aload_n hx hb dX12_letters_119 rfl (lv_at hl 2 rfl) ?_
                refine tk_getP (D := (dC, dI)) (ci := 12) (v := .ref a_3) (C := RX12) (T := TX12) (N := 56) hx hb hU inlX12 hown hK hP mo0 hfo_594 rfl 1 (by decide) (hU _ wd_170) (fun _ h9 => h9) rfl dX12_letters_120 ?_
                refine lv_iconst (v := 0) hx hb dX12_letters_123 (by decide) ?_
                refine tk_ildP hx hb hK hP 0 ma_3 hfo_595 rfl (vp_in_nI (n := 0) (by decide) (by decide)) dX12_letters_124 ?_
                refine tk_topi (y := x_590) ql_597.symm ?_
                refine lv_imul hx hb dX12_letters_125 ?_
                refine lv_topi (fun x_599 ex_599 => ?_)
                have hx_599 : x_599.toInt = 10 * x_590.toInt := by rw [ex_599, ml_I (by rw [ti_10]; omega) (by rw [ti_10]; omega), ti_10]
                have bx_599 : (10 ≤ x_599.toInt ∧ x_599.toInt ≤ 80) := by constructor <;> omega
                refine tk_istP hx hb hK hP hD hS 0 ma_3 hfo_595 rfl (vp_in_iff.mpr (by constructor <;> omega)) dX12_letters_126 (fun H locs hP hD hS => ?_)
                have hc9 := cl_I (i := x_598) (by omega)
                obtain ⟨g_600, eqg_600⟩ : ∃ y : Nat → Int32, y = upd g_591 (Int32.toNatClampNeg x_598) x_599 := ⟨_, rfl⟩
                rw [← eqg_600] at hP hD
                have hbg_600 : wOK g_600 := by rw [eqg_600]; exact ⟨hbg_591.1.up (fun h1 h2 h3 => by exfalso; omega), hbg_591.2.1.up (fun h1 h2 h3 => by exfalso; omega), hbg_591.2.2.1.up (fun h1 h2 h3 => by exfalso; omega), hbg_591.2.2.2.1.up (fun h1 h2 h3 => by exfalso; omega), hbg_591.2.2.2.2.1.up (fun h1 h2 h3 => by exfalso; omega), hbg_591.2.2.2.2.2.1.up (fun h1 h2 h3 => by constructor <;> omega), hbg_591.2.2.2.2.2.2.1.up (fun h1 h2 h3 => by exfalso; omega), hbg_591.2.2.2.2.2.2.2.1.up (fun h1 h2 h3 => by exfalso; omega), hbg_591.2.2.2.2.2.2.2.2.1.up (fun h1 h2 h3 => by exfalso; omega), hbg_591.2.2.2.2.2.2.2.2.2.1.up (fun h1 h2 h3 => by exfalso; omega), hbg_591.2.2.2.2.2.2.2.2.2.2.1.up (fun h1 h2 h3 => by exfalso; omega), hbg_591.2.2.2.2.2.2.2.2.2.2.2.1.up (fun h1 h2 h3 => by exfalso; omega), hbg_591.2.2.2.2.2.2.2.2.2.2.2.2.1.up (fun h1 h2 h3 => by exfalso; omega), hbg_591.2.2.2.2.2.2.2.2.2.2.2.2.2.1.up (fun h1 h2 h3 => by exfalso; omega), hbg_591.2.2.2.2.2.2.2.2.2.2.2.2.2.2.1.up (fun h1 h2 h3 => by exfalso; omega), hbg_591.2.2.2.2.2.2.2.2.2.2.2.2.2.2.2.up (fun h1 h2 h3 => by exfalso; omega)⟩
                obtain ⟨f_602, ef_602⟩ : ∃ y : Nat → va_E, y = va_up f_593 a_3 (.inl (cI, 1560, .inl g_600)) := ⟨_, rfl⟩
                have hP : va_P (dC, dI) vwCl (va_pl L f_602) H := by rw [ef_602]; exact hP
                have hD : va_D (fun q => q ∈ L) (va_pl L f_602) := by rw [ef_602]; exact hD
                have hG : GI (okc cI cL cZ cR cG cH L kd) kd L f_602 := by rw [ef_602]; exact hG.set a_3 (mk_576 ka_3 ⟨_, rfl, hbg_600⟩)
                have hfo_603 : f_602 o0 = .inr (12, [.ref a_2, .ref a_3, .ref a_4, .int v_5, .ref a_6, .int v_7, .int v_516, .int v_517, .int v_518, .int v_519, .int v_520, .int v_13, .int v_14, .int v_15, .int v_16, .ref a_17, .ref a_18, .ref a_19, .ref a_20, .ref a_21, .ref a_22, .ref a_23, .ref a_24, .int v_25, .int v_534, .int v_27, .int v_536, .int v_29, .ref a_30, .int v_31, .ref a_32, .ref a_33, .int v_34, .int v_35, .ref a_36, .int v_37, .ref a_38, .ref a_39, .int v_40, .int v_549, .ref a_42, .ref a_43, .ref a_44, .int v_45, .ref a_46, .ref a_47, .ref a_48, .ref a_49, .ref a_50, .ref a_51, .ref a_52, .ref a_53, .ref a_54, .int v_55, .int v_564, .ref a_57]) := by rw [ef_602, up_ne (kd_ne ka_3 ko0 (by decide))]; exact hfo_594
                have hfr0 : ∀ b, kd b ≠ 12 → kd b ≠ 576 → f_602 b = f b := fun b q12 q576 => (congrFun ef_602 b).trans ((up_ne (fun e9 => q576 (by rw [e9]; exact ka_3))).trans (hfr0 b q12 q576))
                have hrA12 : ∀ b, kd b = 12 → ∀ j, fldR (f_602 b) j = fldR (f b) j := fun b kb j => (congrArg (fun x => fldR x j) ((congrFun ef_602 b).trans (up_ne (kd_ne ka_3 kb (by decide))))).trans (hrA12 b kb j)
                have hfA12 : ∀ b, kd b = 12 → ∀ j, j ≠ 6 → j ≠ 7 → j ≠ 8 → fldI (f_602 b) j = fldI (f b) j := fun b kb j n6 n7 n8 => (congrArg (fun x => fldI x j) ((congrFun ef_602 b).trans (up_ne (kd_ne ka_3 kb (by decide))))).trans (hfA12 b kb j n6 n7 n8)
                have hfo_604 : f_602 a_3 = .inl (cI, 1560, .inl g_600) := by rw [ef_602]; exact up_self
                have ql_605 : x_579 = g_600 (Int32.toNatClampNeg 16) := by rw [eqg_600, pk_un (by have hc8 : Int32.toNatClampNeg 16 = 16 := rfl; omega)]; exact ql_596
                have ql_606 : x_590 = g_600 (Int32.toNatClampNeg 0) := by rw [eqg_600, pk_un (by have hc8 : Int32.toNatClampNeg 0 = 0 := rfl; omega)]; exact ql_597
                have ql_607 : x_599 = g_600 (Int32.toNatClampNeg x_598) := by rw [eqg_600, pk_us]
                refine lv_aload_n hx hb dX12_letters_127 rfl (lv_at hl 2 rfl) ?_
                refine tk_getP (D := (dC, dI)) (ci := 12) (v := .ref a_3) (C := RX12) (T := TX12) (N := 56) hx hb hU inlX12 hown hK hP mo0 hfo_603 rfl 1 (by decide) (hU _ wd_170) (fun _ h9 => h9) rfl dX12_letters_128 ?_
                refine lv_bipush (v := 16) hx hb dX12_letters_131 (by decide) ?_
                refine lv_dup2_11 hx hb dX12_letters_133 rfl rfl ?_
                refine tk_ildP hx hb hK hP 0 ma_3 hfo_604 rfl (vp_in_nI (n := 16) (by decide) (by decide)) dX12_letters_134 ?_
                refine tk_topi (y := x_579) ql_605.symm ?_
                refine lv_iconst (v := 1) hx hb dX12_letters_135 (by decide) ?_
                refine lv_iadd hx hb dX12_letters_136 ?_
                refine lv_topi (fun x_608 ex_608 => ?_)
                have hx_608 : x_608.toInt = x_579.toInt + 1 := by rw [ex_608, ad_I (by rw [ti_1]; omega) (by rw [ti_1]; omega), ti_1]
                have bx_608 : (1 ≤ x_608.toInt ∧ x_608.toInt ≤ 20) := by constructor <;> omega
                refine tk_istP hx hb hK hP hD hS 0 ma_3 hfo_604 rfl (vp_in_nI (n := 16) (by decide) (by decide)) dX12_letters_137 (fun H locs hP hD hS => ?_)
                have hc9 : ((Int32.toNatClampNeg 16 : Nat) : Int) = 16 := by decide
                obtain ⟨g_609, eqg_609⟩ : ∃ y : Nat → Int32, y = upd g_600 (Int32.toNatClampNeg 16) x_608 := ⟨_, rfl⟩
                rw [← eqg_609] at hP hD
                have hbg_609 : wOK g_609 := by rw [eqg_609]; exact ⟨hbg_600.1.up (fun h1 h2 h3 => by exfalso; omega), hbg_600.2.1.up (fun h1 h2 h3 => by constructor <;> omega), hbg_600.2.2.1.up (fun h1 h2 h3 => by exfalso; omega), hbg_600.2.2.2.1.up (fun h1 h2 h3 => by exfalso; omega), hbg_600.2.2.2.2.1.up (fun h1 h2 h3 => by exfalso; omega), hbg_600.2.2.2.2.2.1.up (fun h1 h2 h3 => by exfalso; omega), hbg_600.2.2.2.2.2.2.1.up (fun h1 h2 h3 => by exfalso; omega), hbg_600.2.2.2.2.2.2.2.1.up (fun h1 h2 h3 => by exfalso; omega), hbg_600.2.2.2.2.2.2.2.2.1.up (fun h1 h2 h3 => by exfalso; omega), hbg_600.2.2.2.2.2.2.2.2.2.1.up (fun h1 h2 h3 => by exfalso; omega), hbg_600.2.2.2.2.2.2.2.2.2.2.1.up (fun h1 h2 h3 => by exfalso; omega), hbg_600.2.2.2.2.2.2.2.2.2.2.2.1.up (fun h1 h2 h3 => by exfalso; omega), hbg_600.2.2.2.2.2.2.2.2.2.2.2.2.1.up (fun h1 h2 h3 => by exfalso; omega), hbg_600.2.2.2.2.2.2.2.2.2.2.2.2.2.1.up (fun h1 h2 h3 => by exfalso; omega), hbg_600.2.2.2.2.2.2.2.2.2.2.2.2.2.2.1.up (fun h1 h2 h3 => by exfalso; omega), hbg_600.2.2.2.2.2.2.2.2.2.2.2.2.2.2.2.up (fun h1 h2 h3 => by exfalso; omega)⟩
                obtain ⟨f_611, ef_611⟩ : ∃ y : Nat → va_E, y = va_up f_602 a_3 (.inl (cI, 1560, .inl g_609)) := ⟨_, rfl⟩
                have hP : va_P (dC, dI) vwCl (va_pl L f_611) H := by rw [ef_611]; exact hP
                have hD : va_D (fun q => q ∈ L) (va_pl L f_611) := by rw [ef_611]; exact hD
                have hG : GI (okc cI cL cZ cR cG cH L kd) kd L f_611 := by rw [ef_611]; exact hG.set a_3 (mk_576 ka_3 ⟨_, rfl, hbg_609⟩)
                have hfo_612 : f_611 o0 = .inr (12, [.ref a_2, .ref a_3, .ref a_4, .int v_5, .ref a_6, .int v_7, .int v_516, .int v_517, .int v_518, .int v_519, .int v_520, .int v_13, .int v_14, .int v_15, .int v_16, .ref a_17, .ref a_18, .ref a_19, .ref a_20, .ref a_21, .ref a_22, .ref a_23, .ref a_24, .int v_25, .int v_534, .int v_27, .int v_536, .int v_29, .ref a_30, .int v_31, .ref a_32, .ref a_33, .int v_34, .int v_35, .ref a_36, .int v_37, .ref a_38, .ref a_39, .int v_40, .int v_549, .ref a_42, .ref a_43, .ref a_44, .int v_45, .ref a_46, .ref a_47, .ref a_48, .ref a_49, .ref a_50, .ref a_51, .ref a_52, .ref a_53, .ref a_54, .int v_55, .int v_564, .ref a_57]) := by rw [ef_611, up_ne (kd_ne ka_3 ko0 (by decide))]; exact hfo_603
                have hfr0 : ∀ b, kd b ≠ 12 → kd b ≠ 576 → f_611 b = f b := fun b q12 q576 => (congrFun ef_611 b).trans ((up_ne (fun e9 => q576 (by rw [e9]; exact ka_3))).trans (hfr0 b q12 q576))
                have hrA12 : ∀ b, kd b = 12 → ∀ j, fldR (f_611 b) j = fldR (f b) j := fun b kb j => (congrArg (fun x => fldR x j) ((congrFun ef_611 b).trans (up_ne (kd_ne ka_3 kb (by decide))))).trans (hrA12 b kb j)
                have hfA12 : ∀ b, kd b = 12 → ∀ j, j ≠ 6 → j ≠ 7 → j ≠ 8 → fldI (f_611 b) j = fldI (f b) j := fun b kb j n6 n7 n8 => (congrArg (fun x => fldI x j) ((congrFun ef_611 b).trans (up_ne (kd_ne ka_3 kb (by decide))))).trans (hfA12 b kb j n6 n7 n8)
                have hfo_613 : f_611 a_3 = .inl (cI, 1560, .inl g_609) := by rw [ef_611]; exact up_self
                have ql_614 : x_590 = g_609 (Int32.toNatClampNeg 0) := by rw [eqg_609, pk_un (by decide)]; exact ql_606
                have ql_615 : x_608 = g_609 (Int32.toNatClampNeg 16) := by rw [eqg_609, pk_us]
                have hF4 : fOK 8 g_609 := by have hi1 := cl_I (i := x_581) (by omega); have hi3 := cl_I (i := x_598) (by omega); have hz16 : Int32.toNatClampNeg 16 = 16 := rfl; have hz0 : Int32.toNatClampNeg 0 = 0 := rfl; exact hF0.letter (by rw [eqg_609, pk_un (by omega), eqg_600, pk_un (by omega), eqg_591, hz0, pk_us]; omega) (by rw [eqg_609, hz16, pk_us]; omega) (by omega) (by constructor <;> omega) (fun k9 h9 => by rw [eqg_609, pk_un (by omega), eqg_600, show 20 + k9 = Int32.toNatClampNeg x_598 by omega, pk_us]; omega) (fun k9 h9 => by rw [eqg_609, pk_un (by omega), eqg_600, pk_un (by omega), eqg_591, pk_un (by omega), eqg_582, pk_un (by omega)]) (by rw [eqg_609, pk_un (by omega), eqg_600, pk_un (by omega), eqg_591, pk_un (by omega), eqg_582, pk_un (by omega)])
                have hTt_616 : frel kd 576 8 f_611 a_3 := frel.mk ka_3 hfo_613 hF4
                have hclc_617 : (0 ≤ v_516.toInt ∧ v_516.toInt ≤ 599) := by constructor <;> omega
                refine lv_aload_n hx hb dX12_letters_138 rfl (lv_at hl 2 rfl) ?_
                refine lv_dup hx hb dX12_letters_139 rfl ?_
                refine tk_getP (D := (dC, dI)) (ci := 12) (v := .int v_516) (C := RX12) (T := TX12) (N := 56) hx hb hU inlX12 hown hK hP mo0 hfo_612 rfl 6 (by decide) (hU _ wd_566) (fun _ h9 => h9) rfl dX12_letters_140 ?_
                refine lv_iconst (v := 1) hx hb dX12_letters_143 (by decide) ?_
                refine lv_iadd hx hb dX12_letters_144 ?_
                refine lv_topi (fun x_618 ex_618 => ?_)
                have hx_618 : x_618.toInt = v_516.toInt + 1 := by rw [ex_618, ad_I (by rw [ti_1]; omega) (by rw [ti_1]; omega), ti_1]
                have bx_618 : (1 ≤ x_618.toInt ∧ x_618.toInt ≤ 600) := by constructor <;> omega
                refine tk_putP (D := (dC, dI)) (ci := 12) (v := .int x_618) (ty := .int) (C := RX12) (T := TX12) (N := 56) hx hb hU inlX12 tyX12 tyX12_ok nmX12 hown hK hP hD hS mo0 hfo_612 rfl 6 (by decide) (hU _ wd_566) (fun _ h9 => h9) rfl (by decide +kernel) rfl rfl (Nat.le_of_ble_eq_true rfl) dX12_letters_145 (fun H locs hP hD hS => ?_)
                obtain ⟨f_620, ef_620⟩ : ∃ y : Nat → va_E, y = va_up f_611 o0 (.inr (12, [.ref a_2, .ref a_3, .ref a_4, .int v_5, .ref a_6, .int v_7, .int x_618, .int v_517, .int v_518, .int v_519, .int v_520, .int v_13, .int v_14, .int v_15, .int v_16, .ref a_17, .ref a_18, .ref a_19, .ref a_20, .ref a_21, .ref a_22, .ref a_23, .ref a_24, .int v_25, .int v_534, .int v_27, .int v_536, .int v_29, .ref a_30, .int v_31, .ref a_32, .ref a_33, .int v_34, .int v_35, .ref a_36, .int v_37, .ref a_38, .ref a_39, .int v_40, .int v_549, .ref a_42, .ref a_43, .ref a_44, .int v_45, .ref a_46, .ref a_47, .ref a_48, .ref a_49, .ref a_50, .ref a_51, .ref a_52, .ref a_53, .ref a_54, .int v_55, .int v_564, .ref a_57])) := ⟨_, rfl⟩
                have hP : va_P (dC, dI) vwCl (va_pl L f_620) H := by rw [ef_620]; exact hP
                have hD : va_D (fun q => q ∈ L) (va_pl L f_620) := by rw [ef_620]; exact hD
                have hG : GI (okc cI cL cZ cR cG cH L kd) kd L f_620 := by rw [ef_620]; exact hG.set o0 (mk_12 ko0 ⟨a_2, a_3, a_4, v_5, a_6, v_7, x_618, v_517, v_518, v_519, v_520, v_13, v_14, v_15, v_16, a_17, a_18, a_19, a_20, a_21, a_22, a_23, a_24, v_25, v_534, v_27, v_536, v_29, a_30, v_31, a_32, a_33, v_34, v_35, a_36, v_37, a_38, a_39, v_40, v_549, a_42, a_43, a_44, v_45, a_46, a_47, a_48, a_49, a_50, a_51, a_52, a_53, a_54, v_55, v_564, a_57, rfl, ⟨ma_2, ka_2⟩, ⟨ma_3, ka_3⟩, ⟨ma_4, ka_4⟩, (by constructor <;> omega), ⟨ma_6, ka_6⟩, (by constructor <;> omega), (by constructor <;> omega), (by constructor <;> omega), (by constructor <;> omega), (by constructor <;> omega), ⟨ma_17, ka_17⟩, ⟨ma_18, ka_18⟩, ⟨ma_19, ka_19⟩, ⟨ma_20, ka_20⟩, ⟨ma_21, ka_21⟩, ⟨ma_22, ka_22⟩, ⟨ma_23, ka_23⟩, ⟨ma_24, ka_24⟩, (by constructor <;> omega), (by constructor <;> omega), (by constructor <;> omega), ⟨ma_30, ka_30⟩, (by constructor <;> omega), ⟨ma_32, ka_32⟩, ⟨ma_33, ka_33⟩, (by constructor <;> omega), ⟨ma_36, ka_36⟩, (by constructor <;> omega), ⟨ma_38, ka_38⟩, ⟨ma_39, ka_39⟩, (by constructor <;> omega), ⟨ma_42, ka_42⟩, ⟨ma_43, ka_43⟩, ⟨ma_44, ka_44⟩, (by constructor <;> omega), ⟨ma_46, ka_46⟩, ⟨ma_47, ka_47⟩, ⟨ma_48, ka_48⟩, ⟨ma_49, ka_49⟩, ⟨ma_50, ka_50⟩, ⟨ma_51, ka_51⟩, ⟨ma_52, ka_52⟩, ⟨ma_53, ka_53⟩, ⟨ma_54, ka_54⟩, (by constructor <;> omega), ⟨ma_57, ka_57⟩⟩)
                have hfo_621 : f_620 a_3 = .inl (cI, 1560, .inl g_609) := by rw [ef_620, up_ne (kd_ne ko0 ka_3 (by decide))]; exact hfo_613
                have hfr0 : ∀ b, kd b ≠ 12 → kd b ≠ 576 → f_620 b = f b := fun b q12 q576 => (congrFun ef_620 b).trans ((up_ne (fun e9 => q12 (by rw [e9]; exact ko0))).trans (hfr0 b q12 q576))
                have hrA12 : ∀ b, kd b = 12 → ∀ j, fldR (f_620 b) j = fldR (f b) j := fun b kb j => ((congrArg (fun x => fldR x j) (congrFun ef_620 b)).trans (fra_up (fun j => by rw [hfo_612]; exact fr_set (k := 6) rfl rfl j) j b)).trans (hrA12 b kb j)
                have hfA12 : ∀ b, kd b = 12 → ∀ j, j ≠ 6 → j ≠ 7 → j ≠ 8 → fldI (f_620 b) j = fldI (f b) j := fun b kb j n6 n7 n8 => ((congrArg (fun x => fldI x j) (congrFun ef_620 b)).trans (fia_up (fun h9 => by rw [hfo_612]; exact fi_set (k := 6) rfl h9) n6 b)).trans (hfA12 b kb j n6 n7 n8)
                have hTt_616 : frel kd 576 8 f_620 a_3 := by rw [ef_620]; exact hTt_616.keep (fun b q => up_ne (kd_ne ko0 q (by decide)))
                have hfo_622 : f_620 o0 = .inr (12, [.ref a_2, .ref a_3, .ref a_4, .int v_5, .ref a_6, .int v_7, .int x_618, .int v_517, .int v_518, .int v_519, .int v_520, .int v_13, .int v_14, .int v_15, .int v_16, .ref a_17, .ref a_18, .ref a_19, .ref a_20, .ref a_21, .ref a_22, .ref a_23, .ref a_24, .int v_25, .int v_534, .int v_27, .int v_536, .int v_29, .ref a_30, .int v_31, .ref a_32, .ref a_33, .int v_34, .int v_35, .ref a_36, .int v_37, .ref a_38, .ref a_39, .int v_40, .int v_549, .ref a_42, .ref a_43, .ref a_44, .int v_45, .ref a_46, .ref a_47, .ref a_48, .ref a_49, .ref a_50, .ref a_51, .ref a_52, .ref a_53, .ref a_54, .int v_55, .int v_564, .ref a_57]) := by rw [ef_620]; exact up_self
                refine lv_iconst (v := 1) hx hb dX12_letters_148 (by decide) ?_
                refine lv_istore_n (lv' := [(1, .int 1), (2, .int x_502), (0, .ref o0)]) hx hb dX12_letters_149 rfl hl (by decide) rfl (fun ls hl => ?_)
                refine lv_goto (tgt := 2) hx hb dX12_letters_150 (by decide) ?_
                exact ih_hloop_63 1 (by decide) f_620 hG _ _ hP hS hD hfr0 hrA12 hfA12 hTt_616 x_618 (by rw [hfo_622]; rfl) (by (try rw [ti_1]) <;> omega) (by (try rw [ti_1]) <;> omega) (by (try rw [ti_1]) <;> omega) ls (lv_sub hl [0, 2] rfl)
              · skip
                rw [← Int32.toInt_inj, ti_8] at c_578
                refine lv_aload_n hx hb dX12_letters_69 rfl (lv_at hl 2 rfl) ?_
                refine lv_iconst (v := 3) hx hb dX12_letters_70 (by decide) ?_
                refine lv_aload_n hx hb dX12_letters_71 rfl (lv_at hl 2 rfl) ?_
                refine tk_getP (D := (dC, dI)) (ci := 12) (v := .int v_516) (C := RX12) (T := TX12) (N := 56) hx hb hU inlX12 hown hK hP mo0 hfo_509 rfl 6 (by decide) (hU _ wd_566) (fun _ h9 => h9) rfl dX12_letters_72 ?_
                refine tk_ViP (As := [.int 3, .int v_516]) (rest := []) (n := 2) hx hb hml hown hU hN hZ (s_X12_bad_k12 l (dC, dI) cI cL cZ cR cG cH Z kd L f_503 hG o0 mo0 ko0 3 v_516) wd_602 wd_603 wd_604 wd_5 wd_605 (by decide +kernel) ⟨Nat.le_of_ble_eq_true rfl, Nat.le_of_ble_eq_true rfl⟩ hK hP hD hS mo0 hfo_509 12 rfl rfl rfl hl.1 rfl (Nat.le_of_ble_eq_true rfl) dX12_letters_75 ⟨Nat.le_of_ble_eq_true rfl, Nat.le_of_ble_eq_true rfl⟩ (fun x_623 f_624 H locs hw hP hD hS => ?_)
                obtain ⟨hG, bx_623, hkc_625, hra_626, hfa_627⟩ := hw
                have hfo_629 : f_624 a_3 = .inl (cI, 1560, .inl g_575) := by rw [hkc_625 a_3 (by rw [ka_3]; decide)]; exact hfo_574
                have hfr0 : ∀ b, kd b ≠ 12 → kd b ≠ 576 → f_624 b = f b := fun b q12 q576 => (hkc_625 b q12).trans (hfr0 b q12 q576)
                have hrA12 : ∀ b, kd b = 12 → ∀ j, fldR (f_624 b) j = fldR (f b) j := fun b kb j => (hra_626 b kb j).trans (hrA12 b kb j)
                have hfA12 : ∀ b, kd b = 12 → ∀ j, j ≠ 6 → j ≠ 7 → j ≠ 8 → fldI (f_624 b) j = fldI (f b) j := fun b kb j n6 n7 n8 => (hfa_627 b kb j n7 n8).trans (hfA12 b kb j n6 n7 n8)
                have hT0 : frel kd 576 8 f_624 a_3 := hT0.keep (fun b q => hkc_625 b (by rw [q]; decide))
                obtain ⟨a_631, a_632, a_633, v_634, a_635, v_636, v_637, v_638, v_639, v_640, v_641, v_642, v_643, v_644, v_645, a_646, a_647, a_648, a_649, a_650, a_651, a_652, a_653, v_654, v_655, v_656, v_657, v_658, a_659, v_660, a_661, a_662, v_663, v_664, a_665, v_666, a_667, a_668, v_669, v_670, a_671, a_672, a_673, v_674, a_675, a_676, a_677, a_678, a_679, a_680, a_681, a_682, a_683, v_684, v_685, a_686, hfo_630, ⟨ma_631, ka_631⟩, ⟨ma_632, ka_632⟩, ⟨ma_633, ka_633⟩, bv_634, ⟨ma_635, ka_635⟩, bv_636, bv_637, bv_642, bv_643, bv_644, ⟨ma_646, ka_646⟩, ⟨ma_647, ka_647⟩, ⟨ma_648, ka_648⟩, ⟨ma_649, ka_649⟩, ⟨ma_650, ka_650⟩, ⟨ma_651, ka_651⟩, ⟨ma_652, ka_652⟩, ⟨ma_653, ka_653⟩, bv_654, bv_656, bv_658, ⟨ma_659, ka_659⟩, bv_660, ⟨ma_661, ka_661⟩, ⟨ma_662, ka_662⟩, bv_663, ⟨ma_665, ka_665⟩, bv_666, ⟨ma_667, ka_667⟩, ⟨ma_668, ka_668⟩, bv_669, ⟨ma_671, ka_671⟩, ⟨ma_672, ka_672⟩, ⟨ma_673, ka_673⟩, bv_674, ⟨ma_675, ka_675⟩, ⟨ma_676, ka_676⟩, ⟨ma_677, ka_677⟩, ⟨ma_678, ka_678⟩, ⟨ma_679, ka_679⟩, ⟨ma_680, ka_680⟩, ⟨ma_681, ka_681⟩, ⟨ma_682, ka_682⟩, ⟨ma_683, ka_683⟩, bv_684, ⟨ma_686, ka_686⟩⟩ := un_12 (hG _ mo0) ko0
                have bv_638 : ((-2147483648) ≤ v_638.toInt ∧ v_638.toInt ≤ 2147483647) := ⟨i32_lo _, i32_hi _⟩
                have bv_639 : ((-2147483648) ≤ v_639.toInt ∧ v_639.toInt ≤ 2147483647) := ⟨i32_lo _, i32_hi _⟩
                have bv_640 : ((-2147483648) ≤ v_640.toInt ∧ v_640.toInt ≤ 2147483647) := ⟨i32_lo _, i32_hi _⟩
                have bv_641 : ((-2147483648) ≤ v_641.toInt ∧ v_641.toInt ≤ 2147483647) := ⟨i32_lo _, i32_hi _⟩
                have bv_645 : ((-2147483648) ≤ v_645.toInt ∧ v_645.toInt ≤ 2147483647) := ⟨i32_lo _, i32_hi _⟩
                have bv_655 : ((-2147483648) ≤ v_655.toInt ∧ v_655.toInt ≤ 2147483647) := ⟨i32_lo _, i32_hi _⟩
                have bv_657 : ((-2147483648) ≤ v_657.toInt ∧ v_657.toInt ≤ 2147483647) := ⟨i32_lo _, i32_hi _⟩
                have bv_664 : ((-2147483648) ≤ v_664.toInt ∧ v_664.toInt ≤ 2147483647) := ⟨i32_lo _, i32_hi _⟩
                have bv_670 : ((-2147483648) ≤ v_670.toInt ∧ v_670.toInt ≤ 2147483647) := ⟨i32_lo _, i32_hi _⟩
                have bv_685 : ((-2147483648) ≤ v_685.toInt ∧ v_685.toInt ≤ 2147483647) := ⟨i32_lo _, i32_hi _⟩
                obtain ⟨rfl, rfl, rfl, rfl, rfl, rfl, rfl, rfl, rfl, rfl, rfl, rfl, rfl, rfl, rfl, rfl, rfl, rfl, rfl, rfl, rfl, rfl, rfl, rfl, rfl, rfl, rfl, rfl, rfl, rfl, rfl⟩ := re_12 hfo_1 hfo_630 (hrA12 o0 ko0)
                obtain rfl := ri_12_3 hfo_1 hfo_630 (hfA12 o0 ko0 3 (by decide) (by decide) (by decide))
                obtain rfl := ri_12_5 hfo_1 hfo_630 (hfA12 o0 ko0 5 (by decide) (by decide) (by decide))
                obtain rfl := ri_12_11 hfo_1 hfo_630 (hfA12 o0 ko0 11 (by decide) (by decide) (by decide))
                obtain rfl := ri_12_12 hfo_1 hfo_630 (hfA12 o0 ko0 12 (by decide) (by decide) (by decide))
                obtain rfl := ri_12_13 hfo_1 hfo_630 (hfA12 o0 ko0 13 (by decide) (by decide) (by decide))
                obtain rfl := ri_12_14 hfo_1 hfo_630 (hfA12 o0 ko0 14 (by decide) (by decide) (by decide))
                obtain rfl := ri_12_23 hfo_1 hfo_630 (hfA12 o0 ko0 23 (by decide) (by decide) (by decide))
                obtain rfl := ri_12_25 hfo_1 hfo_630 (hfA12 o0 ko0 25 (by decide) (by decide) (by decide))
                obtain rfl := ri_12_27 hfo_1 hfo_630 (hfA12 o0 ko0 27 (by decide) (by decide) (by decide))
                obtain rfl := ri_12_29 hfo_1 hfo_630 (hfA12 o0 ko0 29 (by decide) (by decide) (by decide))
                obtain rfl := ri_12_32 hfo_1 hfo_630 (hfA12 o0 ko0 32 (by decide) (by decide) (by decide))
                obtain rfl := ri_12_33 hfo_1 hfo_630 (hfA12 o0 ko0 33 (by decide) (by decide) (by decide))
                obtain rfl := ri_12_35 hfo_1 hfo_630 (hfA12 o0 ko0 35 (by decide) (by decide) (by decide))
                obtain rfl := ri_12_38 hfo_1 hfo_630 (hfA12 o0 ko0 38 (by decide) (by decide) (by decide))
                obtain rfl := ri_12_43 hfo_1 hfo_630 (hfA12 o0 ko0 43 (by decide) (by decide) (by decide))
                obtain rfl := ri_12_53 hfo_1 hfo_630 (hfA12 o0 ko0 53 (by decide) (by decide) (by decide))
                obtain rfl := ri_12_6 hfo_509 hfo_630 (hfa_627 o0 ko0 6 (by decide) (by decide))
                exact W.zret (v := x_623) (ty := .boolean) hx hb hr (zb_n (by constructor <;> omega)) (fun t ht hW => ⟨⟨x_623, f_624, rfl, ⟨hG, (by constructor <;> omega), hfr0, hrA12, hfA12, (by intro w6 z6 e6 d6; rw [hfo_1] at e6; rw [hfo_630] at d6; obtain rfl := Option.some.inj e6; obtain rfl := Option.some.inj d6; omega), (fun d9 h9 => by rw [hfo_630] at h9; obtain rfl := Option.some.inj h9; exact hT0)⟩, by rw [ht]; exact hP, va_K.moved hW.alike hK, pl_in hD⟩, hS.F ht⟩) hS.2.2 dX12_letters_78
            · skip
              rw [Int32.le_iff_toInt_le, ti_0] at c_576
              refine lv_aload_n hx hb dX12_letters_48 rfl (lv_at hl 2 rfl) ?_
              refine lv_iconst (v := 2) hx hb dX12_letters_49 (by decide) ?_
              refine lv_aload_n hx hb dX12_letters_50 rfl (lv_at hl 2 rfl) ?_
              refine tk_getP (D := (dC, dI)) (ci := 12) (v := .int v_516) (C := RX12) (T := TX12) (N := 56) hx hb hU inlX12 hown hK hP mo0 hfo_509 rfl 6 (by decide) (hU _ wd_566) (fun _ h9 => h9) rfl dX12_letters_51 ?_
              refine tk_ViP (As := [.int 2, .int v_516]) (rest := []) (n := 2) hx hb hml hown hU hN hZ (s_X12_bad_k12 l (dC, dI) cI cL cZ cR cG cH Z kd L f_503 hG o0 mo0 ko0 2 v_516) wd_602 wd_603 wd_604 wd_5 wd_605 (by decide +kernel) ⟨Nat.le_of_ble_eq_true rfl, Nat.le_of_ble_eq_true rfl⟩ hK hP hD hS mo0 hfo_509 12 rfl rfl rfl hl.1 rfl (Nat.le_of_ble_eq_true rfl) dX12_letters_54 ⟨Nat.le_of_ble_eq_true rfl, Nat.le_of_ble_eq_true rfl⟩ (fun x_687 f_688 H locs hw hP hD hS => ?_)
              obtain ⟨hG, bx_687, hkc_689, hra_690, hfa_691⟩ := hw
              have hfo_693 : f_688 a_3 = .inl (cI, 1560, .inl g_575) := by rw [hkc_689 a_3 (by rw [ka_3]; decide)]; exact hfo_574
              have hfr0 : ∀ b, kd b ≠ 12 → kd b ≠ 576 → f_688 b = f b := fun b q12 q576 => (hkc_689 b q12).trans (hfr0 b q12 q576)
              have hrA12 : ∀ b, kd b = 12 → ∀ j, fldR (f_688 b) j = fldR (f b) j := fun b kb j => (hra_690 b kb j).trans (hrA12 b kb j)
              have hfA12 : ∀ b, kd b = 12 → ∀ j, j ≠ 6 → j ≠ 7 → j ≠ 8 → fldI (f_688 b) j = fldI (f b) j := fun b kb j n6 n7 n8 => (hfa_691 b kb j n7 n8).trans (hfA12 b kb j n6 n7 n8)
              have hT0 : frel kd 576 8 f_688 a_3 := hT0.keep (fun b q => hkc_689 b (by rw [q]; decide))
              obtain ⟨a_695, a_696, a_697, v_698, a_699, v_700, v_701, v_702, v_703, v_704, v_705, v_706, v_707, v_708, v_709, a_710, a_711, a_712, a_713, a_714, a_715, a_716, a_717, v_718, v_719, v_720, v_721, v_722, a_723, v_724, a_725, a_726, v_727, v_728, a_729, v_730, a_731, a_732, v_733, v_734, a_735, a_736, a_737, v_738, a_739, a_740, a_741, a_742, a_743, a_744, a_745, a_746, a_747, v_748, v_749, a_750, hfo_694, ⟨ma_695, ka_695⟩, ⟨ma_696, ka_696⟩, ⟨ma_697, ka_697⟩, bv_698, ⟨ma_699, ka_699⟩, bv_700, bv_701, bv_706, bv_707, bv_708, ⟨ma_710, ka_710⟩, ⟨ma_711, ka_711⟩, ⟨ma_712, ka_712⟩, ⟨ma_713, ka_713⟩, ⟨ma_714, ka_714⟩, ⟨ma_715, ka_715⟩, ⟨ma_716, ka_716⟩, ⟨ma_717, ka_717⟩, bv_718, bv_720, bv_722, ⟨ma_723, ka_723⟩, bv_724, ⟨ma_725, ka_725⟩, ⟨ma_726, ka_726⟩, bv_727, ⟨ma_729, ka_729⟩, bv_730, ⟨ma_731, ka_731⟩, ⟨ma_732, ka_732⟩, bv_733, ⟨ma_735, ka_735⟩, ⟨ma_736, ka_736⟩, ⟨ma_737, ka_737⟩, bv_738, ⟨ma_739, ka_739⟩, ⟨ma_740, ka_740⟩, ⟨ma_741, ka_741⟩, ⟨ma_742, ka_742⟩, ⟨ma_743, ka_743⟩, ⟨ma_744, ka_744⟩, ⟨ma_745, ka_745⟩, ⟨ma_746, ka_746⟩, ⟨ma_747, ka_747⟩, bv_748, ⟨ma_750, ka_750⟩⟩ := un_12 (hG _ mo0) ko0
              have bv_702 : ((-2147483648) ≤ v_702.toInt ∧ v_702.toInt ≤ 2147483647) := ⟨i32_lo _, i32_hi _⟩
              have bv_703 : ((-2147483648) ≤ v_703.toInt ∧ v_703.toInt ≤ 2147483647) := ⟨i32_lo _, i32_hi _⟩
              have bv_704 : ((-2147483648) ≤ v_704.toInt ∧ v_704.toInt ≤ 2147483647) := ⟨i32_lo _, i32_hi _⟩
              have bv_705 : ((-2147483648) ≤ v_705.toInt ∧ v_705.toInt ≤ 2147483647) := ⟨i32_lo _, i32_hi _⟩
              have bv_709 : ((-2147483648) ≤ v_709.toInt ∧ v_709.toInt ≤ 2147483647) := ⟨i32_lo _, i32_hi _⟩
              have bv_719 : ((-2147483648) ≤ v_719.toInt ∧ v_719.toInt ≤ 2147483647) := ⟨i32_lo _, i32_hi _⟩
              have bv_721 : ((-2147483648) ≤ v_721.toInt ∧ v_721.toInt ≤ 2147483647) := ⟨i32_lo _, i32_hi _⟩
              have bv_728 : ((-2147483648) ≤ v_728.toInt ∧ v_728.toInt ≤ 2147483647) := ⟨i32_lo _, i32_hi _⟩
              have bv_734 : ((-2147483648) ≤ v_734.toInt ∧ v_734.toInt ≤ 2147483647) := ⟨i32_lo _, i32_hi _⟩
              have bv_749 : ((-2147483648) ≤ v_749.toInt ∧ v_749.toInt ≤ 2147483647) := ⟨i32_lo _, i32_hi _⟩
              obtain ⟨rfl, rfl, rfl, rfl, rfl, rfl, rfl, rfl, rfl, rfl, rfl, rfl, rfl, rfl, rfl, rfl, rfl, rfl, rfl, rfl, rfl, rfl, rfl, rfl, rfl, rfl, rfl, rfl, rfl, rfl, rfl⟩ := re_12 hfo_1 hfo_694 (hrA12 o0 ko0)
              obtain rfl := ri_12_3 hfo_1 hfo_694 (hfA12 o0 ko0 3 (by decide) (by decide) (by decide))
              obtain rfl := ri_12_5 hfo_1 hfo_694 (hfA12 o0 ko0 5 (by decide) (by decide) (by decide))
              obtain rfl := ri_12_11 hfo_1 hfo_694 (hfA12 o0 ko0 11 (by decide) (by decide) (by decide))
              obtain rfl := ri_12_12 hfo_1 hfo_694 (hfA12 o0 ko0 12 (by decide) (by decide) (by decide))
              obtain rfl := ri_12_13 hfo_1 hfo_694 (hfA12 o0 ko0 13 (by decide) (by decide) (by decide))
              obtain rfl := ri_12_14 hfo_1 hfo_694 (hfA12 o0 ko0 14 (by decide) (by decide) (by decide))
              obtain rfl := ri_12_23 hfo_1 hfo_694 (hfA12 o0 ko0 23 (by decide) (by decide) (by decide))
              obtain rfl := ri_12_25 hfo_1 hfo_694 (hfA12 o0 ko0 25 (by decide) (by decide) (by decide))
              obtain rfl := ri_12_27 hfo_1 hfo_694 (hfA12 o0 ko0 27 (by decide) (by decide) (by decide))
              obtain rfl := ri_12_29 hfo_1 hfo_694 (hfA12 o0 ko0 29 (by decide) (by decide) (by decide))
              obtain rfl := ri_12_32 hfo_1 hfo_694 (hfA12 o0 ko0 32 (by decide) (by decide) (by decide))
              obtain rfl := ri_12_33 hfo_1 hfo_694 (hfA12 o0 ko0 33 (by decide) (by decide) (by decide))
              obtain rfl := ri_12_35 hfo_1 hfo_694 (hfA12 o0 ko0 35 (by decide) (by decide) (by decide))
              obtain rfl := ri_12_38 hfo_1 hfo_694 (hfA12 o0 ko0 38 (by decide) (by decide) (by decide))
              obtain rfl := ri_12_43 hfo_1 hfo_694 (hfA12 o0 ko0 43 (by decide) (by decide) (by decide))
              obtain rfl := ri_12_53 hfo_1 hfo_694 (hfA12 o0 ko0 53 (by decide) (by decide) (by decide))
              obtain rfl := ri_12_6 hfo_509 hfo_694 (hfa_691 o0 ko0 6 (by decide) (by decide))
              exact W.zret (v := x_687) (ty := .boolean) hx hb hr (zb_n (by constructor <;> omega)) (fun t ht hW => ⟨⟨x_687, f_688, rfl, ⟨hG, (by constructor <;> omega), hfr0, hrA12, hfA12, (by intro w6 z6 e6 d6; rw [hfo_1] at e6; rw [hfo_694] at d6; obtain rfl := Option.some.inj e6; obtain rfl := Option.some.inj d6; omega), (fun d9 h9 => by rw [hfo_694] at h9; obtain rfl := Option.some.inj h9; exact hT0)⟩, by rw [ht]; exact hP, va_K.moved hW.alike hK, pl_in hD⟩, hS.F ht⟩) hS.2.2 dX12_letters_57
          · skip
            rw [← Int32.toInt_inj, ti_0] at c_569
            refine lv_aload_n hx hb dX12_letters_27 rfl (lv_at hl 2 rfl) ?_
            refine lv_iconst (v := 1) hx hb dX12_letters_28 (by decide) ?_
            refine lv_aload_n hx hb dX12_letters_29 rfl (lv_at hl 2 rfl) ?_
            refine tk_getP (D := (dC, dI)) (ci := 12) (v := .int v_516) (C := RX12) (T := TX12) (N := 56) hx hb hU inlX12 hown hK hP mo0 hfo_509 rfl 6 (by decide) (hU _ wd_566) (fun _ h9 => h9) rfl dX12_letters_30 ?_
            refine tk_ViP (As := [.int 1, .int v_516]) (rest := []) (n := 2) hx hb hml hown hU hN hZ (s_X12_bad_k12 l (dC, dI) cI cL cZ cR cG cH Z kd L f_503 hG o0 mo0 ko0 1 v_516) wd_602 wd_603 wd_604 wd_5 wd_605 (by decide +kernel) ⟨Nat.le_of_ble_eq_true rfl, Nat.le_of_ble_eq_true rfl⟩ hK hP hD hS mo0 hfo_509 12 rfl rfl rfl hl.1 rfl (Nat.le_of_ble_eq_true rfl) dX12_letters_33 ⟨Nat.le_of_ble_eq_true rfl, Nat.le_of_ble_eq_true rfl⟩ (fun x_751 f_752 H locs hw hP hD hS => ?_)
            obtain ⟨hG, bx_751, hkc_753, hra_754, hfa_755⟩ := hw
            have hfr0 : ∀ b, kd b ≠ 12 → kd b ≠ 576 → f_752 b = f b := fun b q12 q576 => (hkc_753 b q12).trans (hfr0 b q12 q576)
            have hrA12 : ∀ b, kd b = 12 → ∀ j, fldR (f_752 b) j = fldR (f b) j := fun b kb j => (hra_754 b kb j).trans (hrA12 b kb j)
            have hfA12 : ∀ b, kd b = 12 → ∀ j, j ≠ 6 → j ≠ 7 → j ≠ 8 → fldI (f_752 b) j = fldI (f b) j := fun b kb j n6 n7 n8 => (hfa_755 b kb j n7 n8).trans (hfA12 b kb j n6 n7 n8)
            have hT0 : frel kd 576 8 f_752 a_3 := hT0.keep (fun b q => hkc_753 b (by rw [q]; decide))
            obtain ⟨a_758, a_759, a_760, v_761, a_762, v_763, v_764, v_765, v_766, v_767, v_768, v_769, v_770, v_771, v_772, a_773, a_774, a_775, a_776, a_777, a_778, a_779, a_780, v_781, v_782, v_783, v_784, v_785, a_786, v_787, a_788, a_789, v_790, v_791, a_792, v_793, a_794, a_795, v_796, v_797, a_798, a_799, a_800, v_801, a_802, a_803, a_804, a_805, a_806, a_807, a_808, a_809, a_810, v_811, v_812, a_813, hfo_757, ⟨ma_758, ka_758⟩, ⟨ma_759, ka_759⟩, ⟨ma_760, ka_760⟩, bv_761, ⟨ma_762, ka_762⟩, bv_763, bv_764, bv_769, bv_770, bv_771, ⟨ma_773, ka_773⟩, ⟨ma_774, ka_774⟩, ⟨ma_775, ka_775⟩, ⟨ma_776, ka_776⟩, ⟨ma_777, ka_777⟩, ⟨ma_778, ka_778⟩, ⟨ma_779, ka_779⟩, ⟨ma_780, ka_780⟩, bv_781, bv_783, bv_785, ⟨ma_786, ka_786⟩, bv_787, ⟨ma_788, ka_788⟩, ⟨ma_789, ka_789⟩, bv_790, ⟨ma_792, ka_792⟩, bv_793, ⟨ma_794, ka_794⟩, ⟨ma_795, ka_795⟩, bv_796, ⟨ma_798, ka_798⟩, ⟨ma_799, ka_799⟩, ⟨ma_800, ka_800⟩, bv_801, ⟨ma_802, ka_802⟩, ⟨ma_803, ka_803⟩, ⟨ma_804, ka_804⟩, ⟨ma_805, ka_805⟩, ⟨ma_806, ka_806⟩, ⟨ma_807, ka_807⟩, ⟨ma_808, ka_808⟩, ⟨ma_809, ka_809⟩, ⟨ma_810, ka_810⟩, bv_811, ⟨ma_813, ka_813⟩⟩ := un_12 (hG _ mo0) ko0
            have bv_765 : ((-2147483648) ≤ v_765.toInt ∧ v_765.toInt ≤ 2147483647) := ⟨i32_lo _, i32_hi _⟩
            have bv_766 : ((-2147483648) ≤ v_766.toInt ∧ v_766.toInt ≤ 2147483647) := ⟨i32_lo _, i32_hi _⟩
            have bv_767 : ((-2147483648) ≤ v_767.toInt ∧ v_767.toInt ≤ 2147483647) := ⟨i32_lo _, i32_hi _⟩
            have bv_768 : ((-2147483648) ≤ v_768.toInt ∧ v_768.toInt ≤ 2147483647) := ⟨i32_lo _, i32_hi _⟩
            have bv_772 : ((-2147483648) ≤ v_772.toInt ∧ v_772.toInt ≤ 2147483647) := ⟨i32_lo _, i32_hi _⟩
            have bv_782 : ((-2147483648) ≤ v_782.toInt ∧ v_782.toInt ≤ 2147483647) := ⟨i32_lo _, i32_hi _⟩
            have bv_784 : ((-2147483648) ≤ v_784.toInt ∧ v_784.toInt ≤ 2147483647) := ⟨i32_lo _, i32_hi _⟩
            have bv_791 : ((-2147483648) ≤ v_791.toInt ∧ v_791.toInt ≤ 2147483647) := ⟨i32_lo _, i32_hi _⟩
            have bv_797 : ((-2147483648) ≤ v_797.toInt ∧ v_797.toInt ≤ 2147483647) := ⟨i32_lo _, i32_hi _⟩
            have bv_812 : ((-2147483648) ≤ v_812.toInt ∧ v_812.toInt ≤ 2147483647) := ⟨i32_lo _, i32_hi _⟩
            obtain ⟨rfl, rfl, rfl, rfl, rfl, rfl, rfl, rfl, rfl, rfl, rfl, rfl, rfl, rfl, rfl, rfl, rfl, rfl, rfl, rfl, rfl, rfl, rfl, rfl, rfl, rfl, rfl, rfl, rfl, rfl, rfl⟩ := re_12 hfo_1 hfo_757 (hrA12 o0 ko0)
            obtain rfl := ri_12_3 hfo_1 hfo_757 (hfA12 o0 ko0 3 (by decide) (by decide) (by decide))
            obtain rfl := ri_12_5 hfo_1 hfo_757 (hfA12 o0 ko0 5 (by decide) (by decide) (by decide))
            obtain rfl := ri_12_11 hfo_1 hfo_757 (hfA12 o0 ko0 11 (by decide) (by decide) (by decide))
            obtain rfl := ri_12_12 hfo_1 hfo_757 (hfA12 o0 ko0 12 (by decide) (by decide) (by decide))
            obtain rfl := ri_12_13 hfo_1 hfo_757 (hfA12 o0 ko0 13 (by decide) (by decide) (by decide))
            obtain rfl := ri_12_14 hfo_1 hfo_757 (hfA12 o0 ko0 14 (by decide) (by decide) (by decide))
            obtain rfl := ri_12_23 hfo_1 hfo_757 (hfA12 o0 ko0 23 (by decide) (by decide) (by decide))
            obtain rfl := ri_12_25 hfo_1 hfo_757 (hfA12 o0 ko0 25 (by decide) (by decide) (by decide))
            obtain rfl := ri_12_27 hfo_1 hfo_757 (hfA12 o0 ko0 27 (by decide) (by decide) (by decide))
            obtain rfl := ri_12_29 hfo_1 hfo_757 (hfA12 o0 ko0 29 (by decide) (by decide) (by decide))
            obtain rfl := ri_12_32 hfo_1 hfo_757 (hfA12 o0 ko0 32 (by decide) (by decide) (by decide))
            obtain rfl := ri_12_33 hfo_1 hfo_757 (hfA12 o0 ko0 33 (by decide) (by decide) (by decide))
            obtain rfl := ri_12_35 hfo_1 hfo_757 (hfA12 o0 ko0 35 (by decide) (by decide) (by decide))
            obtain rfl := ri_12_38 hfo_1 hfo_757 (hfA12 o0 ko0 38 (by decide) (by decide) (by decide))
            obtain rfl := ri_12_43 hfo_1 hfo_757 (hfA12 o0 ko0 43 (by decide) (by decide) (by decide))
            obtain rfl := ri_12_53 hfo_1 hfo_757 (hfA12 o0 ko0 53 (by decide) (by decide) (by decide))
            obtain rfl := ri_12_6 hfo_509 hfo_757 (hfa_755 o0 ko0 6 (by decide) (by decide))
            exact W.zret (v := x_751) (ty := .boolean) hx hb hr (zb_n (by constructor <;> omega)) (fun t ht hW => ⟨⟨x_751, f_752, rfl, ⟨hG, (by constructor <;> omega), hfr0, hrA12, hfA12, (by intro w6 z6 e6 d6; rw [hfo_1] at e6; rw [hfo_757] at d6; obtain rfl := Option.some.inj e6; obtain rfl := Option.some.inj d6; omega), (fun d9 h9 => by rw [hfo_757] at h9; obtain rfl := Option.some.inj h9; exact hT0)⟩, by rw [ht]; exact hP, va_K.moved hW.alike hK, pl_in hD⟩, hS.F ht⟩) hS.2.2 dX12_letters_36
  exact hloop_63 601 0 (by decide) f hG _ _ hP hS hD hfr0 hrA12 hfA12 hT0 v_8 (by rw [hfo_1]; rfl) (by (try rw [ti_0]) <;> omega) (by (try rw [ti_0]) <;> omega) (by (try rw [ti_0]) <;> omega) ls hl
