set_option maxHeartbeats 8000000 in
set_option maxRecDepth 100000 in
theorem s_X12_side_k12 (l : Launch) (D : va_G) (cI cL cZ cR cG cH : ClassId) (Z : zT) (kd : Nat → Nat) (L : List Nat) (f : Nat → va_E) (hG : GI (okc cI cL cZ cR cG cH L kd) kd L f) (o0 : Nat) (mo0 : o0 ∈ L) (ko0 : kd o0 = 12) (p1 : Int32) (bp1 : (0 ≤ p1.toInt ∧ p1.toInt ≤ 23)) (p2 : Int32) (bp2 : (0 ≤ p2.toInt ∧ p2.toInt ≤ 1)) (hxtr0 : ∀ d9, fldR (f o0) 1 = some d9 → frel kd 576 7 f d9) : mPI l D cI cL cZ cR cG cH Z yX12_side cX12_side 5 (some .boolean) 5 105 [.ref o0, .int p1, .int p2] L f (fun (r : Int32) (f9 : Nat → va_E) => GI (okc cI cL cZ cR cG cH L kd) kd L f9 ∧ (0 ≤ r.toInt ∧ r.toInt ≤ 1) ∧ (∀ b, kd b ≠ 12 → kd b ≠ 576 → f9 b = f b) ∧ (∀ b, kd b = 12 → ∀ j, fldR (f9 b) j = fldR (f b) j) ∧ (∀ b, kd b = 12 → ∀ j, j ≠ 6 → j ≠ 7 → j ≠ 8 → j ≠ 14 → fldI (f9 b) j = fldI (f b) j) ∧ (∀ (w6 z6 : Int32), fldI (f o0) 6 = some w6 → fldI (f9 o0) 6 = some z6 → w6.toInt ≤ z6.toInt) ∧ (∀ d9, fldR (f9 o0) 1 = some d9 → frel kd 576 7 f9 d9)) := by
  obtain ⟨dC, dI⟩ := D
  refine Met.ofW (cc := cX12_side) (maxL := 5) (ret := (some .boolean)) (by decide) rfl ?_
  intro p e s m args below meth c s₁ B hml hv
  obtain ⟨rfl, hP, hK, hD0, hN, hZ⟩ := hv
  have hx := B.exec
  have hb := B.bytes
  have hr := B.returns
  have hU : ∀ w ∈ wsU, w.before _ s = true := fun w h => atoms_spec (ws := wU yX12_side cX12_side 5 (some .boolean)) B.pre w (List.mem_cons_of_mem _ h)
  have hown : s.vm.findClass RX12 = some m.cls := findClass_of_methodNamed B.named
  have hlocks := B.notSynchronized
  have hD := pl_in hD0
  have hS : va_S (fun q => q ∈ L) s.heap s.heap [] := va_S.rf
  have hl := lv_entry ([.ref o0, .int p1, .int p2]) (n := 5) (Nat.le_of_ble_eq_true rfl)
  rw [lg_entry_eq]
  generalize (lg_sl ([.ref o0, .int p1, .int p2]) ++ List.replicate (5 - (lg_sl ([.ref o0, .int p1, .int p2])).length) Slot.unset).toArray = ls at hl ⊢
  have hl : lv_has ls 5 [(0, .ref o0), (1, .int p1), (2, .int p2)] := hl
  have hfr0 : ∀ b, kd b ≠ 12 → kd b ≠ 576 → f b = f b := fun _ _ _ => rfl
  have hrA12 : ∀ b, kd b = 12 → ∀ j, fldR (f b) j = fldR (f b) j := fun _ _ _ => rfl
  have hfA12 : ∀ b, kd b = 12 → ∀ j, j ≠ 6 → j ≠ 7 → j ≠ 8 → j ≠ 14 → fldI (f b) j = fldI (f b) j := fun _ _ _ _ _ _ _ => rfl
  obtain ⟨a_2, a_3, a_4, v_5, a_6, v_7, v_8, v_9, v_10, v_11, v_12, v_13, v_14, v_15, v_16, a_17, a_18, a_19, a_20, a_21, a_22, a_23, a_24, v_25, v_26, v_27, v_28, v_29, a_30, v_31, a_32, a_33, v_34, v_35, a_36, v_37, a_38, a_39, v_40, v_41, a_42, a_43, a_44, v_45, a_46, a_47, a_48, a_49, a_50, a_51, a_52, a_53, a_54, v_55, v_56, a_57, hfo_1, ⟨ma_2, ka_2⟩, ⟨ma_3, ka_3⟩, ⟨ma_4, ka_4⟩, bv_5, ⟨ma_6, ka_6⟩, bv_7, bv_8, bv_13, bv_14, bv_15, ⟨ma_17, ka_17⟩, ⟨ma_18, ka_18⟩, ⟨ma_19, ka_19⟩, ⟨ma_20, ka_20⟩, ⟨ma_21, ka_21⟩, ⟨ma_22, ka_22⟩, ⟨ma_23, ka_23⟩, ⟨ma_24, ka_24⟩, bv_25, bv_27, bv_29, ⟨ma_30, ka_30⟩, bv_31, ⟨ma_32, ka_32⟩, ⟨ma_33, ka_33⟩, bv_34, ⟨ma_36, ka_36⟩, bv_37, ⟨ma_38, ka_38⟩, ⟨ma_39, ka_39⟩, bv_40, ⟨ma_42, ka_42⟩, ⟨ma_43, ka_43⟩, ⟨ma_44, ka_44⟩, bv_45, ⟨ma_46, ka_46⟩, ⟨ma_47, ka_47⟩, ⟨ma_48, ka_48⟩, ⟨ma_49, ka_49⟩, ⟨ma_50, ka_50⟩, ⟨ma_51, ka_51⟩, ⟨ma_52, ka_52⟩, ⟨ma_53, ka_53⟩, ⟨ma_54, ka_54⟩, bv_55, ⟨ma_57, ka_57⟩⟩ := un_12 (hG _ mo0) ko0
  have bv_9 : ((-2147483648) ≤ v_9.toInt ∧ v_9.toInt ≤ 2147483647) := ⟨i32_lo _, i32_hi _⟩
  have bv_10 : ((-2147483648) ≤ v_10.toInt ∧ v_10.toInt ≤ 2147483647) := ⟨i32_lo _, i32_hi _⟩
  have bv_11 : ((-2147483648) ≤ v_11.toInt ∧ v_11.toInt ≤ 2147483647) := ⟨i32_lo _, i32_hi _⟩
  have bv_12 : ((-2147483648) ≤ v_12.toInt ∧ v_12.toInt ≤ 2147483647) := ⟨i32_lo _, i32_hi _⟩
  have bv_16 : ((-2147483648) ≤ v_16.toInt ∧ v_16.toInt ≤ 2147483647) := ⟨i32_lo _, i32_hi _⟩
  have bv_26 : ((-2147483648) ≤ v_26.toInt ∧ v_26.toInt ≤ 2147483647) := ⟨i32_lo _, i32_hi _⟩
  have bv_28 : ((-2147483648) ≤ v_28.toInt ∧ v_28.toInt ≤ 2147483647) := ⟨i32_lo _, i32_hi _⟩
  have bv_35 : ((-2147483648) ≤ v_35.toInt ∧ v_35.toInt ≤ 2147483647) := ⟨i32_lo _, i32_hi _⟩
  have bv_41 : ((-2147483648) ≤ v_41.toInt ∧ v_41.toInt ≤ 2147483647) := ⟨i32_lo _, i32_hi _⟩
  have bv_56 : ((-2147483648) ≤ v_56.toInt ∧ v_56.toInt ≤ 2147483647) := ⟨i32_lo _, i32_hi _⟩
  have hT0 := hxtr0 a_3 (by rw [hfo_1]; rfl)
  have hM : ∀ z9, fldI (f o0) 6 = some z9 → v_8.toInt ≤ z9.toInt := fun z9 h9 => by rw [hfo_1] at h9; obtain rfl := Option.some.inj h9; exact Int.le_refl _
  refine lv_iconst (v := 0) hx hb dX12_side_0 (by decide) ?_
  refine lv_istore_n (lv' := [(3, .int 0), (0, .ref o0), (1, .int p1), (2, .int p2)]) hx hb dX12_side_1 rfl hl (by decide) rfl (fun ls hl => ?_)
  have hloop_63 : ∀ (n : Nat), ∀ (y_64 : Int32), (0 ≤ y_64.toInt ∧ y_64.toInt ≤ 5) → ∀ (f_66 : Nat → va_E), GI (okc cI cL cZ cR cG cH L kd) kd L f_66 → ∀ (H : Heap) (locs : List Loc), va_P (dC, dI) vwCl (va_pl L f_66) H → va_S (fun q => q ∈ L) s.heap H locs → va_D (fun q => q ∈ L) (va_pl L f_66) → (∀ b, kd b ≠ 12 → kd b ≠ 576 → f_66 b = f b) → (∀ b, kd b = 12 → ∀ j, fldR (f_66 b) j = fldR (f b) j) → (∀ b, kd b = 12 → ∀ j, j ≠ 6 → j ≠ 7 → j ≠ 8 → j ≠ 14 → fldI (f_66 b) j = fldI (f b) j) → frel kd 576 7 f_66 a_3 → ∀ z9, fldI (f_66 o0) 6 = some z9 → v_8.toInt ≤ z9.toInt → 5 - y_64.toInt < (n : Int) → ∀ (ls : Array Slot), lv_has ls 5 [(3, .int y_64), (0, .ref o0), (1, .int p1), (2, .int p2)] → W p l e (headSpec (wU yX12_side cX12_side 5 (some .boolean)) { frames := 5, cells := 0, slots := 0, locals := 105 }).room s m [.ref o0, .int p1, .int p2].toArray below meth c H locs 0 0 (MQ below (va_Qi (fun (r : Int32) (f9 : Nat → va_E) => GI (okc cI cL cZ cR cG cH L kd) kd L f9 ∧ (0 ≤ r.toInt ∧ r.toInt ≤ 1) ∧ (∀ b, kd b ≠ 12 → kd b ≠ 576 → f9 b = f b) ∧ (∀ b, kd b = 12 → ∀ j, fldR (f9 b) j = fldR (f b) j) ∧ (∀ b, kd b = 12 → ∀ j, j ≠ 6 → j ≠ 7 → j ≠ 8 → j ≠ 14 → fldI (f9 b) j = fldI (f b) j) ∧ (∀ (w6 z6 : Int32), fldI (f o0) 6 = some w6 → fldI (f9 o0) 6 = some z6 → w6.toInt ≤ z6.toInt) ∧ (∀ d9, fldR (f9 o0) 1 = some d9 → frel kd 576 7 f9 d9)) (qP (dC, dI) cI cL cZ cR cG cH L) (fun q => q ∈ L)) [.ref o0, .int p1, .int p2].toArray s 0 0 (fun q => q ∈ L)) (F0 m 2 ls []) := by
    intro n
    induction n with
    | zero => intro y_64 by_64 f_66 hG H locs hP hS hD hfr0 hrA12 hfA12 hT0 hM hmuhloop_63 ls hl; exfalso; omega
    | succ n ih_hloop_63 =>
      intro y_64 by_64 f_66 hG H locs hP hS hD hfr0 hrA12 hfA12 hT0 hM hmuhloop_63 ls hl
      refine lv_aload_n hx hb dX12_side_2 rfl (lv_at hl 1 rfl) ?_
      obtain ⟨a_68, a_69, a_70, v_71, a_72, v_73, v_74, v_75, v_76, v_77, v_78, v_79, v_80, v_81, v_82, a_83, a_84, a_85, a_86, a_87, a_88, a_89, a_90, v_91, v_92, v_93, v_94, v_95, a_96, v_97, a_98, a_99, v_100, v_101, a_102, v_103, a_104, a_105, v_106, v_107, a_108, a_109, a_110, v_111, a_112, a_113, a_114, a_115, a_116, a_117, a_118, a_119, a_120, v_121, v_122, a_123, hfo_67, ⟨ma_68, ka_68⟩, ⟨ma_69, ka_69⟩, ⟨ma_70, ka_70⟩, bv_71, ⟨ma_72, ka_72⟩, bv_73, bv_74, bv_79, bv_80, bv_81, ⟨ma_83, ka_83⟩, ⟨ma_84, ka_84⟩, ⟨ma_85, ka_85⟩, ⟨ma_86, ka_86⟩, ⟨ma_87, ka_87⟩, ⟨ma_88, ka_88⟩, ⟨ma_89, ka_89⟩, ⟨ma_90, ka_90⟩, bv_91, bv_93, bv_95, ⟨ma_96, ka_96⟩, bv_97, ⟨ma_98, ka_98⟩, ⟨ma_99, ka_99⟩, bv_100, ⟨ma_102, ka_102⟩, bv_103, ⟨ma_104, ka_104⟩, ⟨ma_105, ka_105⟩, bv_106, ⟨ma_108, ka_108⟩, ⟨ma_109, ka_109⟩, ⟨ma_110, ka_110⟩, bv_111, ⟨ma_112, ka_112⟩, ⟨ma_113, ka_113⟩, ⟨ma_114, ka_114⟩, ⟨ma_115, ka_115⟩, ⟨ma_116, ka_116⟩, ⟨ma_117, ka_117⟩, ⟨ma_118, ka_118⟩, ⟨ma_119, ka_119⟩, ⟨ma_120, ka_120⟩, bv_121, ⟨ma_123, ka_123⟩⟩ := un_12 (hG _ mo0) ko0
      have bv_75 : ((-2147483648) ≤ v_75.toInt ∧ v_75.toInt ≤ 2147483647) := ⟨i32_lo _, i32_hi _⟩
      have bv_76 : ((-2147483648) ≤ v_76.toInt ∧ v_76.toInt ≤ 2147483647) := ⟨i32_lo _, i32_hi _⟩
      have bv_77 : ((-2147483648) ≤ v_77.toInt ∧ v_77.toInt ≤ 2147483647) := ⟨i32_lo _, i32_hi _⟩
      have bv_78 : ((-2147483648) ≤ v_78.toInt ∧ v_78.toInt ≤ 2147483647) := ⟨i32_lo _, i32_hi _⟩
      have bv_82 : ((-2147483648) ≤ v_82.toInt ∧ v_82.toInt ≤ 2147483647) := ⟨i32_lo _, i32_hi _⟩
      have bv_92 : ((-2147483648) ≤ v_92.toInt ∧ v_92.toInt ≤ 2147483647) := ⟨i32_lo _, i32_hi _⟩
      have bv_94 : ((-2147483648) ≤ v_94.toInt ∧ v_94.toInt ≤ 2147483647) := ⟨i32_lo _, i32_hi _⟩
      have bv_101 : ((-2147483648) ≤ v_101.toInt ∧ v_101.toInt ≤ 2147483647) := ⟨i32_lo _, i32_hi _⟩
      have bv_107 : ((-2147483648) ≤ v_107.toInt ∧ v_107.toInt ≤ 2147483647) := ⟨i32_lo _, i32_hi _⟩
      have bv_122 : ((-2147483648) ≤ v_122.toInt ∧ v_122.toInt ≤ 2147483647) := ⟨i32_lo _, i32_hi _⟩
      obtain ⟨rfl, rfl, rfl, rfl, rfl, rfl, rfl, rfl, rfl, rfl, rfl, rfl, rfl, rfl, rfl, rfl, rfl, rfl, rfl, rfl, rfl, rfl, rfl, rfl, rfl, rfl, rfl, rfl, rfl, rfl, rfl⟩ := re_12 hfo_1 hfo_67 (hrA12 o0 ko0)
      obtain rfl := ri_12_3 hfo_1 hfo_67 (hfA12 o0 ko0 3 (by decide) (by decide) (by decide) (by decide))
      obtain rfl := ri_12_5 hfo_1 hfo_67 (hfA12 o0 ko0 5 (by decide) (by decide) (by decide) (by decide))
      obtain rfl := ri_12_11 hfo_1 hfo_67 (hfA12 o0 ko0 11 (by decide) (by decide) (by decide) (by decide))
      obtain rfl := ri_12_12 hfo_1 hfo_67 (hfA12 o0 ko0 12 (by decide) (by decide) (by decide) (by decide))
      obtain rfl := ri_12_13 hfo_1 hfo_67 (hfA12 o0 ko0 13 (by decide) (by decide) (by decide) (by decide))
      obtain rfl := ri_12_23 hfo_1 hfo_67 (hfA12 o0 ko0 23 (by decide) (by decide) (by decide) (by decide))
      obtain rfl := ri_12_25 hfo_1 hfo_67 (hfA12 o0 ko0 25 (by decide) (by decide) (by decide) (by decide))
      obtain rfl := ri_12_27 hfo_1 hfo_67 (hfA12 o0 ko0 27 (by decide) (by decide) (by decide) (by decide))
      obtain rfl := ri_12_29 hfo_1 hfo_67 (hfA12 o0 ko0 29 (by decide) (by decide) (by decide) (by decide))
      obtain rfl := ri_12_32 hfo_1 hfo_67 (hfA12 o0 ko0 32 (by decide) (by decide) (by decide) (by decide))
      obtain rfl := ri_12_33 hfo_1 hfo_67 (hfA12 o0 ko0 33 (by decide) (by decide) (by decide) (by decide))
      obtain rfl := ri_12_35 hfo_1 hfo_67 (hfA12 o0 ko0 35 (by decide) (by decide) (by decide) (by decide))
      obtain rfl := ri_12_38 hfo_1 hfo_67 (hfA12 o0 ko0 38 (by decide) (by decide) (by decide) (by decide))
      obtain rfl := ri_12_43 hfo_1 hfo_67 (hfA12 o0 ko0 43 (by decide) (by decide) (by decide) (by decide))
      obtain rfl := ri_12_53 hfo_1 hfo_67 (hfA12 o0 ko0 53 (by decide) (by decide) (by decide) (by decide))
      refine tk_ViP (As := []) (rest := []) (n := 0) hx hb hml hown hU hN hZ (s_X12_sign_k12 l (dC, dI) cI cL cZ cR cG cH Z kd L f_66 hG o0 mo0 ko0) wd_573 wd_574 wd_575 wd_5 wd_576 (by decide +kernel) ⟨Nat.le_of_ble_eq_true rfl, Nat.le_of_ble_eq_true rfl⟩ hK hP hD hS mo0 hfo_67 12 rfl rfl rfl hl.1 rfl (Nat.le_of_ble_eq_true rfl) dX12_side_3 ⟨Nat.le_of_ble_eq_true rfl, Nat.le_of_ble_eq_true rfl⟩ (fun x_124 f_125 H locs hw hP hD hS => ?_)
      obtain ⟨hG, bx_124, hkc_126, hra_127, hfa_128, hpost_129⟩ := hw
      have hfr0 : ∀ b, kd b ≠ 12 → kd b ≠ 576 → f_125 b = f b := fun b q12 q576 => (hkc_126 b q12).trans (hfr0 b q12 q576)
      have hrA12 : ∀ b, kd b = 12 → ∀ j, fldR (f_125 b) j = fldR (f b) j := fun b kb j => (hra_127 b kb j).trans (hrA12 b kb j)
      have hfA12 : ∀ b, kd b = 12 → ∀ j, j ≠ 6 → j ≠ 7 → j ≠ 8 → j ≠ 14 → fldI (f_125 b) j = fldI (f b) j := fun b kb j n6 n7 n8 n14 => (hfa_128 b kb j n6).trans (hfA12 b kb j n6 n7 n8 n14)
      have hT0 : frel kd 576 7 f_125 a_3 := hT0.keep (fun b q => hkc_126 b (by rw [q]; decide))
      obtain ⟨a_132, a_133, a_134, v_135, a_136, v_137, v_138, v_139, v_140, v_141, v_142, v_143, v_144, v_145, v_146, a_147, a_148, a_149, a_150, a_151, a_152, a_153, a_154, v_155, v_156, v_157, v_158, v_159, a_160, v_161, a_162, a_163, v_164, v_165, a_166, v_167, a_168, a_169, v_170, v_171, a_172, a_173, a_174, v_175, a_176, a_177, a_178, a_179, a_180, a_181, a_182, a_183, a_184, v_185, v_186, a_187, hfo_131, ⟨ma_132, ka_132⟩, ⟨ma_133, ka_133⟩, ⟨ma_134, ka_134⟩, bv_135, ⟨ma_136, ka_136⟩, bv_137, bv_138, bv_143, bv_144, bv_145, ⟨ma_147, ka_147⟩, ⟨ma_148, ka_148⟩, ⟨ma_149, ka_149⟩, ⟨ma_150, ka_150⟩, ⟨ma_151, ka_151⟩, ⟨ma_152, ka_152⟩, ⟨ma_153, ka_153⟩, ⟨ma_154, ka_154⟩, bv_155, bv_157, bv_159, ⟨ma_160, ka_160⟩, bv_161, ⟨ma_162, ka_162⟩, ⟨ma_163, ka_163⟩, bv_164, ⟨ma_166, ka_166⟩, bv_167, ⟨ma_168, ka_168⟩, ⟨ma_169, ka_169⟩, bv_170, ⟨ma_172, ka_172⟩, ⟨ma_173, ka_173⟩, ⟨ma_174, ka_174⟩, bv_175, ⟨ma_176, ka_176⟩, ⟨ma_177, ka_177⟩, ⟨ma_178, ka_178⟩, ⟨ma_179, ka_179⟩, ⟨ma_180, ka_180⟩, ⟨ma_181, ka_181⟩, ⟨ma_182, ka_182⟩, ⟨ma_183, ka_183⟩, ⟨ma_184, ka_184⟩, bv_185, ⟨ma_187, ka_187⟩⟩ := un_12 (hG _ mo0) ko0
      have bv_139 : ((-2147483648) ≤ v_139.toInt ∧ v_139.toInt ≤ 2147483647) := ⟨i32_lo _, i32_hi _⟩
      have bv_140 : ((-2147483648) ≤ v_140.toInt ∧ v_140.toInt ≤ 2147483647) := ⟨i32_lo _, i32_hi _⟩
      have bv_141 : ((-2147483648) ≤ v_141.toInt ∧ v_141.toInt ≤ 2147483647) := ⟨i32_lo _, i32_hi _⟩
      have bv_142 : ((-2147483648) ≤ v_142.toInt ∧ v_142.toInt ≤ 2147483647) := ⟨i32_lo _, i32_hi _⟩
      have bv_146 : ((-2147483648) ≤ v_146.toInt ∧ v_146.toInt ≤ 2147483647) := ⟨i32_lo _, i32_hi _⟩
      have bv_156 : ((-2147483648) ≤ v_156.toInt ∧ v_156.toInt ≤ 2147483647) := ⟨i32_lo _, i32_hi _⟩
      have bv_158 : ((-2147483648) ≤ v_158.toInt ∧ v_158.toInt ≤ 2147483647) := ⟨i32_lo _, i32_hi _⟩
      have bv_165 : ((-2147483648) ≤ v_165.toInt ∧ v_165.toInt ≤ 2147483647) := ⟨i32_lo _, i32_hi _⟩
      have bv_171 : ((-2147483648) ≤ v_171.toInt ∧ v_171.toInt ≤ 2147483647) := ⟨i32_lo _, i32_hi _⟩
      have bv_186 : ((-2147483648) ≤ v_186.toInt ∧ v_186.toInt ≤ 2147483647) := ⟨i32_lo _, i32_hi _⟩
      obtain ⟨rfl, rfl, rfl, rfl, rfl, rfl, rfl, rfl, rfl, rfl, rfl, rfl, rfl, rfl, rfl, rfl, rfl, rfl, rfl, rfl, rfl, rfl, rfl, rfl, rfl, rfl, rfl, rfl, rfl, rfl, rfl⟩ := re_12 hfo_1 hfo_131 (hrA12 o0 ko0)
      obtain rfl := ri_12_3 hfo_1 hfo_131 (hfA12 o0 ko0 3 (by decide) (by decide) (by decide) (by decide))
      obtain rfl := ri_12_5 hfo_1 hfo_131 (hfA12 o0 ko0 5 (by decide) (by decide) (by decide) (by decide))
      obtain rfl := ri_12_11 hfo_1 hfo_131 (hfA12 o0 ko0 11 (by decide) (by decide) (by decide) (by decide))
      obtain rfl := ri_12_12 hfo_1 hfo_131 (hfA12 o0 ko0 12 (by decide) (by decide) (by decide) (by decide))
      obtain rfl := ri_12_13 hfo_1 hfo_131 (hfA12 o0 ko0 13 (by decide) (by decide) (by decide) (by decide))
      obtain rfl := ri_12_23 hfo_1 hfo_131 (hfA12 o0 ko0 23 (by decide) (by decide) (by decide) (by decide))
      obtain rfl := ri_12_25 hfo_1 hfo_131 (hfA12 o0 ko0 25 (by decide) (by decide) (by decide) (by decide))
      obtain rfl := ri_12_27 hfo_1 hfo_131 (hfA12 o0 ko0 27 (by decide) (by decide) (by decide) (by decide))
      obtain rfl := ri_12_29 hfo_1 hfo_131 (hfA12 o0 ko0 29 (by decide) (by decide) (by decide) (by decide))
      obtain rfl := ri_12_32 hfo_1 hfo_131 (hfA12 o0 ko0 32 (by decide) (by decide) (by decide) (by decide))
      obtain rfl := ri_12_33 hfo_1 hfo_131 (hfA12 o0 ko0 33 (by decide) (by decide) (by decide) (by decide))
      obtain rfl := ri_12_35 hfo_1 hfo_131 (hfA12 o0 ko0 35 (by decide) (by decide) (by decide) (by decide))
      obtain rfl := ri_12_38 hfo_1 hfo_131 (hfA12 o0 ko0 38 (by decide) (by decide) (by decide) (by decide))
      obtain rfl := ri_12_43 hfo_1 hfo_131 (hfA12 o0 ko0 43 (by decide) (by decide) (by decide) (by decide))
      obtain rfl := ri_12_53 hfo_1 hfo_131 (hfA12 o0 ko0 53 (by decide) (by decide) (by decide) (by decide))
      obtain rfl := ri_12_14 hfo_67 hfo_131 (hfa_128 o0 ko0 14 (by decide))
      have hqhpost_129 := hpost_129 v_74 v_138 (by rw [hfo_67]; rfl) (by rw [hfo_131]; rfl)
      have hMm_188 : ∀ z9, fldI (f_125 o0) 6 = some z9 → v_8.toInt ≤ z9.toInt := fun z9 h9 => by rw [hfo_131] at h9; obtain rfl := Option.some.inj h9; have h8 := hM v_74 (by rw [hfo_67]; rfl); omega
      refine tk_SiP (As := [.int x_124]) (rest := []) (n := 1) hx hb hml hown hU hN hZ (s_X12_isX l (dC, dI) cI cL cZ cR cG cH Z kd L f_125 hG x_124) wd_647 wd_648 wd_5 wd_649 (by decide +kernel) ⟨Nat.le_of_ble_eq_true rfl, Nat.le_of_ble_eq_true rfl⟩ hK hP hD hS rfl hl.1 rfl (Nat.le_of_ble_eq_true rfl) dX12_side_6 ⟨Nat.le_of_ble_eq_true rfl, Nat.le_of_ble_eq_true rfl⟩ (fun x_189 f_190 H locs hw hP hD hS => ?_)
      obtain ⟨rfl, bx_189⟩ := hw
      refine lv_if_eq (tgt := 77) hx hb dX12_side_9 (by decide) (fun c_192 => ?_) (fun c_192 => ?_)
      · skip
        rw [← Int32.toInt_inj, ti_0] at c_192
        refine lv_aload_n hx hb dX12_side_77 rfl (lv_at hl 1 rfl) ?_
        refine tk_getP (D := (dC, dI)) (ci := 12) (v := .ref a_3) (C := RX12) (T := TX12) (N := 56) hx hb hU inlX12 hown hK hP mo0 hfo_131 rfl 1 (by decide) (hU _ wd_170) (fun _ h9 => h9) rfl dX12_side_78 ?_
        refine lv_sipush (v := 500) hx hb dX12_side_81 (by decide) ?_
        refine lv_iconst (v := 4) hx hb dX12_side_84 (by decide) ?_
        refine lv_iload_n hx hb dX12_side_85 rfl (lv_at hl 2 rfl) ?_
        refine lv_imul hx hb dX12_side_86 ?_
        refine lv_topi (fun x_193 ex_193 => ?_)
        have hx_193 : x_193.toInt = 4 * p1.toInt := by rw [ex_193, ml_I (by rw [ti_4]; omega) (by rw [ti_4]; omega), ti_4]
        have bx_193 : (0 ≤ x_193.toInt ∧ x_193.toInt ≤ 92) := by constructor <;> omega
        refine lv_iadd hx hb dX12_side_87 ?_
        refine lv_topi (fun x_194 ex_194 => ?_)
        have hx_194 : x_194.toInt = 500 + x_193.toInt := by rw [ex_194, ad_I (by rw [ti_500]; omega) (by rw [ti_500]; omega), ti_500]
        have bx_194 : (500 ≤ x_194.toInt ∧ x_194.toInt ≤ 592) := by constructor <;> omega
        refine lv_iconst (v := 2) hx hb dX12_side_88 (by decide) ?_
        refine lv_iadd hx hb dX12_side_89 ?_
        refine lv_topi (fun x_195 ex_195 => ?_)
        have hx_195 : x_195.toInt = x_194.toInt + 2 := by rw [ex_195, ad_I (by rw [ti_2]; omega) (by rw [ti_2]; omega), ti_2]
        have bx_195 : (502 ≤ x_195.toInt ∧ x_195.toInt ≤ 594) := by constructor <;> omega
        refine lv_iload_n hx hb dX12_side_90 rfl (lv_at hl 3 rfl) ?_
        refine lv_iadd hx hb dX12_side_91 ?_
        refine lv_topi (fun x_196 ex_196 => ?_)
        have hx_196 : x_196.toInt = x_195.toInt + p2.toInt := by rw [ex_196, ad_I (by omega) (by omega)]
        have bx_196 : (502 ≤ x_196.toInt ∧ x_196.toInt ≤ 595) := by constructor <;> omega
        refine lv_iload_n hx hb dX12_side_92 rfl (lv_at hl 0 rfl) ?_
        obtain ⟨g_198, hfo_197, hbg_198⟩ := un_576 (hG _ ma_3) ka_3
        refine tk_istP hx hb hK hP hD hS 0 ma_3 hfo_197 rfl (vp_in_iff.mpr (by constructor <;> omega)) dX12_side_93 (fun H locs hP hD hS => ?_)
        have hc9 := cl_I (i := x_196) (by omega)
        obtain ⟨g_199, eqg_199⟩ : ∃ y : Nat → Int32, y = upd g_198 (Int32.toNatClampNeg x_196) y_64 := ⟨_, rfl⟩
        rw [← eqg_199] at hP hD
        have hbg_199 : wOK g_199 := by rw [eqg_199]; exact ⟨hbg_198.1.up (fun h1 h2 h3 => by exfalso; omega), hbg_198.2.1.up (fun h1 h2 h3 => by exfalso; omega), hbg_198.2.2.1.up (fun h1 h2 h3 => by exfalso; omega), hbg_198.2.2.2.1.up (fun h1 h2 h3 => by exfalso; omega), hbg_198.2.2.2.2.1.up (fun h1 h2 h3 => by exfalso; omega), hbg_198.2.2.2.2.2.1.up (fun h1 h2 h3 => by exfalso; omega), hbg_198.2.2.2.2.2.2.1.up (fun h1 h2 h3 => by exfalso; omega), hbg_198.2.2.2.2.2.2.2.1.up (fun h1 h2 h3 => by exfalso; omega), hbg_198.2.2.2.2.2.2.2.2.1.up (fun h1 h2 h3 => by exfalso; omega), hbg_198.2.2.2.2.2.2.2.2.2.1.up (fun h1 h2 h3 => by exfalso; omega), hbg_198.2.2.2.2.2.2.2.2.2.2.1.up (fun h1 h2 h3 => by exfalso; omega), hbg_198.2.2.2.2.2.2.2.2.2.2.2.1.up (fun h1 h2 h3 => by exfalso; omega), hbg_198.2.2.2.2.2.2.2.2.2.2.2.2.1.up (fun h1 h2 h3 => by exfalso; omega), hbg_198.2.2.2.2.2.2.2.2.2.2.2.2.2.1.up (fun h1 h2 h3 => by exfalso; omega), hbg_198.2.2.2.2.2.2.2.2.2.2.2.2.2.2.1.up (fun h1 h2 h3 => by exfalso; omega), hbg_198.2.2.2.2.2.2.2.2.2.2.2.2.2.2.2.up (fun h1 h2 h3 => by constructor <;> omega)⟩
        obtain ⟨f_201, ef_201⟩ : ∃ y : Nat → va_E, y = va_up f_125 a_3 (.inl (cI, 1560, .inl g_199)) := ⟨_, rfl⟩
        have hP : va_P (dC, dI) vwCl (va_pl L f_201) H := by rw [ef_201]; exact hP
        have hD : va_D (fun q => q ∈ L) (va_pl L f_201) := by rw [ef_201]; exact hD
        have hG : GI (okc cI cL cZ cR cG cH L kd) kd L f_201 := by rw [ef_201]; exact hG.set a_3 (mk_576 ka_3 ⟨_, rfl, hbg_199⟩)
        have hfo_202 : f_201 o0 = .inr (12, [.ref a_2, .ref a_3, .ref a_4, .int v_5, .ref a_6, .int v_7, .int v_138, .int v_139, .int v_140, .int v_141, .int v_142, .int v_13, .int v_14, .int v_15, .int v_82, .ref a_17, .ref a_18, .ref a_19, .ref a_20, .ref a_21, .ref a_22, .ref a_23, .ref a_24, .int v_25, .int v_156, .int v_27, .int v_158, .int v_29, .ref a_30, .int v_31, .ref a_32, .ref a_33, .int v_34, .int v_35, .ref a_36, .int v_37, .ref a_38, .ref a_39, .int v_40, .int v_171, .ref a_42, .ref a_43, .ref a_44, .int v_45, .ref a_46, .ref a_47, .ref a_48, .ref a_49, .ref a_50, .ref a_51, .ref a_52, .ref a_53, .ref a_54, .int v_55, .int v_186, .ref a_57]) := by rw [ef_201, up_ne (kd_ne ka_3 ko0 (by decide))]; exact hfo_131
        have hfr0 : ∀ b, kd b ≠ 12 → kd b ≠ 576 → f_201 b = f b := fun b q12 q576 => (congrFun ef_201 b).trans ((up_ne (fun e9 => q576 (by rw [e9]; exact ka_3))).trans (hfr0 b q12 q576))
        have hrA12 : ∀ b, kd b = 12 → ∀ j, fldR (f_201 b) j = fldR (f b) j := fun b kb j => (congrArg (fun x => fldR x j) ((congrFun ef_201 b).trans (up_ne (kd_ne ka_3 kb (by decide))))).trans (hrA12 b kb j)
        have hfA12 : ∀ b, kd b = 12 → ∀ j, j ≠ 6 → j ≠ 7 → j ≠ 8 → j ≠ 14 → fldI (f_201 b) j = fldI (f b) j := fun b kb j n6 n7 n8 n14 => (congrArg (fun x => fldI x j) ((congrFun ef_201 b).trans (up_ne (kd_ne ka_3 kb (by decide))))).trans (hfA12 b kb j n6 n7 n8 n14)
        have hT0 : frel kd 576 7 f_201 a_3 := by rw [ef_201]; exact frel.mk ka_3 up_self (by rw [eqg_199]; exact (hT0.get hfo_197).up (hbg_198.2.1 16 (by decide) (by decide) (by decide)).2 (by omega) (by omega) (by omega) (fun h9 => by exfalso; omega))
        have hMm_188 : ∀ z9, fldI (f_201 o0) 6 = some z9 → v_8.toInt ≤ z9.toInt := by rw [ef_201]; exact (fun z9 h9 => hMm_188 z9 (by rw [up_ne (kd_ne ka_3 ko0 (by decide))] at h9; exact h9))
        have hfo_203 : f_201 a_3 = .inl (cI, 1560, .inl g_199) := by rw [ef_201]; exact up_self
        have ql_204 : y_64 = g_199 (Int32.toNatClampNeg x_196) := by rw [eqg_199, pk_us]
        refine lv_iconst (v := 1) hx hb dX12_side_94 (by decide) ?_
        have hM9 := hMm_188 v_138 (by rw [hfo_202]; rfl)
        exact W.zret (v := 1) (ty := .boolean) hx hb hr rfl (fun t ht hW => ⟨⟨1, f_201, rfl, ⟨hG, (by decide), hfr0, hrA12, hfA12, (by intro w6 z6 e6 d6; rw [hfo_1] at e6; rw [hfo_202] at d6; obtain rfl := Option.some.inj e6; obtain rfl := Option.some.inj d6; (try rw [ti_1]) <;> omega), (fun d9 h9 => by rw [hfo_202] at h9; obtain rfl := Option.some.inj h9; exact hT0)⟩, by rw [ht]; exact hP, va_K.moved hW.alike hK, pl_in hD⟩, hS.F ht⟩) hS.2.2 dX12_side_95
      · skip
        rw [← Int32.toInt_inj, ti_0] at c_192
        refine lv_iload_n hx hb dX12_side_12 rfl (lv_at hl 0 rfl) ?_
        refine lv_iconst (v := 5) hx hb dX12_side_13 (by decide) ?_
        refine lv_icmp_ne (tgt := 46) hx hb dX12_side_14 (by decide) (fun c_205 => ?_) (fun c_205 => ?_)
        · skip
          rw [← Int32.toInt_inj, ti_5] at c_205
          refine lv_aload_n hx hb dX12_side_46 rfl (lv_at hl 1 rfl) ?_
          refine lv_sipush (v := 600) hx hb dX12_side_47 (by decide) ?_
          refine lv_iconst (v := 4) hx hb dX12_side_50 (by decide) ?_
          refine lv_bipush (v := 10) hx hb dX12_side_51 (by decide) ?_
          refine lv_iload_n hx hb dX12_side_53 rfl (lv_at hl 2 rfl) ?_
          refine lv_imul hx hb dX12_side_54 ?_
          refine lv_topi (fun x_206 ex_206 => ?_)
          have hx_206 : x_206.toInt = 10 * p1.toInt := by rw [ex_206, ml_I (by rw [ti_10]; omega) (by rw [ti_10]; omega), ti_10]
          have bx_206 : (0 ≤ x_206.toInt ∧ x_206.toInt ≤ 230) := by constructor <;> omega
          refine lv_iconst (v := 5) hx hb dX12_side_55 (by decide) ?_
          refine lv_iload_n hx hb dX12_side_56 rfl (lv_at hl 3 rfl) ?_
          refine lv_imul hx hb dX12_side_57 ?_
          refine lv_topi (fun x_207 ex_207 => ?_)
          have hx_207 : x_207.toInt = 5 * p2.toInt := by rw [ex_207, ml_I (by rw [ti_5]; omega) (by rw [ti_5]; omega), ti_5]
          have bx_207 : (0 ≤ x_207.toInt ∧ x_207.toInt ≤ 5) := by constructor <;> omega
          refine lv_iadd hx hb dX12_side_58 ?_
          refine lv_topi (fun x_208 ex_208 => ?_)
          have hx_208 : x_208.toInt = x_206.toInt + x_207.toInt := by rw [ex_208, ad_I (by omega) (by omega)]
          have bx_208 : (0 ≤ x_208.toInt ∧ x_208.toInt ≤ 235) := by constructor <;> omega
          refine lv_iload_n hx hb dX12_side_59 rfl (lv_at hl 0 rfl) ?_
          refine lv_iadd hx hb dX12_side_60 ?_
          refine lv_topi (fun x_209 ex_209 => ?_)
          have hx_209 : x_209.toInt = x_208.toInt + y_64.toInt := by rw [ex_209, ad_I (by omega) (by omega)]
          have bx_209 : (0 ≤ x_209.toInt ∧ x_209.toInt ≤ 239) := by constructor <;> omega
          refine lv_imul hx hb dX12_side_61 ?_
          refine lv_topi (fun x_210 ex_210 => ?_)
          have hx_210 : x_210.toInt = 4 * x_209.toInt := by rw [ex_210, ml_I (by rw [ti_4]; omega) (by rw [ti_4]; omega), ti_4]
          have bx_210 : (0 ≤ x_210.toInt ∧ x_210.toInt ≤ 956) := by constructor <;> omega
          refine lv_iadd hx hb dX12_side_62 ?_
          refine lv_topi (fun x_211 ex_211 => ?_)
          have hx_211 : x_211.toInt = 600 + x_210.toInt := by rw [ex_211, ad_I (by rw [ti_600]; omega) (by rw [ti_600]; omega), ti_600]
          have bx_211 : (600 ≤ x_211.toInt ∧ x_211.toInt ≤ 1556) := by constructor <;> omega
          refine tk_ViP (As := [.int x_211]) (rest := []) (n := 1) hx hb hml hown hU hN hZ (s_X12_item_k12 l (dC, dI) cI cL cZ cR cG cH Z kd L f_125 hG o0 mo0 ko0 x_211 (by constructor <;> omega) (fun d9 h9 => by rw [hfo_131] at h9; obtain rfl := Option.some.inj h9; exact hT0)) wd_655 wd_656 wd_657 wd_5 wd_658 (by decide +kernel) ⟨Nat.le_of_ble_eq_true rfl, Nat.le_of_ble_eq_true rfl⟩ hK hP hD hS mo0 hfo_131 12 rfl rfl rfl hl.1 rfl (Nat.le_of_ble_eq_true rfl) dX12_side_63 ⟨Nat.le_of_ble_eq_true rfl, Nat.le_of_ble_eq_true rfl⟩ (fun x_212 f_213 H locs hw hP hD hS => ?_)
          obtain ⟨hG, bx_212, hkc_214, hra_215, hfa_216, hpost_217, hTc_218⟩ := hw
          have hfr0 : ∀ b, kd b ≠ 12 → kd b ≠ 576 → f_213 b = f b := fun b q12 q576 => (hkc_214 b q12 q576).trans (hfr0 b q12 q576)
          have hrA12 : ∀ b, kd b = 12 → ∀ j, fldR (f_213 b) j = fldR (f b) j := fun b kb j => (hra_215 b kb j).trans (hrA12 b kb j)
          have hfA12 : ∀ b, kd b = 12 → ∀ j, j ≠ 6 → j ≠ 7 → j ≠ 8 → j ≠ 14 → fldI (f_213 b) j = fldI (f b) j := fun b kb j n6 n7 n8 n14 => (hfa_216 b kb j n6 n7 n8 n14).trans (hfA12 b kb j n6 n7 n8 n14)
          obtain ⟨a_221, a_222, a_223, v_224, a_225, v_226, v_227, v_228, v_229, v_230, v_231, v_232, v_233, v_234, v_235, a_236, a_237, a_238, a_239, a_240, a_241, a_242, a_243, v_244, v_245, v_246, v_247, v_248, a_249, v_250, a_251, a_252, v_253, v_254, a_255, v_256, a_257, a_258, v_259, v_260, a_261, a_262, a_263, v_264, a_265, a_266, a_267, a_268, a_269, a_270, a_271, a_272, a_273, v_274, v_275, a_276, hfo_220, ⟨ma_221, ka_221⟩, ⟨ma_222, ka_222⟩, ⟨ma_223, ka_223⟩, bv_224, ⟨ma_225, ka_225⟩, bv_226, bv_227, bv_232, bv_233, bv_234, ⟨ma_236, ka_236⟩, ⟨ma_237, ka_237⟩, ⟨ma_238, ka_238⟩, ⟨ma_239, ka_239⟩, ⟨ma_240, ka_240⟩, ⟨ma_241, ka_241⟩, ⟨ma_242, ka_242⟩, ⟨ma_243, ka_243⟩, bv_244, bv_246, bv_248, ⟨ma_249, ka_249⟩, bv_250, ⟨ma_251, ka_251⟩, ⟨ma_252, ka_252⟩, bv_253, ⟨ma_255, ka_255⟩, bv_256, ⟨ma_257, ka_257⟩, ⟨ma_258, ka_258⟩, bv_259, ⟨ma_261, ka_261⟩, ⟨ma_262, ka_262⟩, ⟨ma_263, ka_263⟩, bv_264, ⟨ma_265, ka_265⟩, ⟨ma_266, ka_266⟩, ⟨ma_267, ka_267⟩, ⟨ma_268, ka_268⟩, ⟨ma_269, ka_269⟩, ⟨ma_270, ka_270⟩, ⟨ma_271, ka_271⟩, ⟨ma_272, ka_272⟩, ⟨ma_273, ka_273⟩, bv_274, ⟨ma_276, ka_276⟩⟩ := un_12 (hG _ mo0) ko0
          have bv_228 : ((-2147483648) ≤ v_228.toInt ∧ v_228.toInt ≤ 2147483647) := ⟨i32_lo _, i32_hi _⟩
          have bv_229 : ((-2147483648) ≤ v_229.toInt ∧ v_229.toInt ≤ 2147483647) := ⟨i32_lo _, i32_hi _⟩
          have bv_230 : ((-2147483648) ≤ v_230.toInt ∧ v_230.toInt ≤ 2147483647) := ⟨i32_lo _, i32_hi _⟩
          have bv_231 : ((-2147483648) ≤ v_231.toInt ∧ v_231.toInt ≤ 2147483647) := ⟨i32_lo _, i32_hi _⟩
          have bv_235 : ((-2147483648) ≤ v_235.toInt ∧ v_235.toInt ≤ 2147483647) := ⟨i32_lo _, i32_hi _⟩
          have bv_245 : ((-2147483648) ≤ v_245.toInt ∧ v_245.toInt ≤ 2147483647) := ⟨i32_lo _, i32_hi _⟩
          have bv_247 : ((-2147483648) ≤ v_247.toInt ∧ v_247.toInt ≤ 2147483647) := ⟨i32_lo _, i32_hi _⟩
          have bv_254 : ((-2147483648) ≤ v_254.toInt ∧ v_254.toInt ≤ 2147483647) := ⟨i32_lo _, i32_hi _⟩
          have bv_260 : ((-2147483648) ≤ v_260.toInt ∧ v_260.toInt ≤ 2147483647) := ⟨i32_lo _, i32_hi _⟩
          have bv_275 : ((-2147483648) ≤ v_275.toInt ∧ v_275.toInt ≤ 2147483647) := ⟨i32_lo _, i32_hi _⟩
          obtain ⟨rfl, rfl, rfl, rfl, rfl, rfl, rfl, rfl, rfl, rfl, rfl, rfl, rfl, rfl, rfl, rfl, rfl, rfl, rfl, rfl, rfl, rfl, rfl, rfl, rfl, rfl, rfl, rfl, rfl, rfl, rfl⟩ := re_12 hfo_1 hfo_220 (hrA12 o0 ko0)
          obtain rfl := ri_12_3 hfo_1 hfo_220 (hfA12 o0 ko0 3 (by decide) (by decide) (by decide) (by decide))
          obtain rfl := ri_12_5 hfo_1 hfo_220 (hfA12 o0 ko0 5 (by decide) (by decide) (by decide) (by decide))
          obtain rfl := ri_12_11 hfo_1 hfo_220 (hfA12 o0 ko0 11 (by decide) (by decide) (by decide) (by decide))
          obtain rfl := ri_12_12 hfo_1 hfo_220 (hfA12 o0 ko0 12 (by decide) (by decide) (by decide) (by decide))
          obtain rfl := ri_12_13 hfo_1 hfo_220 (hfA12 o0 ko0 13 (by decide) (by decide) (by decide) (by decide))
          obtain rfl := ri_12_23 hfo_1 hfo_220 (hfA12 o0 ko0 23 (by decide) (by decide) (by decide) (by decide))
          obtain rfl := ri_12_25 hfo_1 hfo_220 (hfA12 o0 ko0 25 (by decide) (by decide) (by decide) (by decide))
          obtain rfl := ri_12_27 hfo_1 hfo_220 (hfA12 o0 ko0 27 (by decide) (by decide) (by decide) (by decide))
          obtain rfl := ri_12_29 hfo_1 hfo_220 (hfA12 o0 ko0 29 (by decide) (by decide) (by decide) (by decide))
          obtain rfl := ri_12_32 hfo_1 hfo_220 (hfA12 o0 ko0 32 (by decide) (by decide) (by decide) (by decide))
          obtain rfl := ri_12_33 hfo_1 hfo_220 (hfA12 o0 ko0 33 (by decide) (by decide) (by decide) (by decide))
          obtain rfl := ri_12_35 hfo_1 hfo_220 (hfA12 o0 ko0 35 (by decide) (by decide) (by decide) (by decide))
          obtain rfl := ri_12_38 hfo_1 hfo_220 (hfA12 o0 ko0 38 (by decide) (by decide) (by decide) (by decide))
          obtain rfl := ri_12_43 hfo_1 hfo_220 (hfA12 o0 ko0 43 (by decide) (by decide) (by decide) (by decide))
          obtain rfl := ri_12_53 hfo_1 hfo_220 (hfA12 o0 ko0 53 (by decide) (by decide) (by decide) (by decide))
          have hqhpost_217 := hpost_217 v_138 v_227 (by rw [hfo_131]; rfl) (by rw [hfo_220]; rfl)
          have hMm_277 : ∀ z9, fldI (f_213 o0) 6 = some z9 → v_8.toInt ≤ z9.toInt := fun z9 h9 => by rw [hfo_220] at h9; obtain rfl := Option.some.inj h9; have h8 := hMm_188 v_138 (by rw [hfo_131]; rfl); omega
          have hT_278 := hTc_218 a_3 (by rw [hfo_220]; rfl)
          refine lv_if_ne (tgt := 71) hx hb dX12_side_66 (by decide) (fun c_279 => ?_) (fun c_279 => ?_)
          · skip
            rw [← Int32.toInt_inj, ti_0] at c_279
            obtain ⟨x_280, ex_280⟩ : ∃ y : Int32, y_64 + 1 = y := ⟨_, rfl⟩
            have hx_280 : x_280.toInt = y_64.toInt + 1 := by rw [← ex_280, ad_I (by rw [ti_1]; omega) (by rw [ti_1]; omega), ti_1]
            have bx_280 : (1 ≤ x_280.toInt ∧ x_280.toInt ≤ 5) := by constructor <;> omega
            refine lv_iinc (v := x_280) (lv' := [(3, .int x_280), (0, .ref o0), (1, .int p1), (2, .int p2)]) hx hb dX12_side_71 hl (k := 0) rfl ex_280 (by decide) rfl (fun ls hl => ?_)
            refine lv_goto (tgt := 2) hx hb dX12_side_74 (by decide) ?_
            exact ih_hloop_63 x_280 (by constructor <;> omega) f_213 hG _ _ hP hS hD hfr0 hrA12 hfA12 hT_278 hMm_277 (by omega) ls (lv_sub hl [0, 1, 2, 3] rfl)
          · skip
            rw [← Int32.toInt_inj, ti_0] at c_279
            refine lv_iconst (v := 0) hx hb dX12_side_69 (by decide) ?_
            have hM9 := hMm_277 v_227 (by rw [hfo_220]; rfl)
            exact W.zret (v := 0) (ty := .boolean) hx hb hr rfl (fun t ht hW => ⟨⟨0, f_213, rfl, ⟨hG, (by decide), hfr0, hrA12, hfA12, (by intro w6 z6 e6 d6; rw [hfo_1] at e6; rw [hfo_220] at d6; obtain rfl := Option.some.inj e6; obtain rfl := Option.some.inj d6; (try rw [ti_0]) <;> omega), (fun d9 h9 => by rw [hfo_220] at h9; obtain rfl := Option.some.inj h9; exact hT_278)⟩, by rw [ht]; exact hP, va_K.moved hW.alike hK, pl_in hD⟩, hS.F ht⟩) hS.2.2 dX12_side_70
        · skip
          rw [← Int32.toInt_inj, ti_5] at c_205
          refine lv_aload_n hx hb dX12_side_17 rfl (lv_at hl 1 rfl) ?_
          refine tk_getP (D := (dC, dI)) (ci := 12) (v := .int v_138) (C := RX12) (T := TX12) (N := 56) hx hb hU inlX12 hown hK hP mo0 hfo_131 rfl 6 (by decide) (hU _ wd_566) (fun _ h9 => h9) rfl dX12_side_18 ?_
          refine lv_istore (lv' := [(4, .int v_138), (3, .int y_64), (0, .ref o0), (1, .int p1), (2, .int p2)]) hx hb dX12_side_21 hl (by decide) rfl (fun ls hl => ?_)
          refine lv_aload_n hx hb dX12_side_23 rfl (lv_at hl 2 rfl) ?_
          refine tk_ViP (As := []) (rest := []) (n := 0) hx hb hml hown hU hN hZ (s_X12_takesX_k12 l (dC, dI) cI cL cZ cR cG cH Z kd L f_125 hG o0 mo0 ko0) wd_650 wd_651 wd_652 wd_5 wd_653 (by decide +kernel) ⟨Nat.le_of_ble_eq_true rfl, Nat.le_of_ble_eq_true rfl⟩ hK hP hD hS mo0 hfo_131 12 rfl rfl rfl hl.1 rfl (Nat.le_of_ble_eq_true rfl) dX12_side_24 ⟨Nat.le_of_ble_eq_true rfl, Nat.le_of_ble_eq_true rfl⟩ (fun x_281 f_282 H locs hw hP hD hS => ?_)
          obtain ⟨hG, bx_281, hkc_283, hra_284, hfa_285, hpost_286⟩ := hw
          have hfr0 : ∀ b, kd b ≠ 12 → kd b ≠ 576 → f_282 b = f b := fun b q12 q576 => (hkc_283 b q12).trans (hfr0 b q12 q576)
          have hrA12 : ∀ b, kd b = 12 → ∀ j, fldR (f_282 b) j = fldR (f b) j := fun b kb j => (hra_284 b kb j).trans (hrA12 b kb j)
          have hfA12 : ∀ b, kd b = 12 → ∀ j, j ≠ 6 → j ≠ 7 → j ≠ 8 → j ≠ 14 → fldI (f_282 b) j = fldI (f b) j := fun b kb j n6 n7 n8 n14 => (hfa_285 b kb j n6 n7 n8 n14).trans (hfA12 b kb j n6 n7 n8 n14)
          have hT0 : frel kd 576 7 f_282 a_3 := hT0.keep (fun b q => hkc_283 b (by rw [q]; decide))
          obtain ⟨a_289, a_290, a_291, v_292, a_293, v_294, v_295, v_296, v_297, v_298, v_299, v_300, v_301, v_302, v_303, a_304, a_305, a_306, a_307, a_308, a_309, a_310, a_311, v_312, v_313, v_314, v_315, v_316, a_317, v_318, a_319, a_320, v_321, v_322, a_323, v_324, a_325, a_326, v_327, v_328, a_329, a_330, a_331, v_332, a_333, a_334, a_335, a_336, a_337, a_338, a_339, a_340, a_341, v_342, v_343, a_344, hfo_288, ⟨ma_289, ka_289⟩, ⟨ma_290, ka_290⟩, ⟨ma_291, ka_291⟩, bv_292, ⟨ma_293, ka_293⟩, bv_294, bv_295, bv_300, bv_301, bv_302, ⟨ma_304, ka_304⟩, ⟨ma_305, ka_305⟩, ⟨ma_306, ka_306⟩, ⟨ma_307, ka_307⟩, ⟨ma_308, ka_308⟩, ⟨ma_309, ka_309⟩, ⟨ma_310, ka_310⟩, ⟨ma_311, ka_311⟩, bv_312, bv_314, bv_316, ⟨ma_317, ka_317⟩, bv_318, ⟨ma_319, ka_319⟩, ⟨ma_320, ka_320⟩, bv_321, ⟨ma_323, ka_323⟩, bv_324, ⟨ma_325, ka_325⟩, ⟨ma_326, ka_326⟩, bv_327, ⟨ma_329, ka_329⟩, ⟨ma_330, ka_330⟩, ⟨ma_331, ka_331⟩, bv_332, ⟨ma_333, ka_333⟩, ⟨ma_334, ka_334⟩, ⟨ma_335, ka_335⟩, ⟨ma_336, ka_336⟩, ⟨ma_337, ka_337⟩, ⟨ma_338, ka_338⟩, ⟨ma_339, ka_339⟩, ⟨ma_340, ka_340⟩, ⟨ma_341, ka_341⟩, bv_342, ⟨ma_344, ka_344⟩⟩ := un_12 (hG _ mo0) ko0
          have bv_296 : ((-2147483648) ≤ v_296.toInt ∧ v_296.toInt ≤ 2147483647) := ⟨i32_lo _, i32_hi _⟩
          have bv_297 : ((-2147483648) ≤ v_297.toInt ∧ v_297.toInt ≤ 2147483647) := ⟨i32_lo _, i32_hi _⟩
          have bv_298 : ((-2147483648) ≤ v_298.toInt ∧ v_298.toInt ≤ 2147483647) := ⟨i32_lo _, i32_hi _⟩
          have bv_299 : ((-2147483648) ≤ v_299.toInt ∧ v_299.toInt ≤ 2147483647) := ⟨i32_lo _, i32_hi _⟩
          have bv_303 : ((-2147483648) ≤ v_303.toInt ∧ v_303.toInt ≤ 2147483647) := ⟨i32_lo _, i32_hi _⟩
          have bv_313 : ((-2147483648) ≤ v_313.toInt ∧ v_313.toInt ≤ 2147483647) := ⟨i32_lo _, i32_hi _⟩
          have bv_315 : ((-2147483648) ≤ v_315.toInt ∧ v_315.toInt ≤ 2147483647) := ⟨i32_lo _, i32_hi _⟩
          have bv_322 : ((-2147483648) ≤ v_322.toInt ∧ v_322.toInt ≤ 2147483647) := ⟨i32_lo _, i32_hi _⟩
          have bv_328 : ((-2147483648) ≤ v_328.toInt ∧ v_328.toInt ≤ 2147483647) := ⟨i32_lo _, i32_hi _⟩
          have bv_343 : ((-2147483648) ≤ v_343.toInt ∧ v_343.toInt ≤ 2147483647) := ⟨i32_lo _, i32_hi _⟩
          obtain ⟨rfl, rfl, rfl, rfl, rfl, rfl, rfl, rfl, rfl, rfl, rfl, rfl, rfl, rfl, rfl, rfl, rfl, rfl, rfl, rfl, rfl, rfl, rfl, rfl, rfl, rfl, rfl, rfl, rfl, rfl, rfl⟩ := re_12 hfo_1 hfo_288 (hrA12 o0 ko0)
          obtain rfl := ri_12_3 hfo_1 hfo_288 (hfA12 o0 ko0 3 (by decide) (by decide) (by decide) (by decide))
          obtain rfl := ri_12_5 hfo_1 hfo_288 (hfA12 o0 ko0 5 (by decide) (by decide) (by decide) (by decide))
          obtain rfl := ri_12_11 hfo_1 hfo_288 (hfA12 o0 ko0 11 (by decide) (by decide) (by decide) (by decide))
          obtain rfl := ri_12_12 hfo_1 hfo_288 (hfA12 o0 ko0 12 (by decide) (by decide) (by decide) (by decide))
          obtain rfl := ri_12_13 hfo_1 hfo_288 (hfA12 o0 ko0 13 (by decide) (by decide) (by decide) (by decide))
          obtain rfl := ri_12_23 hfo_1 hfo_288 (hfA12 o0 ko0 23 (by decide) (by decide) (by decide) (by decide))
          obtain rfl := ri_12_25 hfo_1 hfo_288 (hfA12 o0 ko0 25 (by decide) (by decide) (by decide) (by decide))
          obtain rfl := ri_12_27 hfo_1 hfo_288 (hfA12 o0 ko0 27 (by decide) (by decide) (by decide) (by decide))
          obtain rfl := ri_12_29 hfo_1 hfo_288 (hfA12 o0 ko0 29 (by decide) (by decide) (by decide) (by decide))
          obtain rfl := ri_12_32 hfo_1 hfo_288 (hfA12 o0 ko0 32 (by decide) (by decide) (by decide) (by decide))
          obtain rfl := ri_12_33 hfo_1 hfo_288 (hfA12 o0 ko0 33 (by decide) (by decide) (by decide) (by decide))
          obtain rfl := ri_12_35 hfo_1 hfo_288 (hfA12 o0 ko0 35 (by decide) (by decide) (by decide) (by decide))
          obtain rfl := ri_12_38 hfo_1 hfo_288 (hfA12 o0 ko0 38 (by decide) (by decide) (by decide) (by decide))
          obtain rfl := ri_12_43 hfo_1 hfo_288 (hfA12 o0 ko0 43 (by decide) (by decide) (by decide) (by decide))
          obtain rfl := ri_12_53 hfo_1 hfo_288 (hfA12 o0 ko0 53 (by decide) (by decide) (by decide) (by decide))
          have hqhpost_286 := hpost_286 v_138 v_295 (by rw [hfo_131]; rfl) (by rw [hfo_288]; rfl)
          have hMm_345 : ∀ z9, fldI (f_282 o0) 6 = some z9 → v_8.toInt ≤ z9.toInt := fun z9 h9 => by rw [hfo_288] at h9; obtain rfl := Option.some.inj h9; have h8 := hMm_188 v_138 (by rw [hfo_131]; rfl); omega
          refine lv_if_eq (tgt := 44) hx hb dX12_side_27 (by decide) (fun c_346 => ?_) (fun c_346 => ?_)
          · skip
            rw [← Int32.toInt_inj, ti_0] at c_346
            refine lv_iconst (v := 0) hx hb dX12_side_44 (by decide) ?_
            have hM9 := hMm_345 v_295 (by rw [hfo_288]; rfl)
            exact W.zret (v := 0) (ty := .boolean) hx hb hr rfl (fun t ht hW => ⟨⟨0, f_282, rfl, ⟨hG, (by decide), hfr0, hrA12, hfA12, (by intro w6 z6 e6 d6; rw [hfo_1] at e6; rw [hfo_288] at d6; obtain rfl := Option.some.inj e6; obtain rfl := Option.some.inj d6; (try rw [ti_0]) <;> omega), (fun d9 h9 => by rw [hfo_288] at h9; obtain rfl := Option.some.inj h9; exact hT0)⟩, by rw [ht]; exact hP, va_K.moved hW.alike hK, pl_in hD⟩, hS.F ht⟩) hS.2.2 dX12_side_45
          · skip
            rw [← Int32.toInt_inj, ti_0] at c_346
            refine lv_aload_n hx hb dX12_side_30 rfl (lv_at hl 2 rfl) ?_
            refine lv_iconst (v := 3) hx hb dX12_side_31 (by decide) ?_
            refine lv_iload hx hb dX12_side_32 (lv_at hl 0 rfl) ?_
            refine tk_ViP (As := [.int 3, .int v_138]) (rest := []) (n := 2) hx hb hml hown hU hN hZ (s_X12_bad_k12 l (dC, dI) cI cL cZ cR cG cH Z kd L f_282 hG o0 mo0 ko0 3 v_138) wd_602 wd_603 wd_604 wd_5 wd_605 (by decide +kernel) ⟨Nat.le_of_ble_eq_true rfl, Nat.le_of_ble_eq_true rfl⟩ hK hP hD hS mo0 hfo_288 12 rfl rfl rfl hl.1 rfl (Nat.le_of_ble_eq_true rfl) dX12_side_34 ⟨Nat.le_of_ble_eq_true rfl, Nat.le_of_ble_eq_true rfl⟩ (fun x_347 f_348 H locs hw hP hD hS => ?_)
            obtain ⟨hG, bx_347, hkc_349, hra_350, hfa_351⟩ := hw
            have hfr0 : ∀ b, kd b ≠ 12 → kd b ≠ 576 → f_348 b = f b := fun b q12 q576 => (hkc_349 b q12).trans (hfr0 b q12 q576)
            have hrA12 : ∀ b, kd b = 12 → ∀ j, fldR (f_348 b) j = fldR (f b) j := fun b kb j => (hra_350 b kb j).trans (hrA12 b kb j)
            have hfA12 : ∀ b, kd b = 12 → ∀ j, j ≠ 6 → j ≠ 7 → j ≠ 8 → j ≠ 14 → fldI (f_348 b) j = fldI (f b) j := fun b kb j n6 n7 n8 n14 => (hfa_351 b kb j n7 n8).trans (hfA12 b kb j n6 n7 n8 n14)
            have hT0 : frel kd 576 7 f_348 a_3 := hT0.keep (fun b q => hkc_349 b (by rw [q]; decide))
            have hMm_345 : ∀ z9, fldI (f_348 o0) 6 = some z9 → v_8.toInt ≤ z9.toInt := (fun z9 h9 => hMm_345 z9 (by rw [hfa_351 o0 ko0 6 (by decide) (by decide)] at h9; exact h9))
            obtain ⟨a_354, a_355, a_356, v_357, a_358, v_359, v_360, v_361, v_362, v_363, v_364, v_365, v_366, v_367, v_368, a_369, a_370, a_371, a_372, a_373, a_374, a_375, a_376, v_377, v_378, v_379, v_380, v_381, a_382, v_383, a_384, a_385, v_386, v_387, a_388, v_389, a_390, a_391, v_392, v_393, a_394, a_395, a_396, v_397, a_398, a_399, a_400, a_401, a_402, a_403, a_404, a_405, a_406, v_407, v_408, a_409, hfo_353, ⟨ma_354, ka_354⟩, ⟨ma_355, ka_355⟩, ⟨ma_356, ka_356⟩, bv_357, ⟨ma_358, ka_358⟩, bv_359, bv_360, bv_365, bv_366, bv_367, ⟨ma_369, ka_369⟩, ⟨ma_370, ka_370⟩, ⟨ma_371, ka_371⟩, ⟨ma_372, ka_372⟩, ⟨ma_373, ka_373⟩, ⟨ma_374, ka_374⟩, ⟨ma_375, ka_375⟩, ⟨ma_376, ka_376⟩, bv_377, bv_379, bv_381, ⟨ma_382, ka_382⟩, bv_383, ⟨ma_384, ka_384⟩, ⟨ma_385, ka_385⟩, bv_386, ⟨ma_388, ka_388⟩, bv_389, ⟨ma_390, ka_390⟩, ⟨ma_391, ka_391⟩, bv_392, ⟨ma_394, ka_394⟩, ⟨ma_395, ka_395⟩, ⟨ma_396, ka_396⟩, bv_397, ⟨ma_398, ka_398⟩, ⟨ma_399, ka_399⟩, ⟨ma_400, ka_400⟩, ⟨ma_401, ka_401⟩, ⟨ma_402, ka_402⟩, ⟨ma_403, ka_403⟩, ⟨ma_404, ka_404⟩, ⟨ma_405, ka_405⟩, ⟨ma_406, ka_406⟩, bv_407, ⟨ma_409, ka_409⟩⟩ := un_12 (hG _ mo0) ko0
            have bv_361 : ((-2147483648) ≤ v_361.toInt ∧ v_361.toInt ≤ 2147483647) := ⟨i32_lo _, i32_hi _⟩
            have bv_362 : ((-2147483648) ≤ v_362.toInt ∧ v_362.toInt ≤ 2147483647) := ⟨i32_lo _, i32_hi _⟩
            have bv_363 : ((-2147483648) ≤ v_363.toInt ∧ v_363.toInt ≤ 2147483647) := ⟨i32_lo _, i32_hi _⟩
            have bv_364 : ((-2147483648) ≤ v_364.toInt ∧ v_364.toInt ≤ 2147483647) := ⟨i32_lo _, i32_hi _⟩
            have bv_368 : ((-2147483648) ≤ v_368.toInt ∧ v_368.toInt ≤ 2147483647) := ⟨i32_lo _, i32_hi _⟩
            have bv_378 : ((-2147483648) ≤ v_378.toInt ∧ v_378.toInt ≤ 2147483647) := ⟨i32_lo _, i32_hi _⟩
            have bv_380 : ((-2147483648) ≤ v_380.toInt ∧ v_380.toInt ≤ 2147483647) := ⟨i32_lo _, i32_hi _⟩
            have bv_387 : ((-2147483648) ≤ v_387.toInt ∧ v_387.toInt ≤ 2147483647) := ⟨i32_lo _, i32_hi _⟩
            have bv_393 : ((-2147483648) ≤ v_393.toInt ∧ v_393.toInt ≤ 2147483647) := ⟨i32_lo _, i32_hi _⟩
            have bv_408 : ((-2147483648) ≤ v_408.toInt ∧ v_408.toInt ≤ 2147483647) := ⟨i32_lo _, i32_hi _⟩
            obtain ⟨rfl, rfl, rfl, rfl, rfl, rfl, rfl, rfl, rfl, rfl, rfl, rfl, rfl, rfl, rfl, rfl, rfl, rfl, rfl, rfl, rfl, rfl, rfl, rfl, rfl, rfl, rfl, rfl, rfl, rfl, rfl⟩ := re_12 hfo_1 hfo_353 (hrA12 o0 ko0)
            obtain rfl := ri_12_3 hfo_1 hfo_353 (hfA12 o0 ko0 3 (by decide) (by decide) (by decide) (by decide))
            obtain rfl := ri_12_5 hfo_1 hfo_353 (hfA12 o0 ko0 5 (by decide) (by decide) (by decide) (by decide))
            obtain rfl := ri_12_11 hfo_1 hfo_353 (hfA12 o0 ko0 11 (by decide) (by decide) (by decide) (by decide))
            obtain rfl := ri_12_12 hfo_1 hfo_353 (hfA12 o0 ko0 12 (by decide) (by decide) (by decide) (by decide))
            obtain rfl := ri_12_13 hfo_1 hfo_353 (hfA12 o0 ko0 13 (by decide) (by decide) (by decide) (by decide))
            obtain rfl := ri_12_23 hfo_1 hfo_353 (hfA12 o0 ko0 23 (by decide) (by decide) (by decide) (by decide))
            obtain rfl := ri_12_25 hfo_1 hfo_353 (hfA12 o0 ko0 25 (by decide) (by decide) (by decide) (by decide))
            obtain rfl := ri_12_27 hfo_1 hfo_353 (hfA12 o0 ko0 27 (by decide) (by decide) (by decide) (by decide))
            obtain rfl := ri_12_29 hfo_1 hfo_353 (hfA12 o0 ko0 29 (by decide) (by decide) (by decide) (by decide))
            obtain rfl := ri_12_32 hfo_1 hfo_353 (hfA12 o0 ko0 32 (by decide) (by decide) (by decide) (by decide))
            obtain rfl := ri_12_33 hfo_1 hfo_353 (hfA12 o0 ko0 33 (by decide) (by decide) (by decide) (by decide))
            obtain rfl := ri_12_35 hfo_1 hfo_353 (hfA12 o0 ko0 35 (by decide) (by decide) (by decide) (by decide))
            obtain rfl := ri_12_38 hfo_1 hfo_353 (hfA12 o0 ko0 38 (by decide) (by decide) (by decide) (by decide))
            obtain rfl := ri_12_43 hfo_1 hfo_353 (hfA12 o0 ko0 43 (by decide) (by decide) (by decide) (by decide))
            obtain rfl := ri_12_53 hfo_1 hfo_353 (hfA12 o0 ko0 53 (by decide) (by decide) (by decide) (by decide))
            obtain rfl := ri_12_6 hfo_288 hfo_353 (hfa_351 o0 ko0 6 (by decide) (by decide))
            obtain rfl := ri_12_14 hfo_288 hfo_353 (hfa_351 o0 ko0 14 (by decide) (by decide))
            refine lv_if_eq (tgt := 44) hx hb dX12_side_37 (by decide) (fun c_410 => ?_) (fun c_410 => ?_)
            · skip
              rw [← Int32.toInt_inj, ti_0] at c_410
              refine lv_iconst (v := 0) hx hb dX12_side_44 (by decide) ?_
              have hM9 := hMm_345 v_295 (by rw [hfo_353]; rfl)
              exact W.zret (v := 0) (ty := .boolean) hx hb hr rfl (fun t ht hW => ⟨⟨0, f_348, rfl, ⟨hG, (by decide), hfr0, hrA12, hfA12, (by intro w6 z6 e6 d6; rw [hfo_1] at e6; rw [hfo_353] at d6; obtain rfl := Option.some.inj e6; obtain rfl := Option.some.inj d6; (try rw [ti_0]) <;> omega), (fun d9 h9 => by rw [hfo_353] at h9; obtain rfl := Option.some.inj h9; exact hT0)⟩, by rw [ht]; exact hP, va_K.moved hW.alike hK, pl_in hD⟩, hS.F ht⟩) hS.2.2 dX12_side_45
            · skip
              rw [← Int32.toInt_inj, ti_0] at c_410
              exfalso
              omega
  exact hloop_63 6 0 (by decide) f hG _ _ hP hS hD hfr0 hrA12 hfA12 hT0 hM (by (try rw [ti_0]) <;> omega) ls hl
set_option maxHeartbeats 8000000 in
set_option maxRecDepth 100000 in
theorem s_X12_context_k12 (l : Launch) (D : va_G) (cI cL cZ cR cG cH : ClassId) (Z : zT) (kd : Nat → Nat) (L : List Nat) (f : Nat → va_E) (hG : GI (okc cI cL cZ cR cG cH L kd) kd L f) (o0 : Nat) (mo0 : o0 ∈ L) (ko0 : kd o0 = 12) (p1 : Int32) (bp1 : (0 ≤ p1.toInt ∧ p1.toInt ≤ 23)) (hxtr0 : ∀ d9, fldR (f o0) 1 = some d9 → frel kd 576 7 f d9) : mPI l D cI cL cZ cR cG cH Z yX12_context cX12_context 2 (some .boolean) 6 129 [.ref o0, .int p1] L f (fun (r : Int32) (f9 : Nat → va_E) => GI (okc cI cL cZ cR cG cH L kd) kd L f9 ∧ (0 ≤ r.toInt ∧ r.toInt ≤ 1) ∧ (∀ b, kd b ≠ 12 → kd b ≠ 576 → f9 b = f b) ∧ (∀ b, kd b = 12 → ∀ j, fldR (f9 b) j = fldR (f b) j) ∧ (∀ b, kd b = 12 → ∀ j, j ≠ 6 → j ≠ 7 → j ≠ 8 → j ≠ 14 → fldI (f9 b) j = fldI (f b) j) ∧ (∀ (w6 z6 : Int32), fldI (f o0) 6 = some w6 → fldI (f9 o0) 6 = some z6 → w6.toInt ≤ z6.toInt) ∧ (∀ d9, fldR (f9 o0) 1 = some d9 → frel kd 576 7 f9 d9)) := by
  obtain ⟨dC, dI⟩ := D
  refine Met.ofW (cc := cX12_context) (maxL := 2) (ret := (some .boolean)) (by decide) rfl ?_
  intro p e s m args below meth c s₁ B hml hv
  obtain ⟨rfl, hP, hK, hD0, hN, hZ⟩ := hv
  have hx := B.exec
  have hb := B.bytes
  have hr := B.returns
  have hU : ∀ w ∈ wsU, w.before _ s = true := fun w h => atoms_spec (ws := wU yX12_context cX12_context 2 (some .boolean)) B.pre w (List.mem_cons_of_mem _ h)
  have hown : s.vm.findClass RX12 = some m.cls := findClass_of_methodNamed B.named
  have hlocks := B.notSynchronized
  have hD := pl_in hD0
  have hS : va_S (fun q => q ∈ L) s.heap s.heap [] := va_S.rf
  have hl := lv_entry ([.ref o0, .int p1]) (n := 2) (Nat.le_of_ble_eq_true rfl)
  rw [lg_entry_eq]
  generalize (lg_sl ([.ref o0, .int p1]) ++ List.replicate (2 - (lg_sl ([.ref o0, .int p1])).length) Slot.unset).toArray = ls at hl ⊢
  have hl : lv_has ls 2 [(0, .ref o0), (1, .int p1)] := hl
  have hfr0 : ∀ b, kd b ≠ 12 → kd b ≠ 576 → f b = f b := fun _ _ _ => rfl
  have hrA12 : ∀ b, kd b = 12 → ∀ j, fldR (f b) j = fldR (f b) j := fun _ _ _ => rfl
  have hfA12 : ∀ b, kd b = 12 → ∀ j, j ≠ 6 → j ≠ 7 → j ≠ 8 → j ≠ 14 → fldI (f b) j = fldI (f b) j := fun _ _ _ _ _ _ _ => rfl
  obtain ⟨a_2, a_3, a_4, v_5, a_6, v_7, v_8, v_9, v_10, v_11, v_12, v_13, v_14, v_15, v_16, a_17, a_18, a_19, a_20, a_21, a_22, a_23, a_24, v_25, v_26, v_27, v_28, v_29, a_30, v_31, a_32, a_33, v_34, v_35, a_36, v_37, a_38, a_39, v_40, v_41, a_42, a_43, a_44, v_45, a_46, a_47, a_48, a_49, a_50, a_51, a_52, a_53, a_54, v_55, v_56, a_57, hfo_1, ⟨ma_2, ka_2⟩, ⟨ma_3, ka_3⟩, ⟨ma_4, ka_4⟩, bv_5, ⟨ma_6, ka_6⟩, bv_7, bv_8, bv_13, bv_14, bv_15, ⟨ma_17, ka_17⟩, ⟨ma_18, ka_18⟩, ⟨ma_19, ka_19⟩, ⟨ma_20, ka_20⟩, ⟨ma_21, ka_21⟩, ⟨ma_22, ka_22⟩, ⟨ma_23, ka_23⟩, ⟨ma_24, ka_24⟩, bv_25, bv_27, bv_29, ⟨ma_30, ka_30⟩, bv_31, ⟨ma_32, ka_32⟩, ⟨ma_33, ka_33⟩, bv_34, ⟨ma_36, ka_36⟩, bv_37, ⟨ma_38, ka_38⟩, ⟨ma_39, ka_39⟩, bv_40, ⟨ma_42, ka_42⟩, ⟨ma_43, ka_43⟩, ⟨ma_44, ka_44⟩, bv_45, ⟨ma_46, ka_46⟩, ⟨ma_47, ka_47⟩, ⟨ma_48, ka_48⟩, ⟨ma_49, ka_49⟩, ⟨ma_50, ka_50⟩, ⟨ma_51, ka_51⟩, ⟨ma_52, ka_52⟩, ⟨ma_53, ka_53⟩, ⟨ma_54, ka_54⟩, bv_55, ⟨ma_57, ka_57⟩⟩ := un_12 (hG _ mo0) ko0
  have bv_9 : ((-2147483648) ≤ v_9.toInt ∧ v_9.toInt ≤ 2147483647) := ⟨i32_lo _, i32_hi _⟩
  have bv_10 : ((-2147483648) ≤ v_10.toInt ∧ v_10.toInt ≤ 2147483647) := ⟨i32_lo _, i32_hi _⟩
  have bv_11 : ((-2147483648) ≤ v_11.toInt ∧ v_11.toInt ≤ 2147483647) := ⟨i32_lo _, i32_hi _⟩
  have bv_12 : ((-2147483648) ≤ v_12.toInt ∧ v_12.toInt ≤ 2147483647) := ⟨i32_lo _, i32_hi _⟩
  have bv_16 : ((-2147483648) ≤ v_16.toInt ∧ v_16.toInt ≤ 2147483647) := ⟨i32_lo _, i32_hi _⟩
  have bv_26 : ((-2147483648) ≤ v_26.toInt ∧ v_26.toInt ≤ 2147483647) := ⟨i32_lo _, i32_hi _⟩
  have bv_28 : ((-2147483648) ≤ v_28.toInt ∧ v_28.toInt ≤ 2147483647) := ⟨i32_lo _, i32_hi _⟩
  have bv_35 : ((-2147483648) ≤ v_35.toInt ∧ v_35.toInt ≤ 2147483647) := ⟨i32_lo _, i32_hi _⟩
  have bv_41 : ((-2147483648) ≤ v_41.toInt ∧ v_41.toInt ≤ 2147483647) := ⟨i32_lo _, i32_hi _⟩
  have bv_56 : ((-2147483648) ≤ v_56.toInt ∧ v_56.toInt ≤ 2147483647) := ⟨i32_lo _, i32_hi _⟩
  have hT0 := hxtr0 a_3 (by rw [hfo_1]; rfl)
  have hM : ∀ z9, fldI (f o0) 6 = some z9 → v_8.toInt ≤ z9.toInt := fun z9 h9 => by rw [hfo_1] at h9; obtain rfl := Option.some.inj h9; exact Int.le_refl _
  refine lv_aload_n hx hb dX12_context_0 rfl (lv_at hl 0 rfl) ?_
  refine tk_getP (D := (dC, dI)) (ci := 12) (v := .ref a_3) (C := RX12) (T := TX12) (N := 56) hx hb hU inlX12 hown hK hP mo0 hfo_1 rfl 1 (by decide) (hU _ wd_170) (fun _ h9 => h9) rfl dX12_context_1 ?_
  refine lv_sipush (v := 500) hx hb dX12_context_4 (by decide) ?_
  refine lv_iconst (v := 4) hx hb dX12_context_7 (by decide) ?_
  refine lv_iload_n hx hb dX12_context_8 rfl (lv_at hl 1 rfl) ?_
  refine lv_imul hx hb dX12_context_9 ?_
  refine lv_topi (fun x_58 ex_58 => ?_)
  have hx_58 : x_58.toInt = 4 * p1.toInt := by rw [ex_58, ml_I (by rw [ti_4]; omega) (by rw [ti_4]; omega), ti_4]
  have bx_58 : (0 ≤ x_58.toInt ∧ x_58.toInt ≤ 92) := by constructor <;> omega
  refine lv_iadd hx hb dX12_context_10 ?_
  refine lv_topi (fun x_59 ex_59 => ?_)
  have hx_59 : x_59.toInt = 500 + x_58.toInt := by rw [ex_59, ad_I (by rw [ti_500]; omega) (by rw [ti_500]; omega), ti_500]
  have bx_59 : (500 ≤ x_59.toInt ∧ x_59.toInt ≤ 592) := by constructor <;> omega
  refine lv_aload_n hx hb dX12_context_11 rfl (lv_at hl 0 rfl) ?_
  refine tk_ViP (As := []) (rest := [.int x_59, .ref a_3]) (n := 0) hx hb hml hown hU hN hZ (s_X12_sign_k12 l (dC, dI) cI cL cZ cR cG cH Z kd L f hG o0 mo0 ko0) wd_573 wd_574 wd_575 wd_5 wd_576 (by decide +kernel) ⟨Nat.le_of_ble_eq_true rfl, Nat.le_of_ble_eq_true rfl⟩ hK hP hD hS mo0 hfo_1 12 rfl rfl rfl hl.1 rfl (Nat.le_of_ble_eq_true rfl) dX12_context_12 ⟨Nat.le_of_ble_eq_true rfl, Nat.le_of_ble_eq_true rfl⟩ (fun x_60 f_61 H locs hw hP hD hS => ?_)
  obtain ⟨hG, bx_60, hkc_62, hra_63, hfa_64, hpost_65⟩ := hw
  have hfr0 : ∀ b, kd b ≠ 12 → kd b ≠ 576 → f_61 b = f b := fun b q12 q576 => (hkc_62 b q12).trans (hfr0 b q12 q576)
  have hrA12 : ∀ b, kd b = 12 → ∀ j, fldR (f_61 b) j = fldR (f b) j := fun b kb j => (hra_63 b kb j).trans (hrA12 b kb j)
  have hfA12 : ∀ b, kd b = 12 → ∀ j, j ≠ 6 → j ≠ 7 → j ≠ 8 → j ≠ 14 → fldI (f_61 b) j = fldI (f b) j := fun b kb j n6 n7 n8 n14 => (hfa_64 b kb j n6).trans (hfA12 b kb j n6 n7 n8 n14)
  have hT0 : frel kd 576 7 f_61 a_3 := hT0.keep (fun b q => hkc_62 b (by rw [q]; decide))
  obtain ⟨a_68, a_69, a_70, v_71, a_72, v_73, v_74, v_75, v_76, v_77, v_78, v_79, v_80, v_81, v_82, a_83, a_84, a_85, a_86, a_87, a_88, a_89, a_90, v_91, v_92, v_93, v_94, v_95, a_96, v_97, a_98, a_99, v_100, v_101, a_102, v_103, a_104, a_105, v_106, v_107, a_108, a_109, a_110, v_111, a_112, a_113, a_114, a_115, a_116, a_117, a_118, a_119, a_120, v_121, v_122, a_123, hfo_67, ⟨ma_68, ka_68⟩, ⟨ma_69, ka_69⟩, ⟨ma_70, ka_70⟩, bv_71, ⟨ma_72, ka_72⟩, bv_73, bv_74, bv_79, bv_80, bv_81, ⟨ma_83, ka_83⟩, ⟨ma_84, ka_84⟩, ⟨ma_85, ka_85⟩, ⟨ma_86, ka_86⟩, ⟨ma_87, ka_87⟩, ⟨ma_88, ka_88⟩, ⟨ma_89, ka_89⟩, ⟨ma_90, ka_90⟩, bv_91, bv_93, bv_95, ⟨ma_96, ka_96⟩, bv_97, ⟨ma_98, ka_98⟩, ⟨ma_99, ka_99⟩, bv_100, ⟨ma_102, ka_102⟩, bv_103, ⟨ma_104, ka_104⟩, ⟨ma_105, ka_105⟩, bv_106, ⟨ma_108, ka_108⟩, ⟨ma_109, ka_109⟩, ⟨ma_110, ka_110⟩, bv_111, ⟨ma_112, ka_112⟩, ⟨ma_113, ka_113⟩, ⟨ma_114, ka_114⟩, ⟨ma_115, ka_115⟩, ⟨ma_116, ka_116⟩, ⟨ma_117, ka_117⟩, ⟨ma_118, ka_118⟩, ⟨ma_119, ka_119⟩, ⟨ma_120, ka_120⟩, bv_121, ⟨ma_123, ka_123⟩⟩ := un_12 (hG _ mo0) ko0
  have bv_75 : ((-2147483648) ≤ v_75.toInt ∧ v_75.toInt ≤ 2147483647) := ⟨i32_lo _, i32_hi _⟩
  have bv_76 : ((-2147483648) ≤ v_76.toInt ∧ v_76.toInt ≤ 2147483647) := ⟨i32_lo _, i32_hi _⟩
  have bv_77 : ((-2147483648) ≤ v_77.toInt ∧ v_77.toInt ≤ 2147483647) := ⟨i32_lo _, i32_hi _⟩
  have bv_78 : ((-2147483648) ≤ v_78.toInt ∧ v_78.toInt ≤ 2147483647) := ⟨i32_lo _, i32_hi _⟩
  have bv_82 : ((-2147483648) ≤ v_82.toInt ∧ v_82.toInt ≤ 2147483647) := ⟨i32_lo _, i32_hi _⟩
  have bv_92 : ((-2147483648) ≤ v_92.toInt ∧ v_92.toInt ≤ 2147483647) := ⟨i32_lo _, i32_hi _⟩
  have bv_94 : ((-2147483648) ≤ v_94.toInt ∧ v_94.toInt ≤ 2147483647) := ⟨i32_lo _, i32_hi _⟩
  have bv_101 : ((-2147483648) ≤ v_101.toInt ∧ v_101.toInt ≤ 2147483647) := ⟨i32_lo _, i32_hi _⟩
  have bv_107 : ((-2147483648) ≤ v_107.toInt ∧ v_107.toInt ≤ 2147483647) := ⟨i32_lo _, i32_hi _⟩
  have bv_122 : ((-2147483648) ≤ v_122.toInt ∧ v_122.toInt ≤ 2147483647) := ⟨i32_lo _, i32_hi _⟩
  obtain ⟨rfl, rfl, rfl, rfl, rfl, rfl, rfl, rfl, rfl, rfl, rfl, rfl, rfl, rfl, rfl, rfl, rfl, rfl, rfl, rfl, rfl, rfl, rfl, rfl, rfl, rfl, rfl, rfl, rfl, rfl, rfl⟩ := re_12 hfo_1 hfo_67 (hrA12 o0 ko0)
  obtain rfl := ri_12_3 hfo_1 hfo_67 (hfA12 o0 ko0 3 (by decide) (by decide) (by decide) (by decide))
  obtain rfl := ri_12_5 hfo_1 hfo_67 (hfA12 o0 ko0 5 (by decide) (by decide) (by decide) (by decide))
  obtain rfl := ri_12_11 hfo_1 hfo_67 (hfA12 o0 ko0 11 (by decide) (by decide) (by decide) (by decide))
  obtain rfl := ri_12_12 hfo_1 hfo_67 (hfA12 o0 ko0 12 (by decide) (by decide) (by decide) (by decide))
  obtain rfl := ri_12_13 hfo_1 hfo_67 (hfA12 o0 ko0 13 (by decide) (by decide) (by decide) (by decide))
  obtain rfl := ri_12_23 hfo_1 hfo_67 (hfA12 o0 ko0 23 (by decide) (by decide) (by decide) (by decide))
  obtain rfl := ri_12_25 hfo_1 hfo_67 (hfA12 o0 ko0 25 (by decide) (by decide) (by decide) (by decide))
  obtain rfl := ri_12_27 hfo_1 hfo_67 (hfA12 o0 ko0 27 (by decide) (by decide) (by decide) (by decide))
  obtain rfl := ri_12_29 hfo_1 hfo_67 (hfA12 o0 ko0 29 (by decide) (by decide) (by decide) (by decide))
  obtain rfl := ri_12_32 hfo_1 hfo_67 (hfA12 o0 ko0 32 (by decide) (by decide) (by decide) (by decide))
  obtain rfl := ri_12_33 hfo_1 hfo_67 (hfA12 o0 ko0 33 (by decide) (by decide) (by decide) (by decide))
  obtain rfl := ri_12_35 hfo_1 hfo_67 (hfA12 o0 ko0 35 (by decide) (by decide) (by decide) (by decide))
  obtain rfl := ri_12_38 hfo_1 hfo_67 (hfA12 o0 ko0 38 (by decide) (by decide) (by decide) (by decide))
  obtain rfl := ri_12_43 hfo_1 hfo_67 (hfA12 o0 ko0 43 (by decide) (by decide) (by decide) (by decide))
  obtain rfl := ri_12_53 hfo_1 hfo_67 (hfA12 o0 ko0 53 (by decide) (by decide) (by decide) (by decide))
  obtain rfl := ri_12_14 hfo_1 hfo_67 (hfa_64 o0 ko0 14 (by decide))
  have hqhpost_65 := hpost_65 v_8 v_74 (by rw [hfo_1]; rfl) (by rw [hfo_67]; rfl)
  have hMm_124 : ∀ z9, fldI (f_61 o0) 6 = some z9 → v_8.toInt ≤ z9.toInt := fun z9 h9 => by rw [hfo_67] at h9; obtain rfl := Option.some.inj h9; have h8 := hM v_8 (by rw [hfo_1]; rfl); omega
  refine lv_bipush (v := 35) hx hb dX12_context_15 (by decide) ?_
  have hcut_126 : ∀ (y_125 : Int32), (0 ≤ y_125.toInt ∧ y_125.toInt ≤ 1) → ∀ (ls : Array Slot), lv_has ls 2 [(0, .ref o0), (1, .int p1)] → W p l e (headSpec (wU yX12_context cX12_context 2 (some .boolean)) { frames := 6, cells := 0, slots := 0, locals := 129 }).room s m [.ref o0, .int p1].toArray below meth c H locs 0 0 (MQ below (va_Qi (fun (r : Int32) (f9 : Nat → va_E) => GI (okc cI cL cZ cR cG cH L kd) kd L f9 ∧ (0 ≤ r.toInt ∧ r.toInt ≤ 1) ∧ (∀ b, kd b ≠ 12 → kd b ≠ 576 → f9 b = f b) ∧ (∀ b, kd b = 12 → ∀ j, fldR (f9 b) j = fldR (f b) j) ∧ (∀ b, kd b = 12 → ∀ j, j ≠ 6 → j ≠ 7 → j ≠ 8 → j ≠ 14 → fldI (f9 b) j = fldI (f b) j) ∧ (∀ (w6 z6 : Int32), fldI (f o0) 6 = some w6 → fldI (f9 o0) 6 = some z6 → w6.toInt ≤ z6.toInt) ∧ (∀ d9, fldR (f9 o0) 1 = some d9 → frel kd 576 7 f9 d9)) (qP (dC, dI) cI cL cZ cR cG cH L) (fun q => q ∈ L)) [.ref o0, .int p1].toArray s 0 0 (fun q => q ∈ L)) (F0 m 25 ls [.int y_125, .int x_59, .ref a_3]) := by
    intro y_125 by_125 ls hl
    obtain ⟨g_128, hfo_127, hbg_128⟩ := un_576 (hG _ ma_3) ka_3
    refine tk_istP hx hb hK hP hD hS 0 ma_3 hfo_127 rfl (vp_in_iff.mpr (by constructor <;> omega)) dX12_context_25 (fun H locs hP hD hS => ?_)
    have hc9 := cl_I (i := x_59) (by omega)
    obtain ⟨g_129, eqg_129⟩ : ∃ y : Nat → Int32, y = upd g_128 (Int32.toNatClampNeg x_59) y_125 := ⟨_, rfl⟩
    rw [← eqg_129] at hP hD
    have hbg_129 : wOK g_129 := by rw [eqg_129]; exact ⟨hbg_128.1.up (fun h1 h2 h3 => by exfalso; omega), hbg_128.2.1.up (fun h1 h2 h3 => by exfalso; omega), hbg_128.2.2.1.up (fun h1 h2 h3 => by exfalso; omega), hbg_128.2.2.2.1.up (fun h1 h2 h3 => by exfalso; omega), hbg_128.2.2.2.2.1.up (fun h1 h2 h3 => by exfalso; omega), hbg_128.2.2.2.2.2.1.up (fun h1 h2 h3 => by exfalso; omega), hbg_128.2.2.2.2.2.2.1.up (fun h1 h2 h3 => by exfalso; omega), hbg_128.2.2.2.2.2.2.2.1.up (fun h1 h2 h3 => by exfalso; omega), hbg_128.2.2.2.2.2.2.2.2.1.up (fun h1 h2 h3 => by exfalso; omega), hbg_128.2.2.2.2.2.2.2.2.2.1.up (fun h1 h2 h3 => by exfalso; omega), hbg_128.2.2.2.2.2.2.2.2.2.2.1.up (fun h1 h2 h3 => by exfalso; omega), hbg_128.2.2.2.2.2.2.2.2.2.2.2.1.up (fun h1 h2 h3 => by exfalso; omega), hbg_128.2.2.2.2.2.2.2.2.2.2.2.2.1.up (fun h1 h2 h3 => by exfalso; omega), hbg_128.2.2.2.2.2.2.2.2.2.2.2.2.2.1.up (fun h1 h2 h3 => by exfalso; omega), hbg_128.2.2.2.2.2.2.2.2.2.2.2.2.2.2.1.up (fun h1 h2 h3 => by exfalso; omega), hbg_128.2.2.2.2.2.2.2.2.2.2.2.2.2.2.2.up (fun h1 h2 h3 => by constructor <;> omega)⟩
    obtain ⟨f_131, ef_131⟩ : ∃ y : Nat → va_E, y = va_up f_61 a_3 (.inl (cI, 1560, .inl g_129)) := ⟨_, rfl⟩
    have hP : va_P (dC, dI) vwCl (va_pl L f_131) H := by rw [ef_131]; exact hP
    have hD : va_D (fun q => q ∈ L) (va_pl L f_131) := by rw [ef_131]; exact hD
    have hG : GI (okc cI cL cZ cR cG cH L kd) kd L f_131 := by rw [ef_131]; exact hG.set a_3 (mk_576 ka_3 ⟨_, rfl, hbg_129⟩)
    have hfo_132 : f_131 o0 = .inr (12, [.ref a_2, .ref a_3, .ref a_4, .int v_5, .ref a_6, .int v_7, .int v_74, .int v_75, .int v_76, .int v_77, .int v_78, .int v_13, .int v_14, .int v_15, .int v_16, .ref a_17, .ref a_18, .ref a_19, .ref a_20, .ref a_21, .ref a_22, .ref a_23, .ref a_24, .int v_25, .int v_92, .int v_27, .int v_94, .int v_29, .ref a_30, .int v_31, .ref a_32, .ref a_33, .int v_34, .int v_35, .ref a_36, .int v_37, .ref a_38, .ref a_39, .int v_40, .int v_107, .ref a_42, .ref a_43, .ref a_44, .int v_45, .ref a_46, .ref a_47, .ref a_48, .ref a_49, .ref a_50, .ref a_51, .ref a_52, .ref a_53, .ref a_54, .int v_55, .int v_122, .ref a_57]) := by rw [ef_131, up_ne (kd_ne ka_3 ko0 (by decide))]; exact hfo_67
    have hfr0 : ∀ b, kd b ≠ 12 → kd b ≠ 576 → f_131 b = f b := fun b q12 q576 => (congrFun ef_131 b).trans ((up_ne (fun e9 => q576 (by rw [e9]; exact ka_3))).trans (hfr0 b q12 q576))
    have hrA12 : ∀ b, kd b = 12 → ∀ j, fldR (f_131 b) j = fldR (f b) j := fun b kb j => (congrArg (fun x => fldR x j) ((congrFun ef_131 b).trans (up_ne (kd_ne ka_3 kb (by decide))))).trans (hrA12 b kb j)
    have hfA12 : ∀ b, kd b = 12 → ∀ j, j ≠ 6 → j ≠ 7 → j ≠ 8 → j ≠ 14 → fldI (f_131 b) j = fldI (f b) j := fun b kb j n6 n7 n8 n14 => (congrArg (fun x => fldI x j) ((congrFun ef_131 b).trans (up_ne (kd_ne ka_3 kb (by decide))))).trans (hfA12 b kb j n6 n7 n8 n14)
    have hT0 : frel kd 576 7 f_131 a_3 := by rw [ef_131]; exact frel.mk ka_3 up_self (by rw [eqg_129]; exact (hT0.get hfo_127).up (hbg_128.2.1 16 (by decide) (by decide) (by decide)).2 (by omega) (by omega) (by omega) (fun h9 => by exfalso; omega))
    have hMm_124 : ∀ z9, fldI (f_131 o0) 6 = some z9 → v_8.toInt ≤ z9.toInt := by rw [ef_131]; exact (fun z9 h9 => hMm_124 z9 (by rw [up_ne (kd_ne ka_3 ko0 (by decide))] at h9; exact h9))
    have hfo_133 : f_131 a_3 = .inl (cI, 1560, .inl g_129) := by rw [ef_131]; exact up_self
    have ql_134 : y_125 = g_129 (Int32.toNatClampNeg x_59) := by rw [eqg_129, pk_us]
    refine lv_aload_n hx hb dX12_context_26 rfl (lv_at hl 0 rfl) ?_
    refine tk_ViP (As := []) (rest := []) (n := 0) hx hb hml hown hU hN hZ (s_X12_sign_k12 l (dC, dI) cI cL cZ cR cG cH Z kd L f_131 hG o0 mo0 ko0) wd_573 wd_574 wd_575 wd_5 wd_576 (by decide +kernel) ⟨Nat.le_of_ble_eq_true rfl, Nat.le_of_ble_eq_true rfl⟩ hK hP hD hS mo0 hfo_132 12 rfl rfl rfl hl.1 rfl (Nat.le_of_ble_eq_true rfl) dX12_context_27 ⟨Nat.le_of_ble_eq_true rfl, Nat.le_of_ble_eq_true rfl⟩ (fun x_135 f_136 H locs hw hP hD hS => ?_)
    obtain ⟨hG, bx_135, hkc_137, hra_138, hfa_139, hpost_140⟩ := hw
    have hfo_142 : f_136 a_3 = .inl (cI, 1560, .inl g_129) := by rw [hkc_137 a_3 (by rw [ka_3]; decide)]; exact hfo_133
    have hfr0 : ∀ b, kd b ≠ 12 → kd b ≠ 576 → f_136 b = f b := fun b q12 q576 => (hkc_137 b q12).trans (hfr0 b q12 q576)
    have hrA12 : ∀ b, kd b = 12 → ∀ j, fldR (f_136 b) j = fldR (f b) j := fun b kb j => (hra_138 b kb j).trans (hrA12 b kb j)
    have hfA12 : ∀ b, kd b = 12 → ∀ j, j ≠ 6 → j ≠ 7 → j ≠ 8 → j ≠ 14 → fldI (f_136 b) j = fldI (f b) j := fun b kb j n6 n7 n8 n14 => (hfa_139 b kb j n6).trans (hfA12 b kb j n6 n7 n8 n14)
    have hT0 : frel kd 576 7 f_136 a_3 := hT0.keep (fun b q => hkc_137 b (by rw [q]; decide))
    obtain ⟨a_144, a_145, a_146, v_147, a_148, v_149, v_150, v_151, v_152, v_153, v_154, v_155, v_156, v_157, v_158, a_159, a_160, a_161, a_162, a_163, a_164, a_165, a_166, v_167, v_168, v_169, v_170, v_171, a_172, v_173, a_174, a_175, v_176, v_177, a_178, v_179, a_180, a_181, v_182, v_183, a_184, a_185, a_186, v_187, a_188, a_189, a_190, a_191, a_192, a_193, a_194, a_195, a_196, v_197, v_198, a_199, hfo_143, ⟨ma_144, ka_144⟩, ⟨ma_145, ka_145⟩, ⟨ma_146, ka_146⟩, bv_147, ⟨ma_148, ka_148⟩, bv_149, bv_150, bv_155, bv_156, bv_157, ⟨ma_159, ka_159⟩, ⟨ma_160, ka_160⟩, ⟨ma_161, ka_161⟩, ⟨ma_162, ka_162⟩, ⟨ma_163, ka_163⟩, ⟨ma_164, ka_164⟩, ⟨ma_165, ka_165⟩, ⟨ma_166, ka_166⟩, bv_167, bv_169, bv_171, ⟨ma_172, ka_172⟩, bv_173, ⟨ma_174, ka_174⟩, ⟨ma_175, ka_175⟩, bv_176, ⟨ma_178, ka_178⟩, bv_179, ⟨ma_180, ka_180⟩, ⟨ma_181, ka_181⟩, bv_182, ⟨ma_184, ka_184⟩, ⟨ma_185, ka_185⟩, ⟨ma_186, ka_186⟩, bv_187, ⟨ma_188, ka_188⟩, ⟨ma_189, ka_189⟩, ⟨ma_190, ka_190⟩, ⟨ma_191, ka_191⟩, ⟨ma_192, ka_192⟩, ⟨ma_193, ka_193⟩, ⟨ma_194, ka_194⟩, ⟨ma_195, ka_195⟩, ⟨ma_196, ka_196⟩, bv_197, ⟨ma_199, ka_199⟩⟩ := un_12 (hG _ mo0) ko0
    have bv_151 : ((-2147483648) ≤ v_151.toInt ∧ v_151.toInt ≤ 2147483647) := ⟨i32_lo _, i32_hi _⟩
    have bv_152 : ((-2147483648) ≤ v_152.toInt ∧ v_152.toInt ≤ 2147483647) := ⟨i32_lo _, i32_hi _⟩
    have bv_153 : ((-2147483648) ≤ v_153.toInt ∧ v_153.toInt ≤ 2147483647) := ⟨i32_lo _, i32_hi _⟩
    have bv_154 : ((-2147483648) ≤ v_154.toInt ∧ v_154.toInt ≤ 2147483647) := ⟨i32_lo _, i32_hi _⟩
    have bv_158 : ((-2147483648) ≤ v_158.toInt ∧ v_158.toInt ≤ 2147483647) := ⟨i32_lo _, i32_hi _⟩
    have bv_168 : ((-2147483648) ≤ v_168.toInt ∧ v_168.toInt ≤ 2147483647) := ⟨i32_lo _, i32_hi _⟩
    have bv_170 : ((-2147483648) ≤ v_170.toInt ∧ v_170.toInt ≤ 2147483647) := ⟨i32_lo _, i32_hi _⟩
    have bv_177 : ((-2147483648) ≤ v_177.toInt ∧ v_177.toInt ≤ 2147483647) := ⟨i32_lo _, i32_hi _⟩
    have bv_183 : ((-2147483648) ≤ v_183.toInt ∧ v_183.toInt ≤ 2147483647) := ⟨i32_lo _, i32_hi _⟩
    have bv_198 : ((-2147483648) ≤ v_198.toInt ∧ v_198.toInt ≤ 2147483647) := ⟨i32_lo _, i32_hi _⟩
    obtain ⟨rfl, rfl, rfl, rfl, rfl, rfl, rfl, rfl, rfl, rfl, rfl, rfl, rfl, rfl, rfl, rfl, rfl, rfl, rfl, rfl, rfl, rfl, rfl, rfl, rfl, rfl, rfl, rfl, rfl, rfl, rfl⟩ := re_12 hfo_1 hfo_143 (hrA12 o0 ko0)
    obtain rfl := ri_12_3 hfo_1 hfo_143 (hfA12 o0 ko0 3 (by decide) (by decide) (by decide) (by decide))
    obtain rfl := ri_12_5 hfo_1 hfo_143 (hfA12 o0 ko0 5 (by decide) (by decide) (by decide) (by decide))
    obtain rfl := ri_12_11 hfo_1 hfo_143 (hfA12 o0 ko0 11 (by decide) (by decide) (by decide) (by decide))
    obtain rfl := ri_12_12 hfo_1 hfo_143 (hfA12 o0 ko0 12 (by decide) (by decide) (by decide) (by decide))
    obtain rfl := ri_12_13 hfo_1 hfo_143 (hfA12 o0 ko0 13 (by decide) (by decide) (by decide) (by decide))
    obtain rfl := ri_12_23 hfo_1 hfo_143 (hfA12 o0 ko0 23 (by decide) (by decide) (by decide) (by decide))
    obtain rfl := ri_12_25 hfo_1 hfo_143 (hfA12 o0 ko0 25 (by decide) (by decide) (by decide) (by decide))
    obtain rfl := ri_12_27 hfo_1 hfo_143 (hfA12 o0 ko0 27 (by decide) (by decide) (by decide) (by decide))
    obtain rfl := ri_12_29 hfo_1 hfo_143 (hfA12 o0 ko0 29 (by decide) (by decide) (by decide) (by decide))
    obtain rfl := ri_12_32 hfo_1 hfo_143 (hfA12 o0 ko0 32 (by decide) (by decide) (by decide) (by decide))
    obtain rfl := ri_12_33 hfo_1 hfo_143 (hfA12 o0 ko0 33 (by decide) (by decide) (by decide) (by decide))
    obtain rfl := ri_12_35 hfo_1 hfo_143 (hfA12 o0 ko0 35 (by decide) (by decide) (by decide) (by decide))
    obtain rfl := ri_12_38 hfo_1 hfo_143 (hfA12 o0 ko0 38 (by decide) (by decide) (by decide) (by decide))
    obtain rfl := ri_12_43 hfo_1 hfo_143 (hfA12 o0 ko0 43 (by decide) (by decide) (by decide) (by decide))
    obtain rfl := ri_12_53 hfo_1 hfo_143 (hfA12 o0 ko0 53 (by decide) (by decide) (by decide) (by decide))
    obtain rfl := ri_12_14 hfo_132 hfo_143 (hfa_139 o0 ko0 14 (by decide))
    have hqhpost_140 := hpost_140 v_74 v_150 (by rw [hfo_132]; rfl) (by rw [hfo_143]; rfl)
    have hMm_200 : ∀ z9, fldI (f_136 o0) 6 = some z9 → v_8.toInt ≤ z9.toInt := fun z9 h9 => by rw [hfo_143] at h9; obtain rfl := Option.some.inj h9; have h8 := hMm_124 v_74 (by rw [hfo_132]; rfl); omega
    refine lv_bipush (v := 35) hx hb dX12_context_30 (by decide) ?_
    have hcut_204 : ∀ (f_202 : Nat → va_E), GI (okc cI cL cZ cR cG cH L kd) kd L f_202 → ∀ (H : Heap) (locs : List Loc), va_P (dC, dI) vwCl (va_pl L f_202) H → va_S (fun q => q ∈ L) s.heap H locs → va_D (fun q => q ∈ L) (va_pl L f_202) → (∀ b, kd b ≠ 12 → kd b ≠ 576 → f_202 b = f b) → (∀ b, kd b = 12 → ∀ j, fldR (f_202 b) j = fldR (f b) j) → (∀ b, kd b = 12 → ∀ j, j ≠ 6 → j ≠ 7 → j ≠ 8 → j ≠ 14 → fldI (f_202 b) j = fldI (f b) j) → (f_202 a_3 = .inl (cI, 1560, .inl g_129)) → frel kd 576 7 f_202 a_3 → ∀ z9, fldI (f_202 o0) 6 = some z9 → v_8.toInt ≤ z9.toInt → ∀ (ls : Array Slot), lv_has ls 2 [(0, .ref o0), (1, .int p1)] → W p l e (headSpec (wU yX12_context cX12_context 2 (some .boolean)) { frames := 6, cells := 0, slots := 0, locals := 129 }).room s m [.ref o0, .int p1].toArray below meth c H locs 0 0 (MQ below (va_Qi (fun (r : Int32) (f9 : Nat → va_E) => GI (okc cI cL cZ cR cG cH L kd) kd L f9 ∧ (0 ≤ r.toInt ∧ r.toInt ≤ 1) ∧ (∀ b, kd b ≠ 12 → kd b ≠ 576 → f9 b = f b) ∧ (∀ b, kd b = 12 → ∀ j, fldR (f9 b) j = fldR (f b) j) ∧ (∀ b, kd b = 12 → ∀ j, j ≠ 6 → j ≠ 7 → j ≠ 8 → j ≠ 14 → fldI (f9 b) j = fldI (f b) j) ∧ (∀ (w6 z6 : Int32), fldI (f o0) 6 = some w6 → fldI (f9 o0) 6 = some z6 → w6.toInt ≤ z6.toInt) ∧ (∀ d9, fldR (f9 o0) 1 = some d9 → frel kd 576 7 f9 d9)) (qP (dC, dI) cI cL cZ cR cG cH L) (fun q => q ∈ L)) [.ref o0, .int p1].toArray s 0 0 (fun q => q ∈ L)) (F0 m 45 ls []) := by
      intro f_202 hG H locs hP hS hD hfr0 hrA12 hfA12 hfo_203 hT0 hMm_200 ls hl
      refine lv_aload_n hx hb dX12_context_45 rfl (lv_at hl 0 rfl) ?_
      refine lv_iload_n hx hb dX12_context_46 rfl (lv_at hl 1 rfl) ?_
      refine lv_iconst (v := 0) hx hb dX12_context_47 (by decide) ?_
      obtain ⟨a_206, a_207, a_208, v_209, a_210, v_211, v_212, v_213, v_214, v_215, v_216, v_217, v_218, v_219, v_220, a_221, a_222, a_223, a_224, a_225, a_226, a_227, a_228, v_229, v_230, v_231, v_232, v_233, a_234, v_235, a_236, a_237, v_238, v_239, a_240, v_241, a_242, a_243, v_244, v_245, a_246, a_247, a_248, v_249, a_250, a_251, a_252, a_253, a_254, a_255, a_256, a_257, a_258, v_259, v_260, a_261, hfo_205, ⟨ma_206, ka_206⟩, ⟨ma_207, ka_207⟩, ⟨ma_208, ka_208⟩, bv_209, ⟨ma_210, ka_210⟩, bv_211, bv_212, bv_217, bv_218, bv_219, ⟨ma_221, ka_221⟩, ⟨ma_222, ka_222⟩, ⟨ma_223, ka_223⟩, ⟨ma_224, ka_224⟩, ⟨ma_225, ka_225⟩, ⟨ma_226, ka_226⟩, ⟨ma_227, ka_227⟩, ⟨ma_228, ka_228⟩, bv_229, bv_231, bv_233, ⟨ma_234, ka_234⟩, bv_235, ⟨ma_236, ka_236⟩, ⟨ma_237, ka_237⟩, bv_238, ⟨ma_240, ka_240⟩, bv_241, ⟨ma_242, ka_242⟩, ⟨ma_243, ka_243⟩, bv_244, ⟨ma_246, ka_246⟩, ⟨ma_247, ka_247⟩, ⟨ma_248, ka_248⟩, bv_249, ⟨ma_250, ka_250⟩, ⟨ma_251, ka_251⟩, ⟨ma_252, ka_252⟩, ⟨ma_253, ka_253⟩, ⟨ma_254, ka_254⟩, ⟨ma_255, ka_255⟩, ⟨ma_256, ka_256⟩, ⟨ma_257, ka_257⟩, ⟨ma_258, ka_258⟩, bv_259, ⟨ma_261, ka_261⟩⟩ := un_12 (hG _ mo0) ko0
      have bv_213 : ((-2147483648) ≤ v_213.toInt ∧ v_213.toInt ≤ 2147483647) := ⟨i32_lo _, i32_hi _⟩
      have bv_214 : ((-2147483648) ≤ v_214.toInt ∧ v_214.toInt ≤ 2147483647) := ⟨i32_lo _, i32_hi _⟩
      have bv_215 : ((-2147483648) ≤ v_215.toInt ∧ v_215.toInt ≤ 2147483647) := ⟨i32_lo _, i32_hi _⟩
      have bv_216 : ((-2147483648) ≤ v_216.toInt ∧ v_216.toInt ≤ 2147483647) := ⟨i32_lo _, i32_hi _⟩
      have bv_220 : ((-2147483648) ≤ v_220.toInt ∧ v_220.toInt ≤ 2147483647) := ⟨i32_lo _, i32_hi _⟩
      have bv_230 : ((-2147483648) ≤ v_230.toInt ∧ v_230.toInt ≤ 2147483647) := ⟨i32_lo _, i32_hi _⟩
      have bv_232 : ((-2147483648) ≤ v_232.toInt ∧ v_232.toInt ≤ 2147483647) := ⟨i32_lo _, i32_hi _⟩
      have bv_239 : ((-2147483648) ≤ v_239.toInt ∧ v_239.toInt ≤ 2147483647) := ⟨i32_lo _, i32_hi _⟩
      have bv_245 : ((-2147483648) ≤ v_245.toInt ∧ v_245.toInt ≤ 2147483647) := ⟨i32_lo _, i32_hi _⟩
      have bv_260 : ((-2147483648) ≤ v_260.toInt ∧ v_260.toInt ≤ 2147483647) := ⟨i32_lo _, i32_hi _⟩
      obtain ⟨rfl, rfl, rfl, rfl, rfl, rfl, rfl, rfl, rfl, rfl, rfl, rfl, rfl, rfl, rfl, rfl, rfl, rfl, rfl, rfl, rfl, rfl, rfl, rfl, rfl, rfl, rfl, rfl, rfl, rfl, rfl⟩ := re_12 hfo_1 hfo_205 (hrA12 o0 ko0)
      obtain rfl := ri_12_3 hfo_1 hfo_205 (hfA12 o0 ko0 3 (by decide) (by decide) (by decide) (by decide))
      obtain rfl := ri_12_5 hfo_1 hfo_205 (hfA12 o0 ko0 5 (by decide) (by decide) (by decide) (by decide))
      obtain rfl := ri_12_11 hfo_1 hfo_205 (hfA12 o0 ko0 11 (by decide) (by decide) (by decide) (by decide))
      obtain rfl := ri_12_12 hfo_1 hfo_205 (hfA12 o0 ko0 12 (by decide) (by decide) (by decide) (by decide))
      obtain rfl := ri_12_13 hfo_1 hfo_205 (hfA12 o0 ko0 13 (by decide) (by decide) (by decide) (by decide))
      obtain rfl := ri_12_23 hfo_1 hfo_205 (hfA12 o0 ko0 23 (by decide) (by decide) (by decide) (by decide))
      obtain rfl := ri_12_25 hfo_1 hfo_205 (hfA12 o0 ko0 25 (by decide) (by decide) (by decide) (by decide))
      obtain rfl := ri_12_27 hfo_1 hfo_205 (hfA12 o0 ko0 27 (by decide) (by decide) (by decide) (by decide))
      obtain rfl := ri_12_29 hfo_1 hfo_205 (hfA12 o0 ko0 29 (by decide) (by decide) (by decide) (by decide))
      obtain rfl := ri_12_32 hfo_1 hfo_205 (hfA12 o0 ko0 32 (by decide) (by decide) (by decide) (by decide))
      obtain rfl := ri_12_33 hfo_1 hfo_205 (hfA12 o0 ko0 33 (by decide) (by decide) (by decide) (by decide))
      obtain rfl := ri_12_35 hfo_1 hfo_205 (hfA12 o0 ko0 35 (by decide) (by decide) (by decide) (by decide))
      obtain rfl := ri_12_38 hfo_1 hfo_205 (hfA12 o0 ko0 38 (by decide) (by decide) (by decide) (by decide))
      obtain rfl := ri_12_43 hfo_1 hfo_205 (hfA12 o0 ko0 43 (by decide) (by decide) (by decide) (by decide))
      obtain rfl := ri_12_53 hfo_1 hfo_205 (hfA12 o0 ko0 53 (by decide) (by decide) (by decide) (by decide))
      refine tk_ViP (As := [.int p1, .int 0]) (rest := []) (n := 2) hx hb hml hown hU hN hZ (s_X12_side_k12 l (dC, dI) cI cL cZ cR cG cH Z kd L f_202 hG o0 mo0 ko0 p1 (by constructor <;> omega) 0 (by decide) (fun d9 h9 => by rw [hfo_205] at h9; obtain rfl := Option.some.inj h9; exact hT0)) wd_643 wd_644 wd_645 wd_5 wd_646 (by decide +kernel) ⟨Nat.le_of_ble_eq_true rfl, Nat.le_of_ble_eq_true rfl⟩ hK hP hD hS mo0 hfo_205 12 rfl rfl rfl hl.1 rfl (Nat.le_of_ble_eq_true rfl) dX12_context_48 ⟨Nat.le_of_ble_eq_true rfl, Nat.le_of_ble_eq_true rfl⟩ (fun x_262 f_263 H locs hw hP hD hS => ?_)
      obtain ⟨hG, bx_262, hkc_264, hra_265, hfa_266, hpost_267, hTc_268⟩ := hw
      have hfr0 : ∀ b, kd b ≠ 12 → kd b ≠ 576 → f_263 b = f b := fun b q12 q576 => (hkc_264 b q12 q576).trans (hfr0 b q12 q576)
      have hrA12 : ∀ b, kd b = 12 → ∀ j, fldR (f_263 b) j = fldR (f b) j := fun b kb j => (hra_265 b kb j).trans (hrA12 b kb j)
      have hfA12 : ∀ b, kd b = 12 → ∀ j, j ≠ 6 → j ≠ 7 → j ≠ 8 → j ≠ 14 → fldI (f_263 b) j = fldI (f b) j := fun b kb j n6 n7 n8 n14 => (hfa_266 b kb j n6 n7 n8 n14).trans (hfA12 b kb j n6 n7 n8 n14)
      obtain ⟨a_271, a_272, a_273, v_274, a_275, v_276, v_277, v_278, v_279, v_280, v_281, v_282, v_283, v_284, v_285, a_286, a_287, a_288, a_289, a_290, a_291, a_292, a_293, v_294, v_295, v_296, v_297, v_298, a_299, v_300, a_301, a_302, v_303, v_304, a_305, v_306, a_307, a_308, v_309, v_310, a_311, a_312, a_313, v_314, a_315, a_316, a_317, a_318, a_319, a_320, a_321, a_322, a_323, v_324, v_325, a_326, hfo_270, ⟨ma_271, ka_271⟩, ⟨ma_272, ka_272⟩, ⟨ma_273, ka_273⟩, bv_274, ⟨ma_275, ka_275⟩, bv_276, bv_277, bv_282, bv_283, bv_284, ⟨ma_286, ka_286⟩, ⟨ma_287, ka_287⟩, ⟨ma_288, ka_288⟩, ⟨ma_289, ka_289⟩, ⟨ma_290, ka_290⟩, ⟨ma_291, ka_291⟩, ⟨ma_292, ka_292⟩, ⟨ma_293, ka_293⟩, bv_294, bv_296, bv_298, ⟨ma_299, ka_299⟩, bv_300, ⟨ma_301, ka_301⟩, ⟨ma_302, ka_302⟩, bv_303, ⟨ma_305, ka_305⟩, bv_306, ⟨ma_307, ka_307⟩, ⟨ma_308, ka_308⟩, bv_309, ⟨ma_311, ka_311⟩, ⟨ma_312, ka_312⟩, ⟨ma_313, ka_313⟩, bv_314, ⟨ma_315, ka_315⟩, ⟨ma_316, ka_316⟩, ⟨ma_317, ka_317⟩, ⟨ma_318, ka_318⟩, ⟨ma_319, ka_319⟩, ⟨ma_320, ka_320⟩, ⟨ma_321, ka_321⟩, ⟨ma_322, ka_322⟩, ⟨ma_323, ka_323⟩, bv_324, ⟨ma_326, ka_326⟩⟩ := un_12 (hG _ mo0) ko0
      have bv_278 : ((-2147483648) ≤ v_278.toInt ∧ v_278.toInt ≤ 2147483647) := ⟨i32_lo _, i32_hi _⟩
      have bv_279 : ((-2147483648) ≤ v_279.toInt ∧ v_279.toInt ≤ 2147483647) := ⟨i32_lo _, i32_hi _⟩
      have bv_280 : ((-2147483648) ≤ v_280.toInt ∧ v_280.toInt ≤ 2147483647) := ⟨i32_lo _, i32_hi _⟩
      have bv_281 : ((-2147483648) ≤ v_281.toInt ∧ v_281.toInt ≤ 2147483647) := ⟨i32_lo _, i32_hi _⟩
      have bv_285 : ((-2147483648) ≤ v_285.toInt ∧ v_285.toInt ≤ 2147483647) := ⟨i32_lo _, i32_hi _⟩
      have bv_295 : ((-2147483648) ≤ v_295.toInt ∧ v_295.toInt ≤ 2147483647) := ⟨i32_lo _, i32_hi _⟩
      have bv_297 : ((-2147483648) ≤ v_297.toInt ∧ v_297.toInt ≤ 2147483647) := ⟨i32_lo _, i32_hi _⟩
      have bv_304 : ((-2147483648) ≤ v_304.toInt ∧ v_304.toInt ≤ 2147483647) := ⟨i32_lo _, i32_hi _⟩
      have bv_310 : ((-2147483648) ≤ v_310.toInt ∧ v_310.toInt ≤ 2147483647) := ⟨i32_lo _, i32_hi _⟩
      have bv_325 : ((-2147483648) ≤ v_325.toInt ∧ v_325.toInt ≤ 2147483647) := ⟨i32_lo _, i32_hi _⟩
      obtain ⟨rfl, rfl, rfl, rfl, rfl, rfl, rfl, rfl, rfl, rfl, rfl, rfl, rfl, rfl, rfl, rfl, rfl, rfl, rfl, rfl, rfl, rfl, rfl, rfl, rfl, rfl, rfl, rfl, rfl, rfl, rfl⟩ := re_12 hfo_1 hfo_270 (hrA12 o0 ko0)
      obtain rfl := ri_12_3 hfo_1 hfo_270 (hfA12 o0 ko0 3 (by decide) (by decide) (by decide) (by decide))
      obtain rfl := ri_12_5 hfo_1 hfo_270 (hfA12 o0 ko0 5 (by decide) (by decide) (by decide) (by decide))
      obtain rfl := ri_12_11 hfo_1 hfo_270 (hfA12 o0 ko0 11 (by decide) (by decide) (by decide) (by decide))
      obtain rfl := ri_12_12 hfo_1 hfo_270 (hfA12 o0 ko0 12 (by decide) (by decide) (by decide) (by decide))
      obtain rfl := ri_12_13 hfo_1 hfo_270 (hfA12 o0 ko0 13 (by decide) (by decide) (by decide) (by decide))
      obtain rfl := ri_12_23 hfo_1 hfo_270 (hfA12 o0 ko0 23 (by decide) (by decide) (by decide) (by decide))
      obtain rfl := ri_12_25 hfo_1 hfo_270 (hfA12 o0 ko0 25 (by decide) (by decide) (by decide) (by decide))
      obtain rfl := ri_12_27 hfo_1 hfo_270 (hfA12 o0 ko0 27 (by decide) (by decide) (by decide) (by decide))
      obtain rfl := ri_12_29 hfo_1 hfo_270 (hfA12 o0 ko0 29 (by decide) (by decide) (by decide) (by decide))
      obtain rfl := ri_12_32 hfo_1 hfo_270 (hfA12 o0 ko0 32 (by decide) (by decide) (by decide) (by decide))
      obtain rfl := ri_12_33 hfo_1 hfo_270 (hfA12 o0 ko0 33 (by decide) (by decide) (by decide) (by decide))
      obtain rfl := ri_12_35 hfo_1 hfo_270 (hfA12 o0 ko0 35 (by decide) (by decide) (by decide) (by decide))
      obtain rfl := ri_12_38 hfo_1 hfo_270 (hfA12 o0 ko0 38 (by decide) (by decide) (by decide) (by decide))
      obtain rfl := ri_12_43 hfo_1 hfo_270 (hfA12 o0 ko0 43 (by decide) (by decide) (by decide) (by decide))
      obtain rfl := ri_12_53 hfo_1 hfo_270 (hfA12 o0 ko0 53 (by decide) (by decide) (by decide) (by decide))
      have hqhpost_267 := hpost_267 v_212 v_277 (by rw [hfo_205]; rfl) (by rw [hfo_270]; rfl)
      try rw [ti_0] at hqhpost_267
      have hMm_327 : ∀ z9, fldI (f_263 o0) 6 = some z9 → v_8.toInt ≤ z9.toInt := fun z9 h9 => by rw [hfo_270] at h9; obtain rfl := Option.some.inj h9; have h8 := hMm_200 v_212 (by rw [hfo_205]; rfl); omega
      have hT_328 := hTc_268 a_3 (by rw [hfo_270]; rfl)
      refine lv_if_eq (tgt := 72) hx hb dX12_context_51 (by decide) (fun c_329 => ?_) (fun c_329 => ?_)
      · skip
        rw [← Int32.toInt_inj, ti_0] at c_329
        refine lv_iconst (v := 0) hx hb dX12_context_72 (by decide) ?_
        have hM9 := hMm_327 v_277 (by rw [hfo_270]; rfl)
        exact W.zret (v := 0) (ty := .boolean) hx hb hr rfl (fun t ht hW => ⟨⟨0, f_263, rfl, ⟨hG, (by decide), hfr0, hrA12, hfA12, (by intro w6 z6 e6 d6; rw [hfo_1] at e6; rw [hfo_270] at d6; obtain rfl := Option.some.inj e6; obtain rfl := Option.some.inj d6; (try rw [ti_0]) <;> omega), (fun d9 h9 => by rw [hfo_270] at h9; obtain rfl := Option.some.inj h9; exact hT_328)⟩, by rw [ht]; exact hP, va_K.moved hW.alike hK, pl_in hD⟩, hS.F ht⟩) hS.2.2 dX12_context_73
      · skip
        rw [← Int32.toInt_inj, ti_0] at c_329
        refine lv_aload_n hx hb dX12_context_54 rfl (lv_at hl 0 rfl) ?_
        refine lv_bipush (v := 95) hx hb dX12_context_55 (by decide) ?_
        refine tk_ViP (As := [.int 95]) (rest := []) (n := 1) hx hb hml hown hU hN hZ (s_X12_takes_k12 l (dC, dI) cI cL cZ cR cG cH Z kd L f_263 hG o0 mo0 ko0 95 (by decide)) wd_624 wd_625 wd_626 wd_5 wd_627 (by decide +kernel) ⟨Nat.le_of_ble_eq_true rfl, Nat.le_of_ble_eq_true rfl⟩ hK hP hD hS mo0 hfo_270 12 rfl rfl rfl hl.1 rfl (Nat.le_of_ble_eq_true rfl) dX12_context_57 ⟨Nat.le_of_ble_eq_true rfl, Nat.le_of_ble_eq_true rfl⟩ (fun x_330 f_331 H locs hw hP hD hS => ?_)
        obtain ⟨hG, bx_330, hkc_332, hra_333, hfa_334, hpost_335⟩ := hw
        have hfr0 : ∀ b, kd b ≠ 12 → kd b ≠ 576 → f_331 b = f b := fun b q12 q576 => (hkc_332 b q12).trans (hfr0 b q12 q576)
        have hrA12 : ∀ b, kd b = 12 → ∀ j, fldR (f_331 b) j = fldR (f b) j := fun b kb j => (hra_333 b kb j).trans (hrA12 b kb j)
        have hfA12 : ∀ b, kd b = 12 → ∀ j, j ≠ 6 → j ≠ 7 → j ≠ 8 → j ≠ 14 → fldI (f_331 b) j = fldI (f b) j := fun b kb j n6 n7 n8 n14 => (hfa_334 b kb j n6 n7 n8).trans (hfA12 b kb j n6 n7 n8 n14)
        have hT_328 : frel kd 576 7 f_331 a_3 := hT_328.keep (fun b q => hkc_332 b (by rw [q]; decide))
        obtain ⟨a_338, a_339, a_340, v_341, a_342, v_343, v_344, v_345, v_346, v_347, v_348, v_349, v_350, v_351, v_352, a_353, a_354, a_355, a_356, a_357, a_358, a_359, a_360, v_361, v_362, v_363, v_364, v_365, a_366, v_367, a_368, a_369, v_370, v_371, a_372, v_373, a_374, a_375, v_376, v_377, a_378, a_379, a_380, v_381, a_382, a_383, a_384, a_385, a_386, a_387, a_388, a_389, a_390, v_391, v_392, a_393, hfo_337, ⟨ma_338, ka_338⟩, ⟨ma_339, ka_339⟩, ⟨ma_340, ka_340⟩, bv_341, ⟨ma_342, ka_342⟩, bv_343, bv_344, bv_349, bv_350, bv_351, ⟨ma_353, ka_353⟩, ⟨ma_354, ka_354⟩, ⟨ma_355, ka_355⟩, ⟨ma_356, ka_356⟩, ⟨ma_357, ka_357⟩, ⟨ma_358, ka_358⟩, ⟨ma_359, ka_359⟩, ⟨ma_360, ka_360⟩, bv_361, bv_363, bv_365, ⟨ma_366, ka_366⟩, bv_367, ⟨ma_368, ka_368⟩, ⟨ma_369, ka_369⟩, bv_370, ⟨ma_372, ka_372⟩, bv_373, ⟨ma_374, ka_374⟩, ⟨ma_375, ka_375⟩, bv_376, ⟨ma_378, ka_378⟩, ⟨ma_379, ka_379⟩, ⟨ma_380, ka_380⟩, bv_381, ⟨ma_382, ka_382⟩, ⟨ma_383, ka_383⟩, ⟨ma_384, ka_384⟩, ⟨ma_385, ka_385⟩, ⟨ma_386, ka_386⟩, ⟨ma_387, ka_387⟩, ⟨ma_388, ka_388⟩, ⟨ma_389, ka_389⟩, ⟨ma_390, ka_390⟩, bv_391, ⟨ma_393, ka_393⟩⟩ := un_12 (hG _ mo0) ko0
        have bv_345 : ((-2147483648) ≤ v_345.toInt ∧ v_345.toInt ≤ 2147483647) := ⟨i32_lo _, i32_hi _⟩
        have bv_346 : ((-2147483648) ≤ v_346.toInt ∧ v_346.toInt ≤ 2147483647) := ⟨i32_lo _, i32_hi _⟩
        have bv_347 : ((-2147483648) ≤ v_347.toInt ∧ v_347.toInt ≤ 2147483647) := ⟨i32_lo _, i32_hi _⟩
        have bv_348 : ((-2147483648) ≤ v_348.toInt ∧ v_348.toInt ≤ 2147483647) := ⟨i32_lo _, i32_hi _⟩
        have bv_352 : ((-2147483648) ≤ v_352.toInt ∧ v_352.toInt ≤ 2147483647) := ⟨i32_lo _, i32_hi _⟩
        have bv_362 : ((-2147483648) ≤ v_362.toInt ∧ v_362.toInt ≤ 2147483647) := ⟨i32_lo _, i32_hi _⟩
        have bv_364 : ((-2147483648) ≤ v_364.toInt ∧ v_364.toInt ≤ 2147483647) := ⟨i32_lo _, i32_hi _⟩
        have bv_371 : ((-2147483648) ≤ v_371.toInt ∧ v_371.toInt ≤ 2147483647) := ⟨i32_lo _, i32_hi _⟩
        have bv_377 : ((-2147483648) ≤ v_377.toInt ∧ v_377.toInt ≤ 2147483647) := ⟨i32_lo _, i32_hi _⟩
        have bv_392 : ((-2147483648) ≤ v_392.toInt ∧ v_392.toInt ≤ 2147483647) := ⟨i32_lo _, i32_hi _⟩
        obtain ⟨rfl, rfl, rfl, rfl, rfl, rfl, rfl, rfl, rfl, rfl, rfl, rfl, rfl, rfl, rfl, rfl, rfl, rfl, rfl, rfl, rfl, rfl, rfl, rfl, rfl, rfl, rfl, rfl, rfl, rfl, rfl⟩ := re_12 hfo_1 hfo_337 (hrA12 o0 ko0)
        obtain rfl := ri_12_3 hfo_1 hfo_337 (hfA12 o0 ko0 3 (by decide) (by decide) (by decide) (by decide))
        obtain rfl := ri_12_5 hfo_1 hfo_337 (hfA12 o0 ko0 5 (by decide) (by decide) (by decide) (by decide))
        obtain rfl := ri_12_11 hfo_1 hfo_337 (hfA12 o0 ko0 11 (by decide) (by decide) (by decide) (by decide))
        obtain rfl := ri_12_12 hfo_1 hfo_337 (hfA12 o0 ko0 12 (by decide) (by decide) (by decide) (by decide))
        obtain rfl := ri_12_13 hfo_1 hfo_337 (hfA12 o0 ko0 13 (by decide) (by decide) (by decide) (by decide))
        obtain rfl := ri_12_23 hfo_1 hfo_337 (hfA12 o0 ko0 23 (by decide) (by decide) (by decide) (by decide))
        obtain rfl := ri_12_25 hfo_1 hfo_337 (hfA12 o0 ko0 25 (by decide) (by decide) (by decide) (by decide))
        obtain rfl := ri_12_27 hfo_1 hfo_337 (hfA12 o0 ko0 27 (by decide) (by decide) (by decide) (by decide))
        obtain rfl := ri_12_29 hfo_1 hfo_337 (hfA12 o0 ko0 29 (by decide) (by decide) (by decide) (by decide))
        obtain rfl := ri_12_32 hfo_1 hfo_337 (hfA12 o0 ko0 32 (by decide) (by decide) (by decide) (by decide))
        obtain rfl := ri_12_33 hfo_1 hfo_337 (hfA12 o0 ko0 33 (by decide) (by decide) (by decide) (by decide))
        obtain rfl := ri_12_35 hfo_1 hfo_337 (hfA12 o0 ko0 35 (by decide) (by decide) (by decide) (by decide))
        obtain rfl := ri_12_38 hfo_1 hfo_337 (hfA12 o0 ko0 38 (by decide) (by decide) (by decide) (by decide))
        obtain rfl := ri_12_43 hfo_1 hfo_337 (hfA12 o0 ko0 43 (by decide) (by decide) (by decide) (by decide))
        obtain rfl := ri_12_53 hfo_1 hfo_337 (hfA12 o0 ko0 53 (by decide) (by decide) (by decide) (by decide))
        obtain rfl := ri_12_14 hfo_270 hfo_337 (hfa_334 o0 ko0 14 (by decide) (by decide) (by decide))
        have hqhpost_335 := hpost_335 v_277 v_344 (by rw [hfo_270]; rfl) (by rw [hfo_337]; rfl)
        try rw [ti_95] at hqhpost_335
        have hMm_394 : ∀ z9, fldI (f_331 o0) 6 = some z9 → v_8.toInt ≤ z9.toInt := fun z9 h9 => by rw [hfo_337] at h9; obtain rfl := Option.some.inj h9; have h8 := hMm_327 v_277 (by rw [hfo_270]; rfl); omega
        refine lv_if_eq (tgt := 72) hx hb dX12_context_60 (by decide) (fun c_395 => ?_) (fun c_395 => ?_)
        · skip
          rw [← Int32.toInt_inj, ti_0] at c_395
          refine lv_iconst (v := 0) hx hb dX12_context_72 (by decide) ?_
          have hM9 := hMm_394 v_344 (by rw [hfo_337]; rfl)
          exact W.zret (v := 0) (ty := .boolean) hx hb hr rfl (fun t ht hW => ⟨⟨0, f_331, rfl, ⟨hG, (by decide), hfr0, hrA12, hfA12, (by intro w6 z6 e6 d6; rw [hfo_1] at e6; rw [hfo_337] at d6; obtain rfl := Option.some.inj e6; obtain rfl := Option.some.inj d6; (try rw [ti_0]) <;> omega), (fun d9 h9 => by rw [hfo_337] at h9; obtain rfl := Option.some.inj h9; exact hT_328)⟩, by rw [ht]; exact hP, va_K.moved hW.alike hK, pl_in hD⟩, hS.F ht⟩) hS.2.2 dX12_context_73
        · skip
          rw [← Int32.toInt_inj, ti_0] at c_395
          refine lv_aload_n hx hb dX12_context_63 rfl (lv_at hl 0 rfl) ?_
          refine lv_iload_n hx hb dX12_context_64 rfl (lv_at hl 1 rfl) ?_
          refine lv_iconst (v := 1) hx hb dX12_context_65 (by decide) ?_
          refine tk_ViP (As := [.int p1, .int 1]) (rest := []) (n := 2) hx hb hml hown hU hN hZ (s_X12_side_k12 l (dC, dI) cI cL cZ cR cG cH Z kd L f_331 hG o0 mo0 ko0 p1 (by constructor <;> omega) 1 (by decide) (fun d9 h9 => by rw [hfo_337] at h9; obtain rfl := Option.some.inj h9; exact hT_328)) wd_643 wd_644 wd_645 wd_5 wd_646 (by decide +kernel) ⟨Nat.le_of_ble_eq_true rfl, Nat.le_of_ble_eq_true rfl⟩ hK hP hD hS mo0 hfo_337 12 rfl rfl rfl hl.1 rfl (Nat.le_of_ble_eq_true rfl) dX12_context_66 ⟨Nat.le_of_ble_eq_true rfl, Nat.le_of_ble_eq_true rfl⟩ (fun x_396 f_397 H locs hw hP hD hS => ?_)
          obtain ⟨hG, bx_396, hkc_398, hra_399, hfa_400, hpost_401, hTc_402⟩ := hw
          have hfr0 : ∀ b, kd b ≠ 12 → kd b ≠ 576 → f_397 b = f b := fun b q12 q576 => (hkc_398 b q12 q576).trans (hfr0 b q12 q576)
          have hrA12 : ∀ b, kd b = 12 → ∀ j, fldR (f_397 b) j = fldR (f b) j := fun b kb j => (hra_399 b kb j).trans (hrA12 b kb j)
          have hfA12 : ∀ b, kd b = 12 → ∀ j, j ≠ 6 → j ≠ 7 → j ≠ 8 → j ≠ 14 → fldI (f_397 b) j = fldI (f b) j := fun b kb j n6 n7 n8 n14 => (hfa_400 b kb j n6 n7 n8 n14).trans (hfA12 b kb j n6 n7 n8 n14)
          obtain ⟨a_405, a_406, a_407, v_408, a_409, v_410, v_411, v_412, v_413, v_414, v_415, v_416, v_417, v_418, v_419, a_420, a_421, a_422, a_423, a_424, a_425, a_426, a_427, v_428, v_429, v_430, v_431, v_432, a_433, v_434, a_435, a_436, v_437, v_438, a_439, v_440, a_441, a_442, v_443, v_444, a_445, a_446, a_447, v_448, a_449, a_450, a_451, a_452, a_453, a_454, a_455, a_456, a_457, v_458, v_459, a_460, hfo_404, ⟨ma_405, ka_405⟩, ⟨ma_406, ka_406⟩, ⟨ma_407, ka_407⟩, bv_408, ⟨ma_409, ka_409⟩, bv_410, bv_411, bv_416, bv_417, bv_418, ⟨ma_420, ka_420⟩, ⟨ma_421, ka_421⟩, ⟨ma_422, ka_422⟩, ⟨ma_423, ka_423⟩, ⟨ma_424, ka_424⟩, ⟨ma_425, ka_425⟩, ⟨ma_426, ka_426⟩, ⟨ma_427, ka_427⟩, bv_428, bv_430, bv_432, ⟨ma_433, ka_433⟩, bv_434, ⟨ma_435, ka_435⟩, ⟨ma_436, ka_436⟩, bv_437, ⟨ma_439, ka_439⟩, bv_440, ⟨ma_441, ka_441⟩, ⟨ma_442, ka_442⟩, bv_443, ⟨ma_445, ka_445⟩, ⟨ma_446, ka_446⟩, ⟨ma_447, ka_447⟩, bv_448, ⟨ma_449, ka_449⟩, ⟨ma_450, ka_450⟩, ⟨ma_451, ka_451⟩, ⟨ma_452, ka_452⟩, ⟨ma_453, ka_453⟩, ⟨ma_454, ka_454⟩, ⟨ma_455, ka_455⟩, ⟨ma_456, ka_456⟩, ⟨ma_457, ka_457⟩, bv_458, ⟨ma_460, ka_460⟩⟩ := un_12 (hG _ mo0) ko0
          have bv_412 : ((-2147483648) ≤ v_412.toInt ∧ v_412.toInt ≤ 2147483647) := ⟨i32_lo _, i32_hi _⟩
          have bv_413 : ((-2147483648) ≤ v_413.toInt ∧ v_413.toInt ≤ 2147483647) := ⟨i32_lo _, i32_hi _⟩
          have bv_414 : ((-2147483648) ≤ v_414.toInt ∧ v_414.toInt ≤ 2147483647) := ⟨i32_lo _, i32_hi _⟩
          have bv_415 : ((-2147483648) ≤ v_415.toInt ∧ v_415.toInt ≤ 2147483647) := ⟨i32_lo _, i32_hi _⟩
          have bv_419 : ((-2147483648) ≤ v_419.toInt ∧ v_419.toInt ≤ 2147483647) := ⟨i32_lo _, i32_hi _⟩
          have bv_429 : ((-2147483648) ≤ v_429.toInt ∧ v_429.toInt ≤ 2147483647) := ⟨i32_lo _, i32_hi _⟩
          have bv_431 : ((-2147483648) ≤ v_431.toInt ∧ v_431.toInt ≤ 2147483647) := ⟨i32_lo _, i32_hi _⟩
          have bv_438 : ((-2147483648) ≤ v_438.toInt ∧ v_438.toInt ≤ 2147483647) := ⟨i32_lo _, i32_hi _⟩
          have bv_444 : ((-2147483648) ≤ v_444.toInt ∧ v_444.toInt ≤ 2147483647) := ⟨i32_lo _, i32_hi _⟩
          have bv_459 : ((-2147483648) ≤ v_459.toInt ∧ v_459.toInt ≤ 2147483647) := ⟨i32_lo _, i32_hi _⟩
          obtain ⟨rfl, rfl, rfl, rfl, rfl, rfl, rfl, rfl, rfl, rfl, rfl, rfl, rfl, rfl, rfl, rfl, rfl, rfl, rfl, rfl, rfl, rfl, rfl, rfl, rfl, rfl, rfl, rfl, rfl, rfl, rfl⟩ := re_12 hfo_1 hfo_404 (hrA12 o0 ko0)
          obtain rfl := ri_12_3 hfo_1 hfo_404 (hfA12 o0 ko0 3 (by decide) (by decide) (by decide) (by decide))
          obtain rfl := ri_12_5 hfo_1 hfo_404 (hfA12 o0 ko0 5 (by decide) (by decide) (by decide) (by decide))
          obtain rfl := ri_12_11 hfo_1 hfo_404 (hfA12 o0 ko0 11 (by decide) (by decide) (by decide) (by decide))
          obtain rfl := ri_12_12 hfo_1 hfo_404 (hfA12 o0 ko0 12 (by decide) (by decide) (by decide) (by decide))
          obtain rfl := ri_12_13 hfo_1 hfo_404 (hfA12 o0 ko0 13 (by decide) (by decide) (by decide) (by decide))
          obtain rfl := ri_12_23 hfo_1 hfo_404 (hfA12 o0 ko0 23 (by decide) (by decide) (by decide) (by decide))
          obtain rfl := ri_12_25 hfo_1 hfo_404 (hfA12 o0 ko0 25 (by decide) (by decide) (by decide) (by decide))
          obtain rfl := ri_12_27 hfo_1 hfo_404 (hfA12 o0 ko0 27 (by decide) (by decide) (by decide) (by decide))
          obtain rfl := ri_12_29 hfo_1 hfo_404 (hfA12 o0 ko0 29 (by decide) (by decide) (by decide) (by decide))
          obtain rfl := ri_12_32 hfo_1 hfo_404 (hfA12 o0 ko0 32 (by decide) (by decide) (by decide) (by decide))
          obtain rfl := ri_12_33 hfo_1 hfo_404 (hfA12 o0 ko0 33 (by decide) (by decide) (by decide) (by decide))
          obtain rfl := ri_12_35 hfo_1 hfo_404 (hfA12 o0 ko0 35 (by decide) (by decide) (by decide) (by decide))
          obtain rfl := ri_12_38 hfo_1 hfo_404 (hfA12 o0 ko0 38 (by decide) (by decide) (by decide) (by decide))
          obtain rfl := ri_12_43 hfo_1 hfo_404 (hfA12 o0 ko0 43 (by decide) (by decide) (by decide) (by decide))
          obtain rfl := ri_12_53 hfo_1 hfo_404 (hfA12 o0 ko0 53 (by decide) (by decide) (by decide) (by decide))
          have hqhpost_401 := hpost_401 v_344 v_411 (by rw [hfo_337]; rfl) (by rw [hfo_404]; rfl)
          try rw [ti_1] at hqhpost_401
          have hMm_461 : ∀ z9, fldI (f_397 o0) 6 = some z9 → v_8.toInt ≤ z9.toInt := fun z9 h9 => by rw [hfo_404] at h9; obtain rfl := Option.some.inj h9; have h8 := hMm_394 v_344 (by rw [hfo_337]; rfl); omega
          have hT_462 := hTc_402 a_3 (by rw [hfo_404]; rfl)
          refine lv_if_ne (tgt := 74) hx hb dX12_context_69 (by decide) (fun c_463 => ?_) (fun c_463 => ?_)
          · skip
            rw [← Int32.toInt_inj, ti_0] at c_463
            refine lv_aload_n hx hb dX12_context_74 rfl (lv_at hl 0 rfl) ?_
            refine tk_getP (D := (dC, dI)) (ci := 12) (v := .ref a_3) (C := RX12) (T := TX12) (N := 56) hx hb hU inlX12 hown hK hP mo0 hfo_404 rfl 1 (by decide) (hU _ wd_170) (fun _ h9 => h9) rfl dX12_context_75 ?_
            refine lv_sipush (v := 500) hx hb dX12_context_78 (by decide) ?_
            refine lv_iconst (v := 4) hx hb dX12_context_81 (by decide) ?_
            refine lv_iload_n hx hb dX12_context_82 rfl (lv_at hl 1 rfl) ?_
            refine lv_imul hx hb dX12_context_83 ?_
            refine lv_topi (fun x_464 ex_464 => ?_)
            have hx_464 : x_464.toInt = 4 * p1.toInt := by rw [ex_464, ml_I (by rw [ti_4]; omega) (by rw [ti_4]; omega), ti_4]
            have bx_464 : (0 ≤ x_464.toInt ∧ x_464.toInt ≤ 92) := by constructor <;> omega
            refine lv_iadd hx hb dX12_context_84 ?_
            refine lv_topi (fun x_465 ex_465 => ?_)
            have hx_465 : x_465.toInt = 500 + x_464.toInt := by rw [ex_465, ad_I (by rw [ti_500]; omega) (by rw [ti_500]; omega), ti_500]
            have bx_465 : (500 ≤ x_465.toInt ∧ x_465.toInt ≤ 592) := by constructor <;> omega
            refine lv_iconst (v := 1) hx hb dX12_context_85 (by decide) ?_
            refine lv_iadd hx hb dX12_context_86 ?_
            refine lv_topi (fun x_466 ex_466 => ?_)
            have hx_466 : x_466.toInt = x_465.toInt + 1 := by rw [ex_466, ad_I (by rw [ti_1]; omega) (by rw [ti_1]; omega), ti_1]
            have bx_466 : (501 ≤ x_466.toInt ∧ x_466.toInt ≤ 593) := by constructor <;> omega
            refine lv_aload_n hx hb dX12_context_87 rfl (lv_at hl 0 rfl) ?_
            refine tk_ViP (As := []) (rest := [.int x_466, .ref a_3]) (n := 0) hx hb hml hown hU hN hZ (s_X12_sign_k12 l (dC, dI) cI cL cZ cR cG cH Z kd L f_397 hG o0 mo0 ko0) wd_573 wd_574 wd_575 wd_5 wd_576 (by decide +kernel) ⟨Nat.le_of_ble_eq_true rfl, Nat.le_of_ble_eq_true rfl⟩ hK hP hD hS mo0 hfo_404 12 rfl rfl rfl hl.1 rfl (Nat.le_of_ble_eq_true rfl) dX12_context_88 ⟨Nat.le_of_ble_eq_true rfl, Nat.le_of_ble_eq_true rfl⟩ (fun x_467 f_468 H locs hw hP hD hS => ?_)
            obtain ⟨hG, bx_467, hkc_469, hra_470, hfa_471, hpost_472⟩ := hw
            have hfr0 : ∀ b, kd b ≠ 12 → kd b ≠ 576 → f_468 b = f b := fun b q12 q576 => (hkc_469 b q12).trans (hfr0 b q12 q576)
            have hrA12 : ∀ b, kd b = 12 → ∀ j, fldR (f_468 b) j = fldR (f b) j := fun b kb j => (hra_470 b kb j).trans (hrA12 b kb j)
            have hfA12 : ∀ b, kd b = 12 → ∀ j, j ≠ 6 → j ≠ 7 → j ≠ 8 → j ≠ 14 → fldI (f_468 b) j = fldI (f b) j := fun b kb j n6 n7 n8 n14 => (hfa_471 b kb j n6).trans (hfA12 b kb j n6 n7 n8 n14)
            have hT_462 : frel kd 576 7 f_468 a_3 := hT_462.keep (fun b q => hkc_469 b (by rw [q]; decide))
            obtain ⟨a_475, a_476, a_477, v_478, a_479, v_480, v_481, v_482, v_483, v_484, v_485, v_486, v_487, v_488, v_489, a_490, a_491, a_492, a_493, a_494, a_495, a_496, a_497, v_498, v_499, v_500, v_501, v_502, a_503, v_504, a_505, a_506, v_507, v_508, a_509, v_510, a_511, a_512, v_513, v_514, a_515, a_516, a_517, v_518, a_519, a_520, a_521, a_522, a_523, a_524, a_525, a_526, a_527, v_528, v_529, a_530, hfo_474, ⟨ma_475, ka_475⟩, ⟨ma_476, ka_476⟩, ⟨ma_477, ka_477⟩, bv_478, ⟨ma_479, ka_479⟩, bv_480, bv_481, bv_486, bv_487, bv_488, ⟨ma_490, ka_490⟩, ⟨ma_491, ka_491⟩, ⟨ma_492, ka_492⟩, ⟨ma_493, ka_493⟩, ⟨ma_494, ka_494⟩, ⟨ma_495, ka_495⟩, ⟨ma_496, ka_496⟩, ⟨ma_497, ka_497⟩, bv_498, bv_500, bv_502, ⟨ma_503, ka_503⟩, bv_504, ⟨ma_505, ka_505⟩, ⟨ma_506, ka_506⟩, bv_507, ⟨ma_509, ka_509⟩, bv_510, ⟨ma_511, ka_511⟩, ⟨ma_512, ka_512⟩, bv_513, ⟨ma_515, ka_515⟩, ⟨ma_516, ka_516⟩, ⟨ma_517, ka_517⟩, bv_518, ⟨ma_519, ka_519⟩, ⟨ma_520, ka_520⟩, ⟨ma_521, ka_521⟩, ⟨ma_522, ka_522⟩, ⟨ma_523, ka_523⟩, ⟨ma_524, ka_524⟩, ⟨ma_525, ka_525⟩, ⟨ma_526, ka_526⟩, ⟨ma_527, ka_527⟩, bv_528, ⟨ma_530, ka_530⟩⟩ := un_12 (hG _ mo0) ko0
            have bv_482 : ((-2147483648) ≤ v_482.toInt ∧ v_482.toInt ≤ 2147483647) := ⟨i32_lo _, i32_hi _⟩
            have bv_483 : ((-2147483648) ≤ v_483.toInt ∧ v_483.toInt ≤ 2147483647) := ⟨i32_lo _, i32_hi _⟩
            have bv_484 : ((-2147483648) ≤ v_484.toInt ∧ v_484.toInt ≤ 2147483647) := ⟨i32_lo _, i32_hi _⟩
            have bv_485 : ((-2147483648) ≤ v_485.toInt ∧ v_485.toInt ≤ 2147483647) := ⟨i32_lo _, i32_hi _⟩
            have bv_489 : ((-2147483648) ≤ v_489.toInt ∧ v_489.toInt ≤ 2147483647) := ⟨i32_lo _, i32_hi _⟩
            have bv_499 : ((-2147483648) ≤ v_499.toInt ∧ v_499.toInt ≤ 2147483647) := ⟨i32_lo _, i32_hi _⟩
            have bv_501 : ((-2147483648) ≤ v_501.toInt ∧ v_501.toInt ≤ 2147483647) := ⟨i32_lo _, i32_hi _⟩
            have bv_508 : ((-2147483648) ≤ v_508.toInt ∧ v_508.toInt ≤ 2147483647) := ⟨i32_lo _, i32_hi _⟩
            have bv_514 : ((-2147483648) ≤ v_514.toInt ∧ v_514.toInt ≤ 2147483647) := ⟨i32_lo _, i32_hi _⟩
            have bv_529 : ((-2147483648) ≤ v_529.toInt ∧ v_529.toInt ≤ 2147483647) := ⟨i32_lo _, i32_hi _⟩
            obtain ⟨rfl, rfl, rfl, rfl, rfl, rfl, rfl, rfl, rfl, rfl, rfl, rfl, rfl, rfl, rfl, rfl, rfl, rfl, rfl, rfl, rfl, rfl, rfl, rfl, rfl, rfl, rfl, rfl, rfl, rfl, rfl⟩ := re_12 hfo_1 hfo_474 (hrA12 o0 ko0)
            obtain rfl := ri_12_3 hfo_1 hfo_474 (hfA12 o0 ko0 3 (by decide) (by decide) (by decide) (by decide))
            obtain rfl := ri_12_5 hfo_1 hfo_474 (hfA12 o0 ko0 5 (by decide) (by decide) (by decide) (by decide))
            obtain rfl := ri_12_11 hfo_1 hfo_474 (hfA12 o0 ko0 11 (by decide) (by decide) (by decide) (by decide))
            obtain rfl := ri_12_12 hfo_1 hfo_474 (hfA12 o0 ko0 12 (by decide) (by decide) (by decide) (by decide))
            obtain rfl := ri_12_13 hfo_1 hfo_474 (hfA12 o0 ko0 13 (by decide) (by decide) (by decide) (by decide))
            obtain rfl := ri_12_23 hfo_1 hfo_474 (hfA12 o0 ko0 23 (by decide) (by decide) (by decide) (by decide))
            obtain rfl := ri_12_25 hfo_1 hfo_474 (hfA12 o0 ko0 25 (by decide) (by decide) (by decide) (by decide))
            obtain rfl := ri_12_27 hfo_1 hfo_474 (hfA12 o0 ko0 27 (by decide) (by decide) (by decide) (by decide))
            obtain rfl := ri_12_29 hfo_1 hfo_474 (hfA12 o0 ko0 29 (by decide) (by decide) (by decide) (by decide))
            obtain rfl := ri_12_32 hfo_1 hfo_474 (hfA12 o0 ko0 32 (by decide) (by decide) (by decide) (by decide))
            obtain rfl := ri_12_33 hfo_1 hfo_474 (hfA12 o0 ko0 33 (by decide) (by decide) (by decide) (by decide))
            obtain rfl := ri_12_35 hfo_1 hfo_474 (hfA12 o0 ko0 35 (by decide) (by decide) (by decide) (by decide))
            obtain rfl := ri_12_38 hfo_1 hfo_474 (hfA12 o0 ko0 38 (by decide) (by decide) (by decide) (by decide))
            obtain rfl := ri_12_43 hfo_1 hfo_474 (hfA12 o0 ko0 43 (by decide) (by decide) (by decide) (by decide))
            obtain rfl := ri_12_53 hfo_1 hfo_474 (hfA12 o0 ko0 53 (by decide) (by decide) (by decide) (by decide))
            obtain rfl := ri_12_14 hfo_404 hfo_474 (hfa_471 o0 ko0 14 (by decide))
            have hqhpost_472 := hpost_472 v_411 v_481 (by rw [hfo_404]; rfl) (by rw [hfo_474]; rfl)
            have hMm_531 : ∀ z9, fldI (f_468 o0) 6 = some z9 → v_8.toInt ≤ z9.toInt := fun z9 h9 => by rw [hfo_474] at h9; obtain rfl := Option.some.inj h9; have h8 := hMm_461 v_411 (by rw [hfo_404]; rfl); omega
            refine lv_bipush (v := 35) hx hb dX12_context_91 (by decide) ?_
            have hcut_533 : ∀ (y_532 : Int32), (0 ≤ y_532.toInt ∧ y_532.toInt ≤ 1) → ∀ (ls : Array Slot), lv_has ls 2 [(0, .ref o0), (1, .int p1)] → W p l e (headSpec (wU yX12_context cX12_context 2 (some .boolean)) { frames := 6, cells := 0, slots := 0, locals := 129 }).room s m [.ref o0, .int p1].toArray below meth c H locs 0 0 (MQ below (va_Qi (fun (r : Int32) (f9 : Nat → va_E) => GI (okc cI cL cZ cR cG cH L kd) kd L f9 ∧ (0 ≤ r.toInt ∧ r.toInt ≤ 1) ∧ (∀ b, kd b ≠ 12 → kd b ≠ 576 → f9 b = f b) ∧ (∀ b, kd b = 12 → ∀ j, fldR (f9 b) j = fldR (f b) j) ∧ (∀ b, kd b = 12 → ∀ j, j ≠ 6 → j ≠ 7 → j ≠ 8 → j ≠ 14 → fldI (f9 b) j = fldI (f b) j) ∧ (∀ (w6 z6 : Int32), fldI (f o0) 6 = some w6 → fldI (f9 o0) 6 = some z6 → w6.toInt ≤ z6.toInt) ∧ (∀ d9, fldR (f9 o0) 1 = some d9 → frel kd 576 7 f9 d9)) (qP (dC, dI) cI cL cZ cR cG cH L) (fun q => q ∈ L)) [.ref o0, .int p1].toArray s 0 0 (fun q => q ∈ L)) (F0 m 101 ls [.int y_532, .int x_466, .ref a_3]) := by
              intro y_532 by_532 ls hl
              obtain ⟨g_535, hfo_534, hbg_535⟩ := un_576 (hG _ ma_3) ka_3
              refine tk_istP hx hb hK hP hD hS 0 ma_3 hfo_534 rfl (vp_in_iff.mpr (by constructor <;> omega)) dX12_context_101 (fun H locs hP hD hS => ?_)
              have hc9 := cl_I (i := x_466) (by omega)
              obtain ⟨g_536, eqg_536⟩ : ∃ y : Nat → Int32, y = upd g_535 (Int32.toNatClampNeg x_466) y_532 := ⟨_, rfl⟩
              rw [← eqg_536] at hP hD
              have hbg_536 : wOK g_536 := by rw [eqg_536]; exact ⟨hbg_535.1.up (fun h1 h2 h3 => by exfalso; omega), hbg_535.2.1.up (fun h1 h2 h3 => by exfalso; omega), hbg_535.2.2.1.up (fun h1 h2 h3 => by exfalso; omega), hbg_535.2.2.2.1.up (fun h1 h2 h3 => by exfalso; omega), hbg_535.2.2.2.2.1.up (fun h1 h2 h3 => by exfalso; omega), hbg_535.2.2.2.2.2.1.up (fun h1 h2 h3 => by exfalso; omega), hbg_535.2.2.2.2.2.2.1.up (fun h1 h2 h3 => by exfalso; omega), hbg_535.2.2.2.2.2.2.2.1.up (fun h1 h2 h3 => by exfalso; omega), hbg_535.2.2.2.2.2.2.2.2.1.up (fun h1 h2 h3 => by exfalso; omega), hbg_535.2.2.2.2.2.2.2.2.2.1.up (fun h1 h2 h3 => by exfalso; omega), hbg_535.2.2.2.2.2.2.2.2.2.2.1.up (fun h1 h2 h3 => by exfalso; omega), hbg_535.2.2.2.2.2.2.2.2.2.2.2.1.up (fun h1 h2 h3 => by exfalso; omega), hbg_535.2.2.2.2.2.2.2.2.2.2.2.2.1.up (fun h1 h2 h3 => by exfalso; omega), hbg_535.2.2.2.2.2.2.2.2.2.2.2.2.2.1.up (fun h1 h2 h3 => by exfalso; omega), hbg_535.2.2.2.2.2.2.2.2.2.2.2.2.2.2.1.up (fun h1 h2 h3 => by exfalso; omega), hbg_535.2.2.2.2.2.2.2.2.2.2.2.2.2.2.2.up (fun h1 h2 h3 => by constructor <;> omega)⟩
              obtain ⟨f_538, ef_538⟩ : ∃ y : Nat → va_E, y = va_up f_468 a_3 (.inl (cI, 1560, .inl g_536)) := ⟨_, rfl⟩
              have hP : va_P (dC, dI) vwCl (va_pl L f_538) H := by rw [ef_538]; exact hP
              have hD : va_D (fun q => q ∈ L) (va_pl L f_538) := by rw [ef_538]; exact hD
              have hG : GI (okc cI cL cZ cR cG cH L kd) kd L f_538 := by rw [ef_538]; exact hG.set a_3 (mk_576 ka_3 ⟨_, rfl, hbg_536⟩)
              have hfo_539 : f_538 o0 = .inr (12, [.ref a_2, .ref a_3, .ref a_4, .int v_5, .ref a_6, .int v_7, .int v_481, .int v_482, .int v_483, .int v_484, .int v_485, .int v_13, .int v_14, .int v_15, .int v_419, .ref a_17, .ref a_18, .ref a_19, .ref a_20, .ref a_21, .ref a_22, .ref a_23, .ref a_24, .int v_25, .int v_499, .int v_27, .int v_501, .int v_29, .ref a_30, .int v_31, .ref a_32, .ref a_33, .int v_34, .int v_35, .ref a_36, .int v_37, .ref a_38, .ref a_39, .int v_40, .int v_514, .ref a_42, .ref a_43, .ref a_44, .int v_45, .ref a_46, .ref a_47, .ref a_48, .ref a_49, .ref a_50, .ref a_51, .ref a_52, .ref a_53, .ref a_54, .int v_55, .int v_529, .ref a_57]) := by rw [ef_538, up_ne (kd_ne ka_3 ko0 (by decide))]; exact hfo_474
              have hfr0 : ∀ b, kd b ≠ 12 → kd b ≠ 576 → f_538 b = f b := fun b q12 q576 => (congrFun ef_538 b).trans ((up_ne (fun e9 => q576 (by rw [e9]; exact ka_3))).trans (hfr0 b q12 q576))
              have hrA12 : ∀ b, kd b = 12 → ∀ j, fldR (f_538 b) j = fldR (f b) j := fun b kb j => (congrArg (fun x => fldR x j) ((congrFun ef_538 b).trans (up_ne (kd_ne ka_3 kb (by decide))))).trans (hrA12 b kb j)
              have hfA12 : ∀ b, kd b = 12 → ∀ j, j ≠ 6 → j ≠ 7 → j ≠ 8 → j ≠ 14 → fldI (f_538 b) j = fldI (f b) j := fun b kb j n6 n7 n8 n14 => (congrArg (fun x => fldI x j) ((congrFun ef_538 b).trans (up_ne (kd_ne ka_3 kb (by decide))))).trans (hfA12 b kb j n6 n7 n8 n14)
              have hT_462 : frel kd 576 7 f_538 a_3 := by rw [ef_538]; exact frel.mk ka_3 up_self (by rw [eqg_536]; exact (hT_462.get hfo_534).up (hbg_535.2.1 16 (by decide) (by decide) (by decide)).2 (by omega) (by omega) (by omega) (fun h9 => by exfalso; omega))
              have hMm_531 : ∀ z9, fldI (f_538 o0) 6 = some z9 → v_8.toInt ≤ z9.toInt := by rw [ef_538]; exact (fun z9 h9 => hMm_531 z9 (by rw [up_ne (kd_ne ka_3 ko0 (by decide))] at h9; exact h9))
              have hfo_540 : f_538 a_3 = .inl (cI, 1560, .inl g_536) := by rw [ef_538]; exact up_self
              have ql_541 : y_532 = g_536 (Int32.toNatClampNeg x_466) := by rw [eqg_536, pk_us]
              refine lv_aload_n hx hb dX12_context_102 rfl (lv_at hl 0 rfl) ?_
              refine tk_ViP (As := []) (rest := []) (n := 0) hx hb hml hown hU hN hZ (s_X12_sign_k12 l (dC, dI) cI cL cZ cR cG cH Z kd L f_538 hG o0 mo0 ko0) wd_573 wd_574 wd_575 wd_5 wd_576 (by decide +kernel) ⟨Nat.le_of_ble_eq_true rfl, Nat.le_of_ble_eq_true rfl⟩ hK hP hD hS mo0 hfo_539 12 rfl rfl rfl hl.1 rfl (Nat.le_of_ble_eq_true rfl) dX12_context_103 ⟨Nat.le_of_ble_eq_true rfl, Nat.le_of_ble_eq_true rfl⟩ (fun x_542 f_543 H locs hw hP hD hS => ?_)
              obtain ⟨hG, bx_542, hkc_544, hra_545, hfa_546, hpost_547⟩ := hw
              have hfo_549 : f_543 a_3 = .inl (cI, 1560, .inl g_536) := by rw [hkc_544 a_3 (by rw [ka_3]; decide)]; exact hfo_540
              have hfr0 : ∀ b, kd b ≠ 12 → kd b ≠ 576 → f_543 b = f b := fun b q12 q576 => (hkc_544 b q12).trans (hfr0 b q12 q576)
              have hrA12 : ∀ b, kd b = 12 → ∀ j, fldR (f_543 b) j = fldR (f b) j := fun b kb j => (hra_545 b kb j).trans (hrA12 b kb j)
              have hfA12 : ∀ b, kd b = 12 → ∀ j, j ≠ 6 → j ≠ 7 → j ≠ 8 → j ≠ 14 → fldI (f_543 b) j = fldI (f b) j := fun b kb j n6 n7 n8 n14 => (hfa_546 b kb j n6).trans (hfA12 b kb j n6 n7 n8 n14)
              have hT_462 : frel kd 576 7 f_543 a_3 := hT_462.keep (fun b q => hkc_544 b (by rw [q]; decide))
              obtain ⟨a_551, a_552, a_553, v_554, a_555, v_556, v_557, v_558, v_559, v_560, v_561, v_562, v_563, v_564, v_565, a_566, a_567, a_568, a_569, a_570, a_571, a_572, a_573, v_574, v_575, v_576, v_577, v_578, a_579, v_580, a_581, a_582, v_583, v_584, a_585, v_586, a_587, a_588, v_589, v_590, a_591, a_592, a_593, v_594, a_595, a_596, a_597, a_598, a_599, a_600, a_601, a_602, a_603, v_604, v_605, a_606, hfo_550, ⟨ma_551, ka_551⟩, ⟨ma_552, ka_552⟩, ⟨ma_553, ka_553⟩, bv_554, ⟨ma_555, ka_555⟩, bv_556, bv_557, bv_562, bv_563, bv_564, ⟨ma_566, ka_566⟩, ⟨ma_567, ka_567⟩, ⟨ma_568, ka_568⟩, ⟨ma_569, ka_569⟩, ⟨ma_570, ka_570⟩, ⟨ma_571, ka_571⟩, ⟨ma_572, ka_572⟩, ⟨ma_573, ka_573⟩, bv_574, bv_576, bv_578, ⟨ma_579, ka_579⟩, bv_580, ⟨ma_581, ka_581⟩, ⟨ma_582, ka_582⟩, bv_583, ⟨ma_585, ka_585⟩, bv_586, ⟨ma_587, ka_587⟩, ⟨ma_588, ka_588⟩, bv_589, ⟨ma_591, ka_591⟩, ⟨ma_592, ka_592⟩, ⟨ma_593, ka_593⟩, bv_594, ⟨ma_595, ka_595⟩, ⟨ma_596, ka_596⟩, ⟨ma_597, ka_597⟩, ⟨ma_598, ka_598⟩, ⟨ma_599, ka_599⟩, ⟨ma_600, ka_600⟩, ⟨ma_601, ka_601⟩, ⟨ma_602, ka_602⟩, ⟨ma_603, ka_603⟩, bv_604, ⟨ma_606, ka_606⟩⟩ := un_12 (hG _ mo0) ko0
              have bv_558 : ((-2147483648) ≤ v_558.toInt ∧ v_558.toInt ≤ 2147483647) := ⟨i32_lo _, i32_hi _⟩
              have bv_559 : ((-2147483648) ≤ v_559.toInt ∧ v_559.toInt ≤ 2147483647) := ⟨i32_lo _, i32_hi _⟩
              have bv_560 : ((-2147483648) ≤ v_560.toInt ∧ v_560.toInt ≤ 2147483647) := ⟨i32_lo _, i32_hi _⟩
              have bv_561 : ((-2147483648) ≤ v_561.toInt ∧ v_561.toInt ≤ 2147483647) := ⟨i32_lo _, i32_hi _⟩
              have bv_565 : ((-2147483648) ≤ v_565.toInt ∧ v_565.toInt ≤ 2147483647) := ⟨i32_lo _, i32_hi _⟩
              have bv_575 : ((-2147483648) ≤ v_575.toInt ∧ v_575.toInt ≤ 2147483647) := ⟨i32_lo _, i32_hi _⟩
              have bv_577 : ((-2147483648) ≤ v_577.toInt ∧ v_577.toInt ≤ 2147483647) := ⟨i32_lo _, i32_hi _⟩
              have bv_584 : ((-2147483648) ≤ v_584.toInt ∧ v_584.toInt ≤ 2147483647) := ⟨i32_lo _, i32_hi _⟩
              have bv_590 : ((-2147483648) ≤ v_590.toInt ∧ v_590.toInt ≤ 2147483647) := ⟨i32_lo _, i32_hi _⟩
              have bv_605 : ((-2147483648) ≤ v_605.toInt ∧ v_605.toInt ≤ 2147483647) := ⟨i32_lo _, i32_hi _⟩
              obtain ⟨rfl, rfl, rfl, rfl, rfl, rfl, rfl, rfl, rfl, rfl, rfl, rfl, rfl, rfl, rfl, rfl, rfl, rfl, rfl, rfl, rfl, rfl, rfl, rfl, rfl, rfl, rfl, rfl, rfl, rfl, rfl⟩ := re_12 hfo_1 hfo_550 (hrA12 o0 ko0)
              obtain rfl := ri_12_3 hfo_1 hfo_550 (hfA12 o0 ko0 3 (by decide) (by decide) (by decide) (by decide))
              obtain rfl := ri_12_5 hfo_1 hfo_550 (hfA12 o0 ko0 5 (by decide) (by decide) (by decide) (by decide))
              obtain rfl := ri_12_11 hfo_1 hfo_550 (hfA12 o0 ko0 11 (by decide) (by decide) (by decide) (by decide))
              obtain rfl := ri_12_12 hfo_1 hfo_550 (hfA12 o0 ko0 12 (by decide) (by decide) (by decide) (by decide))
              obtain rfl := ri_12_13 hfo_1 hfo_550 (hfA12 o0 ko0 13 (by decide) (by decide) (by decide) (by decide))
              obtain rfl := ri_12_23 hfo_1 hfo_550 (hfA12 o0 ko0 23 (by decide) (by decide) (by decide) (by decide))
              obtain rfl := ri_12_25 hfo_1 hfo_550 (hfA12 o0 ko0 25 (by decide) (by decide) (by decide) (by decide))
              obtain rfl := ri_12_27 hfo_1 hfo_550 (hfA12 o0 ko0 27 (by decide) (by decide) (by decide) (by decide))
              obtain rfl := ri_12_29 hfo_1 hfo_550 (hfA12 o0 ko0 29 (by decide) (by decide) (by decide) (by decide))
              obtain rfl := ri_12_32 hfo_1 hfo_550 (hfA12 o0 ko0 32 (by decide) (by decide) (by decide) (by decide))
              obtain rfl := ri_12_33 hfo_1 hfo_550 (hfA12 o0 ko0 33 (by decide) (by decide) (by decide) (by decide))
              obtain rfl := ri_12_35 hfo_1 hfo_550 (hfA12 o0 ko0 35 (by decide) (by decide) (by decide) (by decide))
              obtain rfl := ri_12_38 hfo_1 hfo_550 (hfA12 o0 ko0 38 (by decide) (by decide) (by decide) (by decide))
              obtain rfl := ri_12_43 hfo_1 hfo_550 (hfA12 o0 ko0 43 (by decide) (by decide) (by decide) (by decide))
              obtain rfl := ri_12_53 hfo_1 hfo_550 (hfA12 o0 ko0 53 (by decide) (by decide) (by decide) (by decide))
              obtain rfl := ri_12_14 hfo_539 hfo_550 (hfa_546 o0 ko0 14 (by decide))
              have hqhpost_547 := hpost_547 v_481 v_557 (by rw [hfo_539]; rfl) (by rw [hfo_550]; rfl)
              have hMm_607 : ∀ z9, fldI (f_543 o0) 6 = some z9 → v_8.toInt ≤ z9.toInt := fun z9 h9 => by rw [hfo_550] at h9; obtain rfl := Option.some.inj h9; have h8 := hMm_531 v_481 (by rw [hfo_539]; rfl); omega
              refine lv_bipush (v := 35) hx hb dX12_context_106 (by decide) ?_
              have hcut_611 : ∀ (f_609 : Nat → va_E), GI (okc cI cL cZ cR cG cH L kd) kd L f_609 → ∀ (H : Heap) (locs : List Loc), va_P (dC, dI) vwCl (va_pl L f_609) H → va_S (fun q => q ∈ L) s.heap H locs → va_D (fun q => q ∈ L) (va_pl L f_609) → (∀ b, kd b ≠ 12 → kd b ≠ 576 → f_609 b = f b) → (∀ b, kd b = 12 → ∀ j, fldR (f_609 b) j = fldR (f b) j) → (∀ b, kd b = 12 → ∀ j, j ≠ 6 → j ≠ 7 → j ≠ 8 → j ≠ 14 → fldI (f_609 b) j = fldI (f b) j) → (f_609 a_3 = .inl (cI, 1560, .inl g_536)) → frel kd 576 7 f_609 a_3 → ∀ z9, fldI (f_609 o0) 6 = some z9 → v_8.toInt ≤ z9.toInt → ∀ (ls : Array Slot), lv_has ls 2 [(0, .ref o0), (1, .int p1)] → W p l e (headSpec (wU yX12_context cX12_context 2 (some .boolean)) { frames := 6, cells := 0, slots := 0, locals := 129 }).room s m [.ref o0, .int p1].toArray below meth c H locs 0 0 (MQ below (va_Qi (fun (r : Int32) (f9 : Nat → va_E) => GI (okc cI cL cZ cR cG cH L kd) kd L f9 ∧ (0 ≤ r.toInt ∧ r.toInt ≤ 1) ∧ (∀ b, kd b ≠ 12 → kd b ≠ 576 → f9 b = f b) ∧ (∀ b, kd b = 12 → ∀ j, fldR (f9 b) j = fldR (f b) j) ∧ (∀ b, kd b = 12 → ∀ j, j ≠ 6 → j ≠ 7 → j ≠ 8 → j ≠ 14 → fldI (f9 b) j = fldI (f b) j) ∧ (∀ (w6 z6 : Int32), fldI (f o0) 6 = some w6 → fldI (f9 o0) 6 = some z6 → w6.toInt ≤ z6.toInt) ∧ (∀ d9, fldR (f9 o0) 1 = some d9 → frel kd 576 7 f9 d9)) (qP (dC, dI) cI cL cZ cR cG cH L) (fun q => q ∈ L)) [.ref o0, .int p1].toArray s 0 0 (fun q => q ∈ L)) (F0 m 121 ls []) := by
                intro f_609 hG H locs hP hS hD hfr0 hrA12 hfA12 hfo_610 hT_462 hMm_607 ls hl
                refine lv_iconst (v := 1) hx hb dX12_context_121 (by decide) ?_
                obtain ⟨a_613, a_614, a_615, v_616, a_617, v_618, v_619, v_620, v_621, v_622, v_623, v_624, v_625, v_626, v_627, a_628, a_629, a_630, a_631, a_632, a_633, a_634, a_635, v_636, v_637, v_638, v_639, v_640, a_641, v_642, a_643, a_644, v_645, v_646, a_647, v_648, a_649, a_650, v_651, v_652, a_653, a_654, a_655, v_656, a_657, a_658, a_659, a_660, a_661, a_662, a_663, a_664, a_665, v_666, v_667, a_668, hfo_612, ⟨ma_613, ka_613⟩, ⟨ma_614, ka_614⟩, ⟨ma_615, ka_615⟩, bv_616, ⟨ma_617, ka_617⟩, bv_618, bv_619, bv_624, bv_625, bv_626, ⟨ma_628, ka_628⟩, ⟨ma_629, ka_629⟩, ⟨ma_630, ka_630⟩, ⟨ma_631, ka_631⟩, ⟨ma_632, ka_632⟩, ⟨ma_633, ka_633⟩, ⟨ma_634, ka_634⟩, ⟨ma_635, ka_635⟩, bv_636, bv_638, bv_640, ⟨ma_641, ka_641⟩, bv_642, ⟨ma_643, ka_643⟩, ⟨ma_644, ka_644⟩, bv_645, ⟨ma_647, ka_647⟩, bv_648, ⟨ma_649, ka_649⟩, ⟨ma_650, ka_650⟩, bv_651, ⟨ma_653, ka_653⟩, ⟨ma_654, ka_654⟩, ⟨ma_655, ka_655⟩, bv_656, ⟨ma_657, ka_657⟩, ⟨ma_658, ka_658⟩, ⟨ma_659, ka_659⟩, ⟨ma_660, ka_660⟩, ⟨ma_661, ka_661⟩, ⟨ma_662, ka_662⟩, ⟨ma_663, ka_663⟩, ⟨ma_664, ka_664⟩, ⟨ma_665, ka_665⟩, bv_666, ⟨ma_668, ka_668⟩⟩ := un_12 (hG _ mo0) ko0
                have bv_620 : ((-2147483648) ≤ v_620.toInt ∧ v_620.toInt ≤ 2147483647) := ⟨i32_lo _, i32_hi _⟩
                have bv_621 : ((-2147483648) ≤ v_621.toInt ∧ v_621.toInt ≤ 2147483647) := ⟨i32_lo _, i32_hi _⟩
                have bv_622 : ((-2147483648) ≤ v_622.toInt ∧ v_622.toInt ≤ 2147483647) := ⟨i32_lo _, i32_hi _⟩
                have bv_623 : ((-2147483648) ≤ v_623.toInt ∧ v_623.toInt ≤ 2147483647) := ⟨i32_lo _, i32_hi _⟩
                have bv_627 : ((-2147483648) ≤ v_627.toInt ∧ v_627.toInt ≤ 2147483647) := ⟨i32_lo _, i32_hi _⟩
                have bv_637 : ((-2147483648) ≤ v_637.toInt ∧ v_637.toInt ≤ 2147483647) := ⟨i32_lo _, i32_hi _⟩
                have bv_639 : ((-2147483648) ≤ v_639.toInt ∧ v_639.toInt ≤ 2147483647) := ⟨i32_lo _, i32_hi _⟩
                have bv_646 : ((-2147483648) ≤ v_646.toInt ∧ v_646.toInt ≤ 2147483647) := ⟨i32_lo _, i32_hi _⟩
                have bv_652 : ((-2147483648) ≤ v_652.toInt ∧ v_652.toInt ≤ 2147483647) := ⟨i32_lo _, i32_hi _⟩
                have bv_667 : ((-2147483648) ≤ v_667.toInt ∧ v_667.toInt ≤ 2147483647) := ⟨i32_lo _, i32_hi _⟩
                obtain ⟨rfl, rfl, rfl, rfl, rfl, rfl, rfl, rfl, rfl, rfl, rfl, rfl, rfl, rfl, rfl, rfl, rfl, rfl, rfl, rfl, rfl, rfl, rfl, rfl, rfl, rfl, rfl, rfl, rfl, rfl, rfl⟩ := re_12 hfo_1 hfo_612 (hrA12 o0 ko0)
                obtain rfl := ri_12_3 hfo_1 hfo_612 (hfA12 o0 ko0 3 (by decide) (by decide) (by decide) (by decide))
                obtain rfl := ri_12_5 hfo_1 hfo_612 (hfA12 o0 ko0 5 (by decide) (by decide) (by decide) (by decide))
                obtain rfl := ri_12_11 hfo_1 hfo_612 (hfA12 o0 ko0 11 (by decide) (by decide) (by decide) (by decide))
                obtain rfl := ri_12_12 hfo_1 hfo_612 (hfA12 o0 ko0 12 (by decide) (by decide) (by decide) (by decide))
                obtain rfl := ri_12_13 hfo_1 hfo_612 (hfA12 o0 ko0 13 (by decide) (by decide) (by decide) (by decide))
                obtain rfl := ri_12_23 hfo_1 hfo_612 (hfA12 o0 ko0 23 (by decide) (by decide) (by decide) (by decide))
                obtain rfl := ri_12_25 hfo_1 hfo_612 (hfA12 o0 ko0 25 (by decide) (by decide) (by decide) (by decide))
                obtain rfl := ri_12_27 hfo_1 hfo_612 (hfA12 o0 ko0 27 (by decide) (by decide) (by decide) (by decide))
                obtain rfl := ri_12_29 hfo_1 hfo_612 (hfA12 o0 ko0 29 (by decide) (by decide) (by decide) (by decide))
                obtain rfl := ri_12_32 hfo_1 hfo_612 (hfA12 o0 ko0 32 (by decide) (by decide) (by decide) (by decide))
                obtain rfl := ri_12_33 hfo_1 hfo_612 (hfA12 o0 ko0 33 (by decide) (by decide) (by decide) (by decide))
                obtain rfl := ri_12_35 hfo_1 hfo_612 (hfA12 o0 ko0 35 (by decide) (by decide) (by decide) (by decide))
                obtain rfl := ri_12_38 hfo_1 hfo_612 (hfA12 o0 ko0 38 (by decide) (by decide) (by decide) (by decide))
                obtain rfl := ri_12_43 hfo_1 hfo_612 (hfA12 o0 ko0 43 (by decide) (by decide) (by decide) (by decide))
                obtain rfl := ri_12_53 hfo_1 hfo_612 (hfA12 o0 ko0 53 (by decide) (by decide) (by decide) (by decide))
                have hM9 := hMm_607 v_619 (by rw [hfo_612]; rfl)
                exact W.zret (v := 1) (ty := .boolean) hx hb hr rfl (fun t ht hW => ⟨⟨1, f_609, rfl, ⟨hG, (by decide), hfr0, hrA12, hfA12, (by intro w6 z6 e6 d6; rw [hfo_1] at e6; rw [hfo_612] at d6; obtain rfl := Option.some.inj e6; obtain rfl := Option.some.inj d6; (try rw [ti_1]) <;> omega), (fun d9 h9 => by rw [hfo_612] at h9; obtain rfl := Option.some.inj h9; exact hT_462)⟩, by rw [ht]; exact hP, va_K.moved hW.alike hK, pl_in hD⟩, hS.F ht⟩) hS.2.2 dX12_context_122
              refine lv_icmp_ne (tgt := 121) hx hb dX12_context_108 (by decide) (fun c_669 => ?_) (fun c_669 => ?_)
              · skip
                rw [← Int32.toInt_inj, ti_35] at c_669
                exact hcut_611 f_543 hG _ _ hP hS hD hfr0 hrA12 hfA12 hfo_549 hT_462 hMm_607 ls (lv_sub hl [0, 1] rfl)
              · skip
                rw [← Int32.toInt_inj, ti_35] at c_669
                have hclc_670 : (0 ≤ v_557.toInt ∧ v_557.toInt ≤ 599) := by constructor <;> omega
                refine lv_aload_n hx hb dX12_context_111 rfl (lv_at hl 0 rfl) ?_
                refine lv_dup hx hb dX12_context_112 rfl ?_
                refine tk_getP (D := (dC, dI)) (ci := 12) (v := .int v_557) (C := RX12) (T := TX12) (N := 56) hx hb hU inlX12 hown hK hP mo0 hfo_550 rfl 6 (by decide) (hU _ wd_566) (fun _ h9 => h9) rfl dX12_context_113 ?_
                refine lv_iconst (v := 1) hx hb dX12_context_116 (by decide) ?_
                refine lv_iadd hx hb dX12_context_117 ?_
                refine lv_topi (fun x_671 ex_671 => ?_)
                have hx_671 : x_671.toInt = v_557.toInt + 1 := by rw [ex_671, ad_I (by rw [ti_1]; omega) (by rw [ti_1]; omega), ti_1]
                have bx_671 : (1 ≤ x_671.toInt ∧ x_671.toInt ≤ 600) := by constructor <;> omega
                refine tk_putP (D := (dC, dI)) (ci := 12) (v := .int x_671) (ty := .int) (C := RX12) (T := TX12) (N := 56) hx hb hU inlX12 tyX12 tyX12_ok nmX12 hown hK hP hD hS mo0 hfo_550 rfl 6 (by decide) (hU _ wd_566) (fun _ h9 => h9) rfl (by decide +kernel) rfl rfl (Nat.le_of_ble_eq_true rfl) dX12_context_118 (fun H locs hP hD hS => ?_)
                obtain ⟨f_673, ef_673⟩ : ∃ y : Nat → va_E, y = va_up f_543 o0 (.inr (12, [.ref a_2, .ref a_3, .ref a_4, .int v_5, .ref a_6, .int v_7, .int x_671, .int v_558, .int v_559, .int v_560, .int v_561, .int v_13, .int v_14, .int v_15, .int v_419, .ref a_17, .ref a_18, .ref a_19, .ref a_20, .ref a_21, .ref a_22, .ref a_23, .ref a_24, .int v_25, .int v_575, .int v_27, .int v_577, .int v_29, .ref a_30, .int v_31, .ref a_32, .ref a_33, .int v_34, .int v_35, .ref a_36, .int v_37, .ref a_38, .ref a_39, .int v_40, .int v_590, .ref a_42, .ref a_43, .ref a_44, .int v_45, .ref a_46, .ref a_47, .ref a_48, .ref a_49, .ref a_50, .ref a_51, .ref a_52, .ref a_53, .ref a_54, .int v_55, .int v_605, .ref a_57])) := ⟨_, rfl⟩
                have hP : va_P (dC, dI) vwCl (va_pl L f_673) H := by rw [ef_673]; exact hP
                have hD : va_D (fun q => q ∈ L) (va_pl L f_673) := by rw [ef_673]; exact hD
                have hG : GI (okc cI cL cZ cR cG cH L kd) kd L f_673 := by rw [ef_673]; exact hG.set o0 (mk_12 ko0 ⟨a_2, a_3, a_4, v_5, a_6, v_7, x_671, v_558, v_559, v_560, v_561, v_13, v_14, v_15, v_419, a_17, a_18, a_19, a_20, a_21, a_22, a_23, a_24, v_25, v_575, v_27, v_577, v_29, a_30, v_31, a_32, a_33, v_34, v_35, a_36, v_37, a_38, a_39, v_40, v_590, a_42, a_43, a_44, v_45, a_46, a_47, a_48, a_49, a_50, a_51, a_52, a_53, a_54, v_55, v_605, a_57, rfl, ⟨ma_2, ka_2⟩, ⟨ma_3, ka_3⟩, ⟨ma_4, ka_4⟩, (by constructor <;> omega), ⟨ma_6, ka_6⟩, (by constructor <;> omega), (by constructor <;> omega), (by constructor <;> omega), (by constructor <;> omega), (by constructor <;> omega), ⟨ma_17, ka_17⟩, ⟨ma_18, ka_18⟩, ⟨ma_19, ka_19⟩, ⟨ma_20, ka_20⟩, ⟨ma_21, ka_21⟩, ⟨ma_22, ka_22⟩, ⟨ma_23, ka_23⟩, ⟨ma_24, ka_24⟩, (by constructor <;> omega), (by constructor <;> omega), (by constructor <;> omega), ⟨ma_30, ka_30⟩, (by constructor <;> omega), ⟨ma_32, ka_32⟩, ⟨ma_33, ka_33⟩, (by constructor <;> omega), ⟨ma_36, ka_36⟩, (by constructor <;> omega), ⟨ma_38, ka_38⟩, ⟨ma_39, ka_39⟩, (by constructor <;> omega), ⟨ma_42, ka_42⟩, ⟨ma_43, ka_43⟩, ⟨ma_44, ka_44⟩, (by constructor <;> omega), ⟨ma_46, ka_46⟩, ⟨ma_47, ka_47⟩, ⟨ma_48, ka_48⟩, ⟨ma_49, ka_49⟩, ⟨ma_50, ka_50⟩, ⟨ma_51, ka_51⟩, ⟨ma_52, ka_52⟩, ⟨ma_53, ka_53⟩, ⟨ma_54, ka_54⟩, (by constructor <;> omega), ⟨ma_57, ka_57⟩⟩)
                have hfo_674 : f_673 a_3 = .inl (cI, 1560, .inl g_536) := by rw [ef_673, up_ne (kd_ne ko0 ka_3 (by decide))]; exact hfo_549
                have hfr0 : ∀ b, kd b ≠ 12 → kd b ≠ 576 → f_673 b = f b := fun b q12 q576 => (congrFun ef_673 b).trans ((up_ne (fun e9 => q12 (by rw [e9]; exact ko0))).trans (hfr0 b q12 q576))
                have hrA12 : ∀ b, kd b = 12 → ∀ j, fldR (f_673 b) j = fldR (f b) j := fun b kb j => ((congrArg (fun x => fldR x j) (congrFun ef_673 b)).trans (fra_up (fun j => by rw [hfo_550]; exact fr_set (k := 6) rfl rfl j) j b)).trans (hrA12 b kb j)
                have hfA12 : ∀ b, kd b = 12 → ∀ j, j ≠ 6 → j ≠ 7 → j ≠ 8 → j ≠ 14 → fldI (f_673 b) j = fldI (f b) j := fun b kb j n6 n7 n8 n14 => ((congrArg (fun x => fldI x j) (congrFun ef_673 b)).trans (fia_up (fun h9 => by rw [hfo_550]; exact fi_set (k := 6) rfl h9) n6 b)).trans (hfA12 b kb j n6 n7 n8 n14)
                have hT_462 : frel kd 576 7 f_673 a_3 := by rw [ef_673]; exact hT_462.keep (fun b q => up_ne (kd_ne ko0 q (by decide)))
                have hMm_607 : ∀ z9, fldI (f_673 o0) 6 = some z9 → v_8.toInt ≤ z9.toInt := by rw [ef_673]; exact (fun z9 h9 => by rw [up_self] at h9; obtain rfl := Option.some.inj h9; have h8 := hMm_607 v_557 (by rw [hfo_550]; rfl); omega)
                have hfo_675 : f_673 o0 = .inr (12, [.ref a_2, .ref a_3, .ref a_4, .int v_5, .ref a_6, .int v_7, .int x_671, .int v_558, .int v_559, .int v_560, .int v_561, .int v_13, .int v_14, .int v_15, .int v_419, .ref a_17, .ref a_18, .ref a_19, .ref a_20, .ref a_21, .ref a_22, .ref a_23, .ref a_24, .int v_25, .int v_575, .int v_27, .int v_577, .int v_29, .ref a_30, .int v_31, .ref a_32, .ref a_33, .int v_34, .int v_35, .ref a_36, .int v_37, .ref a_38, .ref a_39, .int v_40, .int v_590, .ref a_42, .ref a_43, .ref a_44, .int v_45, .ref a_46, .ref a_47, .ref a_48, .ref a_49, .ref a_50, .ref a_51, .ref a_52, .ref a_53, .ref a_54, .int v_55, .int v_605, .ref a_57]) := by rw [ef_673]; exact up_self
                exact hcut_611 f_673 hG _ _ hP hS hD hfr0 hrA12 hfA12 hfo_674 hT_462 hMm_607 ls (lv_sub hl [0, 1] rfl)
            refine lv_icmp_ne (tgt := 100) hx hb dX12_context_93 (by decide) (fun c_676 => ?_) (fun c_676 => ?_)
            · skip
              rw [← Int32.toInt_inj, ti_35] at c_676
              refine lv_iconst (v := 0) hx hb dX12_context_100 (by decide) ?_
              exact hcut_533 0 (by decide) ls (lv_sub hl [0, 1] rfl)
            · skip
              rw [← Int32.toInt_inj, ti_35] at c_676
              refine lv_iconst (v := 1) hx hb dX12_context_96 (by decide) ?_
              refine lv_goto (tgt := 101) hx hb dX12_context_97 (by decide) ?_
              exact hcut_533 1 (by decide) ls (lv_sub hl [0, 1] rfl)
          · skip
            rw [← Int32.toInt_inj, ti_0] at c_463
            refine lv_iconst (v := 0) hx hb dX12_context_72 (by decide) ?_
            have hM9 := hMm_461 v_411 (by rw [hfo_404]; rfl)
            exact W.zret (v := 0) (ty := .boolean) hx hb hr rfl (fun t ht hW => ⟨⟨0, f_397, rfl, ⟨hG, (by decide), hfr0, hrA12, hfA12, (by intro w6 z6 e6 d6; rw [hfo_1] at e6; rw [hfo_404] at d6; obtain rfl := Option.some.inj e6; obtain rfl := Option.some.inj d6; (try rw [ti_0]) <;> omega), (fun d9 h9 => by rw [hfo_404] at h9; obtain rfl := Option.some.inj h9; exact hT_462)⟩, by rw [ht]; exact hP, va_K.moved hW.alike hK, pl_in hD⟩, hS.F ht⟩) hS.2.2 dX12_context_73
    refine lv_icmp_ne (tgt := 45) hx hb dX12_context_32 (by decide) (fun c_677 => ?_) (fun c_677 => ?_)
    · skip
      rw [← Int32.toInt_inj, ti_35] at c_677
      exact hcut_204 f_136 hG _ _ hP hS hD hfr0 hrA12 hfA12 hfo_142 hT0 hMm_200 ls (lv_sub hl [0, 1] rfl)
    · skip
      rw [← Int32.toInt_inj, ti_35] at c_677
      have hclc_678 : (0 ≤ v_150.toInt ∧ v_150.toInt ≤ 599) := by constructor <;> omega
      refine lv_aload_n hx hb dX12_context_35 rfl (lv_at hl 0 rfl) ?_
      refine lv_dup hx hb dX12_context_36 rfl ?_
      refine tk_getP (D := (dC, dI)) (ci := 12) (v := .int v_150) (C := RX12) (T := TX12) (N := 56) hx hb hU inlX12 hown hK hP mo0 hfo_143 rfl 6 (by decide) (hU _ wd_566) (fun _ h9 => h9) rfl dX12_context_37 ?_
      refine lv_iconst (v := 1) hx hb dX12_context_40 (by decide) ?_
      refine lv_iadd hx hb dX12_context_41 ?_
      refine lv_topi (fun x_679 ex_679 => ?_)
      have hx_679 : x_679.toInt = v_150.toInt + 1 := by rw [ex_679, ad_I (by rw [ti_1]; omega) (by rw [ti_1]; omega), ti_1]
      have bx_679 : (1 ≤ x_679.toInt ∧ x_679.toInt ≤ 600) := by constructor <;> omega
      refine tk_putP (D := (dC, dI)) (ci := 12) (v := .int x_679) (ty := .int) (C := RX12) (T := TX12) (N := 56) hx hb hU inlX12 tyX12 tyX12_ok nmX12 hown hK hP hD hS mo0 hfo_143 rfl 6 (by decide) (hU _ wd_566) (fun _ h9 => h9) rfl (by decide +kernel) rfl rfl (Nat.le_of_ble_eq_true rfl) dX12_context_42 (fun H locs hP hD hS => ?_)
      obtain ⟨f_681, ef_681⟩ : ∃ y : Nat → va_E, y = va_up f_136 o0 (.inr (12, [.ref a_2, .ref a_3, .ref a_4, .int v_5, .ref a_6, .int v_7, .int x_679, .int v_151, .int v_152, .int v_153, .int v_154, .int v_13, .int v_14, .int v_15, .int v_16, .ref a_17, .ref a_18, .ref a_19, .ref a_20, .ref a_21, .ref a_22, .ref a_23, .ref a_24, .int v_25, .int v_168, .int v_27, .int v_170, .int v_29, .ref a_30, .int v_31, .ref a_32, .ref a_33, .int v_34, .int v_35, .ref a_36, .int v_37, .ref a_38, .ref a_39, .int v_40, .int v_183, .ref a_42, .ref a_43, .ref a_44, .int v_45, .ref a_46, .ref a_47, .ref a_48, .ref a_49, .ref a_50, .ref a_51, .ref a_52, .ref a_53, .ref a_54, .int v_55, .int v_198, .ref a_57])) := ⟨_, rfl⟩
      have hP : va_P (dC, dI) vwCl (va_pl L f_681) H := by rw [ef_681]; exact hP
      have hD : va_D (fun q => q ∈ L) (va_pl L f_681) := by rw [ef_681]; exact hD
      have hG : GI (okc cI cL cZ cR cG cH L kd) kd L f_681 := by rw [ef_681]; exact hG.set o0 (mk_12 ko0 ⟨a_2, a_3, a_4, v_5, a_6, v_7, x_679, v_151, v_152, v_153, v_154, v_13, v_14, v_15, v_16, a_17, a_18, a_19, a_20, a_21, a_22, a_23, a_24, v_25, v_168, v_27, v_170, v_29, a_30, v_31, a_32, a_33, v_34, v_35, a_36, v_37, a_38, a_39, v_40, v_183, a_42, a_43, a_44, v_45, a_46, a_47, a_48, a_49, a_50, a_51, a_52, a_53, a_54, v_55, v_198, a_57, rfl, ⟨ma_2, ka_2⟩, ⟨ma_3, ka_3⟩, ⟨ma_4, ka_4⟩, (by constructor <;> omega), ⟨ma_6, ka_6⟩, (by constructor <;> omega), (by constructor <;> omega), (by constructor <;> omega), (by constructor <;> omega), (by constructor <;> omega), ⟨ma_17, ka_17⟩, ⟨ma_18, ka_18⟩, ⟨ma_19, ka_19⟩, ⟨ma_20, ka_20⟩, ⟨ma_21, ka_21⟩, ⟨ma_22, ka_22⟩, ⟨ma_23, ka_23⟩, ⟨ma_24, ka_24⟩, (by constructor <;> omega), (by constructor <;> omega), (by constructor <;> omega), ⟨ma_30, ka_30⟩, (by constructor <;> omega), ⟨ma_32, ka_32⟩, ⟨ma_33, ka_33⟩, (by constructor <;> omega), ⟨ma_36, ka_36⟩, (by constructor <;> omega), ⟨ma_38, ka_38⟩, ⟨ma_39, ka_39⟩, (by constructor <;> omega), ⟨ma_42, ka_42⟩, ⟨ma_43, ka_43⟩, ⟨ma_44, ka_44⟩, (by constructor <;> omega), ⟨ma_46, ka_46⟩, ⟨ma_47, ka_47⟩, ⟨ma_48, ka_48⟩, ⟨ma_49, ka_49⟩, ⟨ma_50, ka_50⟩, ⟨ma_51, ka_51⟩, ⟨ma_52, ka_52⟩, ⟨ma_53, ka_53⟩, ⟨ma_54, ka_54⟩, (by constructor <;> omega), ⟨ma_57, ka_57⟩⟩)
      have hfo_682 : f_681 a_3 = .inl (cI, 1560, .inl g_129) := by rw [ef_681, up_ne (kd_ne ko0 ka_3 (by decide))]; exact hfo_142
      have hfr0 : ∀ b, kd b ≠ 12 → kd b ≠ 576 → f_681 b = f b := fun b q12 q576 => (congrFun ef_681 b).trans ((up_ne (fun e9 => q12 (by rw [e9]; exact ko0))).trans (hfr0 b q12 q576))
      have hrA12 : ∀ b, kd b = 12 → ∀ j, fldR (f_681 b) j = fldR (f b) j := fun b kb j => ((congrArg (fun x => fldR x j) (congrFun ef_681 b)).trans (fra_up (fun j => by rw [hfo_143]; exact fr_set (k := 6) rfl rfl j) j b)).trans (hrA12 b kb j)
      have hfA12 : ∀ b, kd b = 12 → ∀ j, j ≠ 6 → j ≠ 7 → j ≠ 8 → j ≠ 14 → fldI (f_681 b) j = fldI (f b) j := fun b kb j n6 n7 n8 n14 => ((congrArg (fun x => fldI x j) (congrFun ef_681 b)).trans (fia_up (fun h9 => by rw [hfo_143]; exact fi_set (k := 6) rfl h9) n6 b)).trans (hfA12 b kb j n6 n7 n8 n14)
      have hT0 : frel kd 576 7 f_681 a_3 := by rw [ef_681]; exact hT0.keep (fun b q => up_ne (kd_ne ko0 q (by decide)))
      have hMm_200 : ∀ z9, fldI (f_681 o0) 6 = some z9 → v_8.toInt ≤ z9.toInt := by rw [ef_681]; exact (fun z9 h9 => by rw [up_self] at h9; obtain rfl := Option.some.inj h9; have h8 := hMm_200 v_150 (by rw [hfo_143]; rfl); omega)
      have hfo_683 : f_681 o0 = .inr (12, [.ref a_2, .ref a_3, .ref a_4, .int v_5, .ref a_6, .int v_7, .int x_679, .int v_151, .int v_152, .int v_153, .int v_154, .int v_13, .int v_14, .int v_15, .int v_16, .ref a_17, .ref a_18, .ref a_19, .ref a_20, .ref a_21, .ref a_22, .ref a_23, .ref a_24, .int v_25, .int v_168, .int v_27, .int v_170, .int v_29, .ref a_30, .int v_31, .ref a_32, .ref a_33, .int v_34, .int v_35, .ref a_36, .int v_37, .ref a_38, .ref a_39, .int v_40, .int v_183, .ref a_42, .ref a_43, .ref a_44, .int v_45, .ref a_46, .ref a_47, .ref a_48, .ref a_49, .ref a_50, .ref a_51, .ref a_52, .ref a_53, .ref a_54, .int v_55, .int v_198, .ref a_57]) := by rw [ef_681]; exact up_self
      exact hcut_204 f_681 hG _ _ hP hS hD hfr0 hrA12 hfA12 hfo_682 hT0 hMm_200 ls (lv_sub hl [0, 1] rfl)
  refine lv_icmp_ne (tgt := 24) hx hb dX12_context_17 (by decide) (fun c_684 => ?_) (fun c_684 => ?_)
  · skip
    rw [← Int32.toInt_inj, ti_35] at c_684
    refine lv_iconst (v := 0) hx hb dX12_context_24 (by decide) ?_
    exact hcut_126 0 (by decide) ls (lv_sub hl [0, 1] rfl)
  · skip
    rw [← Int32.toInt_inj, ti_35] at c_684
    refine lv_iconst (v := 1) hx hb dX12_context_20 (by decide) ?_
    refine lv_goto (tgt := 25) hx hb dX12_context_21 (by decide) ?_
    exact hcut_126 1 (by decide) ls (lv_sub hl [0, 1] rfl)
